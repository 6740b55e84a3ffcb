/-! the law's loop -/
section LLP
variable {D : va_G} {A : Nat → Prop} {xK xV : Nat → Nat} {ad0 : Nat → Option Nat} {p : Program} {l : Launch} {e : Env} {s : State} {m : MethodId} {args : Array Value} {below : List Frame} {meth : Method} {c : Code} {Q : State → Prop} {b xL : Nat} {xs : Nat → Int32}
theorem lback (W0 : LW A xK xV ad0 p s m args meth c b xL xs) {i ce sl : Nat} {I : zI} {L : zL} (hk : zAW kL_law D A ad0 p l e s m args below meth c Q (18, lloc (i + 6), [], hp I L, ce, sl)) : zAW kL_law D A ad0 p l e s m args below meth c Q (1374, lloc i, [], hp I L, ce, sl) := by
  have e1 : lgo xL xs 2 (1374, lloc i, [], hp I L, ce, sl) = some ([true, true], (18, [some (.ref 1000), some (.ref 0), some (.ref 52), some (.int (nI i + nI 6))], [], hp I L, ce, sl)) := rfl
  rw [nI_add] at e1
  exact lgo_ok W0 2 e1 rfl hk
theorem l_cmp {xL i : Nat} (h : xL ≤ 3072) (hi : i ≤ 4000) : decide (nI xL - nI 6 < nI i) = decide (xL < i + 6) := by
  by_cases z : 6 ≤ xL
  · rw [q_sub z]
    refine decide_eq_decide.mpr ⟨fun q => ?_, fun q => nI_lt (by omega) (by omega)⟩
    rcases Nat.lt_or_ge xL (i + 6) with y | y
    · exact y
    · exact absurd q (nI_nlt (by omega) (by omega))
  · have h0 : ∀ x, x < 6 → nI x - nI 6 < nI 0 := by decide +kernel
    have h1 := h0 xL (by omega)
    rw [decide_eq_true (show xL < i + 6 by omega)]
    refine decide_eq_true ?_
    by_cases y : i = 0
    · rw [y]
      exact h1
    · exact Int32.lt_trans h1 (nI_lt (by omega) (by omega))
theorem and63 (x : Int32) : ∃ n, n < 64 ∧ x &&& nI 63 = nI n := by
  have hs : sub 6 (x &&& nI 63) := fun i hi => by
    rw [b_and, bt_nI (by omega)]
    have : Nat.testBit 63 i = false := Nat.testBit_lt_two_pow (Nat.lt_of_lt_of_le (by decide : 63 < 2 ^ 6) (Nat.pow_le_pow_right (by decide) hi))
    rw [this, Bool.and_false]
  obtain ⟨k, h1, h2⟩ := sub_num (by omega) hs
  exact ⟨k, h1, h2⟩
theorem l_loop (W0 : LW A xK xV ad0 p s m args meth c b xL xs) (hxL : xL ≤ 3072) (hend : ∀ I L i ce sl, ce ≤ 600000 → sl ≤ 7302250 → zAW kL_law D A ad0 p l e s m args below meth c Q (1381, lloc i, [.int 1], hp I L, ce, sl)) : ∀ n i ce sl (I : zI) (L : zL), xL < i + 6 + 6 * n → i ≤ 3078 → ce + n ≤ 600000 → sl + 5 * n ≤ 7302250 → INV I L → zAW kL_law D A ad0 p l e s m args below meth c Q (18, lloc i, [], hp I L, ce, sl)
  | n, i, ce, sl, I, L, hn, hi, hce, hsl, hI => by
    have e1 : lgo xL xs 5 (18, lloc i, [], hp I L, ce, sl) = some ([true, true, true, true, true], (24, lloc i, [.int (nI xL - nI 6), .int (nI i)], hp I L, ce, sl)) := rfl
    refine lgo_ok W0 5 e1 rfl ?_
    have hs : zstep kL_law (24, lloc i, [.int (nI xL - nI 6), .int (nI i)], hp I L, ce, sl) = some (true, .inl ([(decide (nI xL - nI 6 < nI i), (1380, lloc i, [], hp I L, ce, sl))], (27, lloc i, [], hp I L, ce, sl))) := rfl
    refine zs_go W0.1 hs ?_
    rw [l_cmp hxL (by omega)]
    by_cases z : xL < i + 6
    · rw [decide_eq_true z]
      show zAW kL_law D A ad0 p l e s m args below meth c Q (1380, lloc i, [], hp I L, ce, sl)
      have e2 : lgo xL xs 1 (1380, lloc i, [], hp I L, ce, sl) = some ([true], (1381, lloc i, [.int 1], hp I L, ce, sl)) := rfl
      exact lgo_ok W0 1 e2 rfl (hend I L i ce sl (by omega) (by omega))
    · rw [decide_eq_false z]
      show zAW kL_law D A ad0 p l e s m args below meth c Q (27, lloc i, [], hp I L, ce, sl)
      match n, hn, hce, hsl with
      | 0, hn, _, _ => omega
      | n + 1, hn, hce, hsl =>
        have hz : ∀ j, j < 6 → zin (nI i + nI j) xL = true := fun j hj => by
          rw [nI_add]
          exact q_in_t (by omega) (by omega)
        have hz0 : zin (nI i) xL = true := q_in_t (by omega) (by omega)
        have e3 : lgo xL xs 5 (27, lloc i, [], hp I L, ce, sl) = some ([true, true, zin (nI i) xL, true, true], (33, lloc i, [.int (xs (nI i).toNatClampNeg &&& nI 63)], hp I L, ce, sl)) := rfl
        refine lgo_ok W0 5 e3 (by rw [hz0]; rfl) ?_
        obtain ⟨k, hk, hx⟩ := and63 (xs (nI i).toNatClampNeg)
        rw [hx]
        have ih0 : ∀ I2 L2, INV I2 L2 → zAW kL_law D A ad0 p l e s m args below meth c Q (1374, lloc i, [], hp I2 L2, ce, sl) := fun I2 L2 h => lback W0 (l_loop W0 hxL hend n (i + 6) ce sl I2 L2 (by omega) (by omega) (by omega) (by omega) h)
        have ih1 : ∀ I2 L2, INV I2 L2 → zAW kL_law D A ad0 p l e s m args below meth c Q (1374, lloc i, [], hp I2 L2, ce + 1, sl + 5) := fun I2 L2 h => lback W0 (l_loop W0 hxL hend n (i + 6) (ce + 1) (sl + 5) I2 L2 (by omega) (by omega) (by omega) (by omega) h)
        have h1 : ce + 1 ≤ 600000 := by omega
        have h5 : sl + 5 ≤ 7302250 := by omega
        clear e1 e3 hs hx
        match k, hk with
        | 0, _ => exact lsel_ok W0 (T := (228, lloc i, [], hp I L, ce, sl)) rfl (lc_0 W0 hz h1 h5 hI ih1)
        | 1, _ => exact lsel_ok W0 (T := (291, lloc i, [], hp I L, ce, sl)) rfl (lc_1 W0 hz h1 h5 hI ih0)
        | 2, _ => exact lsel_ok W0 (T := (314, lloc i, [], hp I L, ce, sl)) rfl (lc_2 W0 hz h1 h5 hI ih0)
        | 3, _ => exact lsel_ok W0 (T := (327, lloc i, [], hp I L, ce, sl)) rfl (lc_3 W0 hz h1 h5 hI ih0)
        | 4, _ => exact lsel_ok W0 (T := (350, lloc i, [], hp I L, ce, sl)) rfl (lc_4 W0 hz h1 h5 hI ih0)
        | 5, _ => exact lsel_ok W0 (T := (373, lloc i, [], hp I L, ce, sl)) rfl (lc_5 W0 hz h1 h5 hI ih0)
        | 6, _ => exact lsel_ok W0 (T := (396, lloc i, [], hp I L, ce, sl)) rfl (lc_6 W0 hz h1 h5 hI ih0)
        | 7, _ => exact lsel_ok W0 (T := (419, lloc i, [], hp I L, ce, sl)) rfl (lc_7 W0 hz h1 h5 hI ih0)
        | 8, _ => exact lsel_ok W0 (T := (452, lloc i, [], hp I L, ce, sl)) rfl (lc_8 W0 hz h1 h5 hI ih0)
        | 9, _ => exact lsel_ok W0 (T := (475, lloc i, [], hp I L, ce, sl)) rfl (lc_9 W0 hz h1 h5 hI ih0)
        | 10, _ => exact lsel_ok W0 (T := (508, lloc i, [], hp I L, ce, sl)) rfl (lc_10 W0 hz h1 h5 hI ih0)
        | 11, _ => exact lsel_ok W0 (T := (531, lloc i, [], hp I L, ce, sl)) rfl (lc_11 W0 hz h1 h5 hI ih0)
        | 12, _ => exact lsel_ok W0 (T := (564, lloc i, [], hp I L, ce, sl)) rfl (lc_12 W0 hz h1 h5 hI ih0)
        | 13, _ => exact lsel_ok W0 (T := (587, lloc i, [], hp I L, ce, sl)) rfl (lc_13 W0 hz h1 h5 hI ih0)
        | 14, _ => exact lsel_ok W0 (T := (610, lloc i, [], hp I L, ce, sl)) rfl (lc_14 W0 hz h1 h5 hI ih0)
        | 15, _ => exact lsel_ok W0 (T := (643, lloc i, [], hp I L, ce, sl)) rfl (lc_15 W0 hz h1 h5 hI ih0)
        | 16, _ => exact lsel_ok W0 (T := (666, lloc i, [], hp I L, ce, sl)) rfl (lc_16 W0 hz h1 h5 hI ih0)
        | 17, _ => exact lsel_ok W0 (T := (689, lloc i, [], hp I L, ce, sl)) rfl (lc_17 W0 hz h1 h5 hI ih0)
        | 18, _ => exact lsel_ok W0 (T := (712, lloc i, [], hp I L, ce, sl)) rfl (lc_18 W0 hz h1 h5 hI ih0)
        | 19, _ => exact lsel_ok W0 (T := (745, lloc i, [], hp I L, ce, sl)) rfl (lc_19 W0 hz h1 h5 hI ih0)
        | 20, _ => exact lsel_ok W0 (T := (769, lloc i, [], hp I L, ce, sl)) rfl (lc_20 W0 hz h1 h5 hI ih0)
        | 21, _ => exact lsel_ok W0 (T := (792, lloc i, [], hp I L, ce, sl)) rfl (lc_21 W0 hz h1 h5 hI ih0)
        | 22, _ => exact lsel_ok W0 (T := (835, lloc i, [], hp I L, ce, sl)) rfl (lc_22 W0 hz h1 h5 hI ih0)
        | 23, _ => exact lsel_ok W0 (T := (868, lloc i, [], hp I L, ce, sl)) rfl (lc_23 W0 hz h1 h5 hI ih0)
        | 24, _ => exact lsel_ok W0 (T := (901, lloc i, [], hp I L, ce, sl)) rfl (lc_24 W0 hz h1 h5 hI ih0)
        | 25, _ => exact lsel_ok W0 (T := (934, lloc i, [], hp I L, ce, sl)) rfl (lc_25 W0 hz h1 h5 hI ih0)
        | 26, _ => exact lsel_ok W0 (T := (957, lloc i, [], hp I L, ce, sl)) rfl (lc_26 W0 hz h1 h5 hI ih0)
        | 27, _ => exact lsel_ok W0 (T := (990, lloc i, [], hp I L, ce, sl)) rfl (lc_27 W0 hz h1 h5 hI ih0)
        | 28, _ => exact lsel_ok W0 (T := (1023, lloc i, [], hp I L, ce, sl)) rfl (lc_28 W0 hz h1 h5 hI ih0)
        | 29, _ => exact lsel_ok W0 (T := (1046, lloc i, [], hp I L, ce, sl)) rfl (lc_29 W0 hz h1 h5 hI ih0)
        | 30, _ => exact lsel_ok W0 (T := (1059, lloc i, [], hp I L, ce, sl)) rfl (lc_30 W0 hz h1 h5 hI ih0)
        | 31, _ => exact lsel_ok W0 (T := (1082, lloc i, [], hp I L, ce, sl)) rfl (lc_31 W0 hz h1 h5 hI ih0)
        | 32, _ => exact lsel_ok W0 (T := (1095, lloc i, [], hp I L, ce, sl)) rfl (lc_32 W0 hz h1 h5 hI ih0)
        | 33, _ => exact lsel_ok W0 (T := (1128, lloc i, [], hp I L, ce, sl)) rfl (lc_33 W0 hz h1 h5 hI ih0)
        | 34, _ => exact lsel_ok W0 (T := (1161, lloc i, [], hp I L, ce, sl)) rfl (lc_34 W0 hz h1 h5 hI ih0)
        | 35, _ => exact lsel_ok W0 (T := (1184, lloc i, [], hp I L, ce, sl)) rfl (lc_35 W0 hz h1 h5 hI ih0)
        | 36, _ => exact lsel_ok W0 (T := (1207, lloc i, [], hp I L, ce, sl)) rfl (lc_36 W0 hz h1 h5 hI ih0)
        | 37, _ => exact lsel_ok W0 (T := (1230, lloc i, [], hp I L, ce, sl)) rfl (lc_37 W0 hz h1 h5 hI ih0)
        | 38, _ => exact lsel_ok W0 (T := (1243, lloc i, [], hp I L, ce, sl)) rfl (lc_38 W0 hz h1 h5 hI ih0)
        | 39, _ => exact lsel_ok W0 (T := (1266, lloc i, [], hp I L, ce, sl)) rfl (lc_39 W0 hz h1 h5 hI ih0)
        | 40, _ => exact lsel_ok W0 (T := (1279, lloc i, [], hp I L, ce, sl)) rfl (lc_40 W0 hz h1 h5 hI ih0)
        | 41, _ => exact lsel_ok W0 (T := (1312, lloc i, [], hp I L, ce, sl)) rfl (lc_41 W0 hz h1 h5 hI ih0)
        | 42, _ => exact lsel_ok W0 (T := (1335, lloc i, [], hp I L, ce, sl)) rfl (lc_42 W0 hz h1 h5 hI ih0)
        | 43, _ => exact lsel_ok W0 (T := (1348, lloc i, [], hp I L, ce, sl)) rfl (lc_43 W0 hz h1 h5 hI ih0)
        | 44, _ => exact lsel_ok W0 (T := (1361, lloc i, [], hp I L, ce, sl)) rfl (lc_44 W0 hz h1 h5 hI ih0)
        | 45, _ => exact lsel_ok W0 (T := (1374, lloc i, [], hp I L, ce, sl)) rfl (ih0 I L hI)
        | 46, _ => exact lsel_ok W0 (T := (1374, lloc i, [], hp I L, ce, sl)) rfl (ih0 I L hI)
        | 47, _ => exact lsel_ok W0 (T := (1374, lloc i, [], hp I L, ce, sl)) rfl (ih0 I L hI)
        | 48, _ => exact lsel_ok W0 (T := (1374, lloc i, [], hp I L, ce, sl)) rfl (ih0 I L hI)
        | 49, _ => exact lsel_ok W0 (T := (1374, lloc i, [], hp I L, ce, sl)) rfl (ih0 I L hI)
        | 50, _ => exact lsel_ok W0 (T := (1374, lloc i, [], hp I L, ce, sl)) rfl (ih0 I L hI)
        | 51, _ => exact lsel_ok W0 (T := (1374, lloc i, [], hp I L, ce, sl)) rfl (ih0 I L hI)
        | 52, _ => exact lsel_ok W0 (T := (1374, lloc i, [], hp I L, ce, sl)) rfl (ih0 I L hI)
        | 53, _ => exact lsel_ok W0 (T := (1374, lloc i, [], hp I L, ce, sl)) rfl (ih0 I L hI)
        | 54, _ => exact lsel_ok W0 (T := (1374, lloc i, [], hp I L, ce, sl)) rfl (ih0 I L hI)
        | 55, _ => exact lsel_ok W0 (T := (1374, lloc i, [], hp I L, ce, sl)) rfl (ih0 I L hI)
        | 56, _ => exact lsel_ok W0 (T := (1374, lloc i, [], hp I L, ce, sl)) rfl (ih0 I L hI)
        | 57, _ => exact lsel_ok W0 (T := (1374, lloc i, [], hp I L, ce, sl)) rfl (ih0 I L hI)
        | 58, _ => exact lsel_ok W0 (T := (1374, lloc i, [], hp I L, ce, sl)) rfl (ih0 I L hI)
        | 59, _ => exact lsel_ok W0 (T := (1374, lloc i, [], hp I L, ce, sl)) rfl (ih0 I L hI)
        | 60, _ => exact lsel_ok W0 (T := (1374, lloc i, [], hp I L, ce, sl)) rfl (ih0 I L hI)
        | 61, _ => exact lsel_ok W0 (T := (1374, lloc i, [], hp I L, ce, sl)) rfl (ih0 I L hI)
        | 62, _ => exact lsel_ok W0 (T := (1374, lloc i, [], hp I L, ce, sl)) rfl (ih0 I L hI)
        | 63, _ => exact lsel_ok W0 (T := (1374, lloc i, [], hp I L, ce, sl)) rfl (ih0 I L hI)
        | k + 64, hk => omega
end LLP
