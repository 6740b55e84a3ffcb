/-! the law's loop -/
def loff : List Int := [195, 258, 281, 294, 317, 340, 363, 386, 419, 442, 475, 498, 531, 554, 577, 610, 633, 656, 679, 712, 736, 759, 802, 835, 868, 901, 924, 957, 990, 1013, 1026, 1049, 1062, 1095, 1128, 1151, 1174, 1197, 1210, 1233, 1246, 1279, 1302, 1315, 1328]
def ltg : List Nat := [228, 291, 314, 327, 350, 373, 396, 419, 452, 475, 508, 531, 564, 587, 610, 643, 666, 689, 712, 745, 769, 792, 835, 868, 901, 934, 957, 990, 1023, 1046, 1059, 1082, 1095, 1128, 1161, 1184, 1207, 1230, 1243, 1266, 1279, 1312, 1335, 1348, 1361]
theorem loff_j : ∀ (j : Nat), j < 45 → Int32.ofInt (0 + (j : Int)) = nI j := by decide +kernel
theorem loff_t : ∀ (j : Nat), j < 45 → (loff[j]?).map (zoff 33) = some (ltg.getD j 0) := by decide +kernel
section LLP
variable {D : va_G} {A : Nat → Prop} {xK xV : Nat → Nat} {ad0 : Nat → Option Nat} {p : Program} {l : Launch} {e : Env} {s : State} {m : MethodId} {args : Array Value} {below : List Frame} {meth : Method} {c : Code} {Q : State → Prop} {b xL : Nat} {xs : Nat → Int32}
theorem lback (W0 : LW A xK xV ad0 p s m args meth c b xL xs) {i ce sl : Nat} {I : zI} {L : zL} (hk : zAW kL_law D A ad0 p l e s m args below meth c Q (18, lloc (i + 6), [], hp I L, ce, sl)) : zAW kL_law D A ad0 p l e s m args below meth c Q (1374, lloc i, [], hp I L, ce, sl) := by
  have e1 : lgo xL xs 2 (1374, lloc i, [], hp I L, ce, sl) = some ([true, true], (18, [some (.ref 1000), some (.ref 0), some (.ref 52), some (.int (nI i + nI 6))], [], hp I L, ce, sl)) := rfl
  rw [nI_add] at e1
  exact lgo_ok W0 2 e1 rfl hk
theorem l_cmp {xL i : Nat} (h : xL ≤ 3072) (hi : i ≤ 4000) : decide (nI xL - nI 6 < nI i) = decide (xL < i + 6) := by
  by_cases z : 6 ≤ xL
  · rw [q_sub z]
    refine decide_eq_decide.mpr ⟨fun q => ?_, fun q => nI_lt (by omega) (by omega)⟩
    rcases Nat.lt_or_ge xL (i + 6) with y | y
    · exact y
    · exact absurd q (nI_nlt (by omega) (by omega))
  · have h0 : ∀ x, x < 6 → nI x - nI 6 < nI 0 := by decide +kernel
    have h1 := h0 xL (by omega)
    rw [decide_eq_true (show xL < i + 6 by omega)]
    refine decide_eq_true ?_
    by_cases y : i = 0
    · rw [y]
      exact h1
    · exact Int32.lt_trans h1 (nI_lt (by omega) (by omega))
theorem and63 (x : Int32) : ∃ n, n < 64 ∧ x &&& nI 63 = nI n := by
  have hs : sub 6 (x &&& nI 63) := fun i hi => by
    rw [b_and, bt_nI (by omega)]
    have : Nat.testBit 63 i = false := Nat.testBit_lt_two_pow (Nat.lt_of_lt_of_le (by decide : 63 < 2 ^ 6) (Nat.pow_le_pow_right (by decide) hi))
    rw [this, Bool.and_false]
  obtain ⟨k, h1, h2⟩ := sub_num (by omega) hs
  exact ⟨k, h1, h2⟩
theorem l_sw (W0 : LW A xK xV ad0 p s m args meth c b xL xs) {k i ce sl : Nat} {h : zH} (hk : k < 64) (kk : zAW kL_law D A ad0 p l e s m args below meth c Q (if k < 45 then ltg.getD k 0 else 1374, lloc i, [], h, ce, sl)) : zAW kL_law D A ad0 p l e s m args below meth c Q (33, lloc i, [.int (nI k)], h, ce, sl) := by
  have hs : lstp xL xs (33, lloc i, [.int (nI k)], h, ce, sl) = some (true, .inl (loff.mapIdx (fun j o => (decide (nI k = Int32.ofInt (0 + (j : Int))), (zoff 33 o, lloc i, [], h, ce, sl))), (zoff 33 1341, lloc i, [], h, ce, sl))) := rfl
  refine lstp_ok W0 hs ?_
  rcases zsw_first (g := fun _ _ => (true, (zoff 33 1341, lloc i, [], h, ce, sl))) (zoff 33 1341, lloc i, [], h, ce, sl) loff (fun j o => (decide (nI k = Int32.ofInt (0 + (j : Int))), (zoff 33 o, lloc i, [], h, ce, sl))) with ⟨j, o, h1, h2, h3⟩ | ⟨h1, h2⟩
  · rw [h3]
    have hj : j < 45 := (List.getElem?_eq_some_iff.mp h1).1
    have h2 : nI k = Int32.ofInt (0 + (j : Int)) := of_decide_eq_true h2
    rw [loff_j j hj] at h2
    have hkj : k = j := by
      by_cases q : k = j
      · exact q
      · have := q_eq_f (a := k) (b := j) q (by omega) (by omega)
        rw [this] at h2
        exact h2.elim
    subst hkj
    have ht := loff_t k hj
    rw [h1] at ht
    have ht : zoff 33 o = ltg.getD k 0 := Option.some.inj ht
    show zAW kL_law D A ad0 p l e s m args below meth c Q (zoff 33 o, lloc i, [], h, ce, sl)
    rw [ht]
    rw [if_pos hj] at kk
    exact kk
  · rw [h2]
    have hj : ¬ k < 45 := fun q => by
      have ht := loff_t k q
      match ho : loff[k]? with
      | none =>
        rw [ho] at ht
        cases ht
      | some o =>
        have := h1 k o ho
        have this : decide (nI k = Int32.ofInt (0 + (k : Int))) = false := this
        rw [loff_j k q, decide_eq_true rfl] at this
        cases this
    rw [if_neg hj] at kk
    exact kk
theorem l_loop (W0 : LW A xK xV ad0 p s m args meth c b xL xs) (hxL : xL ≤ 3072) (hend : ∀ I L i ce sl, ce ≤ 600000 → sl ≤ 7302250 → zAW kL_law D A ad0 p l e s m args below meth c Q (1381, lloc i, [.int 1], hp I L, ce, sl)) : ∀ n i ce sl (I : zI) (L : zL), xL < i + 6 + 6 * n → i ≤ 3078 → ce + n ≤ 600000 → sl + 5 * n ≤ 7302250 → INV I L → zAW kL_law D A ad0 p l e s m args below meth c Q (18, lloc i, [], hp I L, ce, sl)
  | n, i, ce, sl, I, L, hn, hi, hce, hsl, hI => by
    have e1 : lgo xL xs 5 (18, lloc i, [], hp I L, ce, sl) = some ([true, true, true, true, true], (24, lloc i, [.int (nI xL - nI 6), .int (nI i)], hp I L, ce, sl)) := rfl
    refine lgo_ok W0 5 e1 rfl ?_
    have hs : zstep kL_law (24, lloc i, [.int (nI xL - nI 6), .int (nI i)], hp I L, ce, sl) = some (true, .inl ([(decide (nI xL - nI 6 < nI i), (1380, lloc i, [], hp I L, ce, sl))], (27, lloc i, [], hp I L, ce, sl))) := rfl
    refine zs_go W0.1 hs ?_
    rw [l_cmp hxL (by omega)]
    by_cases z : xL < i + 6
    · rw [decide_eq_true z]
      show zAW kL_law D A ad0 p l e s m args below meth c Q (1380, lloc i, [], hp I L, ce, sl)
      have e2 : lgo xL xs 1 (1380, lloc i, [], hp I L, ce, sl) = some ([true], (1381, lloc i, [.int 1], hp I L, ce, sl)) := rfl
      exact lgo_ok W0 1 e2 rfl (hend I L i ce sl (by omega) (by omega))
    · rw [decide_eq_false z]
      show zAW kL_law D A ad0 p l e s m args below meth c Q (27, lloc i, [], hp I L, ce, sl)
      match n, hn, hce, hsl with
      | 0, hn, _, _ => omega
      | n + 1, hn, hce, hsl =>
        have hz : ∀ j, j < 6 → zin (nI i + nI j) xL = true := fun j hj => by
          rw [nI_add]
          exact q_in_t (by omega) (by omega)
        have hz0 : zin (nI i) xL = true := q_in_t (by omega) (by omega)
        have e3 : lgo xL xs 5 (27, lloc i, [], hp I L, ce, sl) = some ([true, true, zin (nI i) xL, true, true], (33, lloc i, [.int (xs (nI i).toNatClampNeg &&& nI 63)], hp I L, ce, sl)) := rfl
        refine lgo_ok W0 5 e3 (by rw [hz0]; rfl) ?_
        obtain ⟨k, hk, hx⟩ := and63 (xs (nI i).toNatClampNeg)
        rw [hx]
        have ih0 : ∀ I2 L2, INV I2 L2 → zAW kL_law D A ad0 p l e s m args below meth c Q (1374, lloc i, [], hp I2 L2, ce, sl) := fun I2 L2 h => lback W0 (l_loop W0 hxL hend n (i + 6) ce sl I2 L2 (by omega) (by omega) (by omega) (by omega) h)
        have ih1 : ∀ I2 L2, INV I2 L2 → zAW kL_law D A ad0 p l e s m args below meth c Q (1374, lloc i, [], hp I2 L2, ce + 1, sl + 5) := fun I2 L2 h => lback W0 (l_loop W0 hxL hend n (i + 6) (ce + 1) (sl + 5) I2 L2 (by omega) (by omega) (by omega) (by omega) h)
        have h1 : ce + 1 ≤ 600000 := by omega
        have h5 : sl + 5 ≤ 7302250 := by omega
        clear e1 e3 hs hx
        refine l_sw W0 hk ?_
        match k, hk with
        | 0, _ => exact lc_0 W0 hz h1 h5 hI ih1
        | 1, _ => exact lc_1 W0 hz h1 h5 hI ih0
        | 2, _ => exact lc_2 W0 hz h1 h5 hI ih0
        | 3, _ => exact lc_3 W0 hz h1 h5 hI ih0
        | 4, _ => exact lc_4 W0 hz h1 h5 hI ih0
        | 5, _ => exact lc_5 W0 hz h1 h5 hI ih0
        | 6, _ => exact lc_6 W0 hz h1 h5 hI ih0
        | 7, _ => exact lc_7 W0 hz h1 h5 hI ih0
        | 8, _ => exact lc_8 W0 hz h1 h5 hI ih0
        | 9, _ => exact lc_9 W0 hz h1 h5 hI ih0
        | 10, _ => exact lc_10 W0 hz h1 h5 hI ih0
        | 11, _ => exact lc_11 W0 hz h1 h5 hI ih0
        | 12, _ => exact lc_12 W0 hz h1 h5 hI ih0
        | 13, _ => exact lc_13 W0 hz h1 h5 hI ih0
        | 14, _ => exact lc_14 W0 hz h1 h5 hI ih0
        | 15, _ => exact lc_15 W0 hz h1 h5 hI ih0
        | 16, _ => exact lc_16 W0 hz h1 h5 hI ih0
        | 17, _ => exact lc_17 W0 hz h1 h5 hI ih0
        | 18, _ => exact lc_18 W0 hz h1 h5 hI ih0
        | 19, _ => exact lc_19 W0 hz h1 h5 hI ih0
        | 20, _ => exact lc_20 W0 hz h1 h5 hI ih0
        | 21, _ => exact lc_21 W0 hz h1 h5 hI ih0
        | 22, _ => exact lc_22 W0 hz h1 h5 hI ih0
        | 23, _ => exact lc_23 W0 hz h1 h5 hI ih0
        | 24, _ => exact lc_24 W0 hz h1 h5 hI ih0
        | 25, _ => exact lc_25 W0 hz h1 h5 hI ih0
        | 26, _ => exact lc_26 W0 hz h1 h5 hI ih0
        | 27, _ => exact lc_27 W0 hz h1 h5 hI ih0
        | 28, _ => exact lc_28 W0 hz h1 h5 hI ih0
        | 29, _ => exact lc_29 W0 hz h1 h5 hI ih0
        | 30, _ => exact lc_30 W0 hz h1 h5 hI ih0
        | 31, _ => exact lc_31 W0 hz h1 h5 hI ih0
        | 32, _ => exact lc_32 W0 hz h1 h5 hI ih0
        | 33, _ => exact lc_33 W0 hz h1 h5 hI ih0
        | 34, _ => exact lc_34 W0 hz h1 h5 hI ih0
        | 35, _ => exact lc_35 W0 hz h1 h5 hI ih0
        | 36, _ => exact lc_36 W0 hz h1 h5 hI ih0
        | 37, _ => exact lc_37 W0 hz h1 h5 hI ih0
        | 38, _ => exact lc_38 W0 hz h1 h5 hI ih0
        | 39, _ => exact lc_39 W0 hz h1 h5 hI ih0
        | 40, _ => exact lc_40 W0 hz h1 h5 hI ih0
        | 41, _ => exact lc_41 W0 hz h1 h5 hI ih0
        | 42, _ => exact lc_42 W0 hz h1 h5 hI ih0
        | 43, _ => exact lc_43 W0 hz h1 h5 hI ih0
        | 44, _ => exact lc_44 W0 hz h1 h5 hI ih0
        | 45, _ => exact ih0 I L hI
        | 46, _ => exact ih0 I L hI
        | 47, _ => exact ih0 I L hI
        | 48, _ => exact ih0 I L hI
        | 49, _ => exact ih0 I L hI
        | 50, _ => exact ih0 I L hI
        | 51, _ => exact ih0 I L hI
        | 52, _ => exact ih0 I L hI
        | 53, _ => exact ih0 I L hI
        | 54, _ => exact ih0 I L hI
        | 55, _ => exact ih0 I L hI
        | 56, _ => exact ih0 I L hI
        | 57, _ => exact ih0 I L hI
        | 58, _ => exact ih0 I L hI
        | 59, _ => exact ih0 I L hI
        | 60, _ => exact ih0 I L hI
        | 61, _ => exact ih0 I L hI
        | 62, _ => exact ih0 I L hI
        | 63, _ => exact ih0 I L hI
        | k + 64, hk => omega
end LLP
