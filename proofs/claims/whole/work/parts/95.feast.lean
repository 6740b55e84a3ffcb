theorem s_readFeastDays {d : Nat} (hd : d = 11 ∨ d = 18) {I : zI} {L : zL} {B : Nat → Nat} {S n N j : Nat} (hN : 1 ≤ N ∧ N ≤ 28) (hR : RD I L B S n) (hj : j ≤ n) (h6 : I d 6 = nI N) (h9 : I 5 9 = nI j) : EnC I L B S n (fyF (KT B S) (vN B S) N (N + 1) j (nI 0)) (zcall zZ nX4_readFeastDays [.ref 5, .ref d] (hp I L)) := by
  have o1 : ∀ x y, (x ≠ 5 ∨ y ≠ 14) → zup I 5 14 (nI 0) x y = I x y := fun x y p => by
    by_cases u : x = 5
    · rw [zu_at (by omega)]
    · rw [zu_cell u]
  have k6 : zup I 5 14 (nI 0) d 6 = nI N := (o1 _ _ (by omega)).trans h6
  have ih := fy_loop hd (L := L) hN (N + 1) j 0 (nI 0) (zup I 5 14 (nI 0)) (hR.cg (o1 _ _ (by omega)) (fun b => o1 _ _ (by omega)) (fun b => o1 _ _ (by omega)) (fun _ => rfl)) hj k6 ((o1 _ _ (by omega)).trans h9) (zu_same _ _ _ _) (by rw [cnt_n0]) (by omega)
  have ih := ih.cg (I := I) (fun x y p => o1 x y (by omega))
  refine Eq.mp ?_ ih
  congr 1
  symm
  simp (disch := omega) only [c_X4_readFeastDays hd, e_X4_readFeastDays_0 hd, e_X4_readFeastDays_7 hd, k6, Option.bind_some, Option.toList_some, Option.toList_none, List.cons_append, List.nil_append, Option.map_some, cond_true, cond_false, Bool.not_true, Bool.not_false, Bool.true_and, Bool.and_true, Bool.false_and, Bool.and_false, Bool.true_or, Bool.or_true, Bool.false_or, Bool.or_false, Bool.not_not, decide_true, decide_false, Bool.decide_eq_true, Bool.decide_eq_false, qz_0, qz_1, qz_n, qz_n0, qz_n1, qz_t, qz_f, Nat.reduceAdd, q1000000, q0, q1, q2, q3, q4, q5, q6, q7, q8, q9, q10, q11, q12, q13, q14, q15, q16, q18, q19, q20, q21, q22, q23, q24, q25, q26, q27, q28, q29, q30, q31, q32, q38, q44, q45, q48, q57, q58, q59, q60, q63, q64, q97, q122, q126, q127, q128, q255, q256, q300, q580, q600, q1000, nI_add, q_lt_t, q_lt_f, q_eq_t, q_eq_f, q_clamp, q_in_t, q_in_f]
def feR (K v : Nat → Nat) (W : Nat → List Nat) (F : Nat) (nm : Nat → List Nat) (N j : Nat) : (Nat × Nat) ⊕ (Nat × Int32) := if F = 2 then .inl (3, j) else if 19 < K (j + 1) then .inl (1, j + 1) else if K (j + 1) = 19 ∧ (W (j + 1)).length ≤ 8 ∧ fx nm (W (j + 1)) F 0 = none then fyF K v N (N + 1) (j + 2) (nI 0) else .inl (2, j + 1)
def FeC (I : zI) (L : zL) (B : Nat → Nat) (S n d F : Nat) (ws : List Nat) (r : (Nat × Nat) ⊕ (Nat × Int32)) (x : Option (Option Value × zH)) : Prop := match r with
  | .inl (e, jf) => ∃ J, x = some (some (.int (nI 0)), hp J L) ∧ LFl I J d e (sT B S jf)
  | .inr (j', V) => ∃ J M, x = some (some (.int (nI 1)), hp J M) ∧ j' ≤ n ∧ J 5 9 = nI j' ∧ J d 8 = nI (F + 1) ∧ J (d + 3) F = V ∧ M (d + 2) F = lN (wcode ws) ∧ (∀ x y, (x ≠ 5 ∨ (y ≠ 9 ∧ y ≠ 14)) → (x ≠ d ∨ y ≠ 8) → (x ≠ d + 3 ∨ y ≠ F) → J x y = I x y) ∧ (∀ x y, (x ≠ d + 2 ∨ y ≠ F) → M x y = L x y)
theorem fxI_m1 {o : Option Nat} (h : ∀ f, o = some f → f < 2) : (fxI o = -nI 1) = (o = none) := by
  cases o with
  | none => exact propext ⟨fun _ => rfl, fun _ => rfl⟩
  | some f =>
    have hf := h f rfl
    have : ∀ t, t < 2 → nI t ≠ -nI 1 := by decide +kernel
    exact propext ⟨fun q => absurd q (this f hf), fun q => by cases q⟩
theorem s_readFeast {d : Nat} (hd : d = 11 ∨ d = 18) {I : zI} {L : zL} {B : Nat → Nat} {S n N F j : Nat} (hN : 1 ≤ N ∧ N ≤ 28) (hF : F ≤ 2) {nm : Nat → List Nat} (hn : NMc L d F nm) (hR : RD I L B S n) (hj : j < n) (h6 : I d 6 = nI N) (h8 : I d 8 = nI F) (h9 : I 5 9 = nI j) : FeC I L B S n d F (wN B S (j + 1)) (feR (KT B S) (vN B S) (wN B S) F nm N j) (zcall zZ nX4_readFeast [.ref 5, .ref d] (hp I L)) := by
  obtain ⟨r, hr⟩ : ∃ r, feR (KT B S) (vN B S) (wN B S) F nm N j = r := ⟨_, rfl⟩
  rw [hr]
  unfold feR at hr
  have h0 := hR.1
  by_cases zF : F = 2
  · rw [if_pos zF] at hr
    rw [← hr]
    have hf := s_fail hR (show j ≤ n by omega) h9 3
    refine ⟨fl I 3 (sT B S j), ?_, fl_L _ _ _ (fun _ _ _ _ => rfl)⟩
    simp (disch := omega) only [c_X4_readFeast hd, e_X4_readFeast_0 hd, e_X4_readFeast_15 hd, h8, hf, Option.bind_some, Option.toList_some, Option.toList_none, List.cons_append, List.nil_append, Option.map_some, cond_true, cond_false, Bool.not_true, Bool.not_false, Bool.true_and, Bool.and_true, Bool.false_and, Bool.and_false, Bool.true_or, Bool.or_true, Bool.false_or, Bool.or_false, Bool.not_not, decide_true, decide_false, Bool.decide_eq_true, Bool.decide_eq_false, qz_0, qz_1, qz_n, qz_n0, qz_n1, qz_t, qz_f, Nat.reduceAdd, q1000000, q0, q1, q2, q3, q4, q5, q6, q7, q8, q9, q10, q11, q12, q13, q14, q15, q16, q18, q19, q20, q21, q22, q23, q24, q25, q26, q27, q28, q29, q30, q31, q32, q38, q44, q45, q48, q57, q58, q59, q60, q63, q64, q97, q122, q126, q127, q128, q255, q256, q300, q580, q600, q1000, nI_add, q_lt_t, q_lt_f, q_eq_t, q_eq_f, q_clamp, q_in_t, q_in_f]
  rw [if_neg zF] at hr
  obtain ⟨I1, a1, hR1, k1, o1⟩ := tk_s hR hj h9
  have e6 := hR1.k (show j + 1 ≤ n by omega)
  have hk := KT_le B S (j + 1)
  by_cases z : 19 < KT B S (j + 1)
  · rw [if_pos z] at hr
    rw [← hr]
    have hf := s_fail hR1 (show j + 1 ≤ n by omega) k1 1
    refine ⟨fl I1 1 (sT B S (j + 1)), ?_, fl_L _ _ _ (fun x y p1 p2 => o1 x y (by omega))⟩
    simp (disch := omega) only [c_X4_readFeast hd, e_X4_readFeast_0 hd, e_X4_readFeast_20 hd, e_X4_readFeast_39 hd, h8, a1, k1, e6, hf, Option.bind_some, Option.toList_some, Option.toList_none, List.cons_append, List.nil_append, Option.map_some, cond_true, cond_false, Bool.not_true, Bool.not_false, Bool.true_and, Bool.and_true, Bool.false_and, Bool.and_false, Bool.true_or, Bool.or_true, Bool.false_or, Bool.or_false, Bool.not_not, decide_true, decide_false, Bool.decide_eq_true, Bool.decide_eq_false, qz_0, qz_1, qz_n, qz_n0, qz_n1, qz_t, qz_f, Nat.reduceAdd, q1000000, q0, q1, q2, q3, q4, q5, q6, q7, q8, q9, q10, q11, q12, q13, q14, q15, q16, q18, q19, q20, q21, q22, q23, q24, q25, q26, q27, q28, q29, q30, q31, q32, q38, q44, q45, q48, q57, q58, q59, q60, q63, q64, q97, q122, q126, q127, q128, q255, q256, q300, q580, q600, q1000, nI_add, q_lt_t, q_lt_f, q_eq_t, q_eq_f, q_clamp, q_in_t, q_in_f]
  rw [if_neg z] at hr
  have hjn := hR1.lt (show j + 1 ≤ n by omega) (by omega)
  obtain ⟨w1, w2⟩ := hR1.w hjn (by omega)
  have hf2 := s_fail hR1 (show j + 1 ≤ n by omega) k1 2
  have hm1 := wv_m1 w2
  have hfn := s_feastNamed (I := I1) (L := L) hd hF ((o1 _ _ (by omega)).trans h8) hn w2
  have hx1 := fxI_m1 (o := fx nm (wN B S (j + 1)) F 0) (fun f hf => by
    have := fx_lt F 0 f hf
    omega)
  by_cases y : KT B S (j + 1) = 19 ∧ (wN B S (j + 1)).length ≤ 8 ∧ fx nm (wN B S (j + 1)) F 0 = none
  · rw [if_pos y] at hr
    obtain ⟨y1, y2, y3⟩ := y
    rw [eq_false (show ¬ 8 < (wN B S (j + 1)).length by omega)] at hm1
    rw [eq_true y3] at hx1
    obtain ⟨I2, a2, hR2, k2, o2⟩ := tk_s hR1 hjn k1
    have o12 : ∀ x y, (x ≠ 5 ∨ y ≠ 9) → I2 x y = I x y := fun x y p => (o2 x y p).trans (o1 x y p)
    have hfy := s_readFeastDays hd (L := L) hN hR2 (show j + 2 ≤ n by omega) ((o12 _ _ (by omega)).trans h6) k2
    rw [y1] at e6
    match hfr : fyF (KT B S) (vN B S) N (N + 1) (j + 2) (nI 0), hfy with
    | .inl (e, jf), ⟨J, x1, x2, x3, x4⟩ =>
      rw [hfr] at hr
      rw [← hr]
      refine ⟨J, ?_, x2, x3, fun x y p1 p2 => (x4 x y (by omega)).trans (o12 x y (by omega))⟩
      simp (disch := omega) only [c_X4_readFeast hd, e_X4_readFeast_0 hd, e_X4_readFeast_20 hd, e_X4_readFeast_77 hd, e_X4_readFeast_91 hd, e_X4_readFeast_96 hd, h8, a1, k1, e6, w1, hm1, hfn, hx1, a2, x1, Option.bind_some, Option.toList_some, Option.toList_none, List.cons_append, List.nil_append, Option.map_some, cond_true, cond_false, Bool.not_true, Bool.not_false, Bool.true_and, Bool.and_true, Bool.false_and, Bool.and_false, Bool.true_or, Bool.or_true, Bool.false_or, Bool.or_false, Bool.not_not, decide_true, decide_false, Bool.decide_eq_true, Bool.decide_eq_false, qz_0, qz_1, qz_n, qz_n0, qz_n1, qz_t, qz_f, Nat.reduceAdd, q1000000, q0, q1, q2, q3, q4, q5, q6, q7, q8, q9, q10, q11, q12, q13, q14, q15, q16, q18, q19, q20, q21, q22, q23, q24, q25, q26, q27, q28, q29, q30, q31, q32, q38, q44, q45, q48, q57, q58, q59, q60, q63, q64, q97, q122, q126, q127, q128, q255, q256, q300, q580, q600, q1000, nI_add, q_lt_t, q_lt_f, q_eq_t, q_eq_f, q_clamp, q_in_t, q_in_f]
    | .inr (j', V), ⟨J, x1, x2, x3, x4, x5⟩ =>
      rw [hfr] at hr
      rw [← hr]
      have j8 : J d 8 = nI F := ((x5 _ _ (by omega)).trans (o12 _ _ (by omega))).trans h8
      have ew : wv (wN B S (j + 1)) = lN (wcode (wN B S (j + 1))) := if_pos y2
      rw [ew] at w1 hm1 hfn
      refine ⟨zup (zup J (d + 3) F V) d 8 (nI (F + 1)), zup L (d + 2) F (lN (wcode (wN B S (j + 1)))), ?_, x2, ?_, zu_same _ _ _ _, ?_, zu_same _ _ _ _, fun x y p1 p2 p3 => ?_, fun x y p => ?_⟩
      · simp (disch := omega) only [c_X4_readFeast hd, e_X4_readFeast_0 hd, e_X4_readFeast_20 hd, e_X4_readFeast_77 hd, e_X4_readFeast_91 hd, e_X4_readFeast_96 hd, h8, a1, k1, e6, w1, hm1, hfn, hx1, a2, x1, x4, j8, zu_same, zu_cell, zu_at, Option.bind_some, Option.toList_some, Option.toList_none, List.cons_append, List.nil_append, Option.map_some, cond_true, cond_false, Bool.not_true, Bool.not_false, Bool.true_and, Bool.and_true, Bool.false_and, Bool.and_false, Bool.true_or, Bool.or_true, Bool.false_or, Bool.or_false, Bool.not_not, decide_true, decide_false, Bool.decide_eq_true, Bool.decide_eq_false, qz_0, qz_1, qz_n, qz_n0, qz_n1, qz_t, qz_f, Nat.reduceAdd, q1000000, q0, q1, q2, q3, q4, q5, q6, q7, q8, q9, q10, q11, q12, q13, q14, q15, q16, q18, q19, q20, q21, q22, q23, q24, q25, q26, q27, q28, q29, q30, q31, q32, q38, q44, q45, q48, q57, q58, q59, q60, q63, q64, q97, q122, q126, q127, q128, q255, q256, q300, q580, q600, q1000, nI_add, q_lt_t, q_lt_f, q_eq_t, q_eq_f, q_clamp, q_in_t, q_in_f]
      · rw [zu_cell (by omega), zu_cell (by omega)]
        exact x3
      · rw [zu_cell (by omega), zu_same]
      · have e1 : zup (zup J (d + 3) F V) d 8 (nI (F + 1)) x y = J x y := by
          have e2 : zup (zup J (d + 3) F V) d 8 (nI (F + 1)) x y = zup J (d + 3) F V x y := by
            by_cases u : x = d
            · rw [zu_at (by omega)]
            · rw [zu_cell u]
          rw [e2]
          by_cases u : x = d + 3
          · rw [zu_at (by omega)]
          · rw [zu_cell u]
        rw [e1, x5 x y (by omega)]
        exact o12 x y (by omega)
      · by_cases u : x = d + 2
        · rw [zu_at (by omega)]
        · rw [zu_cell u]
  · rw [if_neg y] at hr
    rw [← hr]
    refine ⟨fl I1 2 (sT B S (j + 1)), ?_, fl_L _ _ _ (fun x y p1 p2 => o1 x y (by omega))⟩
    by_cases y1 : KT B S (j + 1) = 19
    · rw [y1] at e6
      by_cases y2 : 8 < (wN B S (j + 1)).length
      · rw [eq_true y2] at hm1
        simp (disch := omega) only [c_X4_readFeast hd, e_X4_readFeast_0 hd, e_X4_readFeast_20 hd, e_X4_readFeast_81 hd, e_X4_readFeast_86 hd, h8, a1, k1, e6, w1, hm1, hf2, Option.bind_some, Option.toList_some, Option.toList_none, List.cons_append, List.nil_append, Option.map_some, cond_true, cond_false, Bool.not_true, Bool.not_false, Bool.true_and, Bool.and_true, Bool.false_and, Bool.and_false, Bool.true_or, Bool.or_true, Bool.false_or, Bool.or_false, Bool.not_not, decide_true, decide_false, Bool.decide_eq_true, Bool.decide_eq_false, qz_0, qz_1, qz_n, qz_n0, qz_n1, qz_t, qz_f, Nat.reduceAdd, q1000000, q0, q1, q2, q3, q4, q5, q6, q7, q8, q9, q10, q11, q12, q13, q14, q15, q16, q18, q19, q20, q21, q22, q23, q24, q25, q26, q27, q28, q29, q30, q31, q32, q38, q44, q45, q48, q57, q58, q59, q60, q63, q64, q97, q122, q126, q127, q128, q255, q256, q300, q580, q600, q1000, nI_add, q_lt_t, q_lt_f, q_eq_t, q_eq_f, q_clamp, q_in_t, q_in_f]
      · rw [eq_false y2] at hm1
        have y3 : ¬ fx nm (wN B S (j + 1)) F 0 = none := fun q => y ⟨y1, by omega, q⟩
        rw [eq_false y3] at hx1
        simp (disch := omega) only [c_X4_readFeast hd, e_X4_readFeast_0 hd, e_X4_readFeast_20 hd, e_X4_readFeast_77 hd, e_X4_readFeast_81 hd, e_X4_readFeast_86 hd, h8, a1, k1, e6, w1, hm1, hfn, hx1, hf2, Option.bind_some, Option.toList_some, Option.toList_none, List.cons_append, List.nil_append, Option.map_some, cond_true, cond_false, Bool.not_true, Bool.not_false, Bool.true_and, Bool.and_true, Bool.false_and, Bool.and_false, Bool.true_or, Bool.or_true, Bool.false_or, Bool.or_false, Bool.not_not, decide_true, decide_false, Bool.decide_eq_true, Bool.decide_eq_false, qz_0, qz_1, qz_n, qz_n0, qz_n1, qz_t, qz_f, Nat.reduceAdd, q1000000, q0, q1, q2, q3, q4, q5, q6, q7, q8, q9, q10, q11, q12, q13, q14, q15, q16, q18, q19, q20, q21, q22, q23, q24, q25, q26, q27, q28, q29, q30, q31, q32, q38, q44, q45, q48, q57, q58, q59, q60, q63, q64, q97, q122, q126, q127, q128, q255, q256, q300, q580, q600, q1000, nI_add, q_lt_t, q_lt_f, q_eq_t, q_eq_f, q_clamp, q_in_t, q_in_f]
    · simp (disch := omega) only [c_X4_readFeast hd, e_X4_readFeast_0 hd, e_X4_readFeast_20 hd, e_X4_readFeast_81 hd, e_X4_readFeast_86 hd, h8, a1, k1, e6, hf2, Option.bind_some, Option.toList_some, Option.toList_none, List.cons_append, List.nil_append, Option.map_some, cond_true, cond_false, Bool.not_true, Bool.not_false, Bool.true_and, Bool.and_true, Bool.false_and, Bool.and_false, Bool.true_or, Bool.or_true, Bool.false_or, Bool.or_false, Bool.not_not, decide_true, decide_false, Bool.decide_eq_true, Bool.decide_eq_false, qz_0, qz_1, qz_n, qz_n0, qz_n1, qz_t, qz_f, Nat.reduceAdd, q1000000, q0, q1, q2, q3, q4, q5, q6, q7, q8, q9, q10, q11, q12, q13, q14, q15, q16, q18, q19, q20, q21, q22, q23, q24, q25, q26, q27, q28, q29, q30, q31, q32, q38, q44, q45, q48, q57, q58, q59, q60, q63, q64, q97, q122, q126, q127, q128, q255, q256, q300, q580, q600, q1000, nI_add, q_lt_t, q_lt_f, q_eq_t, q_eq_f, q_clamp, q_in_t, q_in_f]
