/-! sets -/
theorem p_sets {I : zI} {L : zL} (hI : INV I L) (x : Int32) : STP nX9_sets nX10_sets [.int x] I L := by
  have hI' := hI
  obtain ⟨N, w, F, T, ln, A, S, E, hK, hL, hC, hk, hz⟩ := hI'
  have E' := E
  obtain ⟨D, hTP, hA, hF, hT⟩ := E'
  obtain ⟨a1, a2, a3, a4⟩ := hA
  have hb := D.b
  rcases zin_N (x := x) (n := T) (by omega) with h | ⟨j, hj, rfl⟩
  · exact ⟨.int (-2), I, L, I, L, by simp (disch := omega) only [c_X9_sets, e_X9_sets_0, e_X9_sets_5, e_X9_sets_28, e_X9_sets_55, e_X9_sets_48, e_X9_sets_56, e_X9_sets_92, e_X9_sets_80, e_X9_sets_118, s_Xtrain D, h, Option.bind_some, Option.toList_some, Option.toList_none, List.cons_append, List.nil_append, Option.map_some, cond_true, cond_false, Bool.not_true, Bool.not_false, Bool.true_and, Bool.and_true, Bool.false_and, Bool.and_false, Bool.true_or, Bool.or_true, Bool.false_or, Bool.or_false, Bool.not_not, decide_true, decide_false, Bool.decide_eq_true, Bool.decide_eq_false, qz_0, qz_1, qz_n, qz_n0, qz_n1, qz_t, qz_f, Nat.reduceAdd, q1000000, q0, q1, q2, q3, q4, q5, q6, q7, q8, q9, q10, q11, q12, q13, q14, q15, q16, q18, q19, q20, q21, q22, q23, q24, q25, q26, q27, q28, q29, q30, q31, q32, q38, q44, q45, q48, q57, q58, q59, q60, q63, q64, q97, q122, q126, q127, q128, q255, q256, q300, q580, q600, q1000, nI_add, q_lt_t, q_lt_f, q_eq_t, q_eq_f, q_clamp, q_in_t, q_in_f], by simp (disch := omega) only [c_X10_sets, e_X10_sets_0, e_X10_sets_5, e_X10_sets_32, e_X10_sets_47, e_X10_sets_61, s_Mtrain D, h, Option.bind_some, Option.toList_some, Option.toList_none, List.cons_append, List.nil_append, Option.map_some, cond_true, cond_false, Bool.not_true, Bool.not_false, Bool.true_and, Bool.and_true, Bool.false_and, Bool.and_false, Bool.true_or, Bool.or_true, Bool.false_or, Bool.or_false, Bool.not_not, decide_true, decide_false, Bool.decide_eq_true, Bool.decide_eq_false, qz_0, qz_1, qz_n, qz_n0, qz_n1, qz_t, qz_f, Nat.reduceAdd, q1000000, q0, q1, q2, q3, q4, q5, q6, q7, q8, q9, q10, q11, q12, q13, q14, q15, q16, q18, q19, q20, q21, q22, q23, q24, q25, q26, q27, q28, q29, q30, q31, q32, q38, q44, q45, q48, q57, q58, q59, q60, q63, q64, q97, q122, q126, q127, q128, q255, q256, q300, q580, q600, q1000, nI_add, q_lt_t, q_lt_f, q_eq_t, q_eq_f, q_clamp, q_in_t, q_in_f], hI⟩
  have h0 := D.nz hj
  -- the tapes are empty, all else stands
  have emp : ∀ (J : zI) (M : zL), (∀ x y, (x < 5 ∨ 7 < x) → (x ≠ 3 ∨ y ≠ 1) → (x ≠ 52 ∨ (y ≠ 5 ∧ (y < 8 ∨ 16 < y))) → J x y = I x y) → J 3 1 = nI 0 → J 52 5 = nI 0 → (∀ a b, a ≠ 8 → M a b = L a b) → INV J M := fun J M o e1 e2 r4 => by
    refine ⟨N, w, F, T, ln, A, 0, ⟨?_, ⟨by omega, e1, e2, fun i hi => by omega⟩, ?_, ?_, ?_⟩, ?_, ?_, ?_, ?_, (o _ _ (by omega) (by omega) (by omega)).trans hz.1, (o _ _ (by omega) (by omega) (by omega)).trans hz.2⟩
    · exact D.cg (fun x y p => o x y (by omega) (by omega) (by omega)) (fun b => r4 _ _ (by omega))
    · exact AC.cg ⟨a1, a2, a3, a4⟩ (o _ _ (by omega) (by omega) (by omega)) (o _ _ (by omega) (by omega) (by omega)) (fun b => o _ _ (by omega) (by omega) (by omega)) (fun b => o _ _ (by omega) (by omega) (by omega))
    · exact hF.cg (fun b => o _ _ (by omega) (by omega) (by omega)) (o _ _ (by omega) (by omega) (by omega)) (o _ _ (by omega) (by omega) (by omega))
    · exact hT.cg (fun b => o _ _ (by omega) (by omega) (by omega)) (fun b hb => o _ _ (by omega) (by omega) (by omega))
    · exact hK.cg (fun b => o _ _ (by omega) (by omega) (by omega)) (fun b => o _ _ (by omega) (by omega) (by omega)) (fun b => o _ _ (by omega) (by omega) (by omega))
    · exact fun k hk => (r4 _ _ (by omega)).trans (hL k hk)
    · exact hC.cg (fun b => o _ _ (by omega) (by omega) (by omega)) (fun b => o _ _ (by omega) (by omega) (by omega)) (fun a b p q => o _ _ (by omega) (by omega) (by omega)) (fun b => r4 _ _ (by omega)) (r4 _ _ (by omega))
    · exact hk.cw (by omega) (fun b _ => o _ _ (by omega) (by omega) (by omega)) (fun b => r4 _ _ (by omega))
  have z3 : ∀ (J : zI) x y, (x ≠ 3 ∨ y ≠ 1) → zup J 3 1 (nI 0) x y = J x y := fun J x y p => by
    by_cases u : x = 3
    · rw [zu_at (by omega)]
    · rw [zu_cell u]
  have z5 : ∀ (J : zI) x y, (x ≠ 52 ∨ y ≠ 5) → zup J 52 5 (nI 0) x y = J x y := fun J x y p => by
    by_cases u : x = 52
    · rw [zu_at (by omega)]
    · rw [zu_cell u]
  by_cases hA : A = 20
  · refine ⟨.int (-5), zup I 3 1 (nI 0), L, zup (zup I 3 1 (nI 0)) 52 5 (nI 0), L, ?_, ?_, emp _ _ (fun x y p1 p2 p3 => by rw [z5 _ _ _ (by omega), z3 _ _ _ (by omega)]) (by rw [z5 _ _ _ (by omega), zu_same]) (zu_same _ _ _ _) (fun _ _ _ => rfl)⟩
    · simp (disch := omega) only [c_X9_sets, e_X9_sets_0, e_X9_sets_5, e_X9_sets_28, e_X9_sets_55, e_X9_sets_48, e_X9_sets_56, e_X9_sets_92, e_X9_sets_80, e_X9_sets_118, s_Xtrain D, a2, hA, Option.bind_some, Option.toList_some, Option.toList_none, List.cons_append, List.nil_append, Option.map_some, cond_true, cond_false, Bool.not_true, Bool.not_false, Bool.true_and, Bool.and_true, Bool.false_and, Bool.and_false, Bool.true_or, Bool.or_true, Bool.false_or, Bool.or_false, Bool.not_not, decide_true, decide_false, Bool.decide_eq_true, Bool.decide_eq_false, qz_0, qz_1, qz_n, qz_n0, qz_n1, qz_t, qz_f, Nat.reduceAdd, q1000000, q0, q1, q2, q3, q4, q5, q6, q7, q8, q9, q10, q11, q12, q13, q14, q15, q16, q18, q19, q20, q21, q22, q23, q24, q25, q26, q27, q28, q29, q30, q31, q32, q38, q44, q45, q48, q57, q58, q59, q60, q63, q64, q97, q122, q126, q127, q128, q255, q256, q300, q580, q600, q1000, nI_add, q_lt_t, q_lt_f, q_eq_t, q_eq_f, q_clamp, q_in_t, q_in_f]
    · have hM := s_MisTrain (I := zup I 3 1 (nI 0)) (L := L) (N := T) (by rw [z3 _ _ _ (by omega)]; exact D.m.2.2.2.1) (by omega) (nI j)
      simp (disch := omega) only [c_X10_sets, e_X10_sets_0, e_X10_sets_5, e_X10_sets_32, e_X10_sets_47, e_X10_sets_61, hM, zu_same, zu_cell, zu_at, a3, hA, Option.bind_some, Option.toList_some, Option.toList_none, List.cons_append, List.nil_append, Option.map_some, cond_true, cond_false, Bool.not_true, Bool.not_false, Bool.true_and, Bool.and_true, Bool.false_and, Bool.and_false, Bool.true_or, Bool.or_true, Bool.false_or, Bool.or_false, Bool.not_not, decide_true, decide_false, Bool.decide_eq_true, Bool.decide_eq_false, qz_0, qz_1, qz_n, qz_n0, qz_n1, qz_t, qz_f, Nat.reduceAdd, q1000000, q0, q1, q2, q3, q4, q5, q6, q7, q8, q9, q10, q11, q12, q13, q14, q15, q16, q18, q19, q20, q21, q22, q23, q24, q25, q26, q27, q28, q29, q30, q31, q32, q38, q44, q45, q48, q57, q58, q59, q60, q63, q64, q97, q122, q126, q127, q128, q255, q256, q300, q580, q600, q1000, nI_add, q_lt_t, q_lt_f, q_eq_t, q_eq_f, q_clamp, q_in_t, q_in_f]
  obtain ⟨r, B, J, M, r1, r2, r3, r4, r5⟩ := both_alone E hL h0 hk
  have k9 : zup J 3 1 (nI 0) 9 1 = nI A := by
    rw [z3 _ _ _ (by omega), r3 _ _ (by omega)]
    exact a2
  match r, r1, r2, r5 with
  | .inl (e, jf), ro, ⟨x1, x2, x3⟩, r5 =>
    obtain ⟨J1, ⟨v, y1, y2⟩, y3, y4⟩ := r5 (zup J 3 1 (nI 0)) M (fun a b p => by rw [z3 _ _ _ (by omega)]; exact r3 a b (by omega))
    refine ⟨.int (-4), zup J 3 1 (nI 0), M, J1, M, ?_, ?_, emp _ _ (fun x y p1 p2 p3 => by rw [y4 x y (by omega), z3 _ _ _ (by omega)]; exact r3 x y (by omega)) (by rw [y4 _ _ (by omega), zu_same]) y3 r4⟩
    · simp (disch := omega) only [c_X9_sets, e_X9_sets_0, e_X9_sets_5, e_X9_sets_28, e_X9_sets_55, e_X9_sets_48, e_X9_sets_56, e_X9_sets_92, e_X9_sets_80, e_X9_sets_118, s_Xtrain D, a2, x1, Option.bind_some, Option.toList_some, Option.toList_none, List.cons_append, List.nil_append, Option.map_some, cond_true, cond_false, Bool.not_true, Bool.not_false, Bool.true_and, Bool.and_true, Bool.false_and, Bool.and_false, Bool.true_or, Bool.or_true, Bool.false_or, Bool.or_false, Bool.not_not, decide_true, decide_false, Bool.decide_eq_true, Bool.decide_eq_false, qz_0, qz_1, qz_n, qz_n0, qz_n1, qz_t, qz_f, Nat.reduceAdd, q1000000, q0, q1, q2, q3, q4, q5, q6, q7, q8, q9, q10, q11, q12, q13, q14, q15, q16, q18, q19, q20, q21, q22, q23, q24, q25, q26, q27, q28, q29, q30, q31, q32, q38, q44, q45, q48, q57, q58, q59, q60, q63, q64, q97, q122, q126, q127, q128, q255, q256, q300, q580, q600, q1000, nI_add, q_lt_t, q_lt_f, q_eq_t, q_eq_f, q_clamp, q_in_t, q_in_f]
    · have hM := s_MisTrain (I := zup J 3 1 (nI 0)) (L := M) (N := T) (by rw [z3 _ _ _ (by omega), r3 _ _ (by omega)]; exact D.m.2.2.2.1) (by omega) (nI j)
      have e3 : zup J 3 1 (nI 0) 52 3 = nI A := by
        rw [z3 _ _ _ (by omega), r3 _ _ (by omega)]
        exact a3
      simp (disch := omega) only [c_X10_sets, e_X10_sets_0, e_X10_sets_5, e_X10_sets_32, e_X10_sets_47, e_X10_sets_61, hM, e3, y1, y2.1, Option.bind_some, Option.toList_some, Option.toList_none, List.cons_append, List.nil_append, Option.map_some, cond_true, cond_false, Bool.not_true, Bool.not_false, Bool.true_and, Bool.and_true, Bool.false_and, Bool.and_false, Bool.true_or, Bool.or_true, Bool.false_or, Bool.or_false, Bool.not_not, decide_true, decide_false, Bool.decide_eq_true, Bool.decide_eq_false, qz_0, qz_1, qz_n, qz_n0, qz_n1, qz_t, qz_f, Nat.reduceAdd, q1000000, q0, q1, q2, q3, q4, q5, q6, q7, q8, q9, q10, q11, q12, q13, q14, q15, q16, q18, q19, q20, q21, q22, q23, q24, q25, q26, q27, q28, q29, q30, q31, q32, q38, q44, q45, q48, q57, q58, q59, q60, q63, q64, q97, q122, q126, q127, q128, q255, q256, q300, q580, q600, q1000, nI_add, q_lt_t, q_lt_f, q_eq_t, q_eq_f, q_clamp, q_in_t, q_in_f]
  | .inr (jw, V), ro, ⟨x1, x2, x3, x4, x5⟩, r5 =>
    have ro : sub N V := ro
    have hn := s_note (L := M) (by omega) k9
    obtain ⟨J0, hJ0⟩ : ∃ J0, J0 = zup (zcpy (zup J 3 1 (nI 0)) 17 0 10 (A * 6) 6) 9 1 (nI (A + 1)) := ⟨_, rfl⟩
    rw [← hJ0] at hn
    have o0 : ∀ x y, (x ≠ 10 ∨ y < 6 * A) → (x ≠ 9 ∨ y ≠ 1) → (x ≠ 3 ∨ y ≠ 1) → J0 x y = J x y := fun x y p1 p2 p3 => by
      have e : J0 x y = zcpy (zup J 3 1 (nI 0)) 17 0 10 (A * 6) 6 x y := by
        rw [hJ0]
        by_cases u : x = 9
        · rw [zu_at (by omega)]
        · rw [zu_cell u]
      rw [e]
      by_cases u : x = 10
      · rw [zc_out (by omega)]
        exact z3 _ _ _ (by omega)
      · rw [zc_cell u]
        exact z3 _ _ _ (by omega)
    have n10 : ∀ t, t < 6 → J0 10 (6 * A + t) = I 17 t := fun t ht => by
      rw [hJ0, zu_cell (by omega), zc_in (by omega) (by omega), z3 _ _ _ (by omega), r3 _ _ (by omega)]
      congr 1
      omega
    have v5 : J0 5 2 = V := (o0 _ _ (by omega) (by omega) (by omega)).trans x4
    obtain ⟨I1, hI1⟩ : ∃ I1, I1 = zup J0 17 j V := ⟨_, rfl⟩
    have o1 : ∀ x y, (x < 5 ∨ 7 < x) → (x ≠ 10 ∨ y < 6 * A) → (x ≠ 9 ∨ y ≠ 1) → (x ≠ 3 ∨ y ≠ 1) → (x ≠ 17 ∨ y ≠ j) → I1 x y = I x y := fun x y p0 p1 p2 p3 p4 => by
      have e : I1 x y = J0 x y := by
        rw [hI1]
        by_cases u : x = 17
        · rw [zu_at (by omega)]
        · rw [zu_cell u]
      rw [e, o0 x y p1 p2 p3]
      exact r3 x y p0
    obtain ⟨J1, ⟨y1, w1, w2, w3, w4⟩, y3, y4⟩ := r5 I1 M (fun a b p => o1 a b (by omega) (by omega) (by omega) (by omega) (by omega))
    obtain ⟨J2, k1, k2, k3, k4⟩ := s_keeps (J := J1) (L := M) (A := A) (by omega) (by rw [y4 _ _ (by omega), o1 _ _ (by omega) (by omega) (by omega) (by omega) (by omega)]; exact a3)
    obtain ⟨I2, hI2⟩ : ∃ I2, I2 = zup J2 53 (38 + j) V := ⟨_, rfl⟩
    have o2 : ∀ x y, (x ≠ 53 ∨ y ≠ 38 + j) → (x ≠ 55 ∨ y < 6 * A) → (x ≠ 52 ∨ (y ≠ 3 ∧ y ≠ 5 ∧ (y < 8 ∨ 16 < y))) → I2 x y = I1 x y := fun x y p1 p2 p3 => by
      have e : I2 x y = J2 x y := by
        rw [hI2]
        by_cases u : x = 53
        · rw [zu_at (by omega)]
        · rw [zu_cell u]
      rw [e, k4 x y p2 (by omega)]
      exact y4 x y (by omega)
    have o : ∀ x y, (x < 5 ∨ 7 < x) → (x ≠ 10 ∨ y < 6 * A) → (x ≠ 9 ∨ y ≠ 1) → (x ≠ 3 ∨ y ≠ 1) → (x ≠ 17 ∨ y ≠ j) → (x ≠ 53 ∨ y ≠ 38 + j) → (x ≠ 55 ∨ y < 6 * A) → (x ≠ 52 ∨ (y ≠ 3 ∧ y ≠ 5 ∧ (y < 8 ∨ 16 < y))) → I2 x y = I x y := fun x y p0 p1 p2 p3 p4 p5 p6 p7 => (o2 x y p5 p6 p7).trans (o1 x y p0 p1 p2 p3 p4)
    have f17 : ∀ t, t ≠ j → I2 17 t = I 17 t := fun t ht => o _ _ (by omega) (by omega) (by omega) (by omega) (by omega) (by omega) (by omega) (by omega)
    have f17j : I2 17 j = V := by
      rw [o2 _ _ (by omega) (by omega) (by omega), hI1, zu_same]
    refine ⟨.int (nI (pop V)), I1, M, I2, M, ?_, ?_, N, w, F, T, ln, A + 1, 0, ⟨?_, ⟨by omega, ?_, ?_, fun i hi => by omega⟩, ⟨by omega, ?_, ?_, fun i t hi ht => ?_⟩, ?_, ?_⟩, ?_, ?_, ?_, ?_, (o _ _ (by omega) (by omega) (by omega) (by omega) (by omega) (by omega) (by omega) (by omega)).trans hz.1, (o _ _ (by omega) (by omega) (by omega) (by omega) (by omega) (by omega) (by omega) (by omega)).trans hz.2⟩
    · simp (disch := omega) only [c_X9_sets, e_X9_sets_0, e_X9_sets_5, e_X9_sets_28, e_X9_sets_55, e_X9_sets_48, e_X9_sets_56, e_X9_sets_92, e_X9_sets_80, e_X9_sets_118, s_Xtrain D, a2, x1, hn, v5, ← hI1, j_bitCount, Option.bind_some, Option.toList_some, Option.toList_none, List.cons_append, List.nil_append, Option.map_some, cond_true, cond_false, Bool.not_true, Bool.not_false, Bool.true_and, Bool.and_true, Bool.false_and, Bool.and_false, Bool.true_or, Bool.or_true, Bool.false_or, Bool.or_false, Bool.not_not, decide_true, decide_false, Bool.decide_eq_true, Bool.decide_eq_false, qz_0, qz_1, qz_n, qz_n0, qz_n1, qz_t, qz_f, Nat.reduceAdd, q1000000, q0, q1, q2, q3, q4, q5, q6, q7, q8, q9, q10, q11, q12, q13, q14, q15, q16, q18, q19, q20, q21, q22, q23, q24, q25, q26, q27, q28, q29, q30, q31, q32, q38, q44, q45, q48, q57, q58, q59, q60, q63, q64, q97, q122, q126, q127, q128, q255, q256, q300, q580, q600, q1000, nI_add, q_lt_t, q_lt_f, q_eq_t, q_eq_f, q_clamp, q_in_t, q_in_f]
    · have hM := s_MisTrain (I := I1) (L := M) (N := T) (by rw [o1 _ _ (by omega) (by omega) (by omega) (by omega) (by omega)]; exact D.m.2.2.2.1) (by omega) (nI j)
      have e3 : I1 52 3 = nI A := (o1 _ _ (by omega) (by omega) (by omega) (by omega) (by omega)).trans a3
      have hbi := fun h => s_bits' h N (by omega) ro
      simp (disch := omega) only [c_X10_sets, e_X10_sets_0, e_X10_sets_5, e_X10_sets_32, e_X10_sets_47, e_X10_sets_61, hM, e3, y1, w1, k1, ← hI2, hbi, Option.bind_some, Option.toList_some, Option.toList_none, List.cons_append, List.nil_append, Option.map_some, cond_true, cond_false, Bool.not_true, Bool.not_false, Bool.true_and, Bool.and_true, Bool.false_and, Bool.and_false, Bool.true_or, Bool.or_true, Bool.false_or, Bool.or_false, Bool.not_not, decide_true, decide_false, Bool.decide_eq_true, Bool.decide_eq_false, qz_0, qz_1, qz_n, qz_n0, qz_n1, qz_t, qz_f, Nat.reduceAdd, q1000000, q0, q1, q2, q3, q4, q5, q6, q7, q8, q9, q10, q11, q12, q13, q14, q15, q16, q18, q19, q20, q21, q22, q23, q24, q25, q26, q27, q28, q29, q30, q31, q32, q38, q44, q45, q48, q57, q58, q59, q60, q63, q64, q97, q122, q126, q127, q128, q255, q256, q300, q580, q600, q1000, nI_add, q_lt_t, q_lt_f, q_eq_t, q_eq_f, q_clamp, q_in_t, q_in_f]
    · have D0 : DK I M N w F T ln := D.cg (fun _ _ _ => rfl) (fun b => r4 _ _ (by omega))
      refine D0.run (fun t ht => ?_) (fun a b p1 p2 => o a b (by omega) (by omega) (by omega) (by omega) (by omega) (by omega) (by omega) (by omega)) (fun b hb' => o 53 b (by omega) (by omega) (by omega) (by omega) (by omega) (by omega) (by omega) (by omega))
      by_cases q : t = j
      · subst q
        rw [f17j, hI2, zu_same]
        exact ⟨rfl, ro⟩
      · rw [f17 t q, o _ _ (by omega) (by omega) (by omega) (by omega) (by omega) (by omega) (by omega) (by omega)]
        exact ⟨D.tr ht, D.ts ht⟩
    · rw [o2 _ _ (by omega) (by omega) (by omega), hI1, zu_cell (by omega), hJ0, zu_cell (by omega), zc_cell (by omega), zu_same]
    · rw [hI2, zu_cell (by omega), k4 _ _ (by omega) (by omega)]
      exact y3
    · rw [o2 _ _ (by omega) (by omega) (by omega), hI1, zu_cell (by omega), hJ0, zu_same]
    · rw [hI2, zu_cell (by omega)]
      exact k3
    · by_cases q : i < A
      · rw [o 55 _ (by omega) (by omega) (by omega) (by omega) (by omega) (by omega) (by omega) (by omega), o 10 _ (by omega) (by omega) (by omega) (by omega) (by omega) (by omega) (by omega) (by omega)]
        exact a4 i t q ht
      · obtain rfl : i = A := by omega
        have e10 : I2 10 (6 * i + t) = I 17 t := by
          rw [o2 _ _ (by omega) (by omega) (by omega), hI1, zu_cell (by omega)]
          exact n10 t (by omega)
        have e55 : I2 55 (6 * i + t) = I 53 (38 + t) := by
          rw [hI2, zu_cell (by omega), k2 t (by omega), y4 _ _ (by omega)]
          exact o1 _ _ (by omega) (by omega) (by omega) (by omega) (by omega)
        rw [e10, e55]
        exact ⟨D.tr ht, D.ts ht⟩
    · exact hF.cg (fun b => o _ _ (by omega) (by omega) (by omega) (by omega) (by omega) (by omega) (by omega) (by omega)) (o _ _ (by omega) (by omega) (by omega) (by omega) (by omega) (by omega) (by omega) (by omega)) (o _ _ (by omega) (by omega) (by omega) (by omega) (by omega) (by omega) (by omega) (by omega))
    · exact hT.cg (fun b => o _ _ (by omega) (by omega) (by omega) (by omega) (by omega) (by omega) (by omega) (by omega)) (fun b hb => o _ _ (by omega) (by omega) (by omega) (by omega) (by omega) (by omega) (by omega) (by omega))
    · exact hK.cg (fun b => o _ _ (by omega) (by omega) (by omega) (by omega) (by omega) (by omega) (by omega) (by omega)) (fun b => o _ _ (by omega) (by omega) (by omega) (by omega) (by omega) (by omega) (by omega) (by omega)) (fun b => o _ _ (by omega) (by omega) (by omega) (by omega) (by omega) (by omega) (by omega) (by omega))
    · exact fun k hk => (r4 _ _ (by omega)).trans (hL k hk)
    · exact hC.cw (by omega) (fun b hb => o _ _ (by omega) (by omega) (by omega) (by omega) (by omega) (by omega) (by omega) (by omega)) (fun b => o _ _ (by omega) (by omega) (by omega) (by omega) (by omega) (by omega) (by omega) (by omega)) (fun a b p q => o _ _ (by omega) (by omega) (by omega) (by omega) (by omega) (by omega) (by omega) (by omega)) (fun b => r4 _ _ (by omega)) (r4 _ _ (by omega))
    · exact hk.cw (by omega) (fun b hb => o _ _ (by omega) (by omega) (by omega) (by omega) (by omega) (by omega) (by omega) (by omega)) (fun b => r4 _ _ (by omega))
