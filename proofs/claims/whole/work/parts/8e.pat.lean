/-! a pattern is read -/
def rgP (d e : Nat) : Nat := 2 ^ (e + 1) - 2 ^ d
def patF (K : Nat → Nat) : Nat → Nat → Nat → Nat → (Nat × Nat) ⊕ (Nat × Nat)
  | 0, j, _, P => .inr (j, P)
  | m + 1, j, x, P => if isW (K j) then (if K j - 12 < x then .inl (2, j) else if K (j + 1) = 23 then (if isW (K (j + 2)) then (if K j - 12 < K (j + 2) - 12 then patF K m (j + 3) (K (j + 2) - 12 + 1) (P ||| rgP (K j - 12) (K (j + 2) - 12)) else .inl (2, j + 2)) else .inl (1, j + 2)) else patF K m (j + 1) (K j - 12 + 1) (P ||| rgP (K j - 12) (K j - 12))) else .inr (j, P)
def patR (K : Nat → Nat) (j : Nat) : (Nat × Nat) ⊕ (Nat × Nat) := if K j = 7 then .inr (j + 1, 127) else patF K 8 j 0 0
theorem isW_iff {k : Nat} : isW k = true ↔ (12 ≤ k ∧ k < 19) := by
  unfold isW
  rw [Bool.and_eq_true, decide_eq_true_iff, decide_eq_true_iff]
theorem rgP_lt : ∀ d, d < 7 → ∀ e, e < 7 → 2 ^ (e + 1) - 2 ^ d < 128 ∧ 2 ^ (e + 1) ≤ 128 ∧ (d ≤ e → 2 ^ d ≤ 2 ^ (e + 1)) := by decide
theorem or_128 {P Q : Nat} (h : P < 128) (h2 : Q < 128) : P ||| Q < 128 := Nat.or_lt_two_pow (n := 7) h h2
/-- the class' reader has failed -/
def CFl (I J : zI) (e s : Nat) : Prop := J 5 0 = nI e ∧ J 5 1 = nI s ∧ (∀ x y, (x ≠ 5 ∨ y = 8) → J x y = I x y)
theorem fl_ok {I J : zI} (e s : Nat) (h : ∀ x y, (x ≠ 5 ∨ y = 8) → J x y = I x y) : CFl I (fl J e s) e s := by
  unfold fl
  refine ⟨?_, zu_same _ _ _ _, fun x y p => ?_⟩
  · rw [zu_at (by omega), zu_same]
  · rw [← h x y p]
    by_cases u : x = 5
    · rw [zu_at (by omega), zu_at (by omega)]
    · rw [zu_cell u, zu_cell u]
/-- what the class' reader of a pattern leaves -/
def PatC (I : zI) (L : zL) (B : Nat → Nat) (S n : Nat) (r : (Nat × Nat) ⊕ (Nat × Nat)) (x : Option (Option Value × zH)) : Prop := match r with
  | .inl (e, jf) => ∃ J, x = some (some (.int (nI 0)), hp J L) ∧ CFl I J e (sT B S jf)
  | .inr (j', P') => ∃ J, x = some (some (.int (nI 1)), hp J L) ∧ j' ≤ n ∧ P' < 128 ∧ J 5 9 = nI j' ∧ J 5 10 = nI P' ∧ (∀ x y, (x ≠ 5 ∨ (y ≠ 9 ∧ y ≠ 10)) → J x y = I x y)
theorem PatC.cg {I I' : zI} {L : zL} {B : Nat → Nat} {S n : Nat} {r : (Nat × Nat) ⊕ (Nat × Nat)} {x : Option (Option Value × zH)} (h : PatC I' L B S n r x) (hc : ∀ x y, (x ≠ 5 ∨ (y ≠ 9 ∧ y ≠ 10)) → I' x y = I x y) : PatC I L B S n r x := by
  match r, h with
  | .inl (e, jf), ⟨J, h1, h2, h3, h4⟩ => exact ⟨J, h1, h2, h3, fun x y p => (h4 x y p).trans (hc x y (by omega))⟩
  | .inr (j', P'), ⟨J, h1, h2, h3, h4, h5, h6⟩ => exact ⟨J, h1, h2, h3, h4, h5, fun x y p => (h6 x y p).trans (hc x y p)⟩
theorem cp_loop {L : zL} {B : Nat → Nat} {S n : Nat} : ∀ m j x c P (I : zI), RD I L B S n → 8 ≤ m + x → c ≤ x → x ≤ 7 → j ≤ n → P < 128 → I 5 9 = nI j → I 5 10 = nI P → PatC I L B S n (patF (KT B S) m j x P) ((zrun zZ kX4_readPattern (35, [some (.ref 5), some (.int (nI x)), some (.int (nI c)), none, none], [], hp I L, 0, 0)).map (fun r => (r.1, r.2.1)))
  | 0, j, x, c, P, I, hR, hm, hc, hx, hj, hP, h9, h10 => by omega
  | m + 1, j, x, c, P, I, hR, hm, hc, hx, hj, hP, h9, h10 => by
    have h0 := hR.1
    have eW := s_isW hR hj h9
    have e6 := hR.k hj
    rw [e_X4_readPattern_35]
    unfold patF
    by_cases w1 : isW (KT B S j) = true
    · obtain ⟨y1, y2⟩ := isW_iff.mp w1
      rw [w1] at eW
      rw [if_pos w1]
      have hjn := hR.lt hj (by omega)
      by_cases d1 : KT B S j - 12 < x
      · rw [if_pos d1]
        have hf := s_fail hR hj h9 2
        refine ⟨fl I 2 (sT B S j), ?_, fl_ok _ _ (fun _ _ _ => rfl)⟩
        simp (disch := omega) only [e_X4_readPattern_45, e_X4_readPattern_71, eW, h9, e6, q_sub, hf, Option.bind_some, Option.toList_some, Option.toList_none, List.cons_append, List.nil_append, Option.map_some, cond_true, cond_false, Bool.not_true, Bool.not_false, Bool.true_and, Bool.and_true, Bool.false_and, Bool.and_false, Bool.true_or, Bool.or_true, Bool.false_or, Bool.or_false, Bool.not_not, decide_true, decide_false, Bool.decide_eq_true, Bool.decide_eq_false, qz_0, qz_1, qz_n, qz_n0, qz_n1, qz_t, qz_f, Nat.reduceAdd, q1000000, q0, q1, q2, q3, q4, q5, q6, q7, q8, q9, q10, q11, q12, q13, q14, q15, q16, q18, q19, q20, q21, q22, q23, q24, q25, q26, q27, q28, q29, q30, q31, q32, q38, q44, q45, q48, q57, q58, q59, q60, q63, q64, q97, q122, q126, q127, q128, q255, q256, q300, q580, q600, q1000, nI_add, q_lt_t, q_lt_f, q_eq_t, q_eq_f, q_clamp, q_in_t, q_in_f]
      · rw [if_neg d1]
        have hst := s_step hR hjn h9
        obtain ⟨I1, hI1⟩ : ∃ I1, I1 = zup I 5 9 (nI (j + 1)) := ⟨_, rfl⟩
        rw [← hI1] at hst
        have o1 : ∀ x y, (x ≠ 5 ∨ y ≠ 9) → I1 x y = I x y := fun x y p => by
          rw [hI1]
          by_cases u : x = 5
          · rw [zu_at (by omega)]
          · rw [zu_cell u]
        have i9 : I1 5 9 = nI (j + 1) := by rw [hI1, zu_same]
        have i10 : I1 5 10 = nI P := (o1 _ _ (by omega)).trans h10
        have hR1 : RD I1 L B S n := hR.cg (o1 _ _ (by omega)) (fun b => o1 _ _ (by omega)) (fun b => o1 _ _ (by omega)) (fun _ => rfl)
        have f6 := hR1.k (show j + 1 ≤ n by omega)
        have hk1 := KT_le B S (j + 1)
        by_cases s1 : KT B S (j + 1) = 23
        · rw [if_pos s1]
          rw [s1] at f6
          have hj2 := hR1.lt (show j + 1 ≤ n by omega) (by omega)
          have hst2 := s_step hR1 hj2 i9
          obtain ⟨I2, hI2⟩ : ∃ I2, I2 = zup I1 5 9 (nI (j + 2)) := ⟨_, rfl⟩
          have hst2 : zcall zZ nX4_step [.ref 5] (hp I1 L) = some (none, hp I2 L) := by rw [hI2]; exact hst2
          have o2 : ∀ x y, (x ≠ 5 ∨ y ≠ 9) → I2 x y = I x y := fun x y p => by
            rw [← o1 x y p, hI2]
            by_cases u : x = 5
            · rw [zu_at (by omega)]
            · rw [zu_cell u]
          have k9 : I2 5 9 = nI (j + 2) := by rw [hI2, zu_same]
          have k10 : I2 5 10 = nI P := (o2 _ _ (by omega)).trans h10
          have hR2 : RD I2 L B S n := hR.cg (o2 _ _ (by omega)) (fun b => o2 _ _ (by omega)) (fun b => o2 _ _ (by omega)) (fun _ => rfl)
          have g6 := hR2.k (show j + 2 ≤ n by omega)
          have eW2 := s_isW hR2 (show j + 2 ≤ n by omega) k9
          have hk2 := KT_le B S (j + 2)
          by_cases w2 : isW (KT B S (j + 2)) = true
          · obtain ⟨z1, z2⟩ := isW_iff.mp w2
            rw [w2] at eW2
            rw [if_pos w2]
            by_cases d2 : KT B S j - 12 < KT B S (j + 2) - 12
            · rw [if_pos d2]
              have hj3 := hR2.lt (show j + 2 ≤ n by omega) (by omega)
              have hst3 := s_step hR2 hj3 k9
              obtain ⟨r1, r2, r3⟩ := rgP_lt (KT B S j - 12) (by omega) (KT B S (j + 2) - 12) (by omega)
              have r4 := r3 (by omega)
              have hor := or_128 hP r1
              obtain ⟨I3, hI3⟩ : ∃ I3, I3 = zup (zup I2 5 9 (nI (j + 3))) 5 10 (nI (P ||| rgP (KT B S j - 12) (KT B S (j + 2) - 12))) := ⟨_, rfl⟩
              have o3 : ∀ x y, (x ≠ 5 ∨ (y ≠ 9 ∧ y ≠ 10)) → I3 x y = I x y := fun x y p => by
                rw [← o2 x y (by omega), hI3]
                by_cases u : x = 5
                · rw [zu_at (by omega), zu_at (by omega)]
                · rw [zu_cell u, zu_cell u]
              have ih := cp_loop m (j + 3) (KT B S (j + 2) - 12 + 1) (c + 1) (P ||| rgP (KT B S j - 12) (KT B S (j + 2) - 12)) I3 (hR.cg (o3 _ _ (by omega)) (fun b => o3 _ _ (by omega)) (fun b => o3 _ _ (by omega)) (fun _ => rfl)) (by omega) (by omega) (by omega) (by omega) hor (by rw [hI3, zu_at (by omega), zu_same]) (by rw [hI3, zu_same])
              have ih := ih.cg o3
              refine Eq.mp ?_ ih
              congr 1
              symm
              have e3 : nI (2 ^ (KT B S (j + 2) - 12 + 1) - 2 ^ (KT B S j - 12)) = nI (rgP (KT B S j - 12) (KT B S (j + 2) - 12)) := rfl
              simp (disch := omega) only [e_X4_readPattern_45, e_X4_readPattern_76, e_X4_readPattern_97, e_X4_readPattern_101, e_X4_readPattern_140, eW, eW2, h9, e6, i9, f6, k9, k10, g6, q_sub, hst, hst2, hst3, q_shl1, e3, nx_or, zu_same, zu_cell, zu_at, hI3, Option.bind_some, Option.toList_some, Option.toList_none, List.cons_append, List.nil_append, Option.map_some, cond_true, cond_false, Bool.not_true, Bool.not_false, Bool.true_and, Bool.and_true, Bool.false_and, Bool.and_false, Bool.true_or, Bool.or_true, Bool.false_or, Bool.or_false, Bool.not_not, decide_true, decide_false, Bool.decide_eq_true, Bool.decide_eq_false, qz_0, qz_1, qz_n, qz_n0, qz_n1, qz_t, qz_f, Nat.reduceAdd, q1000000, q0, q1, q2, q3, q4, q5, q6, q7, q8, q9, q10, q11, q12, q13, q14, q15, q16, q18, q19, q20, q21, q22, q23, q24, q25, q26, q27, q28, q29, q30, q31, q32, q38, q44, q45, q48, q57, q58, q59, q60, q63, q64, q97, q122, q126, q127, q128, q255, q256, q300, q580, q600, q1000, nI_add, q_lt_t, q_lt_f, q_eq_t, q_eq_f, q_clamp, q_in_t, q_in_f]
            · rw [if_neg d2]
              have hf := s_fail hR2 (show j + 2 ≤ n by omega) k9 2
              refine ⟨fl I2 2 (sT B S (j + 2)), ?_, fl_ok _ _ (fun x y p => o2 x y (by omega))⟩
              simp (disch := omega) only [e_X4_readPattern_45, e_X4_readPattern_76, e_X4_readPattern_97, e_X4_readPattern_101, e_X4_readPattern_135, eW, eW2, h9, e6, i9, f6, k9, g6, q_sub, hst, hst2, hf, Option.bind_some, Option.toList_some, Option.toList_none, List.cons_append, List.nil_append, Option.map_some, cond_true, cond_false, Bool.not_true, Bool.not_false, Bool.true_and, Bool.and_true, Bool.false_and, Bool.and_false, Bool.true_or, Bool.or_true, Bool.false_or, Bool.or_false, Bool.not_not, decide_true, decide_false, Bool.decide_eq_true, Bool.decide_eq_false, qz_0, qz_1, qz_n, qz_n0, qz_n1, qz_t, qz_f, Nat.reduceAdd, q1000000, q0, q1, q2, q3, q4, q5, q6, q7, q8, q9, q10, q11, q12, q13, q14, q15, q16, q18, q19, q20, q21, q22, q23, q24, q25, q26, q27, q28, q29, q30, q31, q32, q38, q44, q45, q48, q57, q58, q59, q60, q63, q64, q97, q122, q126, q127, q128, q255, q256, q300, q580, q600, q1000, nI_add, q_lt_t, q_lt_f, q_eq_t, q_eq_f, q_clamp, q_in_t, q_in_f]
          · have w2' : isW (KT B S (j + 2)) = false := by simpa using w2
            rw [if_neg w2]
            rw [w2'] at eW2
            have hf := s_fail hR2 (show j + 2 ≤ n by omega) k9 1
            refine ⟨fl I2 1 (sT B S (j + 2)), ?_, fl_ok _ _ (fun x y p => o2 x y (by omega))⟩
            simp (disch := omega) only [e_X4_readPattern_45, e_X4_readPattern_76, e_X4_readPattern_97, e_X4_readPattern_101, e_X4_readPattern_109, eW, eW2, h9, e6, i9, f6, q_sub, hst, hst2, hf, Option.bind_some, Option.toList_some, Option.toList_none, List.cons_append, List.nil_append, Option.map_some, cond_true, cond_false, Bool.not_true, Bool.not_false, Bool.true_and, Bool.and_true, Bool.false_and, Bool.and_false, Bool.true_or, Bool.or_true, Bool.false_or, Bool.or_false, Bool.not_not, decide_true, decide_false, Bool.decide_eq_true, Bool.decide_eq_false, qz_0, qz_1, qz_n, qz_n0, qz_n1, qz_t, qz_f, Nat.reduceAdd, q1000000, q0, q1, q2, q3, q4, q5, q6, q7, q8, q9, q10, q11, q12, q13, q14, q15, q16, q18, q19, q20, q21, q22, q23, q24, q25, q26, q27, q28, q29, q30, q31, q32, q38, q44, q45, q48, q57, q58, q59, q60, q63, q64, q97, q122, q126, q127, q128, q255, q256, q300, q580, q600, q1000, nI_add, q_lt_t, q_lt_f, q_eq_t, q_eq_f, q_clamp, q_in_t, q_in_f]
        · rw [if_neg s1]
          obtain ⟨r1, r2, r3⟩ := rgP_lt (KT B S j - 12) (by omega) (KT B S j - 12) (by omega)
          have r4 := r3 (by omega)
          have hor := or_128 hP r1
          obtain ⟨I3, hI3⟩ : ∃ I3, I3 = zup I1 5 10 (nI (P ||| rgP (KT B S j - 12) (KT B S j - 12))) := ⟨_, rfl⟩
          have o3 : ∀ x y, (x ≠ 5 ∨ (y ≠ 9 ∧ y ≠ 10)) → I3 x y = I x y := fun x y p => by
            rw [← o1 x y (by omega), hI3]
            by_cases u : x = 5
            · rw [zu_at (by omega)]
            · rw [zu_cell u]
          have ih := cp_loop m (j + 1) (KT B S j - 12 + 1) (c + 1) (P ||| rgP (KT B S j - 12) (KT B S j - 12)) I3 (hR.cg (o3 _ _ (by omega)) (fun b => o3 _ _ (by omega)) (fun b => o3 _ _ (by omega)) (fun _ => rfl)) (by omega) (by omega) (by omega) (by omega) hor (by rw [hI3, zu_at (by omega)]; exact i9) (by rw [hI3, zu_same])
          have ih := ih.cg o3
          refine Eq.mp ?_ ih
          congr 1
          symm
          have e3 : nI (2 ^ (KT B S j - 12 + 1) - 2 ^ (KT B S j - 12)) = nI (rgP (KT B S j - 12) (KT B S j - 12)) := rfl
          simp (disch := omega) only [e_X4_readPattern_45, e_X4_readPattern_76, e_X4_readPattern_140, eW, h9, e6, i9, f6, i10, q_sub, hst, q_shl1, e3, nx_or, zu_same, zu_cell, zu_at, hI3, Option.bind_some, Option.toList_some, Option.toList_none, List.cons_append, List.nil_append, Option.map_some, cond_true, cond_false, Bool.not_true, Bool.not_false, Bool.true_and, Bool.and_true, Bool.false_and, Bool.and_false, Bool.true_or, Bool.or_true, Bool.false_or, Bool.or_false, Bool.not_not, decide_true, decide_false, Bool.decide_eq_true, Bool.decide_eq_false, qz_0, qz_1, qz_n, qz_n0, qz_n1, qz_t, qz_f, Nat.reduceAdd, q1000000, q0, q1, q2, q3, q4, q5, q6, q7, q8, q9, q10, q11, q12, q13, q14, q15, q16, q18, q19, q20, q21, q22, q23, q24, q25, q26, q27, q28, q29, q30, q31, q32, q38, q44, q45, q48, q57, q58, q59, q60, q63, q64, q97, q122, q126, q127, q128, q255, q256, q300, q580, q600, q1000, nI_add, q_lt_t, q_lt_f, q_eq_t, q_eq_f, q_clamp, q_in_t, q_in_f]
    · have w1' : isW (KT B S j) = false := by simpa using w1
      rw [if_neg w1]
      rw [w1'] at eW
      refine ⟨I, ?_, hj, hP, h9, h10, fun _ _ _ => rfl⟩
      simp (disch := omega) only [e_X4_readPattern_45, e_X4_readPattern_167, eW, Option.bind_some, Option.toList_some, Option.toList_none, List.cons_append, List.nil_append, Option.map_some, cond_true, cond_false, Bool.not_true, Bool.not_false, Bool.true_and, Bool.and_true, Bool.false_and, Bool.and_false, Bool.true_or, Bool.or_true, Bool.false_or, Bool.or_false, Bool.not_not, decide_true, decide_false, Bool.decide_eq_true, Bool.decide_eq_false, qz_0, qz_1, qz_n, qz_n0, qz_n1, qz_t, qz_f, Nat.reduceAdd, q1000000, q0, q1, q2, q3, q4, q5, q6, q7, q8, q9, q10, q11, q12, q13, q14, q15, q16, q18, q19, q20, q21, q22, q23, q24, q25, q26, q27, q28, q29, q30, q31, q32, q38, q44, q45, q48, q57, q58, q59, q60, q63, q64, q97, q122, q126, q127, q128, q255, q256, q300, q580, q600, q1000, nI_add, q_lt_t, q_lt_f, q_eq_t, q_eq_f, q_clamp, q_in_t, q_in_f]
