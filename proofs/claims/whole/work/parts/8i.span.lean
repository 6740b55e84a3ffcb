theorem s_readBounds {d : Nat} (hd : d = 11 ∨ d = 18) {I : zI} {L : zL} {B : Nat → Nat} {S n N j a : Nat} (hR : RD I L B S n) (hj : j ≤ n) (h9 : I 5 9 = nI j) (h6 : I d 6 = nI N) (hN : 1 ≤ N ∧ N ≤ 28) (ha : a ≤ N) (h12 : I 5 12 = nI a - nI 1) : BoC I L B S n N (boR (KT B S) (vN B S) N a j) (zcall zZ nX4_readBounds [.ref 5, .ref d] (hp I L)) := by
  have h0 := hR.1
  have e6 := hR.k hj
  have hk := KT_le B S j
  have ea := jm_1 a
  obtain ⟨I1, hI1⟩ : ∃ I1, I1 = zup I 5 11 (nI 0) := ⟨_, rfl⟩
  have o1 : ∀ x y, (x ≠ 5 ∨ y ≠ 11) → I1 x y = I x y := fun x y p => by
    rw [hI1]
    by_cases u : x = 5
    · rw [zu_at (by omega)]
    · rw [zu_cell u]
  have hR1 : RD I1 L B S n := hR.cg (o1 _ _ (by omega)) (fun b => o1 _ _ (by omega)) (fun b => o1 _ _ (by omega)) (fun _ => rfl)
  have i9 : I1 5 9 = nI j := (o1 _ _ (by omega)).trans h9
  unfold boR
  by_cases z : KT B S j = 8
  · rw [if_pos z]
    rw [z] at e6
    have hjn := hR.lt hj (by omega)
    have hst := s_step hR1 hjn i9
    obtain ⟨I2, hI2⟩ : ∃ I2, I2 = zup I1 5 9 (nI (j + 1)) := ⟨_, rfl⟩
    rw [← hI2] at hst
    have o2 : ∀ x y, (x ≠ 5 ∨ y ≠ 9) → I2 x y = I1 x y := fun x y p => by
      rw [hI2]
      by_cases u : x = 5
      · rw [zu_at (by omega)]
      · rw [zu_cell u]
    have hR2 : RD I2 L B S n := hR1.cg (o2 _ _ (by omega)) (fun b => o2 _ _ (by omega)) (fun b => o2 _ _ (by omega)) (fun _ => rfl)
    have k9 : I2 5 9 = nI (j + 1) := by rw [hI2, zu_same]
    have k6 : I2 d 6 = nI N := ((o2 _ _ (by omega)).trans (o1 _ _ (by omega))).trans h6
    rcases s_see hR2 (show j + 1 ≤ n by omega) k9 (a := a) (b := N - 1) (by omega) (by omega) with ⟨e, u1, u2⟩ | ⟨u1, u2, u3, u4, u5, u6, u7⟩
    · rw [u1]
      refine ⟨fl I2 e (sT B S (j + 1)), ?_, fl_ok _ _ (fun x y p => (o2 x y (by omega)).trans (o1 x y (by omega)))⟩
      simp (disch := omega) only [c_X4_readBounds hd, e_X4_readBounds_0 hd, e_X4_readBounds_30 hd, e_X4_readBounds_41 hd, h9, e6, h12, q1000000, q0, q1, q2, q3, q4, q5, q6, q7, q8, q9, q10, q11, q12, q13, q14, q15, q16, q18, q19, q20, q21, q22, q23, q24, q25, q26, q27, q28, q29, q30, q31, q32, q38, q44, q45, q48, q57, q58, q59, q60, q63, q64, q97, q122, q126, q127, q128, q255, q256, q300, q580, q600, q1000, ea, q_sub, ← hI1, hst, k6, u2, Option.bind_some, Option.toList_some, Option.toList_none, List.cons_append, List.nil_append, Option.map_some, cond_true, cond_false, Bool.not_true, Bool.not_false, Bool.true_and, Bool.and_true, Bool.false_and, Bool.and_false, Bool.true_or, Bool.or_true, Bool.false_or, Bool.or_false, Bool.not_not, decide_true, decide_false, Bool.decide_eq_true, Bool.decide_eq_false, qz_0, qz_1, qz_n, qz_n0, qz_n1, qz_t, qz_f, Nat.reduceAdd, q1000000, q0, q1, q2, q3, q4, q5, q6, q7, q8, q9, q10, q11, q12, q13, q14, q15, q16, q18, q19, q20, q21, q22, q23, q24, q25, q26, q27, q28, q29, q30, q31, q32, q38, q44, q45, q48, q57, q58, q59, q60, q63, q64, q97, q122, q126, q127, q128, q255, q256, q300, q580, q600, q1000, nI_add, q_lt_t, q_lt_f, q_eq_t, q_eq_f, q_clamp, q_in_t, q_in_f]
    · rw [u1]
      obtain ⟨I3, hI3⟩ : ∃ I3, I3 = zup I2 5 11 (nI (vN B S (j + 1))) := ⟨_, rfl⟩
      have o3 : ∀ x y, (x ≠ 5 ∨ y ≠ 11) → I3 x y = I2 x y := fun x y p => by
        rw [hI3]
        by_cases u : x = 5
        · rw [zu_at (by omega)]
        · rw [zu_cell u]
      have hR3 : RD I3 L B S n := hR2.cg (o3 _ _ (by omega)) (fun b => o3 _ _ (by omega)) (fun b => o3 _ _ (by omega)) (fun _ => rfl)
      have hst2 := s_step hR3 u5 ((o3 _ _ (by omega)).trans k9)
      obtain ⟨I4, hI4⟩ : ∃ I4, I4 = zup I3 5 9 (nI (j + 1 + 1)) := ⟨_, rfl⟩
      rw [← hI4] at hst2
      have o4 : ∀ x y, (x ≠ 5 ∨ y ≠ 9) → I4 x y = I3 x y := fun x y p => by
        rw [hI4]
        by_cases u : x = 5
        · rw [zu_at (by omega)]
        · rw [zu_cell u]
      have hR4 : RD I4 L B S n := hR3.cg (o4 _ _ (by omega)) (fun b => o4 _ _ (by omega)) (fun b => o4 _ _ (by omega)) (fun _ => rfl)
      have o : ∀ x y, (x ≠ 5 ∨ (y ≠ 9 ∧ y ≠ 11)) → I4 x y = I x y := fun x y p => by rw [o4 x y (by omega), o3 x y (by omega), o2 x y (by omega), o1 x y (by omega)]
      have bt := bo_to hd (I := I4) (I0 := I) (L := L) (N := N) (j := j + 1 + 1) (fr := vN B S (j + 1)) hR4 (by omega) (by rw [hI4, zu_same]) ((o _ _ (by omega)).trans h6) hN (by omega) (by rw [o4 _ _ (by omega), hI3, zu_same]) (fun x y p => o x y (by omega))
      refine Eq.mp ?_ bt
      congr 1
      symm
      simp (disch := omega) only [c_X4_readBounds hd, e_X4_readBounds_0 hd, e_X4_readBounds_30 hd, e_X4_readBounds_41 hd, e_X4_readBounds_64 hd, h9, e6, h12, q1000000, q0, q1, q2, q3, q4, q5, q6, q7, q8, q9, q10, q11, q12, q13, q14, q15, q16, q18, q19, q20, q21, q22, q23, q24, q25, q26, q27, q28, q29, q30, q31, q32, q38, q44, q45, q48, q57, q58, q59, q60, q63, q64, q97, q122, q126, q127, q128, q255, q256, q300, q580, q600, q1000, ea, q_sub, ← hI1, hst, k6, k9, u6, u7, lN_i, ← hI3, hst2, Option.bind_some, Option.toList_some, Option.toList_none, List.cons_append, List.nil_append, Option.map_some, cond_true, cond_false, Bool.not_true, Bool.not_false, Bool.true_and, Bool.and_true, Bool.false_and, Bool.and_false, Bool.true_or, Bool.or_true, Bool.false_or, Bool.or_false, Bool.not_not, decide_true, decide_false, Bool.decide_eq_true, Bool.decide_eq_false, qz_0, qz_1, qz_n, qz_n0, qz_n1, qz_t, qz_f, Nat.reduceAdd, q1000000, q0, q1, q2, q3, q4, q5, q6, q7, q8, q9, q10, q11, q12, q13, q14, q15, q16, q18, q19, q20, q21, q22, q23, q24, q25, q26, q27, q28, q29, q30, q31, q32, q38, q44, q45, q48, q57, q58, q59, q60, q63, q64, q97, q122, q126, q127, q128, q255, q256, q300, q580, q600, q1000, nI_add, q_lt_t, q_lt_f, q_eq_t, q_eq_f, q_clamp, q_in_t, q_in_f]
  · rw [if_neg z]
    by_cases y : 0 < a
    · rw [if_pos y]
      have hf := s_fail hR1 hj i9 1
      refine ⟨fl I1 1 (sT B S j), ?_, fl_ok _ _ (fun x y p => o1 x y (by omega))⟩
      simp (disch := omega) only [c_X4_readBounds hd, e_X4_readBounds_0 hd, e_X4_readBounds_76 hd, h9, e6, h12, q1000000, q0, q1, q2, q3, q4, q5, q6, q7, q8, q9, q10, q11, q12, q13, q14, q15, q16, q18, q19, q20, q21, q22, q23, q24, q25, q26, q27, q28, q29, q30, q31, q32, q38, q44, q45, q48, q57, q58, q59, q60, q63, q64, q97, q122, q126, q127, q128, q255, q256, q300, q580, q600, q1000, ea, ← hI1, hf, Option.bind_some, Option.toList_some, Option.toList_none, List.cons_append, List.nil_append, Option.map_some, cond_true, cond_false, Bool.not_true, Bool.not_false, Bool.true_and, Bool.and_true, Bool.false_and, Bool.and_false, Bool.true_or, Bool.or_true, Bool.false_or, Bool.or_false, Bool.not_not, decide_true, decide_false, Bool.decide_eq_true, Bool.decide_eq_false, qz_0, qz_1, qz_n, qz_n0, qz_n1, qz_t, qz_f, Nat.reduceAdd, q1000000, q0, q1, q2, q3, q4, q5, q6, q7, q8, q9, q10, q11, q12, q13, q14, q15, q16, q18, q19, q20, q21, q22, q23, q24, q25, q26, q27, q28, q29, q30, q31, q32, q38, q44, q45, q48, q57, q58, q59, q60, q63, q64, q97, q122, q126, q127, q128, q255, q256, q300, q580, q600, q1000, nI_add, q_lt_t, q_lt_f, q_eq_t, q_eq_f, q_clamp, q_in_t, q_in_f]
    · rw [if_neg y]
      obtain rfl : a = 0 := by omega
      have bt := bo_to hd (I := I1) (I0 := I) (L := L) (N := N) (j := j) (fr := 0) hR1 hj i9 ((o1 _ _ (by omega)).trans h6) hN (by omega) (by rw [hI1, zu_same]) (fun x y p => o1 x y (by omega))
      refine Eq.mp ?_ bt
      congr 1
      symm
      simp (disch := omega) only [c_X4_readBounds hd, e_X4_readBounds_0 hd, h9, e6, h12, q1000000, q0, q1, q2, q3, q4, q5, q6, q7, q8, q9, q10, q11, q12, q13, q14, q15, q16, q18, q19, q20, q21, q22, q23, q24, q25, q26, q27, q28, q29, q30, q31, q32, q38, q44, q45, q48, q57, q58, q59, q60, q63, q64, q97, q122, q126, q127, q128, q255, q256, q300, q580, q600, q1000, ea, ← hI1, Option.bind_some, Option.toList_some, Option.toList_none, List.cons_append, List.nil_append, Option.map_some, cond_true, cond_false, Bool.not_true, Bool.not_false, Bool.true_and, Bool.and_true, Bool.false_and, Bool.and_false, Bool.true_or, Bool.or_true, Bool.false_or, Bool.or_false, Bool.not_not, decide_true, decide_false, Bool.decide_eq_true, Bool.decide_eq_false, qz_0, qz_1, qz_n, qz_n0, qz_n1, qz_t, qz_f, Nat.reduceAdd, q1000000, q0, q1, q2, q3, q4, q5, q6, q7, q8, q9, q10, q11, q12, q13, q14, q15, q16, q18, q19, q20, q21, q22, q23, q24, q25, q26, q27, q28, q29, q30, q31, q32, q38, q44, q45, q48, q57, q58, q59, q60, q63, q64, q97, q122, q126, q127, q128, q255, q256, q300, q580, q600, q1000, nI_add, q_lt_t, q_lt_f, q_eq_t, q_eq_f, q_clamp, q_in_t, q_in_f]
/-! spans -/
def spF (K v : Nat → Nat) (N w : Nat) : Nat → Nat → Nat → Bool → Int32 → (Nat × Nat) ⊕ (Nat × Int32)
  | 0, j, _, _, M => .inr (j, M)
  | m + 1, j, a, mo, M => if (mo && (isW (K j) || decide (K j = 7))) = true then (match patR K j with
    | .inl f => .inl f
    | .inr (j1, P) => match boR K v N a j1 with
      | .inl f => .inl f
      | .inr (j2, fr, to, mo') => spF K v N w m j2 (to + 1) mo' (M ||| (nI (2 ^ (to + 1) - 2 ^ fr) &&& pds N w P))) else .inr (j, M)
def SpC (I : zI) (L : zL) (B : Nat → Nat) (S n : Nat) (r : (Nat × Nat) ⊕ (Nat × Int32)) (x : Option (Option Value × zH)) : Prop := match r with
  | .inl (e, jf) => ∃ J, x = some (some (.int (nI 0)), hp J L) ∧ CFl I J e (sT B S jf)
  | .inr (j', M') => ∃ J, x = some (some (.int (nI 1)), hp J L) ∧ j' ≤ n ∧ J 5 9 = nI j' ∧ J 5 2 = M' ∧ (∀ x y, (x ≠ 5 ∨ (y ≠ 2 ∧ (y < 9 ∨ 13 < y))) → J x y = I x y)
theorem SpC.cg {I I' : zI} {L : zL} {B : Nat → Nat} {S n : Nat} {r : (Nat × Nat) ⊕ (Nat × Int32)} {x : Option (Option Value × zH)} (h : SpC I' L B S n r x) (hc : ∀ x y, (x ≠ 5 ∨ (y ≠ 2 ∧ (y < 9 ∨ 13 < y))) → I' x y = I x y) : SpC I L B S n r x := by
  match r, h with
  | .inl (e, jf), ⟨J, h1, h2, h3, h4⟩ => exact ⟨J, h1, h2, h3, fun x y p => (h4 x y p).trans (hc x y (by omega))⟩
  | .inr (j', P'), ⟨J, h1, h2, h3, h4, h5⟩ => exact ⟨J, h1, h2, h3, h4, fun x y p => (h5 x y p).trans (hc x y p)⟩
