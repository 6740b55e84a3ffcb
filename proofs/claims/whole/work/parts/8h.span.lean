/-! from and to -/
def nuR (K v : Nat → Nat) (a b j : Nat) : (Nat × Nat) ⊕ (Nat × Nat) := if K j = 20 then (if v j < a ∨ b < v j then .inl (2, j) else .inr (j + 1, v j)) else .inl (1, j)
def toR (K v : Nat → Nat) (N : Nat) (fr j : Nat) : (Nat × Nat) ⊕ (Nat × Nat × Nat × Bool) := if K j = 9 then (match nuR K v fr (N - 1) (j + 1) with | .inl f => .inl f | .inr (j2, t) => .inr (j2, fr, t, true)) else .inr (j, fr, N - 1, false)
def boR (K v : Nat → Nat) (N a j : Nat) : (Nat × Nat) ⊕ (Nat × Nat × Nat × Bool) := if K j = 8 then (match nuR K v a (N - 1) (j + 1) with | .inl f => .inl f | .inr (j1, fr) => toR K v N fr j1) else if 0 < a then .inl (1, j) else toR K v N 0 j
/-- seeNumber and what follows -/
theorem s_see {I : zI} {L : zL} {B : Nat → Nat} {S n j : Nat} (h : RD I L B S n) (hj : j ≤ n) (h9 : I 5 9 = nI j) {a b : Nat} (ha : a < 2000) (hb : b < 2000) : (∃ e, nuR (KT B S) (vN B S) a b j = .inl (e, j) ∧ zcall zZ nX4_seeNumber [.ref 5, .int (nI a), .int (nI b)] (hp I L) = some (some (.int (nI 0)), hp (fl I e (sT B S j)) L)) ∨ (nuR (KT B S) (vN B S) a b j = .inr (j + 1, vN B S j) ∧ KT B S j = 20 ∧ a ≤ vN B S j ∧ vN B S j ≤ b ∧ j < n ∧ L 8 j = lN (vN B S j) ∧ zcall zZ nX4_seeNumber [.ref 5, .int (nI a), .int (nI b)] (hp I L) = some (some (.int (nI 1)), hp I L)) := by
  unfold nuR
  by_cases z : KT B S j = 20
  · rw [if_pos z]
    by_cases y : vN B S j < a ∨ b < vN B S j
    · rw [if_pos y]
      exact Or.inl ⟨2, rfl, s_see_2 h hj h9 z ha hb y⟩
    · rw [if_neg y]
      have hjn := h.lt hj (by omega)
      exact Or.inr ⟨rfl, z, by omega, by omega, hjn, h.v hjn z, s_see_y h hj h9 z ha hb (by omega)⟩
  · rw [if_neg z]
    exact Or.inl ⟨1, rfl, s_see_1 h hj h9 z _ _⟩
def BoC (I : zI) (L : zL) (B : Nat → Nat) (S n N : Nat) (r : (Nat × Nat) ⊕ (Nat × Nat × Nat × Bool)) (x : Option (Option Value × zH)) : Prop := match r with
  | .inl (e, jf) => ∃ J, x = some (some (.int (nI 0)), hp J L) ∧ CFl I J e (sT B S jf)
  | .inr (j', fr, to, mo) => ∃ J, x = some (some (.int (nI 1)), hp J L) ∧ j' ≤ n ∧ fr ≤ to ∧ to < N ∧ J 5 9 = nI j' ∧ J 5 11 = nI fr ∧ J 5 12 = nI to ∧ J 5 13 = zbo mo ∧ (∀ x y, (x ≠ 5 ∨ (y ≠ 9 ∧ y ≠ 11 ∧ y ≠ 12 ∧ y ≠ 13)) → J x y = I x y)
theorem bo_to {d : Nat} (hd : d = 11 ∨ d = 18) {I I0 : zI} {L : zL} {B : Nat → Nat} {S n N j fr : Nat} (hR : RD I L B S n) (hj : j ≤ n) (h9 : I 5 9 = nI j) (h6 : I d 6 = nI N) (hN : 1 ≤ N ∧ N ≤ 28) (hf : fr < N) (h11 : I 5 11 = nI fr) (hc : ∀ x y, (x ≠ 5 ∨ (y ≠ 9 ∧ y ≠ 11 ∧ y ≠ 12 ∧ y ≠ 13)) → I x y = I0 x y) : BoC I0 L B S n N (toR (KT B S) (vN B S) N fr j) ((zrun zZ kX4_readBounds (77, [some (.ref 5), some (.ref d), none], [], hp I L, 0, 0)).map (fun r => (r.1, r.2.1))) := by
  have h0 := hR.1
  have e6 := hR.k hj
  have hk := KT_le B S j
  rw [e_X4_readBounds_77 hd]
  unfold toR
  by_cases z : KT B S j = 9
  · rw [if_pos z]
    rw [z] at e6
    have hjn := hR.lt hj (by omega)
    obtain ⟨I1, hI1⟩ : ∃ I1, I1 = zup (zup I 5 12 (nI (N - 1))) 5 13 (nI 1) := ⟨_, rfl⟩
    have o1 : ∀ x y, (x ≠ 5 ∨ (y ≠ 12 ∧ y ≠ 13)) → I1 x y = I x y := fun x y p => by
      rw [hI1]
      by_cases u : x = 5
      · rw [zu_at (by omega), zu_at (by omega)]
      · rw [zu_cell u, zu_cell u]
    have hR1 : RD I1 L B S n := hR.cg (o1 _ _ (by omega)) (fun b => o1 _ _ (by omega)) (fun b => o1 _ _ (by omega)) (fun _ => rfl)
    have hst := s_step hR1 hjn ((o1 _ _ (by omega)).trans h9)
    obtain ⟨I2, hI2⟩ : ∃ I2, I2 = zup I1 5 9 (nI (j + 1)) := ⟨_, rfl⟩
    rw [← hI2] at hst
    have o2 : ∀ x y, (x ≠ 5 ∨ y ≠ 9) → I2 x y = I1 x y := fun x y p => by
      rw [hI2]
      by_cases u : x = 5
      · rw [zu_at (by omega)]
      · rw [zu_cell u]
    have hR2 : RD I2 L B S n := hR1.cg (o2 _ _ (by omega)) (fun b => o2 _ _ (by omega)) (fun b => o2 _ _ (by omega)) (fun _ => rfl)
    have k9 : I2 5 9 = nI (j + 1) := by rw [hI2, zu_same]
    have k11 : I2 5 11 = nI fr := ((o2 _ _ (by omega)).trans (o1 _ _ (by omega))).trans h11
    have k6 : I2 d 6 = nI N := ((o2 _ _ (by omega)).trans (o1 _ _ (by omega))).trans h6
    rcases s_see hR2 (show j + 1 ≤ n by omega) k9 (a := fr) (b := N - 1) (by omega) (by omega) with ⟨e, uu1, uu2⟩ | ⟨uu1, uu2, uu3, uu4, uu5, uu6, uu7⟩
    · rw [uu1]
      refine ⟨fl I2 e (sT B S (j + 1)), ?_, fl_ok _ _ (fun x y p => ((o2 x y (by omega)).trans (o1 x y (by omega))).trans (hc x y (by omega)))⟩
      simp (disch := omega) only [e_X4_readBounds_107 hd, e_X4_readBounds_121 hd, e_X4_readBounds_135 hd, h9, e6, h6, q_sub, ← hI1, hst, k11, k6, uu2, Option.bind_some, Option.toList_some, Option.toList_none, List.cons_append, List.nil_append, Option.map_some, cond_true, cond_false, Bool.not_true, Bool.not_false, Bool.true_and, Bool.and_true, Bool.false_and, Bool.and_false, Bool.true_or, Bool.or_true, Bool.false_or, Bool.or_false, Bool.not_not, decide_true, decide_false, Bool.decide_eq_true, Bool.decide_eq_false, qz_0, qz_1, qz_n, qz_n0, qz_n1, qz_t, qz_f, Nat.reduceAdd, q1000000, q0, q1, q2, q3, q4, q5, q6, q7, q8, q9, q10, q11, q12, q13, q14, q15, q16, q18, q19, q20, q21, q22, q23, q24, q25, q26, q27, q28, q29, q30, q31, q32, q38, q44, q45, q48, q57, q58, q59, q60, q63, q64, q97, q122, q126, q127, q128, q255, q256, q300, q580, q600, q1000, nI_add, q_lt_t, q_lt_f, q_eq_t, q_eq_f, q_clamp, q_in_t, q_in_f]
    · rw [uu1]
      have hR3 : RD (zup I2 5 12 (nI (vN B S (j + 1)))) L B S n := hR2.cg (zu_at (by omega)) (fun b => zu_cell (by omega)) (fun b => zu_cell (by omega)) (fun _ => rfl)
      have hst2 := s_step hR3 uu5 (by rw [zu_at (by omega)]; exact k9)
      refine ⟨zup (zup I2 5 12 (nI (vN B S (j + 1)))) 5 9 (nI (j + 1 + 1)), ?_, by omega, uu3, by omega, zu_same _ _ _ _, ?_, ?_, ?_, fun x y p => ?_⟩
      · simp (disch := omega) only [e_X4_readBounds_107 hd, e_X4_readBounds_121 hd, e_X4_readBounds_135 hd, e_X4_readBounds_158 hd, h9, e6, h6, q_sub, ← hI1, hst, k9, k11, k6, uu6, uu7, lN_i, hst2, Option.bind_some, Option.toList_some, Option.toList_none, List.cons_append, List.nil_append, Option.map_some, cond_true, cond_false, Bool.not_true, Bool.not_false, Bool.true_and, Bool.and_true, Bool.false_and, Bool.and_false, Bool.true_or, Bool.or_true, Bool.false_or, Bool.or_false, Bool.not_not, decide_true, decide_false, Bool.decide_eq_true, Bool.decide_eq_false, qz_0, qz_1, qz_n, qz_n0, qz_n1, qz_t, qz_f, Nat.reduceAdd, q1000000, q0, q1, q2, q3, q4, q5, q6, q7, q8, q9, q10, q11, q12, q13, q14, q15, q16, q18, q19, q20, q21, q22, q23, q24, q25, q26, q27, q28, q29, q30, q31, q32, q38, q44, q45, q48, q57, q58, q59, q60, q63, q64, q97, q122, q126, q127, q128, q255, q256, q300, q580, q600, q1000, nI_add, q_lt_t, q_lt_f, q_eq_t, q_eq_f, q_clamp, q_in_t, q_in_f]
      · rw [zu_at (by omega), zu_at (by omega)]
        exact k11
      · rw [zu_at (by omega), zu_same]
      · rw [zu_at (by omega), zu_at (by omega), o2 _ _ (by omega), hI1, zu_same]
        rfl
      · rw [← hc x y p, ← o1 x y (by omega), ← o2 x y (by omega)]
        by_cases u : x = 5
        · rw [zu_at (by omega), zu_at (by omega)]
        · rw [zu_cell u, zu_cell u]
  · rw [if_neg z]
    refine ⟨zup (zup I 5 12 (nI (N - 1))) 5 13 (nI 0), ?_, hj, by omega, by omega, ?_, ?_, ?_, zu_same _ _ _ _, fun x y p => ?_⟩
    · simp (disch := omega) only [e_X4_readBounds_107 hd, e_X4_readBounds_158 hd, h9, e6, h6, q_sub, Option.bind_some, Option.toList_some, Option.toList_none, List.cons_append, List.nil_append, Option.map_some, cond_true, cond_false, Bool.not_true, Bool.not_false, Bool.true_and, Bool.and_true, Bool.false_and, Bool.and_false, Bool.true_or, Bool.or_true, Bool.false_or, Bool.or_false, Bool.not_not, decide_true, decide_false, Bool.decide_eq_true, Bool.decide_eq_false, qz_0, qz_1, qz_n, qz_n0, qz_n1, qz_t, qz_f, Nat.reduceAdd, q1000000, q0, q1, q2, q3, q4, q5, q6, q7, q8, q9, q10, q11, q12, q13, q14, q15, q16, q18, q19, q20, q21, q22, q23, q24, q25, q26, q27, q28, q29, q30, q31, q32, q38, q44, q45, q48, q57, q58, q59, q60, q63, q64, q97, q122, q126, q127, q128, q255, q256, q300, q580, q600, q1000, nI_add, q_lt_t, q_lt_f, q_eq_t, q_eq_f, q_clamp, q_in_t, q_in_f]
    · rw [zu_at (by omega), zu_at (by omega)]
      exact h9
    · rw [zu_at (by omega), zu_at (by omega)]
      exact h11
    · rw [zu_at (by omega), zu_same]
    · rw [← hc x y p]
      by_cases u : x = 5
      · rw [zu_at (by omega), zu_at (by omega)]
      · rw [zu_cell u, zu_cell u]
