/-! the class: one token -/
theorem KT_le (B : Nat → Nat) (S j : Nat) : KT B S j ≤ 25 := by
  unfold KT
  by_cases z : sT B S j = S
  · rw [if_pos z]
    omega
  · rw [if_neg z]
    by_cases y : kb (B (sT B S j)) = 19
    · rw [if_pos y]
      have := kx_le (let' B (sT B S j) (ps B S (j + 1))) 19 0 (by omega)
      omega
    · rw [if_neg y]
      have := kb_all (B (sT B S j))
      have hb : kb (B (sT B S j)) ≠ 26 := fun q => by
        rcases Nat.lt_or_ge (sT B S j) S with u | u
        · exact sT_nb B S j u q
        · have := (sT_le B S j).2
          omega
      omega
theorem KT_24 {B : Nat → Nat} {S j : Nat} : KT B S j = 24 ↔ sT B S j = S := by
  unfold KT
  by_cases z : sT B S j = S
  · rw [if_pos z]
    exact ⟨fun _ => z, fun _ => rfl⟩
  · rw [if_neg z]
    by_cases y : kb (B (sT B S j)) = 19
    · rw [if_pos y]
      have := kx_le (let' B (sT B S j) (ps B S (j + 1))) 19 0 (by omega)
      exact ⟨fun q => by omega, fun q => absurd q z⟩
    · rw [if_neg y]
      have := kb_all (B (sT B S j))
      exact ⟨fun q => by omega, fun q => absurd q z⟩
theorem vN_le (B : Nat → Nat) (S j : Nat) : vN B S j ≤ 1000000 := numC_le B _ _ 0 (by omega)
theorem RD.cg {I J : zI} {L M : zL} {B : Nat → Nat} {S n : Nat} (h : RD I L B S n) (h1 : J 5 8 = I 5 8) (h2 : ∀ b, J 6 b = I 6 b) (h3 : ∀ b, J 7 b = I 7 b) (h4 : ∀ b, M 8 b = L 8 b) : RD J M B S n := by
  obtain ⟨a, b, c, d⟩ := h
  refine ⟨a, h1.trans b, fun i hi => ?_, fun i hi => (h4 i).trans (d i hi)⟩
  rw [h2, h3]
  exact c i hi
theorem RD.k {I : zI} {L : zL} {B : Nat → Nat} {S n : Nat} (h : RD I L B S n) {j : Nat} (hj : j ≤ n) : I 6 j = nI (KT B S j) := (h.2.2.1 j hj).1
theorem RD.lt {I : zI} {L : zL} {B : Nat → Nat} {S n : Nat} (h : RD I L B S n) {j : Nat} (hj : j ≤ n) (hk : KT B S j ≠ 24) : j < n := by
  rcases Nat.lt_or_ge j n with q | q
  · exact q
  · rw [show j = n by omega] at hk
    exact absurd (KT_24.mpr h.1.2.2.1) hk
theorem RD.v {I : zI} {L : zL} {B : Nat → Nat} {S n : Nat} (h : RD I L B S n) {j : Nat} (hj : j < n) (hk : KT B S j = 20) : L 8 j = lN (vN B S j) := by
  have hs := h.1.2.2.2 j hj
  rw [h.2.2.2 j hj]
  have hb : kb (B (sT B S j)) = 20 := by
    unfold KT at hk
    rw [if_neg (by omega)] at hk
    by_cases y : kb (B (sT B S j)) = 19
    · rw [if_pos y] at hk
      have := kx_le (let' B (sT B S j) (ps B S (j + 1))) 19 0 (by omega)
      omega
    · rw [if_neg y] at hk
      exact hk
  unfold tV
  rw [hb, if_neg (by omega), if_pos rfl]
  rfl
theorem RD.w {I : zI} {L : zL} {B : Nat → Nat} {S n : Nat} (h : RD I L B S n) {j : Nat} (hj : j < n) (hk : KT B S j ≤ 19) : L 8 j = wv (wN B S j) ∧ ∀ x, x ∈ wN B S j → 0 < x ∧ x < 128 := by
  have hs := h.1.2.2.2 j hj
  rw [h.2.2.2 j hj]
  have hb : kb (B (sT B S j)) = 19 := by
    unfold KT at hk
    rw [if_neg (by omega)] at hk
    by_cases y : kb (B (sT B S j)) = 19
    · exact y
    · rw [if_neg y] at hk
      have := kb_all (B (sT B S j))
      omega
  refine ⟨?_, wN_x hs hb⟩
  unfold tV
  rw [hb, if_pos rfl]
  rfl
theorem s_step {I : zI} {L : zL} {B : Nat → Nat} {S n j : Nat} (h : RD I L B S n) (hj : j < n) (h9 : I 5 9 = nI j) : zcall zZ nX4_step [.ref 5] (hp I L) = some (none, hp (zup I 5 9 (nI (j + 1))) L) := by
  have := h.1
  simp (disch := omega) only [c_X4_step, e_X4_step_0, e_X4_step_21, h9, h.2.1, Option.bind_some, Option.toList_some, Option.toList_none, List.cons_append, List.nil_append, Option.map_some, cond_true, cond_false, Bool.not_true, Bool.not_false, Bool.true_and, Bool.and_true, Bool.false_and, Bool.and_false, Bool.true_or, Bool.or_true, Bool.false_or, Bool.or_false, Bool.not_not, decide_true, decide_false, Bool.decide_eq_true, Bool.decide_eq_false, qz_0, qz_1, qz_n, qz_n0, qz_n1, qz_t, qz_f, Nat.reduceAdd, q1000000, q0, q1, q2, q3, q4, q5, q6, q7, q8, q9, q10, q11, q12, q13, q14, q15, q16, q18, q19, q20, q21, q22, q23, q24, q25, q26, q27, q28, q29, q30, q31, q32, q38, q44, q45, q48, q57, q58, q59, q60, q63, q64, q97, q122, q126, q127, q128, q255, q256, q300, q580, q600, q1000, nI_add, q_lt_t, q_lt_f, q_eq_t, q_eq_f, q_clamp, q_in_t, q_in_f]
theorem s_stepE {I : zI} {L : zL} {B : Nat → Nat} {S n : Nat} (h : RD I L B S n) (h9 : I 5 9 = nI n) : zcall zZ nX4_step [.ref 5] (hp I L) = some (none, hp I L) := by
  have := h.1
  simp (disch := omega) only [c_X4_step, e_X4_step_0, e_X4_step_21, h9, h.2.1, Option.bind_some, Option.toList_some, Option.toList_none, List.cons_append, List.nil_append, Option.map_some, cond_true, cond_false, Bool.not_true, Bool.not_false, Bool.true_and, Bool.and_true, Bool.false_and, Bool.and_false, Bool.true_or, Bool.or_true, Bool.false_or, Bool.or_false, Bool.not_not, decide_true, decide_false, Bool.decide_eq_true, Bool.decide_eq_false, qz_0, qz_1, qz_n, qz_n0, qz_n1, qz_t, qz_f, Nat.reduceAdd, q1000000, q0, q1, q2, q3, q4, q5, q6, q7, q8, q9, q10, q11, q12, q13, q14, q15, q16, q18, q19, q20, q21, q22, q23, q24, q25, q26, q27, q28, q29, q30, q31, q32, q38, q44, q45, q48, q57, q58, q59, q60, q63, q64, q97, q122, q126, q127, q128, q255, q256, q300, q580, q600, q1000, nI_add, q_lt_t, q_lt_f, q_eq_t, q_eq_f, q_clamp, q_in_t, q_in_f]
def fl (I : zI) (e s : Nat) : zI := zup (zup I 5 0 (nI e)) 5 1 (nI s)
theorem s_fail {I : zI} {L : zL} {B : Nat → Nat} {S n j : Nat} (h : RD I L B S n) (hj : j ≤ n) (h9 : I 5 9 = nI j) (e : Nat) : zcall zZ nX4_fail [.ref 5, .int (nI e)] (hp I L) = some (some (.int (nI 0)), hp (fl I e (sT B S j)) L) := by
  have := h.1
  have e7 := (h.2.2.1 j hj).2
  simp (disch := omega) only [c_X4_fail, e_X4_fail_0, h9, e7, Option.bind_some, Option.toList_some, Option.toList_none, List.cons_append, List.nil_append, Option.map_some, cond_true, cond_false, Bool.not_true, Bool.not_false, Bool.true_and, Bool.and_true, Bool.false_and, Bool.and_false, Bool.true_or, Bool.or_true, Bool.false_or, Bool.or_false, Bool.not_not, decide_true, decide_false, Bool.decide_eq_true, Bool.decide_eq_false, qz_0, qz_1, qz_n, qz_n0, qz_n1, qz_t, qz_f, Nat.reduceAdd, q1000000, q0, q1, q2, q3, q4, q5, q6, q7, q8, q9, q10, q11, q12, q13, q14, q15, q16, q18, q19, q20, q21, q22, q23, q24, q25, q26, q27, q28, q29, q30, q31, q32, q38, q44, q45, q48, q57, q58, q59, q60, q63, q64, q97, q122, q126, q127, q128, q255, q256, q300, q580, q600, q1000, nI_add, q_lt_t, q_lt_f, q_eq_t, q_eq_f, q_clamp, q_in_t, q_in_f]
  rfl
theorem s_take_y {I : zI} {L : zL} {B : Nat → Nat} {S n j : Nat} (h : RD I L B S n) (hj : j ≤ n) (h9 : I 5 9 = nI j) {k : Nat} (hk : KT B S j = k) (h24 : k ≠ 24) : zcall zZ nX4_take [.ref 5, .int (nI k)] (hp I L) = some (some (.int (nI 1)), hp (zup I 5 9 (nI (j + 1))) L) := by
  have h0 := h.1
  have e6 := h.k hj
  have hst := s_step h (h.lt hj (by omega)) h9
  rw [hk] at e6
  have := KT_le B S j
  simp (disch := omega) only [c_X4_take, e_X4_take_0, e_X4_take_23, e_X4_take_18, h9, e6, hst, Option.bind_some, Option.toList_some, Option.toList_none, List.cons_append, List.nil_append, Option.map_some, cond_true, cond_false, Bool.not_true, Bool.not_false, Bool.true_and, Bool.and_true, Bool.false_and, Bool.and_false, Bool.true_or, Bool.or_true, Bool.false_or, Bool.or_false, Bool.not_not, decide_true, decide_false, Bool.decide_eq_true, Bool.decide_eq_false, qz_0, qz_1, qz_n, qz_n0, qz_n1, qz_t, qz_f, Nat.reduceAdd, q1000000, q0, q1, q2, q3, q4, q5, q6, q7, q8, q9, q10, q11, q12, q13, q14, q15, q16, q18, q19, q20, q21, q22, q23, q24, q25, q26, q27, q28, q29, q30, q31, q32, q38, q44, q45, q48, q57, q58, q59, q60, q63, q64, q97, q122, q126, q127, q128, q255, q256, q300, q580, q600, q1000, nI_add, q_lt_t, q_lt_f, q_eq_t, q_eq_f, q_clamp, q_in_t, q_in_f]
theorem s_take_e {I : zI} {L : zL} {B : Nat → Nat} {S n : Nat} (h : RD I L B S n) (h9 : I 5 9 = nI n) : zcall zZ nX4_take [.ref 5, .int (nI 24)] (hp I L) = some (some (.int (nI 1)), hp I L) := by
  have h0 := h.1
  have e6 := h.k (Nat.le_refl n)
  have hst := s_stepE h h9
  rw [KT_24.mpr h0.2.2.1] at e6
  simp (disch := omega) only [c_X4_take, e_X4_take_0, e_X4_take_23, e_X4_take_18, h9, e6, hst, Option.bind_some, Option.toList_some, Option.toList_none, List.cons_append, List.nil_append, Option.map_some, cond_true, cond_false, Bool.not_true, Bool.not_false, Bool.true_and, Bool.and_true, Bool.false_and, Bool.and_false, Bool.true_or, Bool.or_true, Bool.false_or, Bool.or_false, Bool.not_not, decide_true, decide_false, Bool.decide_eq_true, Bool.decide_eq_false, qz_0, qz_1, qz_n, qz_n0, qz_n1, qz_t, qz_f, Nat.reduceAdd, q1000000, q0, q1, q2, q3, q4, q5, q6, q7, q8, q9, q10, q11, q12, q13, q14, q15, q16, q18, q19, q20, q21, q22, q23, q24, q25, q26, q27, q28, q29, q30, q31, q32, q38, q44, q45, q48, q57, q58, q59, q60, q63, q64, q97, q122, q126, q127, q128, q255, q256, q300, q580, q600, q1000, nI_add, q_lt_t, q_lt_f, q_eq_t, q_eq_f, q_clamp, q_in_t, q_in_f]
theorem s_take_n {I : zI} {L : zL} {B : Nat → Nat} {S n j : Nat} (h : RD I L B S n) (hj : j ≤ n) (h9 : I 5 9 = nI j) {k : Nat} (hk : KT B S j ≠ k) (hk2 : k < 100) : zcall zZ nX4_take [.ref 5, .int (nI k)] (hp I L) = some (some (.int (nI 0)), hp (fl I 1 (sT B S j)) L) := by
  have h0 := h.1
  have e6 := h.k hj
  have hf := s_fail h hj h9 1
  have := KT_le B S j
  simp (disch := omega) only [c_X4_take, e_X4_take_0, e_X4_take_23, e_X4_take_18, h9, e6, hf, Option.bind_some, Option.toList_some, Option.toList_none, List.cons_append, List.nil_append, Option.map_some, cond_true, cond_false, Bool.not_true, Bool.not_false, Bool.true_and, Bool.and_true, Bool.false_and, Bool.and_false, Bool.true_or, Bool.or_true, Bool.false_or, Bool.or_false, Bool.not_not, decide_true, decide_false, Bool.decide_eq_true, Bool.decide_eq_false, qz_0, qz_1, qz_n, qz_n0, qz_n1, qz_t, qz_f, Nat.reduceAdd, q1000000, q0, q1, q2, q3, q4, q5, q6, q7, q8, q9, q10, q11, q12, q13, q14, q15, q16, q18, q19, q20, q21, q22, q23, q24, q25, q26, q27, q28, q29, q30, q31, q32, q38, q44, q45, q48, q57, q58, q59, q60, q63, q64, q97, q122, q126, q127, q128, q255, q256, q300, q580, q600, q1000, nI_add, q_lt_t, q_lt_f, q_eq_t, q_eq_f, q_clamp, q_in_t, q_in_f]
theorem s_see_1 {I : zI} {L : zL} {B : Nat → Nat} {S n j : Nat} (h : RD I L B S n) (hj : j ≤ n) (h9 : I 5 9 = nI j) (hk : KT B S j ≠ 20) (x y : Int32) : zcall zZ nX4_seeNumber [.ref 5, .int x, .int y] (hp I L) = some (some (.int (nI 0)), hp (fl I 1 (sT B S j)) L) := by
  have h0 := h.1
  have e6 := h.k hj
  have hf := s_fail h hj h9 1
  have := KT_le B S j
  simp (disch := omega) only [c_X4_seeNumber, e_X4_seeNumber_0, e_X4_seeNumber_50, e_X4_seeNumber_58, e_X4_seeNumber_19, e_X4_seeNumber_55, e_X4_seeNumber_63, h9, e6, hf, Option.bind_some, Option.toList_some, Option.toList_none, List.cons_append, List.nil_append, Option.map_some, cond_true, cond_false, Bool.not_true, Bool.not_false, Bool.true_and, Bool.and_true, Bool.false_and, Bool.and_false, Bool.true_or, Bool.or_true, Bool.false_or, Bool.or_false, Bool.not_not, decide_true, decide_false, Bool.decide_eq_true, Bool.decide_eq_false, qz_0, qz_1, qz_n, qz_n0, qz_n1, qz_t, qz_f, Nat.reduceAdd, q1000000, q0, q1, q2, q3, q4, q5, q6, q7, q8, q9, q10, q11, q12, q13, q14, q15, q16, q18, q19, q20, q21, q22, q23, q24, q25, q26, q27, q28, q29, q30, q31, q32, q38, q44, q45, q48, q57, q58, q59, q60, q63, q64, q97, q122, q126, q127, q128, q255, q256, q300, q580, q600, q1000, nI_add, q_lt_t, q_lt_f, q_eq_t, q_eq_f, q_clamp, q_in_t, q_in_f]
theorem s_see_2 {I : zI} {L : zL} {B : Nat → Nat} {S n j : Nat} (h : RD I L B S n) (hj : j ≤ n) (h9 : I 5 9 = nI j) (hk : KT B S j = 20) {a b : Nat} (ha : a < 2000) (hb : b < 2000) (hv : vN B S j < a ∨ b < vN B S j) : zcall zZ nX4_seeNumber [.ref 5, .int (nI a), .int (nI b)] (hp I L) = some (some (.int (nI 0)), hp (fl I 2 (sT B S j)) L) := by
  have h0 := h.1
  have e6 := h.k hj
  have hf := s_fail h hj h9 2
  have ev := h.v (h.lt hj (by omega)) hk
  have hv1 := vN_le B S j
  rw [hk] at e6
  have ea : (nI a).toInt64 = lN a := nI_l (by omega)
  have eb : (nI b).toInt64 = lN b := nI_l (by omega)
  have c1 : (lg_cmp (lN (vN B S j)) (lN a) < nI 0) = (vN B S j < a) := propext ((lg_cmp_lt _ _).trans (lN_lt (by omega) (by omega)))
  have c2 : (nI 0 < lg_cmp (lN (vN B S j)) (lN b)) = (b < vN B S j) := propext ((lg_cmp_gt _ _).trans (lN_lt (by omega) (by omega)))
  by_cases z : vN B S j < a
  · rw [eq_true z] at c1
    simp (disch := omega) only [c_X4_seeNumber, e_X4_seeNumber_0, e_X4_seeNumber_50, e_X4_seeNumber_58, e_X4_seeNumber_19, e_X4_seeNumber_55, e_X4_seeNumber_63, h9, e6, ev, ea, eb, c1, hf, Option.bind_some, Option.toList_some, Option.toList_none, List.cons_append, List.nil_append, Option.map_some, cond_true, cond_false, Bool.not_true, Bool.not_false, Bool.true_and, Bool.and_true, Bool.false_and, Bool.and_false, Bool.true_or, Bool.or_true, Bool.false_or, Bool.or_false, Bool.not_not, decide_true, decide_false, Bool.decide_eq_true, Bool.decide_eq_false, qz_0, qz_1, qz_n, qz_n0, qz_n1, qz_t, qz_f, Nat.reduceAdd, q1000000, q0, q1, q2, q3, q4, q5, q6, q7, q8, q9, q10, q11, q12, q13, q14, q15, q16, q18, q19, q20, q21, q22, q23, q24, q25, q26, q27, q28, q29, q30, q31, q32, q38, q44, q45, q48, q57, q58, q59, q60, q63, q64, q97, q122, q126, q127, q128, q255, q256, q300, q580, q600, q1000, nI_add, q_lt_t, q_lt_f, q_eq_t, q_eq_f, q_clamp, q_in_t, q_in_f]
  · rw [eq_false z] at c1
    rw [eq_true (show b < vN B S j by omega)] at c2
    simp (disch := omega) only [c_X4_seeNumber, e_X4_seeNumber_0, e_X4_seeNumber_50, e_X4_seeNumber_58, e_X4_seeNumber_19, e_X4_seeNumber_55, e_X4_seeNumber_63, h9, e6, ev, ea, eb, c1, c2, hf, Option.bind_some, Option.toList_some, Option.toList_none, List.cons_append, List.nil_append, Option.map_some, cond_true, cond_false, Bool.not_true, Bool.not_false, Bool.true_and, Bool.and_true, Bool.false_and, Bool.and_false, Bool.true_or, Bool.or_true, Bool.false_or, Bool.or_false, Bool.not_not, decide_true, decide_false, Bool.decide_eq_true, Bool.decide_eq_false, qz_0, qz_1, qz_n, qz_n0, qz_n1, qz_t, qz_f, Nat.reduceAdd, q1000000, q0, q1, q2, q3, q4, q5, q6, q7, q8, q9, q10, q11, q12, q13, q14, q15, q16, q18, q19, q20, q21, q22, q23, q24, q25, q26, q27, q28, q29, q30, q31, q32, q38, q44, q45, q48, q57, q58, q59, q60, q63, q64, q97, q122, q126, q127, q128, q255, q256, q300, q580, q600, q1000, nI_add, q_lt_t, q_lt_f, q_eq_t, q_eq_f, q_clamp, q_in_t, q_in_f]
theorem s_see_y {I : zI} {L : zL} {B : Nat → Nat} {S n j : Nat} (h : RD I L B S n) (hj : j ≤ n) (h9 : I 5 9 = nI j) (hk : KT B S j = 20) {a b : Nat} (ha : a < 2000) (hb : b < 2000) (hv : a ≤ vN B S j ∧ vN B S j ≤ b) : zcall zZ nX4_seeNumber [.ref 5, .int (nI a), .int (nI b)] (hp I L) = some (some (.int (nI 1)), hp I L) := by
  have h0 := h.1
  have e6 := h.k hj
  have ev := h.v (h.lt hj (by omega)) hk
  have hv1 := vN_le B S j
  rw [hk] at e6
  have ea : (nI a).toInt64 = lN a := nI_l (by omega)
  have eb : (nI b).toInt64 = lN b := nI_l (by omega)
  have c1 : (lg_cmp (lN (vN B S j)) (lN a) < nI 0) = (vN B S j < a) := propext ((lg_cmp_lt _ _).trans (lN_lt (by omega) (by omega)))
  have c2 : (nI 0 < lg_cmp (lN (vN B S j)) (lN b)) = (b < vN B S j) := propext ((lg_cmp_gt _ _).trans (lN_lt (by omega) (by omega)))
  rw [eq_false (show ¬ vN B S j < a by omega)] at c1
  rw [eq_false (show ¬ b < vN B S j by omega)] at c2
  simp (disch := omega) only [c_X4_seeNumber, e_X4_seeNumber_0, e_X4_seeNumber_50, e_X4_seeNumber_58, e_X4_seeNumber_19, e_X4_seeNumber_55, e_X4_seeNumber_63, h9, e6, ev, ea, eb, c1, c2, Option.bind_some, Option.toList_some, Option.toList_none, List.cons_append, List.nil_append, Option.map_some, cond_true, cond_false, Bool.not_true, Bool.not_false, Bool.true_and, Bool.and_true, Bool.false_and, Bool.and_false, Bool.true_or, Bool.or_true, Bool.false_or, Bool.or_false, Bool.not_not, decide_true, decide_false, Bool.decide_eq_true, Bool.decide_eq_false, qz_0, qz_1, qz_n, qz_n0, qz_n1, qz_t, qz_f, Nat.reduceAdd, q1000000, q0, q1, q2, q3, q4, q5, q6, q7, q8, q9, q10, q11, q12, q13, q14, q15, q16, q18, q19, q20, q21, q22, q23, q24, q25, q26, q27, q28, q29, q30, q31, q32, q38, q44, q45, q48, q57, q58, q59, q60, q63, q64, q97, q122, q126, q127, q128, q255, q256, q300, q580, q600, q1000, nI_add, q_lt_t, q_lt_f, q_eq_t, q_eq_f, q_clamp, q_in_t, q_in_f]
def isW (k : Nat) : Bool := decide (12 ≤ k) && decide (k < 19)
theorem s_isW {I : zI} {L : zL} {B : Nat → Nat} {S n j : Nat} (h : RD I L B S n) (hj : j ≤ n) (h9 : I 5 9 = nI j) : zcall zZ nX4_isWeekday [.ref 5] (hp I L) = some (some (.int (zbo (isW (KT B S j)))), hp I L) := by
  have h0 := h.1
  have e6 := h.k hj
  have := KT_le B S j
  unfold isW
  by_cases z : 12 ≤ KT B S j
  · by_cases y : KT B S j < 19
    · rw [decide_eq_true z, decide_eq_true y]
      simp (disch := omega) only [c_X4_isWeekday, e_X4_isWeekday_0, e_X4_isWeekday_32, e_X4_isWeekday_33, h9, e6, Option.bind_some, Option.toList_some, Option.toList_none, List.cons_append, List.nil_append, Option.map_some, cond_true, cond_false, Bool.not_true, Bool.not_false, Bool.true_and, Bool.and_true, Bool.false_and, Bool.and_false, Bool.true_or, Bool.or_true, Bool.false_or, Bool.or_false, Bool.not_not, decide_true, decide_false, Bool.decide_eq_true, Bool.decide_eq_false, qz_0, qz_1, qz_n, qz_n0, qz_n1, qz_t, qz_f, Nat.reduceAdd, q1000000, q0, q1, q2, q3, q4, q5, q6, q7, q8, q9, q10, q11, q12, q13, q14, q15, q16, q18, q19, q20, q21, q22, q23, q24, q25, q26, q27, q28, q29, q30, q31, q32, q38, q44, q45, q48, q57, q58, q59, q60, q63, q64, q97, q122, q126, q127, q128, q255, q256, q300, q580, q600, q1000, nI_add, q_lt_t, q_lt_f, q_eq_t, q_eq_f, q_clamp, q_in_t, q_in_f]
    · rw [decide_eq_true z, decide_eq_false y]
      simp (disch := omega) only [c_X4_isWeekday, e_X4_isWeekday_0, e_X4_isWeekday_32, e_X4_isWeekday_33, h9, e6, Option.bind_some, Option.toList_some, Option.toList_none, List.cons_append, List.nil_append, Option.map_some, cond_true, cond_false, Bool.not_true, Bool.not_false, Bool.true_and, Bool.and_true, Bool.false_and, Bool.and_false, Bool.true_or, Bool.or_true, Bool.false_or, Bool.or_false, Bool.not_not, decide_true, decide_false, Bool.decide_eq_true, Bool.decide_eq_false, qz_0, qz_1, qz_n, qz_n0, qz_n1, qz_t, qz_f, Nat.reduceAdd, q1000000, q0, q1, q2, q3, q4, q5, q6, q7, q8, q9, q10, q11, q12, q13, q14, q15, q16, q18, q19, q20, q21, q22, q23, q24, q25, q26, q27, q28, q29, q30, q31, q32, q38, q44, q45, q48, q57, q58, q59, q60, q63, q64, q97, q122, q126, q127, q128, q255, q256, q300, q580, q600, q1000, nI_add, q_lt_t, q_lt_f, q_eq_t, q_eq_f, q_clamp, q_in_t, q_in_f]
  · rw [decide_eq_false z]
    simp (disch := omega) only [c_X4_isWeekday, e_X4_isWeekday_0, e_X4_isWeekday_32, e_X4_isWeekday_33, h9, e6, Option.bind_some, Option.toList_some, Option.toList_none, List.cons_append, List.nil_append, Option.map_some, cond_true, cond_false, Bool.not_true, Bool.not_false, Bool.true_and, Bool.and_true, Bool.false_and, Bool.and_false, Bool.true_or, Bool.or_true, Bool.false_or, Bool.or_false, Bool.not_not, decide_true, decide_false, Bool.decide_eq_true, Bool.decide_eq_false, qz_0, qz_1, qz_n, qz_n0, qz_n1, qz_t, qz_f, Nat.reduceAdd, q1000000, q0, q1, q2, q3, q4, q5, q6, q7, q8, q9, q10, q11, q12, q13, q14, q15, q16, q18, q19, q20, q21, q22, q23, q24, q25, q26, q27, q28, q29, q30, q31, q32, q38, q44, q45, q48, q57, q58, q59, q60, q63, q64, q97, q122, q126, q127, q128, q255, q256, q300, q580, q600, q1000, nI_add, q_lt_t, q_lt_f, q_eq_t, q_eq_f, q_clamp, q_in_t, q_in_f]
