/-! the reference's merges, over its own cells -/
def mtm (J : zI) (t k : Nat) : Bool := decide (J 53 (26 + t) = J 53 (26 + k)) && decide (J 53 (32 + t) = J 53 (32 + k))
theorem s_joined2 {J : zI} {L : zL} {t k : Nat} (ht : t < 6) (hk : k < 6) : zcall zZ nX10_isJoined [.ref 52, .int (nI t), .int (nI k)] (hp J L) = some (some (.int (zbo (mtm J t k))), hp J L) := by
  unfold mtm
  by_cases q : J 53 (26 + t) = J 53 (26 + k)
  · by_cases p : J 53 (32 + t) = J 53 (32 + k)
    · simp (disch := omega) only [c_X10_isJoined, e_X10_isJoined_0, e_X10_isJoined_46, e_X10_isJoined_42, e_X10_isJoined_47, q, p, Option.bind_some, Option.toList_some, Option.toList_none, List.cons_append, List.nil_append, Option.map_some, cond_true, cond_false, Bool.not_true, Bool.not_false, Bool.true_and, Bool.and_true, Bool.false_and, Bool.and_false, Bool.true_or, Bool.or_true, Bool.false_or, Bool.or_false, Bool.not_not, decide_true, decide_false, Bool.decide_eq_true, Bool.decide_eq_false, qz_0, qz_1, qz_n, qz_n0, qz_n1, qz_t, qz_f, Nat.reduceAdd, q0, q1, q2, q3, q4, q5, q6, q7, q8, q9, q10, q11, q12, q13, q14, q15, q16, q18, q19, q20, q21, q22, q23, q24, q25, q26, q27, q28, q29, q30, q31, q32, q38, q44, q45, q48, q57, q58, q59, q60, q63, q64, q97, q122, q126, q127, q128, q255, q256, q300, q580, q600, q1000, nI_add, q_lt_t, q_lt_f, q_eq_t, q_eq_f, q_clamp, q_in_t, q_in_f]
    · simp (disch := omega) only [c_X10_isJoined, e_X10_isJoined_0, e_X10_isJoined_46, e_X10_isJoined_42, e_X10_isJoined_47, q, p, Option.bind_some, Option.toList_some, Option.toList_none, List.cons_append, List.nil_append, Option.map_some, cond_true, cond_false, Bool.not_true, Bool.not_false, Bool.true_and, Bool.and_true, Bool.false_and, Bool.and_false, Bool.true_or, Bool.or_true, Bool.false_or, Bool.or_false, Bool.not_not, decide_true, decide_false, Bool.decide_eq_true, Bool.decide_eq_false, qz_0, qz_1, qz_n, qz_n0, qz_n1, qz_t, qz_f, Nat.reduceAdd, q0, q1, q2, q3, q4, q5, q6, q7, q8, q9, q10, q11, q12, q13, q14, q15, q16, q18, q19, q20, q21, q22, q23, q24, q25, q26, q27, q28, q29, q30, q31, q32, q38, q44, q45, q48, q57, q58, q59, q60, q63, q64, q97, q122, q126, q127, q128, q255, q256, q300, q580, q600, q1000, nI_add, q_lt_t, q_lt_f, q_eq_t, q_eq_f, q_clamp, q_in_t, q_in_f]
  · simp (disch := omega) only [c_X10_isJoined, e_X10_isJoined_0, e_X10_isJoined_46, e_X10_isJoined_42, e_X10_isJoined_47, q, Option.bind_some, Option.toList_some, Option.toList_none, List.cons_append, List.nil_append, Option.map_some, cond_true, cond_false, Bool.not_true, Bool.not_false, Bool.true_and, Bool.and_true, Bool.false_and, Bool.and_false, Bool.true_or, Bool.or_true, Bool.false_or, Bool.or_false, Bool.not_not, decide_true, decide_false, Bool.decide_eq_true, Bool.decide_eq_false, qz_0, qz_1, qz_n, qz_n0, qz_n1, qz_t, qz_f, Nat.reduceAdd, q0, q1, q2, q3, q4, q5, q6, q7, q8, q9, q10, q11, q12, q13, q14, q15, q16, q18, q19, q20, q21, q22, q23, q24, q25, q26, q27, q28, q29, q30, q31, q32, q38, q44, q45, q48, q57, q58, q59, q60, q63, q64, q97, q122, q126, q127, q128, q255, q256, q300, q580, q600, q1000, nI_add, q_lt_t, q_lt_f, q_eq_t, q_eq_f, q_clamp, q_in_t, q_in_f]
theorem s_runs2 {J : zI} {L : zL} {t : Nat} (h : t < 6) : zcall zZ nX10_runsOf [.ref 52, .int (nI t)] (hp J L) = some (some (.int (J 53 (38 + t))), hp J L) := by
  simp (disch := omega) only [c_X10_runsOf, e_X10_runsOf_0, Option.bind_some, Option.toList_some, Option.toList_none, List.cons_append, List.nil_append, Option.map_some, cond_true, cond_false, Bool.not_true, Bool.not_false, Bool.true_and, Bool.and_true, Bool.false_and, Bool.and_false, Bool.true_or, Bool.or_true, Bool.false_or, Bool.or_false, Bool.not_not, decide_true, decide_false, Bool.decide_eq_true, Bool.decide_eq_false, qz_0, qz_1, qz_n, qz_n0, qz_n1, qz_t, qz_f, Nat.reduceAdd, q0, q1, q2, q3, q4, q5, q6, q7, q8, q9, q10, q11, q12, q13, q14, q15, q16, q18, q19, q20, q21, q22, q23, q24, q25, q26, q27, q28, q29, q30, q31, q32, q38, q44, q45, q48, q57, q58, q59, q60, q63, q64, q97, q122, q126, q127, q128, q255, q256, q300, q580, q600, q1000, nI_add, q_lt_t, q_lt_f, q_eq_t, q_eq_f, q_clamp, q_in_t, q_in_f]
theorem mtm_self (J : zI) (t : Nat) : mtm J t t = true := by
  unfold mtm
  rw [decide_eq_true rfl, decide_eq_true rfl]
  rfl
theorem joinOf2_loop {J : zI} {L : zL} {t : Nat} (ht : t < 6) : ∀ m j, j + m = t → zrun zZ kX10_joinOf (2, [some (.ref 52), some (.int (nI t)), some (.int (nI j))], [], hp J L, 0, 0) = some (some (.int (nI (ldF (mtm J t) j m))), hp J L, 0, 0)
  | 0, j, h => by
    obtain rfl : j = t := h
    have h2 := mtm_self J j
    rw [e_X10_joinOf_2]
    simp (disch := omega) only [e_X10_joinOf_8, s_joined2 ht ht, h2, Option.bind_some, Option.toList_some, Option.toList_none, List.cons_append, List.nil_append, Option.map_some, cond_true, cond_false, Bool.not_true, Bool.not_false, Bool.true_and, Bool.and_true, Bool.false_and, Bool.and_false, Bool.true_or, Bool.or_true, Bool.false_or, Bool.or_false, Bool.not_not, decide_true, decide_false, Bool.decide_eq_true, Bool.decide_eq_false, qz_0, qz_1, qz_n, qz_n0, qz_n1, qz_t, qz_f, Nat.reduceAdd, q0, q1, q2, q3, q4, q5, q6, q7, q8, q9, q10, q11, q12, q13, q14, q15, q16, q18, q19, q20, q21, q22, q23, q24, q25, q26, q27, q28, q29, q30, q31, q32, q38, q44, q45, q48, q57, q58, q59, q60, q63, q64, q97, q122, q126, q127, q128, q255, q256, q300, q580, q600, q1000, nI_add, q_lt_t, q_lt_f, q_eq_t, q_eq_f, q_clamp, q_in_t, q_in_f, ldF]
  | m + 1, j, h => by
    have ih := joinOf2_loop (J := J) (L := L) ht m (j + 1) (by omega)
    rw [e_X10_joinOf_2]
    unfold ldF
    cases h2 : mtm J t j <;> simp (disch := omega) only [e_X10_joinOf_8, s_joined2 ht (show j < 6 by omega), h2, Option.bind_some, Option.toList_some, Option.toList_none, List.cons_append, List.nil_append, Option.map_some, cond_true, cond_false, Bool.not_true, Bool.not_false, Bool.true_and, Bool.and_true, Bool.false_and, Bool.and_false, Bool.true_or, Bool.or_true, Bool.false_or, Bool.or_false, Bool.not_not, decide_true, decide_false, Bool.decide_eq_true, Bool.decide_eq_false, qz_0, qz_1, qz_n, qz_n0, qz_n1, qz_t, qz_f, Nat.reduceAdd, q0, q1, q2, q3, q4, q5, q6, q7, q8, q9, q10, q11, q12, q13, q14, q15, q16, q18, q19, q20, q21, q22, q23, q24, q25, q26, q27, q28, q29, q30, q31, q32, q38, q44, q45, q48, q57, q58, q59, q60, q63, q64, q97, q122, q126, q127, q128, q255, q256, q300, q580, q600, q1000, nI_add, q_lt_t, q_lt_f, q_eq_t, q_eq_f, q_clamp, q_in_t, q_in_f]
    exact ih
theorem s_joinOf2 {J : zI} {L : zL} {t : Nat} (ht : t < 6) : zcall zZ nX10_joinOf [.ref 52, .int (nI t)] (hp J L) = some (some (.int (nI (ldF (mtm J t) 0 t))), hp J L) := by
  have h := joinOf2_loop (J := J) (L := L) ht t 0 (by omega)
  simp (disch := omega) only [c_X10_joinOf, e_X10_joinOf_0, e_X10_joinOf_8, Option.bind_some, Option.toList_some, Option.toList_none, List.cons_append, List.nil_append, Option.map_some, cond_true, cond_false, Bool.not_true, Bool.not_false, Bool.true_and, Bool.and_true, Bool.false_and, Bool.and_false, Bool.true_or, Bool.or_true, Bool.false_or, Bool.or_false, Bool.not_not, decide_true, decide_false, Bool.decide_eq_true, Bool.decide_eq_false, qz_0, qz_1, qz_n, qz_n0, qz_n1, qz_t, qz_f, Nat.reduceAdd, q0, q1, q2, q3, q4, q5, q6, q7, q8, q9, q10, q11, q12, q13, q14, q15, q16, q18, q19, q20, q21, q22, q23, q24, q25, q26, q27, q28, q29, q30, q31, q32, q38, q44, q45, q48, q57, q58, q59, q60, q63, q64, q97, q122, q126, q127, q128, q255, q256, q300, q580, q600, q1000, nI_add, q_lt_t, q_lt_f, q_eq_t, q_eq_f, q_clamp, q_in_t, q_in_f, h]
theorem jointM2_loop {J : zI} {L : zL} {T t : Nat} (hT : T ≤ 6) (h3 : J 53 3 = nI T) (ht : t < T) : ∀ m j x, j + m = T → zrun zZ kX10_jointOf (8, [some (.ref 52), some (.int (nI t)), some (.int (nI 0)), some (.int (onF (mtm J t) (fun u => J 53 (38 + u)) j)), some (.int x), some (.int (nI j))], [], hp J L, 0, 0) = some (some (.int (onF (mtm J t) (fun u => J 53 (38 + u)) T)), hp J L, 0, 0)
  | 0, j, x, h => by
    obtain rfl : j = T := h
    rw [e_X10_jointOf_8]
    simp (disch := omega) only [e_X10_jointOf_67, h3, Option.bind_some, Option.toList_some, Option.toList_none, List.cons_append, List.nil_append, Option.map_some, cond_true, cond_false, Bool.not_true, Bool.not_false, Bool.true_and, Bool.and_true, Bool.false_and, Bool.and_false, Bool.true_or, Bool.or_true, Bool.false_or, Bool.or_false, Bool.not_not, decide_true, decide_false, Bool.decide_eq_true, Bool.decide_eq_false, qz_0, qz_1, qz_n, qz_n0, qz_n1, qz_t, qz_f, Nat.reduceAdd, q0, q1, q2, q3, q4, q5, q6, q7, q8, q9, q10, q11, q12, q13, q14, q15, q16, q18, q19, q20, q21, q22, q23, q24, q25, q26, q27, q28, q29, q30, q31, q32, q38, q44, q45, q48, q57, q58, q59, q60, q63, q64, q97, q122, q126, q127, q128, q255, q256, q300, q580, q600, q1000, nI_add, q_lt_t, q_lt_f, q_eq_t, q_eq_f, q_clamp, q_in_t, q_in_f]
  | m + 1, j, x, h => by
    have ih := fun x => jointM2_loop (L := L) hT h3 ht m (j + 1) x (by omega)
    rw [onF_s] at ih
    rw [e_X10_jointOf_8]
    cases h2 : mtm J t j <;> rw [h2] at ih <;> simp (disch := omega) only [e_X10_jointOf_26, e_X10_jointOf_51, e_X10_jointOf_38, e_X10_jointOf_49, h3, s_joined2, s_runs2, h2, Option.bind_some, Option.toList_some, Option.toList_none, List.cons_append, List.nil_append, Option.map_some, cond_true, cond_false, Bool.not_true, Bool.not_false, Bool.true_and, Bool.and_true, Bool.false_and, Bool.and_false, Bool.true_or, Bool.or_true, Bool.false_or, Bool.or_false, Bool.not_not, decide_true, decide_false, Bool.decide_eq_true, Bool.decide_eq_false, qz_0, qz_1, qz_n, qz_n0, qz_n1, qz_t, qz_f, Nat.reduceAdd, q0, q1, q2, q3, q4, q5, q6, q7, q8, q9, q10, q11, q12, q13, q14, q15, q16, q18, q19, q20, q21, q22, q23, q24, q25, q26, q27, q28, q29, q30, q31, q32, q38, q44, q45, q48, q57, q58, q59, q60, q63, q64, q97, q122, q126, q127, q128, q255, q256, q300, q580, q600, q1000, nI_add, q_lt_t, q_lt_f, q_eq_t, q_eq_f, q_clamp, q_in_t, q_in_f] <;> exact ih _
theorem s_jointM2 {J : zI} {L : zL} {T t : Nat} (hT : T ≤ 6) (h3 : J 53 3 = nI T) (ht : t < T) : zcall zZ nX10_jointOf [.ref 52, .int (nI t), .int (nI 0)] (hp J L) = some (some (.int (onF (mtm J t) (fun u => J 53 (38 + u)) T)), hp J L) := by
  have h := jointM2_loop (L := L) hT h3 ht T 0 (nI 0) (by omega)
  rw [show onF (mtm J t) (fun u => J 53 (38 + u)) 0 = nI 0 from rfl] at h
  simp (disch := omega) only [c_X10_jointOf, e_X10_jointOf_0, q0, q1, q2, q3, q4, q5, q6, q7, q8, q9, q10, q11, q12, q13, q14, q15, q16, q18, q19, q20, q21, q22, q23, q24, q25, q26, q27, q28, q29, q30, q31, q32, q38, q44, q45, q48, q57, q58, q59, q60, q63, q64, q97, q122, q126, q127, q128, q255, q256, q300, q580, q600, q1000, nI_add, q_lt_t, q_lt_f, q_eq_t, q_eq_f, q_clamp, q_in_t, q_in_f]
  rw [h]
  rfl
theorem mergesM_in {L : zL} {T t : Nat} (hT : T ≤ 6) (ht : t < T) (c d : Int32) (mt : Nat → Bool) : ∀ m o (J : zI), o + m = T → t < o → J 53 3 = nI T → (∀ u, u < T → mtm J t u = mt u) → ∃ J', zrun zZ kX10_merges (108, [some (.ref 52), some (.int c), some (.int (nI t)), some (.int d), some (.int (nI o))], [], hp J L, 0, 0) = zrun zZ kX10_merges (165, [some (.ref 52), some (.int c), some (.int (nI t)), none, none], [], hp J' L, 0, 0) ∧ (∀ u, u < T → o ≤ u → J' 53 (38 + u) = cond (mt u) (nI 0) (J 53 (38 + u))) ∧ J' 53 (38 + t) = d ∧ (∀ x y, (x ≠ 53 ∨ (y ≠ 38 + t ∧ (y < 38 + o ∨ 38 + T ≤ y))) → J' x y = J x y)
  | 0, o, J, h, h1, h3, hm => by
    obtain rfl : o = T := h
    refine ⟨zup J 53 (38 + t) d, ?_, fun u g1 g2 => by omega, zu_same _ _ _ _, fun x y g => ?_⟩
    · rw [e_X10_merges_108]
      simp (disch := omega) only [h3, Option.bind_some, Option.toList_some, Option.toList_none, List.cons_append, List.nil_append, Option.map_some, cond_true, cond_false, Bool.not_true, Bool.not_false, Bool.true_and, Bool.and_true, Bool.false_and, Bool.and_false, Bool.true_or, Bool.or_true, Bool.false_or, Bool.or_false, Bool.not_not, decide_true, decide_false, Bool.decide_eq_true, Bool.decide_eq_false, qz_0, qz_1, qz_n, qz_n0, qz_n1, qz_t, qz_f, Nat.reduceAdd, q0, q1, q2, q3, q4, q5, q6, q7, q8, q9, q10, q11, q12, q13, q14, q15, q16, q18, q19, q20, q21, q22, q23, q24, q25, q26, q27, q28, q29, q30, q31, q32, q38, q44, q45, q48, q57, q58, q59, q60, q63, q64, q97, q122, q126, q127, q128, q255, q256, q300, q580, q600, q1000, nI_add, q_lt_t, q_lt_f, q_eq_t, q_eq_f, q_clamp, q_in_t, q_in_f]
    · by_cases q : x = 53
      · rw [zu_at (by omega)]
      · rw [zu_cell q]
  | m + 1, o, J, h, h1, h3, hm => by
    have em := hm o (by omega)
    have key : ∀ v, (v = cond (mt o) (nI 0) (J 53 (38 + o))) → zrun zZ kX10_merges (108, [some (.ref 52), some (.int c), some (.int (nI t)), some (.int d), some (.int (nI o))], [], hp J L, 0, 0) = zrun zZ kX10_merges (108, [some (.ref 52), some (.int c), some (.int (nI t)), some (.int d), some (.int (nI (o + 1)))], [], hp (zup J 53 (38 + o) v) L, 0, 0) := by
      intro v hv
      rw [e_X10_merges_108]
      cases hq : mt o with
      | false =>
        rw [hq] at hv em
        have hv : v = J 53 (38 + o) := hv
        simp (disch := omega) only [e_X10_merges_135, e_X10_merges_148, h3, s_joined2, s_runs2, em, Option.bind_some, Option.toList_some, Option.toList_none, List.cons_append, List.nil_append, Option.map_some, cond_true, cond_false, Bool.not_true, Bool.not_false, Bool.true_and, Bool.and_true, Bool.false_and, Bool.and_false, Bool.true_or, Bool.or_true, Bool.false_or, Bool.or_false, Bool.not_not, decide_true, decide_false, Bool.decide_eq_true, Bool.decide_eq_false, qz_0, qz_1, qz_n, qz_n0, qz_n1, qz_t, qz_f, Nat.reduceAdd, q0, q1, q2, q3, q4, q5, q6, q7, q8, q9, q10, q11, q12, q13, q14, q15, q16, q18, q19, q20, q21, q22, q23, q24, q25, q26, q27, q28, q29, q30, q31, q32, q38, q44, q45, q48, q57, q58, q59, q60, q63, q64, q97, q122, q126, q127, q128, q255, q256, q300, q580, q600, q1000, nI_add, q_lt_t, q_lt_f, q_eq_t, q_eq_f, q_clamp, q_in_t, q_in_f, hv]
      | true =>
        rw [hq] at hv em
        have hv : v = nI 0 := hv
        simp (disch := omega) only [e_X10_merges_135, e_X10_merges_148, h3, s_joined2, s_runs2, em, Option.bind_some, Option.toList_some, Option.toList_none, List.cons_append, List.nil_append, Option.map_some, cond_true, cond_false, Bool.not_true, Bool.not_false, Bool.true_and, Bool.and_true, Bool.false_and, Bool.and_false, Bool.true_or, Bool.or_true, Bool.false_or, Bool.or_false, Bool.not_not, decide_true, decide_false, Bool.decide_eq_true, Bool.decide_eq_false, qz_0, qz_1, qz_n, qz_n0, qz_n1, qz_t, qz_f, Nat.reduceAdd, q0, q1, q2, q3, q4, q5, q6, q7, q8, q9, q10, q11, q12, q13, q14, q15, q16, q18, q19, q20, q21, q22, q23, q24, q25, q26, q27, q28, q29, q30, q31, q32, q38, q44, q45, q48, q57, q58, q59, q60, q63, q64, q97, q122, q126, q127, q128, q255, q256, q300, q580, q600, q1000, nI_add, q_lt_t, q_lt_f, q_eq_t, q_eq_f, q_clamp, q_in_t, q_in_f, hv]
    obtain ⟨J', k1, k2, k3, k4⟩ := mergesM_in (L := L) hT ht c d mt m (o + 1) (zup J 53 (38 + o) (cond (mt o) (nI 0) (J 53 (38 + o)))) (by omega) (by omega) (by rw [zu_at (by omega)]; exact h3) (fun u hu => by
      rw [← hm u hu]
      unfold mtm
      rw [zu_at (by omega), zu_at (by omega), zu_at (by omega), zu_at (by omega)])
    refine ⟨J', (key _ rfl).trans k1, fun u g1 g2 => ?_, k3, fun x y g => ?_⟩
    · rcases Nat.lt_or_ge o u with q | q
      · rw [k2 u g1 (by omega), zu_at (by omega)]
      · obtain rfl : u = o := by omega
        rw [k4 53 (38 + u) (by omega), zu_same]
    · rw [k4 x y (by omega)]
      by_cases q : x = 53
      · rw [zu_at (by omega)]
      · rw [zu_cell q]
theorem cnt_step (f : Nat → Bool) {a b : Nat} (h : a ≤ b) : cnt f a ≤ cnt f b := by
  induction h with
  | refl => exact Nat.le_refl _
  | step _ ih => exact Nat.le_trans ih (Nat.le_add_right _ _)
theorem ldF_cg {f g : Nat → Bool} : ∀ m j, (∀ i, j ≤ i → i < j + m → f i = g i) → ldF f j m = ldF g j m
  | 0, _, _ => rfl
  | m + 1, j, h => by
    unfold ldF
    rw [h j (by omega) (by omega), ldF_cg m (j + 1) (fun i h1 h2 => h i (by omega) (by omega))]
theorem onF_cg2 {f g : Nat → Bool} {r r' : Nat → Int32} : ∀ n, (∀ u, u < n → f u = g u) → (∀ u, u < n → f u = true → r u = r' u) → onF f r n = onF g r' n
  | 0, _, _ => rfl
  | n + 1, h1, h2 => by
    rw [onF_s, onF_s, onF_cg2 n (fun u hu => h1 u (by omega)) (fun u hu => h2 u (by omega)), ← h1 n (by omega)]
    cases hf : f n with
    | false => rfl
    | true => rw [h2 n (by omega) hf]
/-- the reference: trains below k are left; I is how it was -/
theorem mergesM_loop {I : zI} {L : zL} {N w F T ln A : Nat} (D : DK I L N w F T ln) (hA : A < 20) : ∀ k (J : zI), k ≤ T → (∀ b, b < 38 → J 53 b = I 53 b) → J 52 3 = nI (A + 1) → (∀ t, t < T → J 55 (6 * A + t) = I 17 t) → (∀ u, u < T → J 53 (38 + u) = if k ≤ ld I u then mgF I T u else I 17 u) → ∃ J', zrun zZ kX10_merges (39, [some (.ref 52), some (.int (nI (cnt (fun t => !decide (mgF I T t = I 17 t)) T - cnt (fun t => !decide (mgF I T t = I 17 t)) k))), some (.int (nI k - nI 1)), none, none], [], hp J L, 0, 0) = some (some (.int (nI (cnt (fun t => !decide (mgF I T t = I 17 t)) T))), hp J' L, 0, 0) ∧ (∀ u, u < T → J' 53 (38 + u) = mgF I T u) ∧ (∀ x y, (x ≠ 53 ∨ y < 38) → J' x y = J x y)
  | 0, J, hk, h1, h2, h3, h4 => by
    refine ⟨J, ?_, fun u hu => by rw [h4 u hu, if_pos (by omega)], fun _ _ _ => rfl⟩
    have e : (nI 0 - nI 1 < nI 0) = True := eq_true (pk_sneg (a := 0) (b := 1) (by decide) (by decide))
    rw [e_X10_merges_39]
    simp (disch := omega) only [q0, q1, q2, q3, q4, q5, q6, q7, q8, q9, q10, q11, q12, q13, q14, q15, q16, q18, q19, q20, q21, q22, q23, q24, q25, q26, q27, q28, q29, q30, q31, q32, q38, q44, q45, q48, q57, q58, q59, q60, q63, q64, q97, q122, q126, q127, q128, q255, q256, q300, q580, q600, q1000, e, Option.bind_some, Option.toList_some, Option.toList_none, List.cons_append, List.nil_append, Option.map_some, cond_true, cond_false, Bool.not_true, Bool.not_false, Bool.true_and, Bool.and_true, Bool.false_and, Bool.and_false, Bool.true_or, Bool.or_true, Bool.false_or, Bool.or_false, Bool.not_not, decide_true, decide_false, Bool.decide_eq_true, Bool.decide_eq_false, qz_0, qz_1, qz_n, qz_n0, qz_n1, qz_t, qz_f, Nat.reduceAdd, cnt, Nat.sub_zero]
  | k + 1, J, hk, h1, h2, h3, h4 => by
    have hb := D.b
    have hkT : k < T := by omega
    have hm : ∀ t u, t < T → u < T → mtm J t u = mts I t u := fun t u ht hu => by
      unfold mtm mts
      rw [h1 _ (by omega), h1 _ (by omega), h1 _ (by omega), h1 _ (by omega), D.ro ht, D.ro hu, D.mi ht, D.mi hu]
    have e3 : J 53 3 = nI T := (h1 3 (by omega)).trans D.m.2.2.2.1
    have hld := ld_le I k
    have el : zcall zZ nX10_joinOf [.ref 52, .int (nI k)] (hp J L) = some (some (.int (nI (ld I k))), hp J L) := by
      rw [s_joinOf2 (by omega), ldF_cg (g := mts I k) k 0 (fun i h1 h2 => hm k i hkT (by omega))]
      rfl
    have c1 := cnt_step (fun t => !decide (mgF I T t = I 17 t)) (show k + 1 ≤ T by omega)
    have c2 := cnt_le (fun t => !decide (mgF I T t = I 17 t)) T
    have c3 : cnt (fun t => !decide (mgF I T t = I 17 t)) (k + 1) = cnt (fun t => !decide (mgF I T t = I 17 t)) k + (!decide (mgF I T k = I 17 k)).toNat := rfl
    have e55 : J 55 (6 * A + k) = I 17 k := h3 k hkT
    have ei : nI (A + 1) - nI 1 = nI A := pk_sub (a := A + 1) (b := 1) (by omega)
    have ek : nI (k + 1) - nI 1 = nI k := pk_sub (a := k + 1) (b := 1) (by omega)
    have en : nI k + -nI 1 = nI k - nI 1 := (Int32.sub_eq_add_neg _ _).symm
    rw [ek, e_X10_merges_39]
    by_cases q : ld I k = k
    · have em : mgF I T k = onF (mts I k) (I 17) T := if_pos q
      have ej : zcall zZ nX10_jointOf [.ref 52, .int (nI k), .int (nI 0)] (hp J L) = some (some (.int (mgF I T k)), hp J L) := by
        rw [s_jointM2 hb.2.2.2.1 e3 hkT, em, onF_cg2 (g := mts I k) (r' := I 17) T (fun u hu => hm k u hkT hu) (fun u hu hmt => ?_)]
        rw [hm k u hkT hu] at hmt
        show J 53 (38 + u) = I 17 u
        rw [h4 u hu, if_neg]
        rw [← ld_mates hmt, q]
        omega
      obtain ⟨J1, k1, k2, k3, k4⟩ := mergesM_in (L := L) hb.2.2.2.1 hkT (nI (cnt (fun t => !decide (mgF I T t = I 17 t)) T - cnt (fun t => !decide (mgF I T t = I 17 t)) k)) (mgF I T k) (mts I k) (T - (k + 1)) (k + 1) J (by omega) (by omega) e3 (fun u hu => hm k u hkT hu)
      obtain ⟨J', g1, g2, g3⟩ := mergesM_loop (L := L) D hA k J1 (by omega) (fun b hb2 => (k4 53 b (by omega)).trans (h1 b hb2)) ((k4 52 3 (by omega)).trans h2) (fun t ht => (k4 55 _ (by omega)).trans (h3 t ht)) (fun u hu => by
        by_cases z : u = k
        · subst z
          rw [k3, if_pos (by omega)]
        · rcases Nat.lt_or_ge u (k + 1) with z2 | z2
          · rw [k4 53 (38 + u) (by omega), h4 u hu]
            have := ld_le I u
            rw [if_neg (by omega), if_neg (by omega)]
          · rw [k2 u hu z2]
            cases hmt : mts I k u with
            | false =>
              show J 53 (38 + u) = _
              rw [h4 u hu]
              have hne : ld I u ≠ k := fun e => by
                have := ld_mate I u
                rw [e, mts_symm, hmt] at this
                cases this
              by_cases z3 : k + 1 ≤ ld I u
              · rw [if_pos z3, if_pos (by omega)]
              · rw [if_neg z3, if_neg (by omega)]
            | true =>
              show nI 0 = _
              have := ld_mates hmt
              rw [if_pos (by omega)]
              unfold mgF
              rw [if_neg (by omega)])
      refine ⟨J', ?_, g2, fun x y g => (g3 x y g).trans (k4 x y (by omega))⟩
      by_cases p : mgF I T k = I 17 k
      · have p' : decide (mgF I T k = I 17 k) = true := decide_eq_true p
        rw [p'] at c3
        have c3 : cnt (fun t => !decide (mgF I T t = I 17 t)) (k + 1) = cnt (fun t => !decide (mgF I T t = I 17 t)) k := c3
        simp (disch := omega) only [e_X10_merges_48, e_X10_merges_62, e_X10_merges_58, e_X10_merges_89, e_X10_merges_92, e_X10_merges_99, el, q, ej, h2, ei, q_mul, e55, p', s_flag0, s_flag1, Option.bind_some, Option.toList_some, Option.toList_none, List.cons_append, List.nil_append, Option.map_some, cond_true, cond_false, Bool.not_true, Bool.not_false, Bool.true_and, Bool.and_true, Bool.false_and, Bool.and_false, Bool.true_or, Bool.or_true, Bool.false_or, Bool.or_false, Bool.not_not, decide_true, decide_false, Bool.decide_eq_true, Bool.decide_eq_false, qz_0, qz_1, qz_n, qz_n0, qz_n1, qz_t, qz_f, Nat.reduceAdd, q0, q1, q2, q3, q4, q5, q6, q7, q8, q9, q10, q11, q12, q13, q14, q15, q16, q18, q19, q20, q21, q22, q23, q24, q25, q26, q27, q28, q29, q30, q31, q32, q38, q44, q45, q48, q57, q58, q59, q60, q63, q64, q97, q122, q126, q127, q128, q255, q256, q300, q580, q600, q1000, nI_add, q_lt_t, q_lt_f, q_eq_t, q_eq_f, q_clamp, q_in_t, q_in_f, c3, Nat.add_zero]
        rw [k1, e_X10_merges_165, q1, en]
        exact g1
      · have p' : decide (mgF I T k = I 17 k) = false := decide_eq_false p
        rw [p'] at c3
        have c3 : cnt (fun t => !decide (mgF I T t = I 17 t)) (k + 1) = cnt (fun t => !decide (mgF I T t = I 17 t)) k + 1 := c3
        have c4 : cnt (fun t => !decide (mgF I T t = I 17 t)) T - (cnt (fun t => !decide (mgF I T t = I 17 t)) k + 1) + 1 = cnt (fun t => !decide (mgF I T t = I 17 t)) T - cnt (fun t => !decide (mgF I T t = I 17 t)) k := by omega
        simp (disch := omega) only [e_X10_merges_48, e_X10_merges_62, e_X10_merges_58, e_X10_merges_89, e_X10_merges_92, e_X10_merges_99, el, q, ej, h2, ei, q_mul, e55, p', s_flag0, s_flag1, Option.bind_some, Option.toList_some, Option.toList_none, List.cons_append, List.nil_append, Option.map_some, cond_true, cond_false, Bool.not_true, Bool.not_false, Bool.true_and, Bool.and_true, Bool.false_and, Bool.and_false, Bool.true_or, Bool.or_true, Bool.false_or, Bool.or_false, Bool.not_not, decide_true, decide_false, Bool.decide_eq_true, Bool.decide_eq_false, qz_0, qz_1, qz_n, qz_n0, qz_n1, qz_t, qz_f, Nat.reduceAdd, q0, q1, q2, q3, q4, q5, q6, q7, q8, q9, q10, q11, q12, q13, q14, q15, q16, q18, q19, q20, q21, q22, q23, q24, q25, q26, q27, q28, q29, q30, q31, q32, q38, q44, q45, q48, q57, q58, q59, q60, q63, q64, q97, q122, q126, q127, q128, q255, q256, q300, q580, q600, q1000, nI_add, q_lt_t, q_lt_f, q_eq_t, q_eq_f, q_clamp, q_in_t, q_in_f, c3, c4]
        rw [k1, e_X10_merges_165, q1, en]
        exact g1
    · have em : mgF I T k = nI 0 := if_neg q
      obtain ⟨J', g1, g2, g3⟩ := mergesM_loop (L := L) D hA k J (by omega) h1 h2 h3 (fun u hu => by
        rw [h4 u hu]
        have hne : ld I u ≠ k := fun e => by
          have := ld_ld I u
          rw [e] at this
          exact q this
        by_cases z3 : k + 1 ≤ ld I u
        · rw [if_pos z3, if_pos (by omega)]
        · rw [if_neg z3, if_neg (by omega)])
      refine ⟨J', ?_, g2, g3⟩
      by_cases p : nI 0 = I 17 k
      · have p' : decide (nI 0 = I 17 k) = true := decide_eq_true p
        rw [em, p'] at c3
        have c3 : cnt (fun t => !decide (mgF I T t = I 17 t)) (k + 1) = cnt (fun t => !decide (mgF I T t = I 17 t)) k := c3
        simp (disch := omega) only [e_X10_merges_48, e_X10_merges_62, e_X10_merges_58, e_X10_merges_89, e_X10_merges_92, e_X10_merges_99, e_X10_merges_165, el, h2, ei, q_mul, e55, p', s_flag0, s_flag1, Option.bind_some, Option.toList_some, Option.toList_none, List.cons_append, List.nil_append, Option.map_some, cond_true, cond_false, Bool.not_true, Bool.not_false, Bool.true_and, Bool.and_true, Bool.false_and, Bool.and_false, Bool.true_or, Bool.or_true, Bool.false_or, Bool.or_false, Bool.not_not, decide_true, decide_false, Bool.decide_eq_true, Bool.decide_eq_false, qz_0, qz_1, qz_n, qz_n0, qz_n1, qz_t, qz_f, Nat.reduceAdd, q0, q1, q2, q3, q4, q5, q6, q7, q8, q9, q10, q11, q12, q13, q14, q15, q16, q18, q19, q20, q21, q22, q23, q24, q25, q26, q27, q28, q29, q30, q31, q32, q38, q44, q45, q48, q57, q58, q59, q60, q63, q64, q97, q122, q126, q127, q128, q255, q256, q300, q580, q600, q1000, nI_add, q_lt_t, q_lt_f, q_eq_t, q_eq_f, q_clamp, q_in_t, q_in_f, c3, en, Nat.add_zero]
        exact g1
      · have p' : decide (nI 0 = I 17 k) = false := decide_eq_false p
        rw [em, p'] at c3
        have c3 : cnt (fun t => !decide (mgF I T t = I 17 t)) (k + 1) = cnt (fun t => !decide (mgF I T t = I 17 t)) k + 1 := c3
        have c4 : cnt (fun t => !decide (mgF I T t = I 17 t)) T - (cnt (fun t => !decide (mgF I T t = I 17 t)) k + 1) + 1 = cnt (fun t => !decide (mgF I T t = I 17 t)) T - cnt (fun t => !decide (mgF I T t = I 17 t)) k := by omega
        simp (disch := omega) only [e_X10_merges_48, e_X10_merges_62, e_X10_merges_58, e_X10_merges_89, e_X10_merges_92, e_X10_merges_99, e_X10_merges_165, el, h2, ei, q_mul, e55, p', s_flag0, s_flag1, Option.bind_some, Option.toList_some, Option.toList_none, List.cons_append, List.nil_append, Option.map_some, cond_true, cond_false, Bool.not_true, Bool.not_false, Bool.true_and, Bool.and_true, Bool.false_and, Bool.and_false, Bool.true_or, Bool.or_true, Bool.false_or, Bool.or_false, Bool.not_not, decide_true, decide_false, Bool.decide_eq_true, Bool.decide_eq_false, qz_0, qz_1, qz_n, qz_n0, qz_n1, qz_t, qz_f, Nat.reduceAdd, q0, q1, q2, q3, q4, q5, q6, q7, q8, q9, q10, q11, q12, q13, q14, q15, q16, q18, q19, q20, q21, q22, q23, q24, q25, q26, q27, q28, q29, q30, q31, q32, q38, q44, q45, q48, q57, q58, q59, q60, q63, q64, q97, q122, q126, q127, q128, q255, q256, q300, q580, q600, q1000, nI_add, q_lt_t, q_lt_f, q_eq_t, q_eq_f, q_clamp, q_in_t, q_in_f, c3, c4, en]
        exact g1
