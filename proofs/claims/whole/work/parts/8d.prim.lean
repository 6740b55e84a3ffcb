/-! signs and numbers, reference -/
theorem KT_sg {B : Nat → Nat} {S j : Nat} (h : tyT (KT B S j) = 3) : sT B S j < S ∧ KT B S j = kb (B (sT B S j)) := by
  have hle := (sT_le B S j).2
  by_cases z : sT B S j = S
  · rw [KT_24.mpr z] at h
    cases h
  · refine ⟨by omega, ?_⟩
    unfold KT at h ⊢
    rw [if_neg z] at h ⊢
    by_cases y : kb (B (sT B S j)) = 19
    · rw [if_pos y] at h
      have hk := kx_le (let' B (sT B S j) (ps B S (j + 1))) 19 0 (by omega)
      unfold tyT at h
      rw [if_neg (by omega), if_pos hk] at h
      cases h
    · rw [if_neg y]
theorem tyT_3 {k : Nat} (h : k ≤ 25) : tyT k = 3 ↔ (k = 21 ∨ k = 22 ∨ k = 23) := by
  have : ∀ k, k < 26 → (tyT k = 3 ↔ (k = 21 ∨ k = 22 ∨ k = 23)) := by decide
  exact this k (by omega)
theorem tyT_lt (k : Nat) : tyT k < 5 := by
  unfold tyT
  split
  · omega
  · split
    · omega
    · split
      · omega
      · split <;> omega
theorem s_isSg {I : zI} {B : Nat → Nat} {S j : Nat} (L : zL) (hB : BT I B S) (h : RF I B S j) {c k : Nat} (hc : (c = 59 ∧ k = 21) ∨ (c = 58 ∧ k = 22) ∨ (c = 45 ∧ k = 23)) : zcall zZ nX10_isSign [.ref 52, .int (nI c)] (hp I L) = some (some (.int (zbo (decide (KT B S j = k)))), hp I L) := by
  have hk := KT_le B S j
  have ht := tyT_lt (KT B S j)
  have hS := hB.1
  by_cases z : tyT (KT B S j) = 3
  · obtain ⟨hs, e⟩ := KT_sg z
    obtain ⟨c1, c2, c3⟩ := hB.2.2.2 _ hs
    have e10 := h.2.2.1
    rw [z] at e10
    have hiff : (B (sT B S j) = c) ↔ (KT B S j = k) := by
      rw [e]
      rcases hc with ⟨rfl, rfl⟩ | ⟨rfl, rfl⟩ | ⟨rfl, rfl⟩
      · exact kb_21.symm
      · exact kb_22.symm
      · exact kb_23.symm
    by_cases y : B (sT B S j) = c
    · rw [decide_eq_true (hiff.mp y)]
      rw [y] at c2
      simp (disch := omega) only [c_X10_isSign, e_X10_isSign_0, e_X10_isSign_25, e_X10_isSign_26, e10, h.1, c2, Option.bind_some, Option.toList_some, Option.toList_none, List.cons_append, List.nil_append, Option.map_some, cond_true, cond_false, Bool.not_true, Bool.not_false, Bool.true_and, Bool.and_true, Bool.false_and, Bool.and_false, Bool.true_or, Bool.or_true, Bool.false_or, Bool.or_false, Bool.not_not, decide_true, decide_false, Bool.decide_eq_true, Bool.decide_eq_false, qz_0, qz_1, qz_n, qz_n0, qz_n1, qz_t, qz_f, Nat.reduceAdd, q1000000, q0, q1, q2, q3, q4, q5, q6, q7, q8, q9, q10, q11, q12, q13, q14, q15, q16, q18, q19, q20, q21, q22, q23, q24, q25, q26, q27, q28, q29, q30, q31, q32, q38, q44, q45, q48, q57, q58, q59, q60, q63, q64, q97, q122, q126, q127, q128, q255, q256, q300, q580, q600, q1000, nI_add, q_lt_t, q_lt_f, q_eq_t, q_eq_f, q_clamp, q_in_t, q_in_f]
    · rw [decide_eq_false (fun q => y (hiff.mpr q))]
      simp (disch := omega) only [c_X10_isSign, e_X10_isSign_0, e_X10_isSign_25, e_X10_isSign_26, e10, h.1, c2, Option.bind_some, Option.toList_some, Option.toList_none, List.cons_append, List.nil_append, Option.map_some, cond_true, cond_false, Bool.not_true, Bool.not_false, Bool.true_and, Bool.and_true, Bool.false_and, Bool.and_false, Bool.true_or, Bool.or_true, Bool.false_or, Bool.or_false, Bool.not_not, decide_true, decide_false, Bool.decide_eq_true, Bool.decide_eq_false, qz_0, qz_1, qz_n, qz_n0, qz_n1, qz_t, qz_f, Nat.reduceAdd, q1000000, q0, q1, q2, q3, q4, q5, q6, q7, q8, q9, q10, q11, q12, q13, q14, q15, q16, q18, q19, q20, q21, q22, q23, q24, q25, q26, q27, q28, q29, q30, q31, q32, q38, q44, q45, q48, q57, q58, q59, q60, q63, q64, q97, q122, q126, q127, q128, q255, q256, q300, q580, q600, q1000, nI_add, q_lt_t, q_lt_f, q_eq_t, q_eq_f, q_clamp, q_in_t, q_in_f]
  · have e10 := h.2.2.1
    have hn : KT B S j ≠ k := fun q => z ((tyT_3 hk).mpr (by omega))
    rw [decide_eq_false hn]
    simp (disch := omega) only [c_X10_isSign, e_X10_isSign_0, e_X10_isSign_25, e_X10_isSign_26, e10, Option.bind_some, Option.toList_some, Option.toList_none, List.cons_append, List.nil_append, Option.map_some, cond_true, cond_false, Bool.not_true, Bool.not_false, Bool.true_and, Bool.and_true, Bool.false_and, Bool.and_false, Bool.true_or, Bool.or_true, Bool.false_or, Bool.or_false, Bool.not_not, decide_true, decide_false, Bool.decide_eq_true, Bool.decide_eq_false, qz_0, qz_1, qz_n, qz_n0, qz_n1, qz_t, qz_f, Nat.reduceAdd, q1000000, q0, q1, q2, q3, q4, q5, q6, q7, q8, q9, q10, q11, q12, q13, q14, q15, q16, q18, q19, q20, q21, q22, q23, q24, q25, q26, q27, q28, q29, q30, q31, q32, q38, q44, q45, q48, q57, q58, q59, q60, q63, q64, q97, q122, q126, q127, q128, q255, q256, q300, q580, q600, q1000, nI_add, q_lt_t, q_lt_f, q_eq_t, q_eq_f, q_clamp, q_in_t, q_in_f]
theorem tyT_2 {k : Nat} (h : k ≤ 25) : tyT k = 2 ↔ k = 20 := by
  have : ∀ k, k < 26 → (tyT k = 2 ↔ k = 20) := by decide
  exact this k (by omega)
theorem s_rd_n {I : zI} {B : Nat → Nat} {S j : Nat} (L : zL) (h : RF I B S j) (h14 : I 52 14 = nI 0) {a b : Nat} (ha : a < 2000) (hb : b < 2000) (hv : KT B S j ≠ 20 ∨ vN B S j < a ∨ b < vN B S j) : ∃ J r, zcall zZ nX10_reads [.ref 52, .int (nI a), .int (nI b)] (hp I L) = some (some (.int r), hp J L) ∧ FL J (if KT B S j = 20 then 2 else 1) (sT B S j) ∧ FRf I J := by
  have hk := KT_le B S j
  have ht := tyT_lt (KT B S j)
  have e10 := h.2.2.1
  by_cases z : KT B S j = 20
  · rw [if_pos z]
    have e11 := h.2.2.2.1
    rw [if_pos z] at e11
    rw [(tyT_2 hk).mpr z] at e10
    have hin : zcall zZ nX10_in [.long (nI (min 99999 (vN B S j))).toInt64, .long (nI a).toInt64, .long (nI b).toInt64] (hp I L) = some (some (.int (nI 0)), hp I L) := by
      rw [s_in, nI_l (by omega), nI_l (by omega), nI_l (by omega)]
      have : (decide (lN a ≤ lN (min 99999 (vN B S j))) && decide (lN (min 99999 (vN B S j)) ≤ lN b)) = false := by
        rw [show decide (lN a ≤ lN (min 99999 (vN B S j))) = decide (a ≤ min 99999 (vN B S j)) from decide_eq_decide.mpr (lN_le (by omega) (by omega)), show decide (lN (min 99999 (vN B S j)) ≤ lN b) = decide (min 99999 (vN B S j) ≤ b) from decide_eq_decide.mpr (lN_le (by omega) (by omega))]
        by_cases y : vN B S j < a
        · rw [decide_eq_false (show ¬ a ≤ min 99999 (vN B S j) by omega), Bool.false_and]
        · rw [decide_eq_false (show ¬ min 99999 (vN B S j) ≤ b by omega), Bool.and_false]
      rw [this]
      rfl
    obtain ⟨J, g1, g2, g3⟩ := s_flt L h h14 2
    have hn := s_need1 L g2.1 true
    have hn : zcall zZ nX10_needs [.ref 52, .int (nI 1)] (hp J L) = some (none, hp J L) := hn
    refine ⟨J, J 52 11, ?_, g2, fun x y p => g3 x y (by omega)⟩
    simp (disch := omega) only [c_X10_reads, e_X10_reads_0, e_X10_reads_28, e_X10_reads_13, e_X10_reads_36, e_X10_reads_46, e10, e11, hin, g1, hn, Option.bind_some, Option.toList_some, Option.toList_none, List.cons_append, List.nil_append, Option.map_some, cond_true, cond_false, Bool.not_true, Bool.not_false, Bool.true_and, Bool.and_true, Bool.false_and, Bool.and_false, Bool.true_or, Bool.or_true, Bool.false_or, Bool.or_false, Bool.not_not, decide_true, decide_false, Bool.decide_eq_true, Bool.decide_eq_false, qz_0, qz_1, qz_n, qz_n0, qz_n1, qz_t, qz_f, Nat.reduceAdd, q1000000, q0, q1, q2, q3, q4, q5, q6, q7, q8, q9, q10, q11, q12, q13, q14, q15, q16, q18, q19, q20, q21, q22, q23, q24, q25, q26, q27, q28, q29, q30, q31, q32, q38, q44, q45, q48, q57, q58, q59, q60, q63, q64, q97, q122, q126, q127, q128, q255, q256, q300, q580, q600, q1000, nI_add, q_lt_t, q_lt_f, q_eq_t, q_eq_f, q_clamp, q_in_t, q_in_f]
  · rw [if_neg z]
    have n2 : tyT (KT B S j) ≠ 2 := fun q => z ((tyT_2 hk).mp q)
    obtain ⟨J, g1, g2, g3⟩ := s_flt L h h14 1
    have hn := s_need1 L g2.1 true
    have hn : zcall zZ nX10_needs [.ref 52, .int (nI 1)] (hp J L) = some (none, hp J L) := hn
    refine ⟨J, J 52 11, ?_, g2, fun x y p => g3 x y (by omega)⟩
    simp (disch := omega) only [c_X10_reads, e_X10_reads_0, e_X10_reads_28, e_X10_reads_13, e_X10_reads_36, e_X10_reads_46, e10, g1, hn, Option.bind_some, Option.toList_some, Option.toList_none, List.cons_append, List.nil_append, Option.map_some, cond_true, cond_false, Bool.not_true, Bool.not_false, Bool.true_and, Bool.and_true, Bool.false_and, Bool.and_false, Bool.true_or, Bool.or_true, Bool.false_or, Bool.or_false, Bool.not_not, decide_true, decide_false, Bool.decide_eq_true, Bool.decide_eq_false, qz_0, qz_1, qz_n, qz_n0, qz_n1, qz_t, qz_f, Nat.reduceAdd, q1000000, q0, q1, q2, q3, q4, q5, q6, q7, q8, q9, q10, q11, q12, q13, q14, q15, q16, q18, q19, q20, q21, q22, q23, q24, q25, q26, q27, q28, q29, q30, q31, q32, q38, q44, q45, q48, q57, q58, q59, q60, q63, q64, q97, q122, q126, q127, q128, q255, q256, q300, q580, q600, q1000, nI_add, q_lt_t, q_lt_f, q_eq_t, q_eq_f, q_clamp, q_in_t, q_in_f]
theorem s_rd_y {I : zI} {B : Nat → Nat} {S j : Nat} (L : zL) (hB : BT I B S) (h : RF I B S j) (h14 : I 52 14 = nI 0) {c : Nat} (h13 : I 52 13 = nI c) {a b : Nat} (ha : a < 2000) (hb : b < 2000) (hk20 : KT B S j = 20) (hv : a ≤ vN B S j ∧ vN B S j ≤ b) : ∃ J, zcall zZ nX10_reads [.ref 52, .int (nI a), .int (nI b)] (hp I L) = some (some (.int (nI (vN B S j))), hp J L) ∧ RF J B S (j + 1) ∧ J 52 13 = nI (c + 1) ∧ FRn I J := by
  have hk := KT_le B S j
  have e10 := h.2.2.1
  have e11 := h.2.2.2.1
  rw [if_pos hk20, Nat.min_eq_right (show vN B S j ≤ 99999 by omega)] at e11
  rw [(tyT_2 hk).mpr hk20] at e10
  have hin : zcall zZ nX10_in [.long (nI (vN B S j)).toInt64, .long (nI a).toInt64, .long (nI b).toInt64] (hp I L) = some (some (.int (nI 1)), hp I L) := by
    rw [s_in, nI_l (by omega), nI_l (by omega), nI_l (by omega), decide_eq_true ((lN_le (by omega) (by omega)).mpr hv.1), decide_eq_true ((lN_le (by omega) (by omega)).mpr hv.2)]
    rfl
  obtain ⟨J, g1, g2, g3, g4⟩ := s_need_y L hB h h14 h13
  refine ⟨J, ?_, g2, g3, g4⟩
  simp (disch := omega) only [c_X10_reads, e_X10_reads_0, e_X10_reads_28, e_X10_reads_13, e_X10_reads_36, e_X10_reads_46, e10, e11, hin, g1, Option.bind_some, Option.toList_some, Option.toList_none, List.cons_append, List.nil_append, Option.map_some, cond_true, cond_false, Bool.not_true, Bool.not_false, Bool.true_and, Bool.and_true, Bool.false_and, Bool.and_false, Bool.true_or, Bool.or_true, Bool.false_or, Bool.or_false, Bool.not_not, decide_true, decide_false, Bool.decide_eq_true, Bool.decide_eq_false, qz_0, qz_1, qz_n, qz_n0, qz_n1, qz_t, qz_f, Nat.reduceAdd, q1000000, q0, q1, q2, q3, q4, q5, q6, q7, q8, q9, q10, q11, q12, q13, q14, q15, q16, q18, q19, q20, q21, q22, q23, q24, q25, q26, q27, q28, q29, q30, q31, q32, q38, q44, q45, q48, q57, q58, q59, q60, q63, q64, q97, q122, q126, q127, q128, q255, q256, q300, q580, q600, q1000, nI_add, q_lt_t, q_lt_f, q_eq_t, q_eq_f, q_clamp, q_in_t, q_in_f]
