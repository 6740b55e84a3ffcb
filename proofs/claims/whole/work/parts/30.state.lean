/-! tape, acts, faults, what was told -/
def sby (c : Nat) : Int32 := (nI c).toInt8.toInt32
def byt (x : Int32) (q : Nat) : Nat := (x.toBitVec.toNat / 2 ^ (24 - 8 * q)) % 256
def TP (I : zI) (S : Nat) : Prop := S ≤ 600 ∧ I 3 1 = nI S ∧ I 52 5 = nI S ∧ ∀ i, i < S → ∃ c, c < 256 ∧ I 56 i = nI c ∧ I 4 i = sby c
def AC (I : zI) (N T A : Nat) : Prop := A ≤ 20 ∧ I 9 1 = nI A ∧ I 52 3 = nI A ∧ ∀ a t, a < A → t < T → I 55 (6 * a + t) = I 10 (6 * a + t) ∧ sub N (I 10 (6 * a + t))
def FT (I : zI) : Prop := I 52 6 = I 0 6 ∧ I 52 7 = I 0 7
def TO (I : zI) (N : Nat) : Prop := I 52 43 = I 0 8 ∧ (I 0 8 = nI 0 ∨ (I 0 8 = nI 1 ∧ (I 52 44 = I 0 9 ∧ I 52 45 = I 0 10 ∧ I 52 46 = I 0 11 ∧ I 52 47 = I 0 12) ∧ N ≠ 0 ∧ ∃ k, k ≤ 3 ∧ I 0 11 = nI k ∧ (k = 0 → sub N (I 0 9))))
def EV (I : zI) (L : zL) (N w F T ln A S : Nat) : Prop := DK I L N w F T ln ∧ TP I S ∧ AC I N T A ∧ FT I ∧ TO I N
/-- two methods, one behind the other: the same answer, all of it holds again, changed is S alone -/
def PAIR (C : Nat → Nat → Bool) (nX nM : Nat) (as : List Value) (I : zI) (L : zL) (Q : zI → zL → Prop) : Prop := ∃ r I1 L1 I2 L2, zcall zZ nX (.ref 0 :: as) (hp I L) = some (some r, hp I1 L1) ∧ zcall zZ nM (.ref 52 :: as) (hp I1 L1) = some (some r, hp I2 L2) ∧ fr C I I2 ∧ L2 = L ∧ Q I2 L2
theorem TP.cg {I J : zI} {S : Nat} (h : TP I S) (h1 : J 3 1 = I 3 1) (h2 : J 52 5 = I 52 5) (h3 : ∀ b, J 4 b = I 4 b) (h4 : ∀ b, J 56 b = I 56 b) : TP J S := by
  obtain ⟨a, b, c, d⟩ := h
  refine ⟨a, h1.trans b, h2.trans c, fun i hi => ?_⟩
  rw [h3, h4]
  exact d i hi
theorem AC.cg {I J : zI} {N T A : Nat} (h : AC I N T A) (h1 : J 9 1 = I 9 1) (h2 : J 52 3 = I 52 3) (h3 : ∀ b, J 10 b = I 10 b) (h4 : ∀ b, J 55 b = I 55 b) : AC J N T A := by
  obtain ⟨a, b, c, d⟩ := h
  refine ⟨a, h1.trans b, h2.trans c, fun i t hi ht => ?_⟩
  rw [h3, h4]
  exact d i t hi ht
theorem FT.cg {I J : zI} (h : FT I) (h1 : ∀ b, J 0 b = I 0 b) (h2 : J 52 6 = I 52 6) (h3 : J 52 7 = I 52 7) : FT J := by
  unfold FT
  rw [h1, h1, h2, h3]
  exact h
theorem TO.cg {I J : zI} {N : Nat} (h : TO I N) (h1 : ∀ b, J 0 b = I 0 b) (h2 : ∀ b, 43 ≤ b → J 52 b = I 52 b) : TO J N := by
  unfold TO
  rw [h1 8, h1 9, h1 10, h1 11, h1 12, h2 43 (by omega), h2 44 (by omega), h2 45 (by omega), h2 46 (by omega), h2 47 (by omega)]
  exact h
/-- what a list of cells spares -/
def inL (l : List Nat) (a : Nat) : Bool := l.any (fun q => Nat.beq a q)
theorem p_told {I : zI} {L : zL} {N : Nat} (h : TO I N) (x : Int32) : SAME nX9_told nX10_told [.int x] I L := by
  obtain ⟨h8, hc⟩ := h
  rcases hc with hc | ⟨hc, ⟨h9, h10, h11, h12⟩, -⟩
  · exact ⟨.int (-1), by simp (disch := omega) only [c_X9_told, e_X9_told_0, hc, Option.bind_some, Option.toList_some, Option.toList_none, List.cons_append, List.nil_append, Option.map_some, cond_true, cond_false, Bool.not_true, Bool.not_false, Bool.true_and, Bool.and_true, Bool.false_and, Bool.and_false, Bool.true_or, Bool.or_true, Bool.false_or, Bool.or_false, Bool.not_not, decide_true, decide_false, Bool.decide_eq_true, Bool.decide_eq_false, qz_0, qz_1, qz_n, qz_n0, qz_n1, qz_t, qz_f, Nat.reduceAdd, q1000000, q0, q1, q2, q3, q4, q5, q6, q7, q8, q9, q10, q11, q12, q13, q14, q15, q16, q18, q19, q20, q21, q22, q23, q24, q25, q26, q27, q28, q29, q30, q31, q32, q38, q44, q45, q48, q57, q58, q59, q60, q63, q64, q97, q122, q126, q127, q128, q255, q256, q300, q580, q600, q1000, nI_add, q_lt_t, q_lt_f, q_eq_t, q_eq_f, q_clamp, q_in_t, q_in_f], by simp (disch := omega) only [c_X10_told, e_X10_told_0, h8, hc, Option.bind_some, Option.toList_some, Option.toList_none, List.cons_append, List.nil_append, Option.map_some, cond_true, cond_false, Bool.not_true, Bool.not_false, Bool.true_and, Bool.and_true, Bool.false_and, Bool.and_false, Bool.true_or, Bool.or_true, Bool.false_or, Bool.or_false, Bool.not_not, decide_true, decide_false, Bool.decide_eq_true, Bool.decide_eq_false, qz_0, qz_1, qz_n, qz_n0, qz_n1, qz_t, qz_f, Nat.reduceAdd, q1000000, q0, q1, q2, q3, q4, q5, q6, q7, q8, q9, q10, q11, q12, q13, q14, q15, q16, q18, q19, q20, q21, q22, q23, q24, q25, q26, q27, q28, q29, q30, q31, q32, q38, q44, q45, q48, q57, q58, q59, q60, q63, q64, q97, q122, q126, q127, q128, q255, q256, q300, q580, q600, q1000, nI_add, q_lt_t, q_lt_f, q_eq_t, q_eq_f, q_clamp, q_in_t, q_in_f]⟩
  by_cases u0 : x = nI 0
  · exact ⟨.int (I 0 9), by simp (disch := omega) only [c_X9_told, e_X9_told_0, hc, u0, Option.bind_some, Option.toList_some, Option.toList_none, List.cons_append, List.nil_append, Option.map_some, cond_true, cond_false, Bool.not_true, Bool.not_false, Bool.true_and, Bool.and_true, Bool.false_and, Bool.and_false, Bool.true_or, Bool.or_true, Bool.false_or, Bool.or_false, Bool.not_not, decide_true, decide_false, Bool.decide_eq_true, Bool.decide_eq_false, qz_0, qz_1, qz_n, qz_n0, qz_n1, qz_t, qz_f, Nat.reduceAdd, q1000000, q0, q1, q2, q3, q4, q5, q6, q7, q8, q9, q10, q11, q12, q13, q14, q15, q16, q18, q19, q20, q21, q22, q23, q24, q25, q26, q27, q28, q29, q30, q31, q32, q38, q44, q45, q48, q57, q58, q59, q60, q63, q64, q97, q122, q126, q127, q128, q255, q256, q300, q580, q600, q1000, nI_add, q_lt_t, q_lt_f, q_eq_t, q_eq_f, q_clamp, q_in_t, q_in_f], by simp (disch := omega) only [c_X10_told, e_X10_told_0, h8, h9, hc, u0, Option.bind_some, Option.toList_some, Option.toList_none, List.cons_append, List.nil_append, Option.map_some, cond_true, cond_false, Bool.not_true, Bool.not_false, Bool.true_and, Bool.and_true, Bool.false_and, Bool.and_false, Bool.true_or, Bool.or_true, Bool.false_or, Bool.or_false, Bool.not_not, decide_true, decide_false, Bool.decide_eq_true, Bool.decide_eq_false, qz_0, qz_1, qz_n, qz_n0, qz_n1, qz_t, qz_f, Nat.reduceAdd, q1000000, q0, q1, q2, q3, q4, q5, q6, q7, q8, q9, q10, q11, q12, q13, q14, q15, q16, q18, q19, q20, q21, q22, q23, q24, q25, q26, q27, q28, q29, q30, q31, q32, q38, q44, q45, q48, q57, q58, q59, q60, q63, q64, q97, q122, q126, q127, q128, q255, q256, q300, q580, q600, q1000, nI_add, q_lt_t, q_lt_f, q_eq_t, q_eq_f, q_clamp, q_in_t, q_in_f]⟩
  by_cases u1 : x = nI 1
  · exact ⟨.int (I 0 10), by simp (disch := omega) only [c_X9_told, e_X9_told_0, hc, u1, Option.bind_some, Option.toList_some, Option.toList_none, List.cons_append, List.nil_append, Option.map_some, cond_true, cond_false, Bool.not_true, Bool.not_false, Bool.true_and, Bool.and_true, Bool.false_and, Bool.and_false, Bool.true_or, Bool.or_true, Bool.false_or, Bool.or_false, Bool.not_not, decide_true, decide_false, Bool.decide_eq_true, Bool.decide_eq_false, qz_0, qz_1, qz_n, qz_n0, qz_n1, qz_t, qz_f, Nat.reduceAdd, q1000000, q0, q1, q2, q3, q4, q5, q6, q7, q8, q9, q10, q11, q12, q13, q14, q15, q16, q18, q19, q20, q21, q22, q23, q24, q25, q26, q27, q28, q29, q30, q31, q32, q38, q44, q45, q48, q57, q58, q59, q60, q63, q64, q97, q122, q126, q127, q128, q255, q256, q300, q580, q600, q1000, nI_add, q_lt_t, q_lt_f, q_eq_t, q_eq_f, q_clamp, q_in_t, q_in_f], by simp (disch := omega) only [c_X10_told, e_X10_told_0, h8, h10, hc, u1, Option.bind_some, Option.toList_some, Option.toList_none, List.cons_append, List.nil_append, Option.map_some, cond_true, cond_false, Bool.not_true, Bool.not_false, Bool.true_and, Bool.and_true, Bool.false_and, Bool.and_false, Bool.true_or, Bool.or_true, Bool.false_or, Bool.or_false, Bool.not_not, decide_true, decide_false, Bool.decide_eq_true, Bool.decide_eq_false, qz_0, qz_1, qz_n, qz_n0, qz_n1, qz_t, qz_f, Nat.reduceAdd, q1000000, q0, q1, q2, q3, q4, q5, q6, q7, q8, q9, q10, q11, q12, q13, q14, q15, q16, q18, q19, q20, q21, q22, q23, q24, q25, q26, q27, q28, q29, q30, q31, q32, q38, q44, q45, q48, q57, q58, q59, q60, q63, q64, q97, q122, q126, q127, q128, q255, q256, q300, q580, q600, q1000, nI_add, q_lt_t, q_lt_f, q_eq_t, q_eq_f, q_clamp, q_in_t, q_in_f]⟩
  by_cases u2 : x = nI 2
  · exact ⟨.int (I 0 11), by simp (disch := omega) only [c_X9_told, e_X9_told_0, hc, u2, Option.bind_some, Option.toList_some, Option.toList_none, List.cons_append, List.nil_append, Option.map_some, cond_true, cond_false, Bool.not_true, Bool.not_false, Bool.true_and, Bool.and_true, Bool.false_and, Bool.and_false, Bool.true_or, Bool.or_true, Bool.false_or, Bool.or_false, Bool.not_not, decide_true, decide_false, Bool.decide_eq_true, Bool.decide_eq_false, qz_0, qz_1, qz_n, qz_n0, qz_n1, qz_t, qz_f, Nat.reduceAdd, q1000000, q0, q1, q2, q3, q4, q5, q6, q7, q8, q9, q10, q11, q12, q13, q14, q15, q16, q18, q19, q20, q21, q22, q23, q24, q25, q26, q27, q28, q29, q30, q31, q32, q38, q44, q45, q48, q57, q58, q59, q60, q63, q64, q97, q122, q126, q127, q128, q255, q256, q300, q580, q600, q1000, nI_add, q_lt_t, q_lt_f, q_eq_t, q_eq_f, q_clamp, q_in_t, q_in_f], by simp (disch := omega) only [c_X10_told, e_X10_told_0, h8, h11, hc, u2, Option.bind_some, Option.toList_some, Option.toList_none, List.cons_append, List.nil_append, Option.map_some, cond_true, cond_false, Bool.not_true, Bool.not_false, Bool.true_and, Bool.and_true, Bool.false_and, Bool.and_false, Bool.true_or, Bool.or_true, Bool.false_or, Bool.or_false, Bool.not_not, decide_true, decide_false, Bool.decide_eq_true, Bool.decide_eq_false, qz_0, qz_1, qz_n, qz_n0, qz_n1, qz_t, qz_f, Nat.reduceAdd, q1000000, q0, q1, q2, q3, q4, q5, q6, q7, q8, q9, q10, q11, q12, q13, q14, q15, q16, q18, q19, q20, q21, q22, q23, q24, q25, q26, q27, q28, q29, q30, q31, q32, q38, q44, q45, q48, q57, q58, q59, q60, q63, q64, q97, q122, q126, q127, q128, q255, q256, q300, q580, q600, q1000, nI_add, q_lt_t, q_lt_f, q_eq_t, q_eq_f, q_clamp, q_in_t, q_in_f]⟩
  by_cases u3 : x = nI 3
  · exact ⟨.int (I 0 12), by simp (disch := omega) only [c_X9_told, e_X9_told_0, hc, u3, Option.bind_some, Option.toList_some, Option.toList_none, List.cons_append, List.nil_append, Option.map_some, cond_true, cond_false, Bool.not_true, Bool.not_false, Bool.true_and, Bool.and_true, Bool.false_and, Bool.and_false, Bool.true_or, Bool.or_true, Bool.false_or, Bool.or_false, Bool.not_not, decide_true, decide_false, Bool.decide_eq_true, Bool.decide_eq_false, qz_0, qz_1, qz_n, qz_n0, qz_n1, qz_t, qz_f, Nat.reduceAdd, q1000000, q0, q1, q2, q3, q4, q5, q6, q7, q8, q9, q10, q11, q12, q13, q14, q15, q16, q18, q19, q20, q21, q22, q23, q24, q25, q26, q27, q28, q29, q30, q31, q32, q38, q44, q45, q48, q57, q58, q59, q60, q63, q64, q97, q122, q126, q127, q128, q255, q256, q300, q580, q600, q1000, nI_add, q_lt_t, q_lt_f, q_eq_t, q_eq_f, q_clamp, q_in_t, q_in_f], by simp (disch := omega) only [c_X10_told, e_X10_told_0, h8, h12, hc, u3, Option.bind_some, Option.toList_some, Option.toList_none, List.cons_append, List.nil_append, Option.map_some, cond_true, cond_false, Bool.not_true, Bool.not_false, Bool.true_and, Bool.and_true, Bool.false_and, Bool.and_false, Bool.true_or, Bool.or_true, Bool.false_or, Bool.or_false, Bool.not_not, decide_true, decide_false, Bool.decide_eq_true, Bool.decide_eq_false, qz_0, qz_1, qz_n, qz_n0, qz_n1, qz_t, qz_f, Nat.reduceAdd, q1000000, q0, q1, q2, q3, q4, q5, q6, q7, q8, q9, q10, q11, q12, q13, q14, q15, q16, q18, q19, q20, q21, q22, q23, q24, q25, q26, q27, q28, q29, q30, q31, q32, q38, q44, q45, q48, q57, q58, q59, q60, q63, q64, q97, q122, q126, q127, q128, q255, q256, q300, q580, q600, q1000, nI_add, q_lt_t, q_lt_f, q_eq_t, q_eq_f, q_clamp, q_in_t, q_in_f]⟩
  exact ⟨.int (-1), by simp (disch := omega) only [c_X9_told, e_X9_told_0, hc, u0, u1, u2, u3, Option.bind_some, Option.toList_some, Option.toList_none, List.cons_append, List.nil_append, Option.map_some, cond_true, cond_false, Bool.not_true, Bool.not_false, Bool.true_and, Bool.and_true, Bool.false_and, Bool.and_false, Bool.true_or, Bool.or_true, Bool.false_or, Bool.or_false, Bool.not_not, decide_true, decide_false, Bool.decide_eq_true, Bool.decide_eq_false, qz_0, qz_1, qz_n, qz_n0, qz_n1, qz_t, qz_f, Nat.reduceAdd, q1000000, q0, q1, q2, q3, q4, q5, q6, q7, q8, q9, q10, q11, q12, q13, q14, q15, q16, q18, q19, q20, q21, q22, q23, q24, q25, q26, q27, q28, q29, q30, q31, q32, q38, q44, q45, q48, q57, q58, q59, q60, q63, q64, q97, q122, q126, q127, q128, q255, q256, q300, q580, q600, q1000, nI_add, q_lt_t, q_lt_f, q_eq_t, q_eq_f, q_clamp, q_in_t, q_in_f], by simp (disch := omega) only [c_X10_told, e_X10_told_0, h8, hc, u0, u1, u2, u3, Option.bind_some, Option.toList_some, Option.toList_none, List.cons_append, List.nil_append, Option.map_some, cond_true, cond_false, Bool.not_true, Bool.not_false, Bool.true_and, Bool.and_true, Bool.false_and, Bool.and_false, Bool.true_or, Bool.or_true, Bool.false_or, Bool.or_false, Bool.not_not, decide_true, decide_false, Bool.decide_eq_true, Bool.decide_eq_false, qz_0, qz_1, qz_n, qz_n0, qz_n1, qz_t, qz_f, Nat.reduceAdd, q1000000, q0, q1, q2, q3, q4, q5, q6, q7, q8, q9, q10, q11, q12, q13, q14, q15, q16, q18, q19, q20, q21, q22, q23, q24, q25, q26, q27, q28, q29, q30, q31, q32, q38, q44, q45, q48, q57, q58, q59, q60, q63, q64, q97, q122, q126, q127, q128, q255, q256, q300, q580, q600, q1000, nI_add, q_lt_t, q_lt_f, q_eq_t, q_eq_f, q_clamp, q_in_t, q_in_f]⟩
/-! end -/
theorem s_in_S (h : zH) (x : Int32) {n : Nat} (hn : n < 1000) : zcall zZ nX10_in [.long x.toInt64, .long 0, .long (nI n).toInt64] h = some (some (.int (zbo (zin x (n + 1)))), h) := by
  have := s_in0 h x (n := n + 1) (by omega)
  rw [show nI (n + 1) - 1 = nI n from nI_pred n] at this
  exact this
def cEnd : Nat → Nat → Bool := fun a b => (Nat.beq a 3 && Nat.beq b 1) || (Nat.beq a 52 && Nat.beq b 5)
theorem p_end {I : zI} {L : zL} {N w F T ln A S : Nat} (E : EV I L N w F T ln A S) (x : Int32) : PAIR cEnd nX9_end nX10_end [.int x] I L (fun I2 L2 => ∃ S', EV I2 L2 N w F T ln A S') := by
  obtain ⟨D, ⟨s1, s2, s3, s4⟩, hA, hF, hT⟩ := E
  rcases zin_N (x := x) (n := S + 1) (by omega) with h | ⟨j, hj, rfl⟩
  · refine ⟨.int (-1), I, L, I, L, ?_, ?_, fr_refl _ _, rfl, S, D, ⟨s1, s2, s3, s4⟩, hA, hF, hT⟩
    · rcases zin_no' (by omega) h with q | ⟨u1, u2⟩
      · simp (disch := omega) only [c_X9_end, e_X9_end_0, e_X9_end_15, q, Option.bind_some, Option.toList_some, Option.toList_none, List.cons_append, List.nil_append, Option.map_some, cond_true, cond_false, Bool.not_true, Bool.not_false, Bool.true_and, Bool.and_true, Bool.false_and, Bool.and_false, Bool.true_or, Bool.or_true, Bool.false_or, Bool.or_false, Bool.not_not, decide_true, decide_false, Bool.decide_eq_true, Bool.decide_eq_false, qz_0, qz_1, qz_n, qz_n0, qz_n1, qz_t, qz_f, Nat.reduceAdd, q1000000, q0, q1, q2, q3, q4, q5, q6, q7, q8, q9, q10, q11, q12, q13, q14, q15, q16, q18, q19, q20, q21, q22, q23, q24, q25, q26, q27, q28, q29, q30, q31, q32, q38, q44, q45, q48, q57, q58, q59, q60, q63, q64, q97, q122, q126, q127, q128, q255, q256, q300, q580, q600, q1000, nI_add, q_lt_t, q_lt_f, q_eq_t, q_eq_f, q_clamp, q_in_t, q_in_f]
      · simp (disch := omega) only [c_X9_end, e_X9_end_0, e_X9_end_15, s2, u1, u2, Option.bind_some, Option.toList_some, Option.toList_none, List.cons_append, List.nil_append, Option.map_some, cond_true, cond_false, Bool.not_true, Bool.not_false, Bool.true_and, Bool.and_true, Bool.false_and, Bool.and_false, Bool.true_or, Bool.or_true, Bool.false_or, Bool.or_false, Bool.not_not, decide_true, decide_false, Bool.decide_eq_true, Bool.decide_eq_false, qz_0, qz_1, qz_n, qz_n0, qz_n1, qz_t, qz_f, Nat.reduceAdd, q1000000, q0, q1, q2, q3, q4, q5, q6, q7, q8, q9, q10, q11, q12, q13, q14, q15, q16, q18, q19, q20, q21, q22, q23, q24, q25, q26, q27, q28, q29, q30, q31, q32, q38, q44, q45, q48, q57, q58, q59, q60, q63, q64, q97, q122, q126, q127, q128, q255, q256, q300, q580, q600, q1000, nI_add, q_lt_t, q_lt_f, q_eq_t, q_eq_f, q_clamp, q_in_t, q_in_f]
    · simp (disch := omega) only [c_X10_end, e_X10_end_0, e_X10_end_11, s3, s_in_S, h, Option.bind_some, Option.toList_some, Option.toList_none, List.cons_append, List.nil_append, Option.map_some, cond_true, cond_false, Bool.not_true, Bool.not_false, Bool.true_and, Bool.and_true, Bool.false_and, Bool.and_false, Bool.true_or, Bool.or_true, Bool.false_or, Bool.or_false, Bool.not_not, decide_true, decide_false, Bool.decide_eq_true, Bool.decide_eq_false, qz_0, qz_1, qz_n, qz_n0, qz_n1, qz_t, qz_f, Nat.reduceAdd, q1000000, q0, q1, q2, q3, q4, q5, q6, q7, q8, q9, q10, q11, q12, q13, q14, q15, q16, q18, q19, q20, q21, q22, q23, q24, q25, q26, q27, q28, q29, q30, q31, q32, q38, q44, q45, q48, q57, q58, q59, q60, q63, q64, q97, q122, q126, q127, q128, q255, q256, q300, q580, q600, q1000, nI_add, q_lt_t, q_lt_f, q_eq_t, q_eq_f, q_clamp, q_in_t, q_in_f]
  · refine ⟨.int (nI j), zup I 3 1 (nI j), L, zup (zup I 3 1 (nI j)) 52 5 (nI j), L, ?_, ?_, ?_, rfl, j, ?_, ?_, ?_, ?_, ?_⟩
    · simp (disch := omega) only [c_X9_end, e_X9_end_0, e_X9_end_15, s2, Option.bind_some, Option.toList_some, Option.toList_none, List.cons_append, List.nil_append, Option.map_some, cond_true, cond_false, Bool.not_true, Bool.not_false, Bool.true_and, Bool.and_true, Bool.false_and, Bool.and_false, Bool.true_or, Bool.or_true, Bool.false_or, Bool.or_false, Bool.not_not, decide_true, decide_false, Bool.decide_eq_true, Bool.decide_eq_false, qz_0, qz_1, qz_n, qz_n0, qz_n1, qz_t, qz_f, Nat.reduceAdd, q1000000, q0, q1, q2, q3, q4, q5, q6, q7, q8, q9, q10, q11, q12, q13, q14, q15, q16, q18, q19, q20, q21, q22, q23, q24, q25, q26, q27, q28, q29, q30, q31, q32, q38, q44, q45, q48, q57, q58, q59, q60, q63, q64, q97, q122, q126, q127, q128, q255, q256, q300, q580, q600, q1000, nI_add, q_lt_t, q_lt_f, q_eq_t, q_eq_f, q_clamp, q_in_t, q_in_f]
    · simp (disch := omega) only [c_X10_end, e_X10_end_0, e_X10_end_11, zu_same, zu_cell, zu_at, s3, s_in_S, Option.bind_some, Option.toList_some, Option.toList_none, List.cons_append, List.nil_append, Option.map_some, cond_true, cond_false, Bool.not_true, Bool.not_false, Bool.true_and, Bool.and_true, Bool.false_and, Bool.and_false, Bool.true_or, Bool.or_true, Bool.false_or, Bool.or_false, Bool.not_not, decide_true, decide_false, Bool.decide_eq_true, Bool.decide_eq_false, qz_0, qz_1, qz_n, qz_n0, qz_n1, qz_t, qz_f, Nat.reduceAdd, q1000000, q0, q1, q2, q3, q4, q5, q6, q7, q8, q9, q10, q11, q12, q13, q14, q15, q16, q18, q19, q20, q21, q22, q23, q24, q25, q26, q27, q28, q29, q30, q31, q32, q38, q44, q45, q48, q57, q58, q59, q60, q63, q64, q97, q122, q126, q127, q128, q255, q256, q300, q580, q600, q1000, nI_add, q_lt_t, q_lt_f, q_eq_t, q_eq_f, q_clamp, q_in_t, q_in_f]
    · exact fr_up (fr_up (fr_refl _ _) rfl) rfl
    · exact D.cg (fun a b h => by rw [zu_cell (by omega), zu_cell (by omega)]) (fun b => rfl)
    · refine ⟨by omega, by simp (disch := omega) only [zu_same, zu_cell, zu_at], by simp (disch := omega) only [zu_same, zu_cell, zu_at], fun i hi => ?_⟩
      rw [zu_cell (by omega), zu_cell (by omega), zu_cell (by omega), zu_cell (by omega)]
      exact s4 i (by omega)
    · exact hA.cg (by simp (disch := omega) only [zu_same, zu_cell, zu_at]) (by simp (disch := omega) only [zu_same, zu_cell, zu_at]) (fun b => by simp (disch := omega) only [zu_same, zu_cell, zu_at]) (fun b => by simp (disch := omega) only [zu_same, zu_cell, zu_at])
    · exact hF.cg (fun b => by simp (disch := omega) only [zu_same, zu_cell, zu_at]) (by simp (disch := omega) only [zu_same, zu_cell, zu_at]) (by simp (disch := omega) only [zu_same, zu_cell, zu_at])
    · exact hT.cg (fun b => by simp (disch := omega) only [zu_same, zu_cell, zu_at]) (fun b hb => by simp (disch := omega) only [zu_same, zu_cell, zu_at])
/-! acts -/
theorem goesBack_loop {L : zL} {a : Nat} (ha : a < 20) : ∀ m k (J : zI), k + m = 6 → ∃ J', zrun zZ kX10_goesBack (7, [some (.ref 52), some (.int (nI a)), some (.int (nI k))], [], hp J L, 0, 0) = some (none, hp J' L, 0, 0) ∧ (∀ t, k ≤ t → t < 6 → J' 53 (38 + t) = J 55 (6 * a + t)) ∧ (∀ x y, (x ≠ 53 ∨ y < 38 + k) → J' x y = J x y)
  | 0, k, J, h => by
    obtain rfl : k = 6 := h
    refine ⟨J, ?_, fun t h1 h2 => by omega, fun _ _ _ => rfl⟩
    rw [e_X10_goesBack_7]
    simp (disch := omega) only [Option.bind_some, Option.toList_some, Option.toList_none, List.cons_append, List.nil_append, Option.map_some, cond_true, cond_false, Bool.not_true, Bool.not_false, Bool.true_and, Bool.and_true, Bool.false_and, Bool.and_false, Bool.true_or, Bool.or_true, Bool.false_or, Bool.or_false, Bool.not_not, decide_true, decide_false, Bool.decide_eq_true, Bool.decide_eq_false, qz_0, qz_1, qz_n, qz_n0, qz_n1, qz_t, qz_f, Nat.reduceAdd, q1000000, q0, q1, q2, q3, q4, q5, q6, q7, q8, q9, q10, q11, q12, q13, q14, q15, q16, q18, q19, q20, q21, q22, q23, q24, q25, q26, q27, q28, q29, q30, q31, q32, q38, q44, q45, q48, q57, q58, q59, q60, q63, q64, q97, q122, q126, q127, q128, q255, q256, q300, q580, q600, q1000, nI_add, q_lt_t, q_lt_f, q_eq_t, q_eq_f, q_clamp, q_in_t, q_in_f]
  | m + 1, k, J, h => by
    obtain ⟨J', h1, h2, h3⟩ := goesBack_loop ha m (k + 1) (zup J 53 (38 + k) (J 55 (6 * a + k))) (by omega)
    refine ⟨J', ?_, fun t g1 g2 => ?_, fun x y g => ?_⟩
    · rw [e_X10_goesBack_7]
      simp (disch := omega) only [q_mul, Option.bind_some, Option.toList_some, Option.toList_none, List.cons_append, List.nil_append, Option.map_some, cond_true, cond_false, Bool.not_true, Bool.not_false, Bool.true_and, Bool.and_true, Bool.false_and, Bool.and_false, Bool.true_or, Bool.or_true, Bool.false_or, Bool.or_false, Bool.not_not, decide_true, decide_false, Bool.decide_eq_true, Bool.decide_eq_false, qz_0, qz_1, qz_n, qz_n0, qz_n1, qz_t, qz_f, Nat.reduceAdd, q1000000, q0, q1, q2, q3, q4, q5, q6, q7, q8, q9, q10, q11, q12, q13, q14, q15, q16, q18, q19, q20, q21, q22, q23, q24, q25, q26, q27, q28, q29, q30, q31, q32, q38, q44, q45, q48, q57, q58, q59, q60, q63, q64, q97, q122, q126, q127, q128, q255, q256, q300, q580, q600, q1000, nI_add, q_lt_t, q_lt_f, q_eq_t, q_eq_f, q_clamp, q_in_t, q_in_f]
      exact h1
    · rcases Nat.lt_or_ge k t with q | q
      · rw [h2 t (by omega) g2, zu_cell (by omega)]
      · obtain rfl : t = k := by omega
        rw [h3 53 (38 + t) (by omega), zu_same]
    · rw [h3 x y (by omega)]
      by_cases q : x = 53
      · rw [zu_at (by omega)]
      · rw [zu_cell q]
theorem s_goesBack {J : zI} {L : zL} {a : Nat} (ha : a < 20) : ∃ J', zcall zZ nX10_goesBack [.ref 52, .int (nI a)] (hp J L) = some (none, hp J' L) ∧ (∀ t, t < 6 → J' 53 (38 + t) = J 55 (6 * a + t)) ∧ J' 52 3 = nI a ∧ (∀ x y, (x ≠ 53 ∨ y < 38) → (x ≠ 52 ∨ y ≠ 3) → J' x y = J x y) := by
  obtain ⟨J', h1, h2, h3⟩ := goesBack_loop (L := L) ha 6 0 (zup J 52 3 (nI a)) (by omega)
  refine ⟨J', ?_, fun t ht => ?_, ?_, fun x y g1 g2 => ?_⟩
  · simp (disch := omega) only [c_X10_goesBack, e_X10_goesBack_0, Option.bind_some, Option.toList_some, Option.toList_none, List.cons_append, List.nil_append, Option.map_some, cond_true, cond_false, Bool.not_true, Bool.not_false, Bool.true_and, Bool.and_true, Bool.false_and, Bool.and_false, Bool.true_or, Bool.or_true, Bool.false_or, Bool.or_false, Bool.not_not, decide_true, decide_false, Bool.decide_eq_true, Bool.decide_eq_false, qz_0, qz_1, qz_n, qz_n0, qz_n1, qz_t, qz_f, Nat.reduceAdd, q1000000, q0, q1, q2, q3, q4, q5, q6, q7, q8, q9, q10, q11, q12, q13, q14, q15, q16, q18, q19, q20, q21, q22, q23, q24, q25, q26, q27, q28, q29, q30, q31, q32, q38, q44, q45, q48, q57, q58, q59, q60, q63, q64, q97, q122, q126, q127, q128, q255, q256, q300, q580, q600, q1000, nI_add, q_lt_t, q_lt_f, q_eq_t, q_eq_f, q_clamp, q_in_t, q_in_f, h1]
  · rw [h2 t (by omega) ht, zu_cell (by omega)]
  · rw [h3 52 3 (by omega), zu_same]
  · rw [h3 x y (by omega)]
    by_cases q : x = 52
    · rw [zu_at (by omega)]
    · rw [zu_cell q]
def cAct : Nat → Nat → Bool := fun a b => Nat.beq a 17 || Nat.beq a 10 || Nat.beq a 55 || (Nat.beq a 9 && Nat.beq b 1) || (Nat.beq a 52 && Nat.beq b 3) || (Nat.beq a 53 && Nat.ble 38 b)
theorem cAct_f {a b : Nat} (h : cAct a b = false) : a ≠ 17 ∧ a ≠ 10 ∧ a ≠ 55 ∧ (a ≠ 9 ∨ b ≠ 1) ∧ (a ≠ 52 ∨ b ≠ 3) ∧ (a ≠ 53 ∨ b < 38) := by
  unfold cAct at h
  simp only [Bool.or_eq_false_iff, Bool.and_eq_false_iff] at h
  obtain ⟨⟨⟨⟨⟨h1, h2⟩, h3⟩, h4⟩, h5⟩, h6⟩ := h
  have nb : ∀ {x y : Nat}, Nat.beq x y = false → x ≠ y := fun q e => by rw [e, Nat.beq_refl] at q; cases q
  refine ⟨nb h1, nb h2, nb h3, ?_, ?_, ?_⟩
  · exact h4.imp nb nb
  · exact h5.imp nb nb
  · refine h6.imp nb (fun q => ?_)
    rcases Nat.lt_or_ge b 38 with z | z
    · exact z
    · rw [Nat.ble_eq_true_of_le z] at q
      cases q
/-- the days that run are others: what else holds -/
theorem DK.run {I J : zI} {L : zL} {N w F T ln : Nat} (D : DK I L N w F T ln) (h : ∀ t, t < T → J 53 (38 + t) = J 17 t ∧ sub N (J 17 t)) (h1 : ∀ a b, 11 ≤ a → a ≤ 16 → J a b = I a b) (h2 : ∀ b, b < 38 → J 53 b = I 53 b) : DK J L N w F T ln := by
  obtain ⟨d1, d2, d3, d4, d5, d6, d7⟩ := D
  refine ⟨d1, ?_, ?_, ?_, ?_, ?_, ?_⟩
  · rw [h1 11 6 (by omega) (by omega), h1 11 7 (by omega) (by omega), h1 11 8 (by omega) (by omega), h1 11 9 (by omega) (by omega), h1 11 10 (by omega) (by omega)]
    exact d2
  · rw [h2 0 (by omega), h2 1 (by omega), h2 2 (by omega), h2 3 (by omega), h2 4 (by omega)]
    exact d3
  · intro f hf
    rw [h2 _ (by omega), h1 14 f (by omega) (by omega)]
    exact d4 f hf
  · intro t ht
    rw [h2 _ (by omega), h2 _ (by omega), h1 15 t (by omega) (by omega), h1 16 t (by omega) (by omega)]
    exact ⟨(d5 t ht).1, (d5 t ht).2.1, (h t ht).1, (h t ht).2⟩
  · intro hN P hP
    rw [h1 12 P (by omega) (by omega)]
    exact d6 hN P hP
  · intro f hf
    obtain ⟨cs, n1, n2, n3, n4, n5, n6⟩ := d7 f hf
    refine ⟨cs, n1, n2, n3, ?_, ?_, ?_⟩
    · rw [h2 _ (by omega)]
      exact n4
    · intro i hi
      rw [h2 _ (by omega)]
      exact n5 i hi
    · exact n6
theorem s_backTo {I : zI} {L : zL} {A a : Nat} (hA : A ≤ 20) (h9 : I 9 1 = nI A) (ha : a < A) : zcall zZ nX0_backTo [.ref 9, .int (nI a), .ref 11] (hp I L) = some (none, hp (zup (zcpy I 10 (a * 6) 17 0 6) 9 1 (nI a)) L) := by
  have e1 : Nat.ble (a * 6 + 6) 120 = true := Nat.ble_eq_true_of_le (by omega)
  have e2 : Nat.ble (0 + 6) 6 = true := rfl
  simp (disch := omega) only [c_X0_backTo, e_X0_backTo_0, e_X0_backTo_35, h9, q_mul, e1, e2, Option.bind_some, Option.toList_some, Option.toList_none, List.cons_append, List.nil_append, Option.map_some, cond_true, cond_false, Bool.not_true, Bool.not_false, Bool.true_and, Bool.and_true, Bool.false_and, Bool.and_false, Bool.true_or, Bool.or_true, Bool.false_or, Bool.or_false, Bool.not_not, decide_true, decide_false, Bool.decide_eq_true, Bool.decide_eq_false, qz_0, qz_1, qz_n, qz_n0, qz_n1, qz_t, qz_f, Nat.reduceAdd, q1000000, q0, q1, q2, q3, q4, q5, q6, q7, q8, q9, q10, q11, q12, q13, q14, q15, q16, q18, q19, q20, q21, q22, q23, q24, q25, q26, q27, q28, q29, q30, q31, q32, q38, q44, q45, q48, q57, q58, q59, q60, q63, q64, q97, q122, q126, q127, q128, q255, q256, q300, q580, q600, q1000, nI_add, q_lt_t, q_lt_f, q_eq_t, q_eq_f, q_clamp, q_in_t, q_in_f]
/-- both go back to act a -/
theorem both_back {I : zI} {L : zL} {N w F T ln A S a : Nat} (E : EV I L N w F T ln A S) (ha : a < A) : ∃ J J2, zcall zZ nX0_backTo [.ref 9, .int (nI a), .ref 11] (hp I L) = some (none, hp J L) ∧ zcall zZ nX10_goesBack [.ref 52, .int (nI a)] (hp J L) = some (none, hp J2 L) ∧ fr cAct I J2 ∧ EV J2 L N w F T ln a S ∧ J 9 1 = nI a ∧ J2 52 3 = nI a ∧ J 53 4 = nI ln ∧ J 52 3 = nI A := by
  obtain ⟨D, ⟨s1, s2, s3, s4⟩, ⟨a1, a2, a3, a4⟩, hF, hT⟩ := E
  have hb := D.b
  obtain ⟨J2, g1, g2, g3, g4⟩ := s_goesBack (J := zup (zcpy I 10 (a * 6) 17 0 6) 9 1 (nI a)) (L := L) (a := a) (by omega)
  have k17 : ∀ t, t < 6 → J2 17 t = I 10 (6 * a + t) := fun t ht => by
    rw [g4 17 t (by omega) (by omega), zu_cell (by omega), zc_in (by omega) (by omega)]
    congr 1
    omega
  have k53 : ∀ t, t < 6 → J2 53 (38 + t) = I 55 (6 * a + t) := fun t ht => by
    rw [g2 t ht, zu_cell (by omega), zc_cell (by omega)]
  have ko : ∀ x y, x ≠ 17 → (x ≠ 9 ∨ y ≠ 1) → (x ≠ 53 ∨ y < 38) → (x ≠ 52 ∨ y ≠ 3) → J2 x y = I x y := fun x y p1 p2 p3 p4 => by
    rw [g4 x y p3 p4]
    have : zup (zcpy I 10 (a * 6) 17 0 6) 9 1 (nI a) x y = zcpy I 10 (a * 6) 17 0 6 x y := by
      rcases p2 with p2 | p2
      · exact zu_cell p2
      · exact zu_at p2
    rw [this, zc_cell p1]
  refine ⟨_, J2, s_backTo a1 a2 ha, g1, ?_, ⟨?_, ?_, ?_, ?_, ?_⟩, by rw [zu_same], g3, ?_, ?_⟩
  · intro x y h
    have := cAct_f h
    exact ko x y (by omega) (by omega) (by omega) (by omega)
  · refine D.run (fun t ht => ?_) (fun x y h1 h2 => ko x y (by omega) (by omega) (by omega) (by omega)) (fun b h => ko 53 b (by omega) (by omega) (by omega) (by omega))
    rw [k17 t (by omega), k53 t (by omega)]
    exact a4 a t ha ht
  · exact TP.cg ⟨s1, s2, s3, s4⟩ (ko _ _ (by omega) (by omega) (by omega) (by omega)) (ko _ _ (by omega) (by omega) (by omega) (by omega)) (fun b => ko _ _ (by omega) (by omega) (by omega) (by omega)) (fun b => ko _ _ (by omega) (by omega) (by omega) (by omega))
  · refine ⟨by omega, ?_, g3, fun i t hi ht => ?_⟩
    · rw [g4 9 1 (by omega) (by omega), zu_same]
    · rw [ko 55 _ (by omega) (by omega) (by omega) (by omega), ko 10 _ (by omega) (by omega) (by omega) (by omega)]
      exact a4 i t (by omega) ht
  · exact hF.cg (fun b => ko _ _ (by omega) (by omega) (by omega) (by omega)) (ko _ _ (by omega) (by omega) (by omega) (by omega)) (ko _ _ (by omega) (by omega) (by omega) (by omega))
  · exact hT.cg (fun b => ko _ _ (by omega) (by omega) (by omega) (by omega)) (fun b hb => ko _ _ (by omega) (by omega) (by omega) (by omega))
  · rw [zu_cell (by omega), zc_cell (by omega)]
    exact D.m.2.2.2.2
  · rw [zu_cell (by omega), zc_cell (by omega)]
    exact a3
theorem p_undo {I : zI} {L : zL} {N w F T ln A S : Nat} (E : EV I L N w F T ln A S) : PAIR cAct nX9_undo nX10_undo [] I L (fun I2 L2 => ∃ A', EV I2 L2 N w F T ln A' S) := by
  have E' := E
  obtain ⟨D, -, ⟨a1, a2, a3, -⟩, -, -⟩ := E'
  have hb := D.b
  by_cases h0 : N = 0
  · have hl : ln = 0 := by omega
    exact ⟨.int (-2), I, L, I, L, by simp (disch := omega) only [c_X9_undo, e_X9_undo_0, e_X9_undo_46, D.x.1, h0, Option.bind_some, Option.toList_some, Option.toList_none, List.cons_append, List.nil_append, Option.map_some, cond_true, cond_false, Bool.not_true, Bool.not_false, Bool.true_and, Bool.and_true, Bool.false_and, Bool.and_false, Bool.true_or, Bool.or_true, Bool.false_or, Bool.or_false, Bool.not_not, decide_true, decide_false, Bool.decide_eq_true, Bool.decide_eq_false, qz_0, qz_1, qz_n, qz_n0, qz_n1, qz_t, qz_f, Nat.reduceAdd, q1000000, q0, q1, q2, q3, q4, q5, q6, q7, q8, q9, q10, q11, q12, q13, q14, q15, q16, q18, q19, q20, q21, q22, q23, q24, q25, q26, q27, q28, q29, q30, q31, q32, q38, q44, q45, q48, q57, q58, q59, q60, q63, q64, q97, q122, q126, q127, q128, q255, q256, q300, q580, q600, q1000, nI_add, q_lt_t, q_lt_f, q_eq_t, q_eq_f, q_clamp, q_in_t, q_in_f], by simp (disch := omega) only [c_X10_undo, e_X10_undo_0, e_X10_undo_32, D.m.2.2.2.2, hl, Option.bind_some, Option.toList_some, Option.toList_none, List.cons_append, List.nil_append, Option.map_some, cond_true, cond_false, Bool.not_true, Bool.not_false, Bool.true_and, Bool.and_true, Bool.false_and, Bool.and_false, Bool.true_or, Bool.or_true, Bool.false_or, Bool.or_false, Bool.not_not, decide_true, decide_false, Bool.decide_eq_true, Bool.decide_eq_false, qz_0, qz_1, qz_n, qz_n0, qz_n1, qz_t, qz_f, Nat.reduceAdd, q1000000, q0, q1, q2, q3, q4, q5, q6, q7, q8, q9, q10, q11, q12, q13, q14, q15, q16, q18, q19, q20, q21, q22, q23, q24, q25, q26, q27, q28, q29, q30, q31, q32, q38, q44, q45, q48, q57, q58, q59, q60, q63, q64, q97, q122, q126, q127, q128, q255, q256, q300, q580, q600, q1000, nI_add, q_lt_t, q_lt_f, q_eq_t, q_eq_f, q_clamp, q_in_t, q_in_f], fr_refl _ _, rfl, A, E⟩
  have hl : ln ≠ 0 := by omega
  by_cases hA : A = 0
  · exact ⟨.int (-5), I, L, I, L, by simp (disch := omega) only [c_X9_undo, e_X9_undo_0, e_X9_undo_46, D.x.1, a2, hA, Option.bind_some, Option.toList_some, Option.toList_none, List.cons_append, List.nil_append, Option.map_some, cond_true, cond_false, Bool.not_true, Bool.not_false, Bool.true_and, Bool.and_true, Bool.false_and, Bool.and_false, Bool.true_or, Bool.or_true, Bool.false_or, Bool.or_false, Bool.not_not, decide_true, decide_false, Bool.decide_eq_true, Bool.decide_eq_false, qz_0, qz_1, qz_n, qz_n0, qz_n1, qz_t, qz_f, Nat.reduceAdd, q1000000, q0, q1, q2, q3, q4, q5, q6, q7, q8, q9, q10, q11, q12, q13, q14, q15, q16, q18, q19, q20, q21, q22, q23, q24, q25, q26, q27, q28, q29, q30, q31, q32, q38, q44, q45, q48, q57, q58, q59, q60, q63, q64, q97, q122, q126, q127, q128, q255, q256, q300, q580, q600, q1000, nI_add, q_lt_t, q_lt_f, q_eq_t, q_eq_f, q_clamp, q_in_t, q_in_f], by simp (disch := omega) only [c_X10_undo, e_X10_undo_0, e_X10_undo_32, D.m.2.2.2.2, a3, hA, Option.bind_some, Option.toList_some, Option.toList_none, List.cons_append, List.nil_append, Option.map_some, cond_true, cond_false, Bool.not_true, Bool.not_false, Bool.true_and, Bool.and_true, Bool.false_and, Bool.and_false, Bool.true_or, Bool.or_true, Bool.false_or, Bool.or_false, Bool.not_not, decide_true, decide_false, Bool.decide_eq_true, Bool.decide_eq_false, qz_0, qz_1, qz_n, qz_n0, qz_n1, qz_t, qz_f, Nat.reduceAdd, q1000000, q0, q1, q2, q3, q4, q5, q6, q7, q8, q9, q10, q11, q12, q13, q14, q15, q16, q18, q19, q20, q21, q22, q23, q24, q25, q26, q27, q28, q29, q30, q31, q32, q38, q44, q45, q48, q57, q58, q59, q60, q63, q64, q97, q122, q126, q127, q128, q255, q256, q300, q580, q600, q1000, nI_add, q_lt_t, q_lt_f, q_eq_t, q_eq_f, q_clamp, q_in_t, q_in_f], fr_refl _ _, rfl, A, E⟩
  obtain ⟨J, J2, g1, g2, g3, g4, g5, g6, g7, g8⟩ := both_back E (a := A - 1) (by omega)
  refine ⟨.int (nI (A - 1)), J, L, J2, L, ?_, ?_, g3, rfl, A - 1, g4⟩
  · simp (disch := omega) only [c_X9_undo, e_X9_undo_0, e_X9_undo_46, D.x.1, a2, q_sub, g1, g5, Option.bind_some, Option.toList_some, Option.toList_none, List.cons_append, List.nil_append, Option.map_some, cond_true, cond_false, Bool.not_true, Bool.not_false, Bool.true_and, Bool.and_true, Bool.false_and, Bool.and_false, Bool.true_or, Bool.or_true, Bool.false_or, Bool.or_false, Bool.not_not, decide_true, decide_false, Bool.decide_eq_true, Bool.decide_eq_false, qz_0, qz_1, qz_n, qz_n0, qz_n1, qz_t, qz_f, Nat.reduceAdd, q1000000, q0, q1, q2, q3, q4, q5, q6, q7, q8, q9, q10, q11, q12, q13, q14, q15, q16, q18, q19, q20, q21, q22, q23, q24, q25, q26, q27, q28, q29, q30, q31, q32, q38, q44, q45, q48, q57, q58, q59, q60, q63, q64, q97, q122, q126, q127, q128, q255, q256, q300, q580, q600, q1000, nI_add, q_lt_t, q_lt_f, q_eq_t, q_eq_f, q_clamp, q_in_t, q_in_f]
  · simp (disch := omega) only [c_X10_undo, e_X10_undo_0, e_X10_undo_32, g7, g8, q_sub, g2, g6, Option.bind_some, Option.toList_some, Option.toList_none, List.cons_append, List.nil_append, Option.map_some, cond_true, cond_false, Bool.not_true, Bool.not_false, Bool.true_and, Bool.and_true, Bool.false_and, Bool.and_false, Bool.true_or, Bool.or_true, Bool.false_or, Bool.or_false, Bool.not_not, decide_true, decide_false, Bool.decide_eq_true, Bool.decide_eq_false, qz_0, qz_1, qz_n, qz_n0, qz_n1, qz_t, qz_f, Nat.reduceAdd, q1000000, q0, q1, q2, q3, q4, q5, q6, q7, q8, q9, q10, q11, q12, q13, q14, q15, q16, q18, q19, q20, q21, q22, q23, q24, q25, q26, q27, q28, q29, q30, q31, q32, q38, q44, q45, q48, q57, q58, q59, q60, q63, q64, q97, q122, q126, q127, q128, q255, q256, q300, q580, q600, q1000, nI_add, q_lt_t, q_lt_f, q_eq_t, q_eq_f, q_clamp, q_in_t, q_in_f]
theorem p_anew {I : zI} {L : zL} {N w F T ln A S : Nat} (E : EV I L N w F T ln A S) : PAIR cAct nX9_anew nX10_anew [] I L (fun I2 L2 => ∃ A', EV I2 L2 N w F T ln A' S) := by
  have E' := E
  obtain ⟨D, -, ⟨a1, a2, a3, -⟩, -, -⟩ := E'
  have hb := D.b
  by_cases h0 : N = 0
  · have hl : ln = 0 := by omega
    exact ⟨.int (-2), I, L, I, L, by simp (disch := omega) only [c_X9_anew, e_X9_anew_0, e_X9_anew_37, D.x.1, h0, Option.bind_some, Option.toList_some, Option.toList_none, List.cons_append, List.nil_append, Option.map_some, cond_true, cond_false, Bool.not_true, Bool.not_false, Bool.true_and, Bool.and_true, Bool.false_and, Bool.and_false, Bool.true_or, Bool.or_true, Bool.false_or, Bool.or_false, Bool.not_not, decide_true, decide_false, Bool.decide_eq_true, Bool.decide_eq_false, qz_0, qz_1, qz_n, qz_n0, qz_n1, qz_t, qz_f, Nat.reduceAdd, q1000000, q0, q1, q2, q3, q4, q5, q6, q7, q8, q9, q10, q11, q12, q13, q14, q15, q16, q18, q19, q20, q21, q22, q23, q24, q25, q26, q27, q28, q29, q30, q31, q32, q38, q44, q45, q48, q57, q58, q59, q60, q63, q64, q97, q122, q126, q127, q128, q255, q256, q300, q580, q600, q1000, nI_add, q_lt_t, q_lt_f, q_eq_t, q_eq_f, q_clamp, q_in_t, q_in_f], by simp (disch := omega) only [c_X10_anew, e_X10_anew_0, e_X10_anew_29, D.m.2.2.2.2, hl, Option.bind_some, Option.toList_some, Option.toList_none, List.cons_append, List.nil_append, Option.map_some, cond_true, cond_false, Bool.not_true, Bool.not_false, Bool.true_and, Bool.and_true, Bool.false_and, Bool.and_false, Bool.true_or, Bool.or_true, Bool.false_or, Bool.or_false, Bool.not_not, decide_true, decide_false, Bool.decide_eq_true, Bool.decide_eq_false, qz_0, qz_1, qz_n, qz_n0, qz_n1, qz_t, qz_f, Nat.reduceAdd, q1000000, q0, q1, q2, q3, q4, q5, q6, q7, q8, q9, q10, q11, q12, q13, q14, q15, q16, q18, q19, q20, q21, q22, q23, q24, q25, q26, q27, q28, q29, q30, q31, q32, q38, q44, q45, q48, q57, q58, q59, q60, q63, q64, q97, q122, q126, q127, q128, q255, q256, q300, q580, q600, q1000, nI_add, q_lt_t, q_lt_f, q_eq_t, q_eq_f, q_clamp, q_in_t, q_in_f], fr_refl _ _, rfl, A, E⟩
  have hl : ln ≠ 0 := by omega
  by_cases hA : A = 0
  · exact ⟨.int (nI 0), I, L, I, L, by simp (disch := omega) only [c_X9_anew, e_X9_anew_0, e_X9_anew_37, D.x.1, a2, hA, Option.bind_some, Option.toList_some, Option.toList_none, List.cons_append, List.nil_append, Option.map_some, cond_true, cond_false, Bool.not_true, Bool.not_false, Bool.true_and, Bool.and_true, Bool.false_and, Bool.and_false, Bool.true_or, Bool.or_true, Bool.false_or, Bool.or_false, Bool.not_not, decide_true, decide_false, Bool.decide_eq_true, Bool.decide_eq_false, qz_0, qz_1, qz_n, qz_n0, qz_n1, qz_t, qz_f, Nat.reduceAdd, q1000000, q0, q1, q2, q3, q4, q5, q6, q7, q8, q9, q10, q11, q12, q13, q14, q15, q16, q18, q19, q20, q21, q22, q23, q24, q25, q26, q27, q28, q29, q30, q31, q32, q38, q44, q45, q48, q57, q58, q59, q60, q63, q64, q97, q122, q126, q127, q128, q255, q256, q300, q580, q600, q1000, nI_add, q_lt_t, q_lt_f, q_eq_t, q_eq_f, q_clamp, q_in_t, q_in_f], by simp (disch := omega) only [c_X10_anew, e_X10_anew_0, e_X10_anew_29, D.m.2.2.2.2, a3, hA, Option.bind_some, Option.toList_some, Option.toList_none, List.cons_append, List.nil_append, Option.map_some, cond_true, cond_false, Bool.not_true, Bool.not_false, Bool.true_and, Bool.and_true, Bool.false_and, Bool.and_false, Bool.true_or, Bool.or_true, Bool.false_or, Bool.or_false, Bool.not_not, decide_true, decide_false, Bool.decide_eq_true, Bool.decide_eq_false, qz_0, qz_1, qz_n, qz_n0, qz_n1, qz_t, qz_f, Nat.reduceAdd, q1000000, q0, q1, q2, q3, q4, q5, q6, q7, q8, q9, q10, q11, q12, q13, q14, q15, q16, q18, q19, q20, q21, q22, q23, q24, q25, q26, q27, q28, q29, q30, q31, q32, q38, q44, q45, q48, q57, q58, q59, q60, q63, q64, q97, q122, q126, q127, q128, q255, q256, q300, q580, q600, q1000, nI_add, q_lt_t, q_lt_f, q_eq_t, q_eq_f, q_clamp, q_in_t, q_in_f], fr_refl _ _, rfl, A, E⟩
  obtain ⟨J, J2, g1, g2, g3, g4, g5, g6, g7, g8⟩ := both_back E (a := 0) (by omega)
  refine ⟨.int (nI A), J, L, J2, L, ?_, ?_, g3, rfl, 0, g4⟩
  · simp (disch := omega) only [c_X9_anew, e_X9_anew_0, e_X9_anew_37, D.x.1, a2, g1, Option.bind_some, Option.toList_some, Option.toList_none, List.cons_append, List.nil_append, Option.map_some, cond_true, cond_false, Bool.not_true, Bool.not_false, Bool.true_and, Bool.and_true, Bool.false_and, Bool.and_false, Bool.true_or, Bool.or_true, Bool.false_or, Bool.or_false, Bool.not_not, decide_true, decide_false, Bool.decide_eq_true, Bool.decide_eq_false, qz_0, qz_1, qz_n, qz_n0, qz_n1, qz_t, qz_f, Nat.reduceAdd, q1000000, q0, q1, q2, q3, q4, q5, q6, q7, q8, q9, q10, q11, q12, q13, q14, q15, q16, q18, q19, q20, q21, q22, q23, q24, q25, q26, q27, q28, q29, q30, q31, q32, q38, q44, q45, q48, q57, q58, q59, q60, q63, q64, q97, q122, q126, q127, q128, q255, q256, q300, q580, q600, q1000, nI_add, q_lt_t, q_lt_f, q_eq_t, q_eq_f, q_clamp, q_in_t, q_in_f]
  · simp (disch := omega) only [c_X10_anew, e_X10_anew_0, e_X10_anew_29, g7, g8, g2, Option.bind_some, Option.toList_some, Option.toList_none, List.cons_append, List.nil_append, Option.map_some, cond_true, cond_false, Bool.not_true, Bool.not_false, Bool.true_and, Bool.and_true, Bool.false_and, Bool.and_false, Bool.true_or, Bool.or_true, Bool.false_or, Bool.or_false, Bool.not_not, decide_true, decide_false, Bool.decide_eq_true, Bool.decide_eq_false, qz_0, qz_1, qz_n, qz_n0, qz_n1, qz_t, qz_f, Nat.reduceAdd, q1000000, q0, q1, q2, q3, q4, q5, q6, q7, q8, q9, q10, q11, q12, q13, q14, q15, q16, q18, q19, q20, q21, q22, q23, q24, q25, q26, q27, q28, q29, q30, q31, q32, q38, q44, q45, q48, q57, q58, q59, q60, q63, q64, q97, q122, q126, q127, q128, q255, q256, q300, q580, q600, q1000, nI_add, q_lt_t, q_lt_f, q_eq_t, q_eq_f, q_clamp, q_in_t, q_in_f]
