/-! more of what the two answer without a change -/
theorem b_pds {N w P : Nat} (hN : N ≤ 28) (i : Nat) : bt (pds N w P) i = (decide (i < N) && P.testBit ((w + i) % 7)) := b_dset _ N (by omega) i
theorem bt_nI {n : Nat} (h : n < 4294967296) (i : Nat) : bt (nI n) i = n.testBit i := by
  show (nI n).toBitVec.toNat.testBit i = _
  rw [nI_bv h]
theorem dset_num (f : Nat → Bool) {n : Nat} (hn : n < 32) : ∃ k, k < 2 ^ n ∧ dset f n = nI k ∧ ∀ i, k.testBit i = (decide (i < n) && f i) := by
  obtain ⟨k, hk, e⟩ := sub_num hn (sub_dset f (show n ≤ 32 by omega))
  refine ⟨k, hk, e, fun i => ?_⟩
  have hk2 : k < 4294967296 := by
    have : 2 ^ n < 2 ^ 32 := Nat.pow_lt_pow_right (by decide) hn
    omega
  rw [← b_dset f n (by omega) i, e, bt_nI hk2]
theorem straysM_loop {I : zI} {L : zL} {N w F T ln : Nat} (D : DK I L N w F T ln) {t : Nat} (ht : t < T) (v : Int32) : ∀ m d, d + m = N → zrun zZ kX10_strays (22, [some (.ref 52), some (.int (nI t)), some (.int v), some (.int (nI (cnt (fun d => bt v ((w + d) % 7) ^^ bt (I 17 t) d) d))), some (.int (nI d))], [], hp I L, 0, 0) = some (some (.int (nI (cnt (fun d => bt v ((w + d) % 7) ^^ bt (I 17 t) d) N))), hp I L, 0, 0)
  | 0, d, h => by
    have hb := D.b
    obtain rfl : d = N := h
    simp (disch := omega) only [e_X10_strays_22, D.m.1, Option.bind_some, Option.toList_some, Option.toList_none, List.cons_append, List.nil_append, Option.map_some, cond_true, cond_false, Bool.not_true, Bool.not_false, Bool.true_and, Bool.and_true, Bool.false_and, Bool.and_false, Bool.true_or, Bool.or_true, Bool.false_or, Bool.or_false, Bool.not_not, decide_true, decide_false, Bool.decide_eq_true, Bool.decide_eq_false, qz_0, qz_1, qz_n, qz_n0, qz_n1, qz_t, qz_f, Nat.reduceAdd, q0, q1, q2, q3, q4, q5, q6, q7, q8, q9, q10, q11, q12, q13, q14, q15, q16, q18, q19, q20, q21, q22, q23, q24, q25, q26, q27, q28, q29, q30, q31, q32, q38, q44, q45, q48, q57, q58, q59, q60, q63, q64, q97, q122, q126, q127, q128, q255, q256, q300, q580, q600, q1000, nI_add, q_lt_t, q_lt_f, q_eq_t, q_eq_f, q_clamp, q_in_t, q_in_f]
  | m + 1, d, h => by
    have hb := D.b
    have ih := straysM_loop D ht v m (d + 1) (by omega)
    rw [show cnt (fun d => bt v ((w + d) % 7) ^^ bt (I 17 t) d) (d + 1) = cnt (fun d => bt v ((w + d) % 7) ^^ bt (I 17 t) d) d + (bt v ((w + d) % 7) ^^ bt (I 17 t) d).toNat from rfl] at ih
    rw [e_X10_strays_22]
    have h7 : (w + d) % 7 < 32 := by omega
    cases h1 : bt v ((w + d) % 7) <;> cases h2 : bt (I 17 t) d <;> rw [h1, h2] at ih <;> simp (disch := omega) only [e_X10_strays_0, e_X10_strays_5, e_X10_strays_16, e_X10_strays_41, e_X10_strays_44, e_X10_strays_49, e_X10_strays_54, e_X10_strays_62, e_X10_strays_65, D.m.1, s_Mwk D, s_Mruns D ht, s_has' _ v h7, s_has', h1, h2, s_flag0, s_flag1, Option.bind_some, Option.toList_some, Option.toList_none, List.cons_append, List.nil_append, Option.map_some, cond_true, cond_false, Bool.not_true, Bool.not_false, Bool.true_and, Bool.and_true, Bool.false_and, Bool.and_false, Bool.true_or, Bool.or_true, Bool.false_or, Bool.or_false, Bool.not_not, decide_true, decide_false, Bool.decide_eq_true, Bool.decide_eq_false, qz_0, qz_1, qz_n, qz_n0, qz_n1, qz_t, qz_f, Nat.reduceAdd, q0, q1, q2, q3, q4, q5, q6, q7, q8, q9, q10, q11, q12, q13, q14, q15, q16, q18, q19, q20, q21, q22, q23, q24, q25, q26, q27, q28, q29, q30, q31, q32, q38, q44, q45, q48, q57, q58, q59, q60, q63, q64, q97, q122, q126, q127, q128, q255, q256, q300, q580, q600, q1000, nI_add, q_lt_t, q_lt_f, q_eq_t, q_eq_f, q_clamp, q_in_t, q_in_f] <;> exact ih
theorem pow31 {n : Nat} (h : n < 32) : 2 ^ n < 4294967296 := by
  have : 2 ^ n < 2 ^ 32 := Nat.pow_lt_pow_right (by decide) h
  exact this
theorem p_strays {I : zI} {L : zL} {N w F T ln : Nat} (D : DK I L N w F T ln) (x : Int32) : SAME nX9_strays nX10_strays [.int x] I L := by
  have hb := D.b
  rcases zin_N (x := x) (n := T) (by omega) with h | ⟨j, hj, rfl⟩
  · refine ⟨.int (-2), ?_, ?_⟩
    · simp (disch := omega) only [c_X9_strays, e_X9_strays_0, e_X9_strays_5, e_X9_strays_34, e_X9_strays_39, s_Xtrain D, h, Option.bind_some, Option.toList_some, Option.toList_none, List.cons_append, List.nil_append, Option.map_some, cond_true, cond_false, Bool.not_true, Bool.not_false, Bool.true_and, Bool.and_true, Bool.false_and, Bool.and_false, Bool.true_or, Bool.or_true, Bool.false_or, Bool.or_false, Bool.not_not, decide_true, decide_false, Bool.decide_eq_true, Bool.decide_eq_false, qz_0, qz_1, qz_n, qz_n0, qz_n1, qz_t, qz_f, Nat.reduceAdd, q0, q1, q2, q3, q4, q5, q6, q7, q8, q9, q10, q11, q12, q13, q14, q15, q16, q18, q19, q20, q21, q22, q23, q24, q25, q26, q27, q28, q29, q30, q31, q32, q38, q44, q45, q48, q57, q58, q59, q60, q63, q64, q97, q122, q126, q127, q128, q255, q256, q300, q580, q600, q1000, nI_add, q_lt_t, q_lt_f, q_eq_t, q_eq_f, q_clamp, q_in_t, q_in_f]
    · simp (disch := omega) only [c_X10_strays, e_X10_strays_0, e_X10_strays_5, e_X10_strays_16, e_X10_strays_41, e_X10_strays_44, e_X10_strays_49, e_X10_strays_54, e_X10_strays_62, e_X10_strays_65, s_Mtrain D, h, Option.bind_some, Option.toList_some, Option.toList_none, List.cons_append, List.nil_append, Option.map_some, cond_true, cond_false, Bool.not_true, Bool.not_false, Bool.true_and, Bool.and_true, Bool.false_and, Bool.and_false, Bool.true_or, Bool.or_true, Bool.false_or, Bool.or_false, Bool.not_not, decide_true, decide_false, Bool.decide_eq_true, Bool.decide_eq_false, qz_0, qz_1, qz_n, qz_n0, qz_n1, qz_t, qz_f, Nat.reduceAdd, q0, q1, q2, q3, q4, q5, q6, q7, q8, q9, q10, q11, q12, q13, q14, q15, q16, q18, q19, q20, q21, q22, q23, q24, q25, q26, q27, q28, q29, q30, q31, q32, q38, q44, q45, q48, q57, q58, q59, q60, q63, q64, q97, q122, q126, q127, q128, q255, q256, q300, q580, q600, q1000, nI_add, q_lt_t, q_lt_f, q_eq_t, q_eq_f, q_clamp, q_in_t, q_in_f]
  · obtain ⟨k, hk, e, hbit⟩ := dset_num (vts N w (I 17 j)) (n := 7) (by omega)
    have hk : k < 128 := hk
    refine ⟨.int (nI (pop (I 17 j ^^^ pds N w k))), ?_, ?_⟩
    · simp (disch := omega) only [c_X9_strays, e_X9_strays_0, e_X9_strays_5, e_X9_strays_34, e_X9_strays_39, s_Xtrain D, s_votedX D (D.nz hj), e, j_bitCount, D.pd (D.nz hj) hk, Option.bind_some, Option.toList_some, Option.toList_none, List.cons_append, List.nil_append, Option.map_some, cond_true, cond_false, Bool.not_true, Bool.not_false, Bool.true_and, Bool.and_true, Bool.false_and, Bool.and_false, Bool.true_or, Bool.or_true, Bool.false_or, Bool.or_false, Bool.not_not, decide_true, decide_false, Bool.decide_eq_true, Bool.decide_eq_false, qz_0, qz_1, qz_n, qz_n0, qz_n1, qz_t, qz_f, Nat.reduceAdd, q0, q1, q2, q3, q4, q5, q6, q7, q8, q9, q10, q11, q12, q13, q14, q15, q16, q18, q19, q20, q21, q22, q23, q24, q25, q26, q27, q28, q29, q30, q31, q32, q38, q44, q45, q48, q57, q58, q59, q60, q63, q64, q97, q122, q126, q127, q128, q255, q256, q300, q580, q600, q1000, nI_add, q_lt_t, q_lt_f, q_eq_t, q_eq_f, q_clamp, q_in_t, q_in_f]
    · have hl := straysM_loop D hj (nI k) N 0 (by omega)
      rw [show cnt (fun d => bt (nI k) ((w + d) % 7) ^^ bt (I 17 j) d) 0 = 0 from rfl] at hl
      simp (disch := omega) only [c_X10_strays, e_X10_strays_0, e_X10_strays_5, e_X10_strays_16, e_X10_strays_41, e_X10_strays_44, e_X10_strays_49, e_X10_strays_54, e_X10_strays_62, e_X10_strays_65, s_Mtrain D, s_voteM D hj, e, Option.bind_some, Option.toList_some, Option.toList_none, List.cons_append, List.nil_append, Option.map_some, cond_true, cond_false, Bool.not_true, Bool.not_false, Bool.true_and, Bool.and_true, Bool.false_and, Bool.and_false, Bool.true_or, Bool.or_true, Bool.false_or, Bool.or_false, Bool.not_not, decide_true, decide_false, Bool.decide_eq_true, Bool.decide_eq_false, qz_0, qz_1, qz_n, qz_n0, qz_n1, qz_t, qz_f, Nat.reduceAdd, q0, q1, q2, q3, q4, q5, q6, q7, q8, q9, q10, q11, q12, q13, q14, q15, q16, q18, q19, q20, q21, q22, q23, q24, q25, q26, q27, q28, q29, q30, q31, q32, q38, q44, q45, q48, q57, q58, q59, q60, q63, q64, q97, q122, q126, q127, q128, q255, q256, q300, q580, q600, q1000, nI_add, q_lt_t, q_lt_f, q_eq_t, q_eq_f, q_clamp, q_in_t, q_in_f, hl]
      rw [pop_sub (n := N) (by omega) (sub_xor (y := pds N w k) (D.ts hj) (sub_dset _ (by omega)))]
      rw [cnt_congr N (g := bt (I 17 j ^^^ pds N w k)) (fun i hi => ?_)]
      rw [b_xor, b_pds hb.1, decide_eq_true hi, Bool.true_and, bt_nI (by omega), Bool.xor_comm]
/-! the next day -/
def fnd (f : Nat → Bool) : Nat → Nat → Option Nat
  | _, 0 => none
  | j, m + 1 => cond (f j) (some j) (fnd f (j + 1) m)
theorem fnd_none {f : Nat → Bool} : ∀ m j, fnd f j m = none → ∀ i, j ≤ i → i < j + m → f i = false
  | 0, j, _, i, h1, h2 => by omega
  | m + 1, j, h, i, h1, h2 => by
    cases hf : f j with
    | true =>
      have h : cond (f j) (some j) (fnd f (j + 1) m) = none := h
      rw [hf] at h
      cases h
    | false =>
      have h : cond (f j) (some j) (fnd f (j + 1) m) = none := h
      rw [hf] at h
      rcases Nat.lt_or_ge j i with q | q
      · exact fnd_none m (j + 1) h i q (by omega)
      · rw [show i = j by omega]
        exact hf
theorem fnd_some {f : Nat → Bool} {t : Nat} : ∀ m j, fnd f j m = some t → j ≤ t ∧ t < j + m ∧ f t = true ∧ ∀ i, j ≤ i → i < t → f i = false
  | 0, j, h => by cases h
  | m + 1, j, h => by
    have h : cond (f j) (some j) (fnd f (j + 1) m) = some t := h
    cases hf : f j with
    | true =>
      rw [hf] at h
      have h : j = t := by injection h
      subst h
      exact ⟨Nat.le_refl _, by omega, hf, fun i h1 h2 => by omega⟩
    | false =>
      rw [hf] at h
      obtain ⟨a, b, c, d⟩ := fnd_some m (j + 1) h
      refine ⟨by omega, by omega, c, fun i h1 h2 => ?_⟩
      rcases Nat.lt_or_ge j i with q | q
      · exact d i q h2
      · rw [show i = j by omega]
        exact hf
theorem nextM_loop {I : zI} {L : zL} {N w F T ln : Nat} (D : DK I L N w F T ln) {t : Nat} (ht : t < T) : ∀ m d, d + m = N → zrun zZ kX10_next_ (21, [some (.ref 52), some (.int (nI t)), none, some (.int (nI d))], [], hp I L, 0, 0) = some (some (.int (match fnd (bt (I 17 t)) d m with | some k => nI k | none => -1)), hp I L, 0, 0)
  | 0, d, h => by
    have hb := D.b
    obtain rfl : d = N := h
    simp (disch := omega) only [e_X10_next__21, D.m.1, Option.bind_some, Option.toList_some, Option.toList_none, List.cons_append, List.nil_append, Option.map_some, cond_true, cond_false, Bool.not_true, Bool.not_false, Bool.true_and, Bool.and_true, Bool.false_and, Bool.and_false, Bool.true_or, Bool.or_true, Bool.false_or, Bool.or_false, Bool.not_not, decide_true, decide_false, Bool.decide_eq_true, Bool.decide_eq_false, qz_0, qz_1, qz_n, qz_n0, qz_n1, qz_t, qz_f, Nat.reduceAdd, q0, q1, q2, q3, q4, q5, q6, q7, q8, q9, q10, q11, q12, q13, q14, q15, q16, q18, q19, q20, q21, q22, q23, q24, q25, q26, q27, q28, q29, q30, q31, q32, q38, q44, q45, q48, q57, q58, q59, q60, q63, q64, q97, q122, q126, q127, q128, q255, q256, q300, q580, q600, q1000, nI_add, q_lt_t, q_lt_f, q_eq_t, q_eq_f, q_clamp, q_in_t, q_in_f, fnd]
  | m + 1, d, h => by
    have hb := D.b
    have ih := nextM_loop D ht m (d + 1) (by omega)
    rw [e_X10_next__21]
    unfold fnd
    cases h2 : bt (I 17 t) d <;> simp (disch := omega) only [e_X10_next__0, e_X10_next__5, e_X10_next__16, e_X10_next__13, e_X10_next__36, e_X10_next__40, D.m.1, s_Mruns D ht, s_has', h2, Option.bind_some, Option.toList_some, Option.toList_none, List.cons_append, List.nil_append, Option.map_some, cond_true, cond_false, Bool.not_true, Bool.not_false, Bool.true_and, Bool.and_true, Bool.false_and, Bool.and_false, Bool.true_or, Bool.or_true, Bool.false_or, Bool.or_false, Bool.not_not, decide_true, decide_false, Bool.decide_eq_true, Bool.decide_eq_false, qz_0, qz_1, qz_n, qz_n0, qz_n1, qz_t, qz_f, Nat.reduceAdd, q0, q1, q2, q3, q4, q5, q6, q7, q8, q9, q10, q11, q12, q13, q14, q15, q16, q18, q19, q20, q21, q22, q23, q24, q25, q26, q27, q28, q29, q30, q31, q32, q38, q44, q45, q48, q57, q58, q59, q60, q63, q64, q97, q122, q126, q127, q128, q255, q256, q300, q580, q600, q1000, nI_add, q_lt_t, q_lt_f, q_eq_t, q_eq_f, q_clamp, q_in_t, q_in_f]
    rw [ih]
    rfl
theorem p_next {I : zI} {L : zL} {N w F T ln : Nat} (D : DK I L N w F T ln) (x y : Int32) : SAME nX9_next nX10_next_ [.int x, .int y] I L := by
  have hb := D.b
  rcases zin_N (x := x) (n := T) (by omega) with h | ⟨j, hj, rfl⟩
  · refine ⟨.int (-2), ?_, ?_⟩
    · simp (disch := omega) only [c_X9_next, e_X9_next_0, e_X9_next_5, e_X9_next_16, e_X9_next_13, e_X9_next_44, e_X9_next_45, s_Xtrain D, h, Option.bind_some, Option.toList_some, Option.toList_none, List.cons_append, List.nil_append, Option.map_some, cond_true, cond_false, Bool.not_true, Bool.not_false, Bool.true_and, Bool.and_true, Bool.false_and, Bool.and_false, Bool.true_or, Bool.or_true, Bool.false_or, Bool.or_false, Bool.not_not, decide_true, decide_false, Bool.decide_eq_true, Bool.decide_eq_false, qz_0, qz_1, qz_n, qz_n0, qz_n1, qz_t, qz_f, Nat.reduceAdd, q0, q1, q2, q3, q4, q5, q6, q7, q8, q9, q10, q11, q12, q13, q14, q15, q16, q18, q19, q20, q21, q22, q23, q24, q25, q26, q27, q28, q29, q30, q31, q32, q38, q44, q45, q48, q57, q58, q59, q60, q63, q64, q97, q122, q126, q127, q128, q255, q256, q300, q580, q600, q1000, nI_add, q_lt_t, q_lt_f, q_eq_t, q_eq_f, q_clamp, q_in_t, q_in_f]
    · simp (disch := omega) only [c_X10_next_, e_X10_next__0, e_X10_next__5, e_X10_next__16, e_X10_next__13, e_X10_next__36, e_X10_next__40, s_Mtrain D, h, Option.bind_some, Option.toList_some, Option.toList_none, List.cons_append, List.nil_append, Option.map_some, cond_true, cond_false, Bool.not_true, Bool.not_false, Bool.true_and, Bool.and_true, Bool.false_and, Bool.and_false, Bool.true_or, Bool.or_true, Bool.false_or, Bool.or_false, Bool.not_not, decide_true, decide_false, Bool.decide_eq_true, Bool.decide_eq_false, qz_0, qz_1, qz_n, qz_n0, qz_n1, qz_t, qz_f, Nat.reduceAdd, q0, q1, q2, q3, q4, q5, q6, q7, q8, q9, q10, q11, q12, q13, q14, q15, q16, q18, q19, q20, q21, q22, q23, q24, q25, q26, q27, q28, q29, q30, q31, q32, q38, q44, q45, q48, q57, q58, q59, q60, q63, q64, q97, q122, q126, q127, q128, q255, q256, q300, q580, q600, q1000, nI_add, q_lt_t, q_lt_f, q_eq_t, q_eq_f, q_clamp, q_in_t, q_in_f]
  rcases zin_N (x := y) (n := N) (by omega) with h | ⟨d, hd, rfl⟩
  · refine ⟨.int (-2), ?_, ?_⟩
    · simp (disch := omega) only [c_X9_next, e_X9_next_0, e_X9_next_5, e_X9_next_16, e_X9_next_13, e_X9_next_44, e_X9_next_45, s_Xtrain D, s_Xday D, h, Option.bind_some, Option.toList_some, Option.toList_none, List.cons_append, List.nil_append, Option.map_some, cond_true, cond_false, Bool.not_true, Bool.not_false, Bool.true_and, Bool.and_true, Bool.false_and, Bool.and_false, Bool.true_or, Bool.or_true, Bool.false_or, Bool.or_false, Bool.not_not, decide_true, decide_false, Bool.decide_eq_true, Bool.decide_eq_false, qz_0, qz_1, qz_n, qz_n0, qz_n1, qz_t, qz_f, Nat.reduceAdd, q0, q1, q2, q3, q4, q5, q6, q7, q8, q9, q10, q11, q12, q13, q14, q15, q16, q18, q19, q20, q21, q22, q23, q24, q25, q26, q27, q28, q29, q30, q31, q32, q38, q44, q45, q48, q57, q58, q59, q60, q63, q64, q97, q122, q126, q127, q128, q255, q256, q300, q580, q600, q1000, nI_add, q_lt_t, q_lt_f, q_eq_t, q_eq_f, q_clamp, q_in_t, q_in_f]
    · simp (disch := omega) only [c_X10_next_, e_X10_next__0, e_X10_next__5, e_X10_next__16, e_X10_next__13, e_X10_next__36, e_X10_next__40, s_Mtrain D, s_Mday D, h, Option.bind_some, Option.toList_some, Option.toList_none, List.cons_append, List.nil_append, Option.map_some, cond_true, cond_false, Bool.not_true, Bool.not_false, Bool.true_and, Bool.and_true, Bool.false_and, Bool.and_false, Bool.true_or, Bool.or_true, Bool.false_or, Bool.or_false, Bool.not_not, decide_true, decide_false, Bool.decide_eq_true, Bool.decide_eq_false, qz_0, qz_1, qz_n, qz_n0, qz_n1, qz_t, qz_f, Nat.reduceAdd, q0, q1, q2, q3, q4, q5, q6, q7, q8, q9, q10, q11, q12, q13, q14, q15, q16, q18, q19, q20, q21, q22, q23, q24, q25, q26, q27, q28, q29, q30, q31, q32, q38, q44, q45, q48, q57, q58, q59, q60, q63, q64, q97, q122, q126, q127, q128, q255, q256, q300, q580, q600, q1000, nI_add, q_lt_t, q_lt_f, q_eq_t, q_eq_f, q_clamp, q_in_t, q_in_f]
  · have hl := nextM_loop D hj (N - d) d (by omega)
    have hs := D.ts hj
    have hsh : ∀ i, i < 32 → bt (I 17 j >>> (nI d &&& nI 31)) i = bt (I 17 j) (d + i) := fun i hi => by
      have := b_sshr d (by omega) (I 17 j) hi
      rw [show (I 17 j >>> (nI d &&& nI 31)) = (I 17 j >>> (nI d &&& 31)) from rfl, this]
      by_cases q : d + i < 32
      · rw [if_pos q]
      · rw [if_neg q, hs 31 (by omega), hs (d + i) (by omega)]
    cases hf : fnd (bt (I 17 j)) d (N - d) with
    | none =>
      rw [hf] at hl
      have h0 : I 17 j >>> (nI d &&& nI 31) = nI 0 := b_ext fun i hi => by
        rw [hsh i hi, show bt (nI 0) i = false from b_0 i]
        rcases Nat.lt_or_ge (d + i) N with q | q
        · exact fnd_none _ _ hf _ (by omega) (by omega)
        · exact hs _ q
      refine ⟨.int (-1), ?_, ?_⟩
      · simp (disch := omega) only [c_X9_next, e_X9_next_0, e_X9_next_5, e_X9_next_16, e_X9_next_13, e_X9_next_44, e_X9_next_45, s_Xtrain D, s_Xday D, h0, Option.bind_some, Option.toList_some, Option.toList_none, List.cons_append, List.nil_append, Option.map_some, cond_true, cond_false, Bool.not_true, Bool.not_false, Bool.true_and, Bool.and_true, Bool.false_and, Bool.and_false, Bool.true_or, Bool.or_true, Bool.false_or, Bool.or_false, Bool.not_not, decide_true, decide_false, Bool.decide_eq_true, Bool.decide_eq_false, qz_0, qz_1, qz_n, qz_n0, qz_n1, qz_t, qz_f, Nat.reduceAdd, q0, q1, q2, q3, q4, q5, q6, q7, q8, q9, q10, q11, q12, q13, q14, q15, q16, q18, q19, q20, q21, q22, q23, q24, q25, q26, q27, q28, q29, q30, q31, q32, q38, q44, q45, q48, q57, q58, q59, q60, q63, q64, q97, q122, q126, q127, q128, q255, q256, q300, q580, q600, q1000, nI_add, q_lt_t, q_lt_f, q_eq_t, q_eq_f, q_clamp, q_in_t, q_in_f]
      · simp (disch := omega) only [c_X10_next_, e_X10_next__0, e_X10_next__5, e_X10_next__16, e_X10_next__13, e_X10_next__36, e_X10_next__40, s_Mtrain D, s_Mday D, hl, Option.bind_some, Option.toList_some, Option.toList_none, List.cons_append, List.nil_append, Option.map_some, cond_true, cond_false, Bool.not_true, Bool.not_false, Bool.true_and, Bool.and_true, Bool.false_and, Bool.and_false, Bool.true_or, Bool.or_true, Bool.false_or, Bool.or_false, Bool.not_not, decide_true, decide_false, Bool.decide_eq_true, Bool.decide_eq_false, qz_0, qz_1, qz_n, qz_n0, qz_n1, qz_t, qz_f, Nat.reduceAdd, q0, q1, q2, q3, q4, q5, q6, q7, q8, q9, q10, q11, q12, q13, q14, q15, q16, q18, q19, q20, q21, q22, q23, q24, q25, q26, q27, q28, q29, q30, q31, q32, q38, q44, q45, q48, q57, q58, q59, q60, q63, q64, q97, q122, q126, q127, q128, q255, q256, q300, q580, q600, q1000, nI_add, q_lt_t, q_lt_f, q_eq_t, q_eq_f, q_clamp, q_in_t, q_in_f]
    | some t =>
      rw [hf] at hl
      obtain ⟨f1, f2, f3, f4⟩ := fnd_some _ _ hf
      have h0 : ¬ I 17 j >>> (nI d &&& nI 31) = nI 0 := fun q => by
        have := hsh (t - d) (by omega)
        rw [q, show d + (t - d) = t by omega, f3, show bt (nI 0) (t - d) = false from b_0 _] at this
        cases this
      have hz : zcall zZ nJ6_numberOfTrailingZeros_0f7a4 [.int (I 17 j >>> (nI d &&& nI 31))] (hp I L) = _ := j_ntz (t := t - d) (hp I L) (by omega) (by rw [hsh _ (by omega), show d + (t - d) = t by omega]; exact f3) (fun i hi => by rw [hsh i (by omega)]; exact f4 _ (by omega) (by omega))
      have e : d + (t - d) = t := by omega
      refine ⟨.int (nI t), ?_, ?_⟩
      · simp (disch := omega) only [c_X9_next, e_X9_next_0, e_X9_next_5, e_X9_next_16, e_X9_next_13, e_X9_next_44, e_X9_next_45, s_Xtrain D, s_Xday D, h0, hz, e, Option.bind_some, Option.toList_some, Option.toList_none, List.cons_append, List.nil_append, Option.map_some, cond_true, cond_false, Bool.not_true, Bool.not_false, Bool.true_and, Bool.and_true, Bool.false_and, Bool.and_false, Bool.true_or, Bool.or_true, Bool.false_or, Bool.or_false, Bool.not_not, decide_true, decide_false, Bool.decide_eq_true, Bool.decide_eq_false, qz_0, qz_1, qz_n, qz_n0, qz_n1, qz_t, qz_f, Nat.reduceAdd, q0, q1, q2, q3, q4, q5, q6, q7, q8, q9, q10, q11, q12, q13, q14, q15, q16, q18, q19, q20, q21, q22, q23, q24, q25, q26, q27, q28, q29, q30, q31, q32, q38, q44, q45, q48, q57, q58, q59, q60, q63, q64, q97, q122, q126, q127, q128, q255, q256, q300, q580, q600, q1000, nI_add, q_lt_t, q_lt_f, q_eq_t, q_eq_f, q_clamp, q_in_t, q_in_f]
      · simp (disch := omega) only [c_X10_next_, e_X10_next__0, e_X10_next__5, e_X10_next__16, e_X10_next__13, e_X10_next__36, e_X10_next__40, s_Mtrain D, s_Mday D, hl, Option.bind_some, Option.toList_some, Option.toList_none, List.cons_append, List.nil_append, Option.map_some, cond_true, cond_false, Bool.not_true, Bool.not_false, Bool.true_and, Bool.and_true, Bool.false_and, Bool.and_false, Bool.true_or, Bool.or_true, Bool.false_or, Bool.or_false, Bool.not_not, decide_true, decide_false, Bool.decide_eq_true, Bool.decide_eq_false, qz_0, qz_1, qz_n, qz_n0, qz_n1, qz_t, qz_f, Nat.reduceAdd, q0, q1, q2, q3, q4, q5, q6, q7, q8, q9, q10, q11, q12, q13, q14, q15, q16, q18, q19, q20, q21, q22, q23, q24, q25, q26, q27, q28, q29, q30, q31, q32, q38, q44, q45, q48, q57, q58, q59, q60, q63, q64, q97, q122, q126, q127, q128, q255, q256, q300, q580, q600, q1000, nI_add, q_lt_t, q_lt_f, q_eq_t, q_eq_f, q_clamp, q_in_t, q_in_f]
/-! the longest rest -/
def rsr (f : Nat → Bool) : Nat → Nat
  | 0 => 0
  | n + 1 => cond (f n) 0 (rsr f n + 1)
def rsm (f : Nat → Bool) : Nat → Nat
  | 0 => 0
  | n + 1 => max (rsm f n) (rsr f (n + 1))
theorem rsr_s (f : Nat → Bool) (n : Nat) : rsr f (n + 1) = cond (f n) 0 (rsr f n + 1) := rfl
theorem rsm_s (f : Nat → Bool) (n : Nat) : rsm f (n + 1) = max (rsm f n) (rsr f (n + 1)) := rfl
theorem rsr_le (f : Nat → Bool) : ∀ n, rsr f n ≤ n
  | 0 => Nat.le_refl 0
  | n + 1 => by
    have := rsr_le f n
    unfold rsr
    cases f n
    · exact Nat.succ_le_succ this
    · exact Nat.zero_le _
theorem rsm_le (f : Nat → Bool) : ∀ n, rsm f n ≤ n
  | 0 => Nat.le_refl 0
  | n + 1 => by
    have := rsm_le f n
    have := rsr_le f (n + 1)
    unfold rsm
    omega
theorem j_maxN (h : zH) {a b : Nat} (ha : a < 100000) (hb : b < 100000) : zcall zZ nJ9_max_7cf53 [.int (nI a), .int (nI b)] h = some (some (.int (nI (max a b))), h) := by
  rw [j_max]
  by_cases q : a < b
  · rw [if_pos (nI_lt q (by omega)), show max a b = b by omega]
  · rw [if_neg (nI_nlt (by omega) (by omega)), show max a b = a by omega]
theorem j_minN (h : zH) {a b : Nat} (ha : a < 2147483648) (hb : b < 2147483648) : zcall zZ nJ9_min_7cf53 [.int (nI a), .int (nI b)] h = some (some (.int (nI (min a b))), h) := by
  rw [j_min]
  by_cases q : b < a
  · rw [if_pos (nI_lt q (by omega)), show min a b = b by omega]
  · rw [if_neg (nI_nlt (by omega) (by omega)), show min a b = a by omega]
theorem restX_loop {I : zI} {L : zL} {N w F T ln : Nat} (D : DK I L N w F T ln) {t : Nat} (ht : t < T) : ∀ m d, d + m = N → zrun zZ kX9_rest (18, [some (.ref 0), some (.int (nI t)), some (.int (nI (rsm (bt (I 17 t)) d))), some (.int (nI (rsr (bt (I 17 t)) d))), some (.int (nI d))], [], hp I L, 0, 0) = some (some (.int (nI (rsm (bt (I 17 t)) N))), hp I L, 0, 0)
  | 0, d, h => by
    have hb := D.b
    obtain rfl : d = N := h
    simp (disch := omega) only [e_X9_rest_18, D.x.1, Option.bind_some, Option.toList_some, Option.toList_none, List.cons_append, List.nil_append, Option.map_some, cond_true, cond_false, Bool.not_true, Bool.not_false, Bool.true_and, Bool.and_true, Bool.false_and, Bool.and_false, Bool.true_or, Bool.or_true, Bool.false_or, Bool.or_false, Bool.not_not, decide_true, decide_false, Bool.decide_eq_true, Bool.decide_eq_false, qz_0, qz_1, qz_n, qz_n0, qz_n1, qz_t, qz_f, Nat.reduceAdd, q0, q1, q2, q3, q4, q5, q6, q7, q8, q9, q10, q11, q12, q13, q14, q15, q16, q18, q19, q20, q21, q22, q23, q24, q25, q26, q27, q28, q29, q30, q31, q32, q38, q44, q45, q48, q57, q58, q59, q60, q63, q64, q97, q122, q126, q127, q128, q255, q256, q300, q580, q600, q1000, nI_add, q_lt_t, q_lt_f, q_eq_t, q_eq_f, q_clamp, q_in_t, q_in_f]
  | m + 1, d, h => by
    have hb := D.b
    have ih := restX_loop D ht m (d + 1) (by omega)
    have l1 := rsr_le (bt (I 17 t)) d
    have l2 := rsm_le (bt (I 17 t)) d
    rw [rsm_s, rsr_s] at ih
    rw [e_X9_rest_18]
    cases h2 : bt (I 17 t) d <;> rw [h2] at ih <;> simp (disch := omega) only [e_X9_rest_0, e_X9_rest_5, e_X9_rest_54, e_X9_rest_60, D.x.1, q_bit, h2, j_maxN, Option.bind_some, Option.toList_some, Option.toList_none, List.cons_append, List.nil_append, Option.map_some, cond_true, cond_false, Bool.not_true, Bool.not_false, Bool.true_and, Bool.and_true, Bool.false_and, Bool.and_false, Bool.true_or, Bool.or_true, Bool.false_or, Bool.or_false, Bool.not_not, decide_true, decide_false, Bool.decide_eq_true, Bool.decide_eq_false, qz_0, qz_1, qz_n, qz_n0, qz_n1, qz_t, qz_f, Nat.reduceAdd, q0, q1, q2, q3, q4, q5, q6, q7, q8, q9, q10, q11, q12, q13, q14, q15, q16, q18, q19, q20, q21, q22, q23, q24, q25, q26, q27, q28, q29, q30, q31, q32, q38, q44, q45, q48, q57, q58, q59, q60, q63, q64, q97, q122, q126, q127, q128, q255, q256, q300, q580, q600, q1000, nI_add, q_lt_t, q_lt_f, q_eq_t, q_eq_f, q_clamp, q_in_t, q_in_f] <;> exact ih
theorem restM_loop {I : zI} {L : zL} {N w F T ln : Nat} (D : DK I L N w F T ln) {t : Nat} (ht : t < T) : ∀ m d, d + m = N → zrun zZ kX10_rest (18, [some (.ref 52), some (.int (nI t)), some (.int (nI (rsm (bt (I 17 t)) d))), some (.int (nI (rsr (bt (I 17 t)) d))), some (.int (nI d))], [], hp I L, 0, 0) = some (some (.int (nI (rsm (bt (I 17 t)) N))), hp I L, 0, 0)
  | 0, d, h => by
    have hb := D.b
    obtain rfl : d = N := h
    simp (disch := omega) only [e_X10_rest_18, D.m.1, Option.bind_some, Option.toList_some, Option.toList_none, List.cons_append, List.nil_append, Option.map_some, cond_true, cond_false, Bool.not_true, Bool.not_false, Bool.true_and, Bool.and_true, Bool.false_and, Bool.and_false, Bool.true_or, Bool.or_true, Bool.false_or, Bool.or_false, Bool.not_not, decide_true, decide_false, Bool.decide_eq_true, Bool.decide_eq_false, qz_0, qz_1, qz_n, qz_n0, qz_n1, qz_t, qz_f, Nat.reduceAdd, q0, q1, q2, q3, q4, q5, q6, q7, q8, q9, q10, q11, q12, q13, q14, q15, q16, q18, q19, q20, q21, q22, q23, q24, q25, q26, q27, q28, q29, q30, q31, q32, q38, q44, q45, q48, q57, q58, q59, q60, q63, q64, q97, q122, q126, q127, q128, q255, q256, q300, q580, q600, q1000, nI_add, q_lt_t, q_lt_f, q_eq_t, q_eq_f, q_clamp, q_in_t, q_in_f]
  | m + 1, d, h => by
    have hb := D.b
    have ih := restM_loop D ht m (d + 1) (by omega)
    have l1 := rsr_le (bt (I 17 t)) d
    have l2 := rsm_le (bt (I 17 t)) d
    rw [rsm_s, rsr_s] at ih
    rw [e_X10_rest_18]
    cases h2 : bt (I 17 t) d <;> rw [h2] at ih <;> simp (disch := omega) only [e_X10_rest_0, e_X10_rest_5, e_X10_rest_34, e_X10_rest_39, e_X10_rest_49, e_X10_rest_55, D.m.1, s_Mruns D ht, s_has', h2, j_maxN, Option.bind_some, Option.toList_some, Option.toList_none, List.cons_append, List.nil_append, Option.map_some, cond_true, cond_false, Bool.not_true, Bool.not_false, Bool.true_and, Bool.and_true, Bool.false_and, Bool.and_false, Bool.true_or, Bool.or_true, Bool.false_or, Bool.or_false, Bool.not_not, decide_true, decide_false, Bool.decide_eq_true, Bool.decide_eq_false, qz_0, qz_1, qz_n, qz_n0, qz_n1, qz_t, qz_f, Nat.reduceAdd, q0, q1, q2, q3, q4, q5, q6, q7, q8, q9, q10, q11, q12, q13, q14, q15, q16, q18, q19, q20, q21, q22, q23, q24, q25, q26, q27, q28, q29, q30, q31, q32, q38, q44, q45, q48, q57, q58, q59, q60, q63, q64, q97, q122, q126, q127, q128, q255, q256, q300, q580, q600, q1000, nI_add, q_lt_t, q_lt_f, q_eq_t, q_eq_f, q_clamp, q_in_t, q_in_f] <;> exact ih
theorem p_rest {I : zI} {L : zL} {N w F T ln : Nat} (D : DK I L N w F T ln) (x : Int32) : SAME nX9_rest nX10_rest [.int x] I L := by
  have hb := D.b
  rcases zin_N (x := x) (n := T) (by omega) with h | ⟨j, hj, rfl⟩
  · refine ⟨.int (-2), ?_, ?_⟩
    · simp (disch := omega) only [c_X9_rest, e_X9_rest_0, e_X9_rest_5, e_X9_rest_54, e_X9_rest_60, s_Xtrain D, h, Option.bind_some, Option.toList_some, Option.toList_none, List.cons_append, List.nil_append, Option.map_some, cond_true, cond_false, Bool.not_true, Bool.not_false, Bool.true_and, Bool.and_true, Bool.false_and, Bool.and_false, Bool.true_or, Bool.or_true, Bool.false_or, Bool.or_false, Bool.not_not, decide_true, decide_false, Bool.decide_eq_true, Bool.decide_eq_false, qz_0, qz_1, qz_n, qz_n0, qz_n1, qz_t, qz_f, Nat.reduceAdd, q0, q1, q2, q3, q4, q5, q6, q7, q8, q9, q10, q11, q12, q13, q14, q15, q16, q18, q19, q20, q21, q22, q23, q24, q25, q26, q27, q28, q29, q30, q31, q32, q38, q44, q45, q48, q57, q58, q59, q60, q63, q64, q97, q122, q126, q127, q128, q255, q256, q300, q580, q600, q1000, nI_add, q_lt_t, q_lt_f, q_eq_t, q_eq_f, q_clamp, q_in_t, q_in_f]
    · simp (disch := omega) only [c_X10_rest, e_X10_rest_0, e_X10_rest_5, e_X10_rest_34, e_X10_rest_39, e_X10_rest_49, e_X10_rest_55, s_Mtrain D, h, Option.bind_some, Option.toList_some, Option.toList_none, List.cons_append, List.nil_append, Option.map_some, cond_true, cond_false, Bool.not_true, Bool.not_false, Bool.true_and, Bool.and_true, Bool.false_and, Bool.and_false, Bool.true_or, Bool.or_true, Bool.false_or, Bool.or_false, Bool.not_not, decide_true, decide_false, Bool.decide_eq_true, Bool.decide_eq_false, qz_0, qz_1, qz_n, qz_n0, qz_n1, qz_t, qz_f, Nat.reduceAdd, q0, q1, q2, q3, q4, q5, q6, q7, q8, q9, q10, q11, q12, q13, q14, q15, q16, q18, q19, q20, q21, q22, q23, q24, q25, q26, q27, q28, q29, q30, q31, q32, q38, q44, q45, q48, q57, q58, q59, q60, q63, q64, q97, q122, q126, q127, q128, q255, q256, q300, q580, q600, q1000, nI_add, q_lt_t, q_lt_f, q_eq_t, q_eq_f, q_clamp, q_in_t, q_in_f]
  · have h1 := restX_loop D hj N 0 (by omega)
    have h2 := restM_loop D hj N 0 (by omega)
    rw [show rsm (bt (I 17 j)) 0 = 0 from rfl, show rsr (bt (I 17 j)) 0 = 0 from rfl] at h1 h2
    refine ⟨.int (nI (rsm (bt (I 17 j)) N)), ?_, ?_⟩
    · simp (disch := omega) only [c_X9_rest, e_X9_rest_0, e_X9_rest_5, e_X9_rest_54, e_X9_rest_60, s_Xtrain D, Option.bind_some, Option.toList_some, Option.toList_none, List.cons_append, List.nil_append, Option.map_some, cond_true, cond_false, Bool.not_true, Bool.not_false, Bool.true_and, Bool.and_true, Bool.false_and, Bool.and_false, Bool.true_or, Bool.or_true, Bool.false_or, Bool.or_false, Bool.not_not, decide_true, decide_false, Bool.decide_eq_true, Bool.decide_eq_false, qz_0, qz_1, qz_n, qz_n0, qz_n1, qz_t, qz_f, Nat.reduceAdd, q0, q1, q2, q3, q4, q5, q6, q7, q8, q9, q10, q11, q12, q13, q14, q15, q16, q18, q19, q20, q21, q22, q23, q24, q25, q26, q27, q28, q29, q30, q31, q32, q38, q44, q45, q48, q57, q58, q59, q60, q63, q64, q97, q122, q126, q127, q128, q255, q256, q300, q580, q600, q1000, nI_add, q_lt_t, q_lt_f, q_eq_t, q_eq_f, q_clamp, q_in_t, q_in_f, h1]
    · simp (disch := omega) only [c_X10_rest, e_X10_rest_0, e_X10_rest_5, e_X10_rest_34, e_X10_rest_39, e_X10_rest_49, e_X10_rest_55, s_Mtrain D, Option.bind_some, Option.toList_some, Option.toList_none, List.cons_append, List.nil_append, Option.map_some, cond_true, cond_false, Bool.not_true, Bool.not_false, Bool.true_and, Bool.and_true, Bool.false_and, Bool.and_false, Bool.true_or, Bool.or_true, Bool.false_or, Bool.or_false, Bool.not_not, decide_true, decide_false, Bool.decide_eq_true, Bool.decide_eq_false, qz_0, qz_1, qz_n, qz_n0, qz_n1, qz_t, qz_f, Nat.reduceAdd, q0, q1, q2, q3, q4, q5, q6, q7, q8, q9, q10, q11, q12, q13, q14, q15, q16, q18, q19, q20, q21, q22, q23, q24, q25, q26, q27, q28, q29, q30, q31, q32, q38, q44, q45, q48, q57, q58, q59, q60, q63, q64, q97, q122, q126, q127, q128, q255, q256, q300, q580, q600, q1000, nI_add, q_lt_t, q_lt_f, q_eq_t, q_eq_f, q_clamp, q_in_t, q_in_f, h2]
/-! two trains -/
theorem p_shares {I : zI} {L : zL} {N w F T ln : Nat} (D : DK I L N w F T ln) (x y : Int32) : SAME nX9_shares nX10_shares [.int x, .int y] I L := by
  have hb := D.b
  rcases zin_N (x := x) (n := T) (by omega) with h | ⟨j, hj, rfl⟩
  · refine ⟨.int (-2), ?_, ?_⟩
    · simp (disch := omega) only [c_X9_shares, e_X9_shares_0, e_X9_shares_5, e_X9_shares_16, e_X9_shares_13, s_Xtrain D, h, Option.bind_some, Option.toList_some, Option.toList_none, List.cons_append, List.nil_append, Option.map_some, cond_true, cond_false, Bool.not_true, Bool.not_false, Bool.true_and, Bool.and_true, Bool.false_and, Bool.and_false, Bool.true_or, Bool.or_true, Bool.false_or, Bool.or_false, Bool.not_not, decide_true, decide_false, Bool.decide_eq_true, Bool.decide_eq_false, qz_0, qz_1, qz_n, qz_n0, qz_n1, qz_t, qz_f, Nat.reduceAdd, q0, q1, q2, q3, q4, q5, q6, q7, q8, q9, q10, q11, q12, q13, q14, q15, q16, q18, q19, q20, q21, q22, q23, q24, q25, q26, q27, q28, q29, q30, q31, q32, q38, q44, q45, q48, q57, q58, q59, q60, q63, q64, q97, q122, q126, q127, q128, q255, q256, q300, q580, q600, q1000, nI_add, q_lt_t, q_lt_f, q_eq_t, q_eq_f, q_clamp, q_in_t, q_in_f]
    · simp (disch := omega) only [c_X10_shares, e_X10_shares_0, e_X10_shares_5, e_X10_shares_30, e_X10_shares_13, e_X10_shares_32, e_X10_shares_21, e_X10_shares_26, s_Mtrain D, h, Option.bind_some, Option.toList_some, Option.toList_none, List.cons_append, List.nil_append, Option.map_some, cond_true, cond_false, Bool.not_true, Bool.not_false, Bool.true_and, Bool.and_true, Bool.false_and, Bool.and_false, Bool.true_or, Bool.or_true, Bool.false_or, Bool.or_false, Bool.not_not, decide_true, decide_false, Bool.decide_eq_true, Bool.decide_eq_false, qz_0, qz_1, qz_n, qz_n0, qz_n1, qz_t, qz_f, Nat.reduceAdd, q0, q1, q2, q3, q4, q5, q6, q7, q8, q9, q10, q11, q12, q13, q14, q15, q16, q18, q19, q20, q21, q22, q23, q24, q25, q26, q27, q28, q29, q30, q31, q32, q38, q44, q45, q48, q57, q58, q59, q60, q63, q64, q97, q122, q126, q127, q128, q255, q256, q300, q580, q600, q1000, nI_add, q_lt_t, q_lt_f, q_eq_t, q_eq_f, q_clamp, q_in_t, q_in_f]
  rcases zin_N (x := y) (n := T) (by omega) with h | ⟨k, hk, rfl⟩
  · refine ⟨.int (-2), ?_, ?_⟩
    · simp (disch := omega) only [c_X9_shares, e_X9_shares_0, e_X9_shares_5, e_X9_shares_16, e_X9_shares_13, s_Xtrain D, h, Option.bind_some, Option.toList_some, Option.toList_none, List.cons_append, List.nil_append, Option.map_some, cond_true, cond_false, Bool.not_true, Bool.not_false, Bool.true_and, Bool.and_true, Bool.false_and, Bool.and_false, Bool.true_or, Bool.or_true, Bool.false_or, Bool.or_false, Bool.not_not, decide_true, decide_false, Bool.decide_eq_true, Bool.decide_eq_false, qz_0, qz_1, qz_n, qz_n0, qz_n1, qz_t, qz_f, Nat.reduceAdd, q0, q1, q2, q3, q4, q5, q6, q7, q8, q9, q10, q11, q12, q13, q14, q15, q16, q18, q19, q20, q21, q22, q23, q24, q25, q26, q27, q28, q29, q30, q31, q32, q38, q44, q45, q48, q57, q58, q59, q60, q63, q64, q97, q122, q126, q127, q128, q255, q256, q300, q580, q600, q1000, nI_add, q_lt_t, q_lt_f, q_eq_t, q_eq_f, q_clamp, q_in_t, q_in_f]
    · simp (disch := omega) only [c_X10_shares, e_X10_shares_0, e_X10_shares_5, e_X10_shares_30, e_X10_shares_13, e_X10_shares_32, e_X10_shares_21, e_X10_shares_26, s_Mtrain D, h, Option.bind_some, Option.toList_some, Option.toList_none, List.cons_append, List.nil_append, Option.map_some, cond_true, cond_false, Bool.not_true, Bool.not_false, Bool.true_and, Bool.and_true, Bool.false_and, Bool.and_false, Bool.true_or, Bool.or_true, Bool.false_or, Bool.or_false, Bool.not_not, decide_true, decide_false, Bool.decide_eq_true, Bool.decide_eq_false, qz_0, qz_1, qz_n, qz_n0, qz_n1, qz_t, qz_f, Nat.reduceAdd, q0, q1, q2, q3, q4, q5, q6, q7, q8, q9, q10, q11, q12, q13, q14, q15, q16, q18, q19, q20, q21, q22, q23, q24, q25, q26, q27, q28, q29, q30, q31, q32, q38, q44, q45, q48, q57, q58, q59, q60, q63, q64, q97, q122, q126, q127, q128, q255, q256, q300, q580, q600, q1000, nI_add, q_lt_t, q_lt_f, q_eq_t, q_eq_f, q_clamp, q_in_t, q_in_f]
  · refine ⟨.int (I 17 j &&& I 17 k), ?_, ?_⟩
    · simp (disch := omega) only [c_X9_shares, e_X9_shares_0, e_X9_shares_5, e_X9_shares_16, e_X9_shares_13, s_Xtrain D, Option.bind_some, Option.toList_some, Option.toList_none, List.cons_append, List.nil_append, Option.map_some, cond_true, cond_false, Bool.not_true, Bool.not_false, Bool.true_and, Bool.and_true, Bool.false_and, Bool.and_false, Bool.true_or, Bool.or_true, Bool.false_or, Bool.or_false, Bool.not_not, decide_true, decide_false, Bool.decide_eq_true, Bool.decide_eq_false, qz_0, qz_1, qz_n, qz_n0, qz_n1, qz_t, qz_f, Nat.reduceAdd, q0, q1, q2, q3, q4, q5, q6, q7, q8, q9, q10, q11, q12, q13, q14, q15, q16, q18, q19, q20, q21, q22, q23, q24, q25, q26, q27, q28, q29, q30, q31, q32, q38, q44, q45, q48, q57, q58, q59, q60, q63, q64, q97, q122, q126, q127, q128, q255, q256, q300, q580, q600, q1000, nI_add, q_lt_t, q_lt_f, q_eq_t, q_eq_f, q_clamp, q_in_t, q_in_f]
    · simp (disch := omega) only [c_X10_shares, e_X10_shares_0, e_X10_shares_5, e_X10_shares_30, e_X10_shares_13, e_X10_shares_32, e_X10_shares_21, e_X10_shares_26, s_Mtrain D, s_Mruns D hj, s_Mruns D hk, Option.bind_some, Option.toList_some, Option.toList_none, List.cons_append, List.nil_append, Option.map_some, cond_true, cond_false, Bool.not_true, Bool.not_false, Bool.true_and, Bool.and_true, Bool.false_and, Bool.and_false, Bool.true_or, Bool.or_true, Bool.false_or, Bool.or_false, Bool.not_not, decide_true, decide_false, Bool.decide_eq_true, Bool.decide_eq_false, qz_0, qz_1, qz_n, qz_n0, qz_n1, qz_t, qz_f, Nat.reduceAdd, q0, q1, q2, q3, q4, q5, q6, q7, q8, q9, q10, q11, q12, q13, q14, q15, q16, q18, q19, q20, q21, q22, q23, q24, q25, q26, q27, q28, q29, q30, q31, q32, q38, q44, q45, q48, q57, q58, q59, q60, q63, q64, q97, q122, q126, q127, q128, q255, q256, q300, q580, q600, q1000, nI_add, q_lt_t, q_lt_f, q_eq_t, q_eq_f, q_clamp, q_in_t, q_in_f]
theorem p_same {I : zI} {L : zL} {N w F T ln : Nat} (D : DK I L N w F T ln) (x y : Int32) : SAME nX9_same nX10_same [.int x, .int y] I L := by
  have hb := D.b
  rcases zin_N (x := x) (n := T) (by omega) with h | ⟨j, hj, rfl⟩
  · refine ⟨.int (-2), ?_, ?_⟩
    · simp (disch := omega) only [c_X9_same, e_X9_same_0, e_X9_same_5, e_X9_same_16, e_X9_same_13, e_X9_same_45, s_Xtrain D, h, Option.bind_some, Option.toList_some, Option.toList_none, List.cons_append, List.nil_append, Option.map_some, cond_true, cond_false, Bool.not_true, Bool.not_false, Bool.true_and, Bool.and_true, Bool.false_and, Bool.and_false, Bool.true_or, Bool.or_true, Bool.false_or, Bool.or_false, Bool.not_not, decide_true, decide_false, Bool.decide_eq_true, Bool.decide_eq_false, qz_0, qz_1, qz_n, qz_n0, qz_n1, qz_t, qz_f, Nat.reduceAdd, q0, q1, q2, q3, q4, q5, q6, q7, q8, q9, q10, q11, q12, q13, q14, q15, q16, q18, q19, q20, q21, q22, q23, q24, q25, q26, q27, q28, q29, q30, q31, q32, q38, q44, q45, q48, q57, q58, q59, q60, q63, q64, q97, q122, q126, q127, q128, q255, q256, q300, q580, q600, q1000, nI_add, q_lt_t, q_lt_f, q_eq_t, q_eq_f, q_clamp, q_in_t, q_in_f]
    · simp (disch := omega) only [c_X10_same, e_X10_same_0, e_X10_same_5, e_X10_same_40, e_X10_same_13, e_X10_same_42, e_X10_same_21, e_X10_same_26, e_X10_same_34, e_X10_same_37, s_Mtrain D, h, Option.bind_some, Option.toList_some, Option.toList_none, List.cons_append, List.nil_append, Option.map_some, cond_true, cond_false, Bool.not_true, Bool.not_false, Bool.true_and, Bool.and_true, Bool.false_and, Bool.and_false, Bool.true_or, Bool.or_true, Bool.false_or, Bool.or_false, Bool.not_not, decide_true, decide_false, Bool.decide_eq_true, Bool.decide_eq_false, qz_0, qz_1, qz_n, qz_n0, qz_n1, qz_t, qz_f, Nat.reduceAdd, q0, q1, q2, q3, q4, q5, q6, q7, q8, q9, q10, q11, q12, q13, q14, q15, q16, q18, q19, q20, q21, q22, q23, q24, q25, q26, q27, q28, q29, q30, q31, q32, q38, q44, q45, q48, q57, q58, q59, q60, q63, q64, q97, q122, q126, q127, q128, q255, q256, q300, q580, q600, q1000, nI_add, q_lt_t, q_lt_f, q_eq_t, q_eq_f, q_clamp, q_in_t, q_in_f]
  rcases zin_N (x := y) (n := T) (by omega) with h | ⟨k, hk, rfl⟩
  · refine ⟨.int (-2), ?_, ?_⟩
    · simp (disch := omega) only [c_X9_same, e_X9_same_0, e_X9_same_5, e_X9_same_16, e_X9_same_13, e_X9_same_45, s_Xtrain D, h, Option.bind_some, Option.toList_some, Option.toList_none, List.cons_append, List.nil_append, Option.map_some, cond_true, cond_false, Bool.not_true, Bool.not_false, Bool.true_and, Bool.and_true, Bool.false_and, Bool.and_false, Bool.true_or, Bool.or_true, Bool.false_or, Bool.or_false, Bool.not_not, decide_true, decide_false, Bool.decide_eq_true, Bool.decide_eq_false, qz_0, qz_1, qz_n, qz_n0, qz_n1, qz_t, qz_f, Nat.reduceAdd, q0, q1, q2, q3, q4, q5, q6, q7, q8, q9, q10, q11, q12, q13, q14, q15, q16, q18, q19, q20, q21, q22, q23, q24, q25, q26, q27, q28, q29, q30, q31, q32, q38, q44, q45, q48, q57, q58, q59, q60, q63, q64, q97, q122, q126, q127, q128, q255, q256, q300, q580, q600, q1000, nI_add, q_lt_t, q_lt_f, q_eq_t, q_eq_f, q_clamp, q_in_t, q_in_f]
    · simp (disch := omega) only [c_X10_same, e_X10_same_0, e_X10_same_5, e_X10_same_40, e_X10_same_13, e_X10_same_42, e_X10_same_21, e_X10_same_26, e_X10_same_34, e_X10_same_37, s_Mtrain D, h, Option.bind_some, Option.toList_some, Option.toList_none, List.cons_append, List.nil_append, Option.map_some, cond_true, cond_false, Bool.not_true, Bool.not_false, Bool.true_and, Bool.and_true, Bool.false_and, Bool.and_false, Bool.true_or, Bool.or_true, Bool.false_or, Bool.or_false, Bool.not_not, decide_true, decide_false, Bool.decide_eq_true, Bool.decide_eq_false, qz_0, qz_1, qz_n, qz_n0, qz_n1, qz_t, qz_f, Nat.reduceAdd, q0, q1, q2, q3, q4, q5, q6, q7, q8, q9, q10, q11, q12, q13, q14, q15, q16, q18, q19, q20, q21, q22, q23, q24, q25, q26, q27, q28, q29, q30, q31, q32, q38, q44, q45, q48, q57, q58, q59, q60, q63, q64, q97, q122, q126, q127, q128, q255, q256, q300, q580, q600, q1000, nI_add, q_lt_t, q_lt_f, q_eq_t, q_eq_f, q_clamp, q_in_t, q_in_f]
  · refine ⟨.int (zbo (decide (I 17 j = I 17 k))), ?_, ?_⟩
    · by_cases q : I 17 j = I 17 k <;> simp (disch := omega) only [c_X9_same, e_X9_same_0, e_X9_same_5, e_X9_same_16, e_X9_same_13, e_X9_same_45, s_Xtrain D, q, Option.bind_some, Option.toList_some, Option.toList_none, List.cons_append, List.nil_append, Option.map_some, cond_true, cond_false, Bool.not_true, Bool.not_false, Bool.true_and, Bool.and_true, Bool.false_and, Bool.and_false, Bool.true_or, Bool.or_true, Bool.false_or, Bool.or_false, Bool.not_not, decide_true, decide_false, Bool.decide_eq_true, Bool.decide_eq_false, qz_0, qz_1, qz_n, qz_n0, qz_n1, qz_t, qz_f, Nat.reduceAdd, q0, q1, q2, q3, q4, q5, q6, q7, q8, q9, q10, q11, q12, q13, q14, q15, q16, q18, q19, q20, q21, q22, q23, q24, q25, q26, q27, q28, q29, q30, q31, q32, q38, q44, q45, q48, q57, q58, q59, q60, q63, q64, q97, q122, q126, q127, q128, q255, q256, q300, q580, q600, q1000, nI_add, q_lt_t, q_lt_f, q_eq_t, q_eq_f, q_clamp, q_in_t, q_in_f]
    · by_cases q : I 17 j = I 17 k <;> simp (disch := omega) only [c_X10_same, e_X10_same_0, e_X10_same_5, e_X10_same_40, e_X10_same_13, e_X10_same_42, e_X10_same_21, e_X10_same_26, e_X10_same_34, e_X10_same_37, s_Mtrain D, s_Mruns D hj, s_Mruns D hk, q, s_flag0, s_flag1, Option.bind_some, Option.toList_some, Option.toList_none, List.cons_append, List.nil_append, Option.map_some, cond_true, cond_false, Bool.not_true, Bool.not_false, Bool.true_and, Bool.and_true, Bool.false_and, Bool.and_false, Bool.true_or, Bool.or_true, Bool.false_or, Bool.or_false, Bool.not_not, decide_true, decide_false, Bool.decide_eq_true, Bool.decide_eq_false, qz_0, qz_1, qz_n, qz_n0, qz_n1, qz_t, qz_f, Nat.reduceAdd, q0, q1, q2, q3, q4, q5, q6, q7, q8, q9, q10, q11, q12, q13, q14, q15, q16, q18, q19, q20, q21, q22, q23, q24, q25, q26, q27, q28, q29, q30, q31, q32, q38, q44, q45, q48, q57, q58, q59, q60, q63, q64, q97, q122, q126, q127, q128, q255, q256, q300, q580, q600, q1000, nI_add, q_lt_t, q_lt_f, q_eq_t, q_eq_f, q_clamp, q_in_t, q_in_f]
