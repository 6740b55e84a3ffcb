/-! the class: one sign -/
theorem sby_lo : ∀ c, c < 128 → sby c = nI c := by decide +kernel
theorem sby_hi : ∀ c, c < 256 → 128 ≤ c → (sby c < nI 97 ∧ sby c < nI 48) ∧ (sby c ≠ nI 10 ∧ sby c ≠ nI 32) ∧ (sby c ≠ nI 45 ∧ sby c ≠ nI 58 ∧ sby c ≠ nI 59) := by decide +kernel
theorem kb_25 {c : Nat} (h1 : ¬ (97 ≤ c ∧ c ≤ 122)) (h2 : ¬ (48 ≤ c ∧ c ≤ 57)) (h3 : ¬ (c = 10 ∨ c = 32)) (h4 : c ≠ 45) (h5 : c ≠ 58) (h6 : c ≠ 59) : kb c = 25 := by
  unfold kb
  rw [if_neg h1, if_neg h2, if_neg h3, if_neg h4, if_neg h5, if_neg h6]
theorem s_kos (h : zH) {c : Nat} (hc : c < 256) : zcall zZ nX4_kindOfSign [.int (sby c)] h = some (some (.int (nI (kb c))), h) := by
  rcases Nat.lt_or_ge c 128 with z | z
  · rw [sby_lo c z]
    by_cases h1 : 97 ≤ c ∧ c ≤ 122
    · rw [kb_let.mpr h1]
      simp (disch := omega) only [c_X4_kindOfSign, e_X4_kindOfSign_0, e_X4_kindOfSign_15, e_X4_kindOfSign_30, Option.bind_some, Option.toList_some, Option.toList_none, List.cons_append, List.nil_append, Option.map_some, cond_true, cond_false, Bool.not_true, Bool.not_false, Bool.true_and, Bool.and_true, Bool.false_and, Bool.and_false, Bool.true_or, Bool.or_true, Bool.false_or, Bool.or_false, Bool.not_not, decide_true, decide_false, Bool.decide_eq_true, Bool.decide_eq_false, qz_0, qz_1, qz_n, qz_n0, qz_n1, qz_t, qz_f, Nat.reduceAdd, q1000000, q0, q1, q2, q3, q4, q5, q6, q7, q8, q9, q10, q11, q12, q13, q14, q15, q16, q18, q19, q20, q21, q22, q23, q24, q25, q26, q27, q28, q29, q30, q31, q32, q38, q44, q45, q48, q57, q58, q59, q60, q63, q64, q97, q122, q126, q127, q128, q255, q256, q300, q580, q600, q1000, nI_add, q_lt_t, q_lt_f, q_eq_t, q_eq_f, q_clamp, q_in_t, q_in_f]
    · by_cases h2 : 48 ≤ c ∧ c ≤ 57
      · rw [kb_dig.mpr h2]
        simp (disch := omega) only [c_X4_kindOfSign, e_X4_kindOfSign_0, e_X4_kindOfSign_15, e_X4_kindOfSign_30, Option.bind_some, Option.toList_some, Option.toList_none, List.cons_append, List.nil_append, Option.map_some, cond_true, cond_false, Bool.not_true, Bool.not_false, Bool.true_and, Bool.and_true, Bool.false_and, Bool.and_false, Bool.true_or, Bool.or_true, Bool.false_or, Bool.or_false, Bool.not_not, decide_true, decide_false, Bool.decide_eq_true, Bool.decide_eq_false, qz_0, qz_1, qz_n, qz_n0, qz_n1, qz_t, qz_f, Nat.reduceAdd, q1000000, q0, q1, q2, q3, q4, q5, q6, q7, q8, q9, q10, q11, q12, q13, q14, q15, q16, q18, q19, q20, q21, q22, q23, q24, q25, q26, q27, q28, q29, q30, q31, q32, q38, q44, q45, q48, q57, q58, q59, q60, q63, q64, q97, q122, q126, q127, q128, q255, q256, q300, q580, q600, q1000, nI_add, q_lt_t, q_lt_f, q_eq_t, q_eq_f, q_clamp, q_in_t, q_in_f]
      · have e15 : zcall zZ nX4_kindOfSign [.int (nI c)] h = (zrun zZ kX4_kindOfSign (30, [some (.int (nI c))], [], h, 0, 0)).map (fun r => (r.1, r.2.1)) := by
          rcases Nat.lt_or_ge c 97 with y | y
          · rcases Nat.lt_or_ge c 48 with x | x
            · simp (disch := omega) only [c_X4_kindOfSign, e_X4_kindOfSign_0, e_X4_kindOfSign_15, Option.bind_some, Option.toList_some, Option.toList_none, List.cons_append, List.nil_append, Option.map_some, cond_true, cond_false, Bool.not_true, Bool.not_false, Bool.true_and, Bool.and_true, Bool.false_and, Bool.and_false, Bool.true_or, Bool.or_true, Bool.false_or, Bool.or_false, Bool.not_not, decide_true, decide_false, Bool.decide_eq_true, Bool.decide_eq_false, qz_0, qz_1, qz_n, qz_n0, qz_n1, qz_t, qz_f, Nat.reduceAdd, q1000000, q0, q1, q2, q3, q4, q5, q6, q7, q8, q9, q10, q11, q12, q13, q14, q15, q16, q18, q19, q20, q21, q22, q23, q24, q25, q26, q27, q28, q29, q30, q31, q32, q38, q44, q45, q48, q57, q58, q59, q60, q63, q64, q97, q122, q126, q127, q128, q255, q256, q300, q580, q600, q1000, nI_add, q_lt_t, q_lt_f, q_eq_t, q_eq_f, q_clamp, q_in_t, q_in_f]
            · simp (disch := omega) only [c_X4_kindOfSign, e_X4_kindOfSign_0, e_X4_kindOfSign_15, Option.bind_some, Option.toList_some, Option.toList_none, List.cons_append, List.nil_append, Option.map_some, cond_true, cond_false, Bool.not_true, Bool.not_false, Bool.true_and, Bool.and_true, Bool.false_and, Bool.and_false, Bool.true_or, Bool.or_true, Bool.false_or, Bool.or_false, Bool.not_not, decide_true, decide_false, Bool.decide_eq_true, Bool.decide_eq_false, qz_0, qz_1, qz_n, qz_n0, qz_n1, qz_t, qz_f, Nat.reduceAdd, q1000000, q0, q1, q2, q3, q4, q5, q6, q7, q8, q9, q10, q11, q12, q13, q14, q15, q16, q18, q19, q20, q21, q22, q23, q24, q25, q26, q27, q28, q29, q30, q31, q32, q38, q44, q45, q48, q57, q58, q59, q60, q63, q64, q97, q122, q126, q127, q128, q255, q256, q300, q580, q600, q1000, nI_add, q_lt_t, q_lt_f, q_eq_t, q_eq_f, q_clamp, q_in_t, q_in_f]
          · simp (disch := omega) only [c_X4_kindOfSign, e_X4_kindOfSign_0, e_X4_kindOfSign_15, Option.bind_some, Option.toList_some, Option.toList_none, List.cons_append, List.nil_append, Option.map_some, cond_true, cond_false, Bool.not_true, Bool.not_false, Bool.true_and, Bool.and_true, Bool.false_and, Bool.and_false, Bool.true_or, Bool.or_true, Bool.false_or, Bool.or_false, Bool.not_not, decide_true, decide_false, Bool.decide_eq_true, Bool.decide_eq_false, qz_0, qz_1, qz_n, qz_n0, qz_n1, qz_t, qz_f, Nat.reduceAdd, q1000000, q0, q1, q2, q3, q4, q5, q6, q7, q8, q9, q10, q11, q12, q13, q14, q15, q16, q18, q19, q20, q21, q22, q23, q24, q25, q26, q27, q28, q29, q30, q31, q32, q38, q44, q45, q48, q57, q58, q59, q60, q63, q64, q97, q122, q126, q127, q128, q255, q256, q300, q580, q600, q1000, nI_add, q_lt_t, q_lt_f, q_eq_t, q_eq_f, q_clamp, q_in_t, q_in_f]
        rw [e15]
        by_cases h3 : c = 10 ∨ c = 32
        · rw [kb_blk.mpr h3]
          rcases h3 with rfl | rfl
          · simp (disch := omega) only [e_X4_kindOfSign_30, Option.bind_some, Option.toList_some, Option.toList_none, List.cons_append, List.nil_append, Option.map_some, cond_true, cond_false, Bool.not_true, Bool.not_false, Bool.true_and, Bool.and_true, Bool.false_and, Bool.and_false, Bool.true_or, Bool.or_true, Bool.false_or, Bool.or_false, Bool.not_not, decide_true, decide_false, Bool.decide_eq_true, Bool.decide_eq_false, qz_0, qz_1, qz_n, qz_n0, qz_n1, qz_t, qz_f, Nat.reduceAdd, q1000000, q0, q1, q2, q3, q4, q5, q6, q7, q8, q9, q10, q11, q12, q13, q14, q15, q16, q18, q19, q20, q21, q22, q23, q24, q25, q26, q27, q28, q29, q30, q31, q32, q38, q44, q45, q48, q57, q58, q59, q60, q63, q64, q97, q122, q126, q127, q128, q255, q256, q300, q580, q600, q1000, nI_add, q_lt_t, q_lt_f, q_eq_t, q_eq_f, q_clamp, q_in_t, q_in_f]
          · simp (disch := omega) only [e_X4_kindOfSign_30, Option.bind_some, Option.toList_some, Option.toList_none, List.cons_append, List.nil_append, Option.map_some, cond_true, cond_false, Bool.not_true, Bool.not_false, Bool.true_and, Bool.and_true, Bool.false_and, Bool.and_false, Bool.true_or, Bool.or_true, Bool.false_or, Bool.or_false, Bool.not_not, decide_true, decide_false, Bool.decide_eq_true, Bool.decide_eq_false, qz_0, qz_1, qz_n, qz_n0, qz_n1, qz_t, qz_f, Nat.reduceAdd, q1000000, q0, q1, q2, q3, q4, q5, q6, q7, q8, q9, q10, q11, q12, q13, q14, q15, q16, q18, q19, q20, q21, q22, q23, q24, q25, q26, q27, q28, q29, q30, q31, q32, q38, q44, q45, q48, q57, q58, q59, q60, q63, q64, q97, q122, q126, q127, q128, q255, q256, q300, q580, q600, q1000, nI_add, q_lt_t, q_lt_f, q_eq_t, q_eq_f, q_clamp, q_in_t, q_in_f]
        · by_cases h4 : c = 45
          · rw [kb_23.mpr h4, h4]
            simp (disch := omega) only [e_X4_kindOfSign_30, Option.bind_some, Option.toList_some, Option.toList_none, List.cons_append, List.nil_append, Option.map_some, cond_true, cond_false, Bool.not_true, Bool.not_false, Bool.true_and, Bool.and_true, Bool.false_and, Bool.and_false, Bool.true_or, Bool.or_true, Bool.false_or, Bool.or_false, Bool.not_not, decide_true, decide_false, Bool.decide_eq_true, Bool.decide_eq_false, qz_0, qz_1, qz_n, qz_n0, qz_n1, qz_t, qz_f, Nat.reduceAdd, q1000000, q0, q1, q2, q3, q4, q5, q6, q7, q8, q9, q10, q11, q12, q13, q14, q15, q16, q18, q19, q20, q21, q22, q23, q24, q25, q26, q27, q28, q29, q30, q31, q32, q38, q44, q45, q48, q57, q58, q59, q60, q63, q64, q97, q122, q126, q127, q128, q255, q256, q300, q580, q600, q1000, nI_add, q_lt_t, q_lt_f, q_eq_t, q_eq_f, q_clamp, q_in_t, q_in_f]
          · by_cases h5 : c = 58
            · rw [kb_22.mpr h5, h5]
              simp (disch := omega) only [e_X4_kindOfSign_30, Option.bind_some, Option.toList_some, Option.toList_none, List.cons_append, List.nil_append, Option.map_some, cond_true, cond_false, Bool.not_true, Bool.not_false, Bool.true_and, Bool.and_true, Bool.false_and, Bool.and_false, Bool.true_or, Bool.or_true, Bool.false_or, Bool.or_false, Bool.not_not, decide_true, decide_false, Bool.decide_eq_true, Bool.decide_eq_false, qz_0, qz_1, qz_n, qz_n0, qz_n1, qz_t, qz_f, Nat.reduceAdd, q1000000, q0, q1, q2, q3, q4, q5, q6, q7, q8, q9, q10, q11, q12, q13, q14, q15, q16, q18, q19, q20, q21, q22, q23, q24, q25, q26, q27, q28, q29, q30, q31, q32, q38, q44, q45, q48, q57, q58, q59, q60, q63, q64, q97, q122, q126, q127, q128, q255, q256, q300, q580, q600, q1000, nI_add, q_lt_t, q_lt_f, q_eq_t, q_eq_f, q_clamp, q_in_t, q_in_f]
            · by_cases h6 : c = 59
              · rw [kb_21.mpr h6, h6]
                simp (disch := omega) only [e_X4_kindOfSign_30, Option.bind_some, Option.toList_some, Option.toList_none, List.cons_append, List.nil_append, Option.map_some, cond_true, cond_false, Bool.not_true, Bool.not_false, Bool.true_and, Bool.and_true, Bool.false_and, Bool.and_false, Bool.true_or, Bool.or_true, Bool.false_or, Bool.or_false, Bool.not_not, decide_true, decide_false, Bool.decide_eq_true, Bool.decide_eq_false, qz_0, qz_1, qz_n, qz_n0, qz_n1, qz_t, qz_f, Nat.reduceAdd, q1000000, q0, q1, q2, q3, q4, q5, q6, q7, q8, q9, q10, q11, q12, q13, q14, q15, q16, q18, q19, q20, q21, q22, q23, q24, q25, q26, q27, q28, q29, q30, q31, q32, q38, q44, q45, q48, q57, q58, q59, q60, q63, q64, q97, q122, q126, q127, q128, q255, q256, q300, q580, q600, q1000, nI_add, q_lt_t, q_lt_f, q_eq_t, q_eq_f, q_clamp, q_in_t, q_in_f]
              · rw [kb_25 h1 h2 h3 h4 h5 h6]
                simp (disch := omega) only [e_X4_kindOfSign_30, Option.bind_some, Option.toList_some, Option.toList_none, List.cons_append, List.nil_append, Option.map_some, cond_true, cond_false, Bool.not_true, Bool.not_false, Bool.true_and, Bool.and_true, Bool.false_and, Bool.and_false, Bool.true_or, Bool.or_true, Bool.false_or, Bool.or_false, Bool.not_not, decide_true, decide_false, Bool.decide_eq_true, Bool.decide_eq_false, qz_0, qz_1, qz_n, qz_n0, qz_n1, qz_t, qz_f, Nat.reduceAdd, q1000000, q0, q1, q2, q3, q4, q5, q6, q7, q8, q9, q10, q11, q12, q13, q14, q15, q16, q18, q19, q20, q21, q22, q23, q24, q25, q26, q27, q28, q29, q30, q31, q32, q38, q44, q45, q48, q57, q58, q59, q60, q63, q64, q97, q122, q126, q127, q128, q255, q256, q300, q580, q600, q1000, nI_add, q_lt_t, q_lt_f, q_eq_t, q_eq_f, q_clamp, q_in_t, q_in_f]
  · obtain ⟨⟨a1, a2⟩, ⟨a3, a4⟩, a5, a6, a7⟩ := sby_hi c hc z
    rw [kb_25 (by omega) (by omega) (by omega) (by omega) (by omega) (by omega)]
    simp (disch := omega) only [c_X4_kindOfSign, e_X4_kindOfSign_0, e_X4_kindOfSign_15, e_X4_kindOfSign_30, a1, a2, a3, a4, a5, a6, a7, Option.bind_some, Option.toList_some, Option.toList_none, List.cons_append, List.nil_append, Option.map_some, cond_true, cond_false, Bool.not_true, Bool.not_false, Bool.true_and, Bool.and_true, Bool.false_and, Bool.and_false, Bool.true_or, Bool.or_true, Bool.false_or, Bool.or_false, Bool.not_not, decide_true, decide_false, Bool.decide_eq_true, Bool.decide_eq_false, qz_0, qz_1, qz_n, qz_n0, qz_n1, qz_t, qz_f, Nat.reduceAdd, q1000000, q0, q1, q2, q3, q4, q5, q6, q7, q8, q9, q10, q11, q12, q13, q14, q15, q16, q18, q19, q20, q21, q22, q23, q24, q25, q26, q27, q28, q29, q30, q31, q32, q38, q44, q45, q48, q57, q58, q59, q60, q63, q64, q97, q122, q126, q127, q128, q255, q256, q300, q580, q600, q1000, nI_add, q_lt_t, q_lt_f, q_eq_t, q_eq_f, q_clamp, q_in_t, q_in_f]
theorem jm_1 (j : Nat) : nI j - nI 1 + nI 1 = nI j := by
  rw [Int32.sub_add_cancel]
theorem jm_lt {j n : Nat} (h : j ≤ n) (hn : 0 < n) (h2 : n < 2000) : (nI j - nI 1 < nI n) = True := by
  cases j with
  | zero =>
    have e : nI 0 - nI 1 < nI 0 := pk_sneg (a := 0) (b := 1) (by decide) (by decide)
    exact eq_true (Int32.lt_trans e (nI_lt hn (by omega)))
  | succ j =>
    rw [pk_sub (by omega), Nat.add_sub_cancel]
    exact q_lt_t (by omega) (by omega)
theorem s_open {I : zI} {L : zL} {j : Nat} (hj : j ≤ 600) (h8 : I 5 8 = nI j - nI 1) (x y : Int32) : zcall zZ nX4_openToken [.ref 5, .int x, .int y] (hp I L) = some (none, hp (zup (zup (zup I 5 8 (nI j)) 6 j x) 7 j y) (zup L 8 j 0)) := by
  have e1 := jm_1 j
  have e2 := jm_lt hj (by omega) (by omega)
  simp (disch := omega) only [c_X4_openToken, e_X4_openToken_0, e_X4_openToken_50, h8, q1000000, q0, q1, q2, q3, q4, q5, q6, q7, q8, q9, q10, q11, q12, q13, q14, q15, q16, q18, q19, q20, q21, q22, q23, q24, q25, q26, q27, q28, q29, q30, q31, q32, q38, q44, q45, q48, q57, q58, q59, q60, q63, q64, q97, q122, q126, q127, q128, q255, q256, q300, q580, q600, q1000, e1, e2, q_clamp, q_in_t, Option.bind_some, Option.toList_some, Option.toList_none, List.cons_append, List.nil_append, Option.map_some, cond_true, cond_false, Bool.not_true, Bool.not_false, Bool.true_and, Bool.and_true, Bool.false_and, Bool.and_false, Bool.true_or, Bool.or_true, Bool.false_or, Bool.or_false, Bool.not_not, decide_true, decide_false, Bool.decide_eq_true, Bool.decide_eq_false, qz_0, qz_1, qz_n, qz_n0, qz_n1, qz_t, qz_f, Nat.reduceAdd]
/-! values of words and numbers -/
def wv (cs : List Nat) : Int64 := if cs.length ≤ 8 then lN (wcode cs) else -1
theorem wcode_lt : ∀ (n : Nat) (cs : List Nat), cs.length = n → (∀ x, x ∈ cs → 0 < x ∧ x < 128) → wcode cs < 2 ^ (8 * n) ∧ (0 < n → wcode cs < 2 ^ (8 * n - 1) ∧ 2 ^ (8 * n - 8) ≤ wcode cs)
  | 0, cs, h, _ => by
    obtain rfl := List.eq_nil_of_length_eq_zero h
    exact ⟨by decide, fun q => absurd q (by decide)⟩
  | n + 1, cs, h, hx => by
    rcases List.eq_nil_or_concat cs with rfl | ⟨ds, x, rfl⟩
    · cases h
    · rw [List.concat_eq_append] at h hx ⊢
      rw [List.length_append] at h
      have h1 : ([x] : List Nat).length = 1 := rfl
      have hx1 := hx x (by simp)
      obtain ⟨g1, g2⟩ := wcode_lt n ds (by omega) (fun y hy => hx y (by simp [hy]))
      rw [wcode_s]
      have e1 : 2 ^ (8 * (n + 1)) = 2 ^ (8 * n) * 256 := by rw [Nat.mul_add, Nat.pow_add]
      cases n with
      | zero =>
        obtain rfl := List.eq_nil_of_length_eq_zero (show ds.length = 0 by omega)
        have e0 : wcode [] = 0 := rfl
        rw [e0]
        exact ⟨by omega, fun _ => ⟨by omega, by omega⟩⟩
      | succ n =>
        obtain ⟨g3, g4⟩ := g2 (by omega)
        have e2 : 2 ^ (8 * (n + 1 + 1) - 1) = 2 ^ (8 * (n + 1) - 1) * 256 := by rw [show 8 * (n + 1 + 1) - 1 = 8 * (n + 1) - 1 + 8 by omega, Nat.pow_add]
        have e3 : 2 ^ (8 * (n + 1 + 1) - 8) = 2 ^ (8 * (n + 1) - 8) * 256 := by rw [show 8 * (n + 1 + 1) - 8 = 8 * (n + 1) - 8 + 8 by omega, Nat.pow_add]
        rw [e1, e2, e3]
        omega
theorem l_ext {x y : Int64} (h : ∀ i, i < 64 → x.toBitVec.getLsbD i = y.toBitVec.getLsbD i) : x = y := Int64.toBitVec_inj.mp (BitVec.eq_of_getLsbD_eq (fun i hi => h i hi))
theorem lN_bit (n : Nat) {i : Nat} (hi : i < 64) : (lN n).toBitVec.getLsbD i = n.testBit i := by
  show (BitVec.ofNat 64 n).getLsbD i = _
  rw [BitVec.getLsbD_ofNat, decide_eq_true hi, Bool.true_and]
theorem lN_shr56 {w : Nat} (hw : w < 2 ^ 63) : lN w >>> ((nI 56).toInt64 &&& 63) = lN (w / 2 ^ 56) := by
  refine l_ext fun i hi => ?_
  rw [lN_bit _ hi, Int64.toBitVec_shiftRight]
  show ((lN w).toBitVec.sshiftRight (((nI 56).toInt64 &&& 63).toBitVec.smod 64).toNat).getLsbD i = _
  rw [s_l64 56 (by omega), BitVec.getLsbD_sshiftRight, Nat.testBit_div_two_pow]
  by_cases h : 56 + i < 64
  · rw [if_pos h, lN_bit _ h, Nat.add_comm i]
    simp [hi]
  · rw [if_neg h, BitVec.msb_eq_getLsbD_last, lN_bit _ (by omega), Nat.testBit_lt_two_pow (by omega : w < 2 ^ (64 - 1)), Bool.and_false]
    refine (Nat.testBit_lt_two_pow (Nat.lt_of_lt_of_le hw ?_)).symm
    exact Nat.pow_le_pow_right (by decide) (by omega)
theorem lN_shl8 (w : Nat) : lN w <<< ((nI 8).toInt64 &&& 63) = lN (w * 256) := by
  refine l_ext fun i hi => ?_
  rw [lN_bit _ hi, Int64.toBitVec_shiftLeft]
  show ((lN w).toBitVec <<< (((nI 8).toInt64 &&& 63).toBitVec.smod 64).toNat).getLsbD i = _
  rw [s_l64 8 (by omega), BitVec.getLsbD_shiftLeft, show w * 256 = 2 ^ 8 * w by omega, Nat.testBit_two_pow_mul]
  by_cases h : i < 8
  · simp [h, Nat.not_le.mpr h]
  · rw [lN_bit _ (by omega)]
    simp [hi, h, Nat.not_lt.mp h]
theorem lN_or8 (a : Nat) {c : Nat} (hc : c < 256) : lN (a * 256) ||| lN c = lN (a * 256 + c) := by
  refine l_ext fun i hi => ?_
  rw [Int64.toBitVec_or, BitVec.getLsbD_or, lN_bit _ hi, lN_bit _ hi, lN_bit _ hi]
  have := Nat.two_pow_add_eq_or_of_lt (i := 8) (b := c) (by omega) a
  rw [show a * 256 + c = 2 ^ 8 * a + c by omega, this, Nat.testBit_or, show a * 256 = 2 ^ 8 * a by omega]
