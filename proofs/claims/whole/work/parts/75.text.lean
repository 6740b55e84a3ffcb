/-! the reference -/
theorem se_days {I : zI} {w : Int32} (hI : I 52 41 = w) (L : zL) {N : Nat} (hN : N ≤ 28) (h6 : I 53 0 = nI N) (D : Int32) : ∀ m x ts, x + m = N → ts.length + 9 * m < 90000 → zrun zZ kX10_saysEntries (89, [some (.ref 52), none, none, some (.int D), some (.int (nI x)), none], [], hp (ws I w ts) L, 0, 0) = some (none, hp (ws I w (tks ts (dyT D m x))) L, 0, 0)
  | 0, x, ts, h, hl => by
    have h6' := (ws_o I w ts (o := 53) (k := 0) (by omega)).trans h6
    rw [e_X10_saysEntries_89]
    simp (disch := omega) only [h6', Option.bind_some, Option.toList_some, Option.toList_none, List.cons_append, List.nil_append, Option.map_some, cond_true, cond_false, Bool.not_true, Bool.not_false, Bool.true_and, Bool.and_true, Bool.false_and, Bool.and_false, Bool.true_or, Bool.or_true, Bool.false_or, Bool.or_false, Bool.not_not, decide_true, decide_false, Bool.decide_eq_true, Bool.decide_eq_false, qz_0, qz_1, qz_n, qz_n0, qz_n1, qz_t, qz_f, Nat.reduceAdd, q1000000, q0, q1, q2, q3, q4, q5, q6, q7, q8, q9, q10, q11, q12, q13, q14, q15, q16, q18, q19, q20, q21, q22, q23, q24, q25, q26, q27, q28, q29, q30, q31, q32, q38, q44, q45, q48, q57, q58, q59, q60, q63, q64, q97, q122, q126, q127, q128, q255, q256, q300, q580, q600, q1000, nI_add, q_lt_t, q_lt_f, q_eq_t, q_eq_f, q_clamp, q_in_t, q_in_f]
    rfl
  | m + 1, x, ts, h, hl => by
    have h6' := (ws_o I w ts (o := 53) (k := 0) (by omega)).trans h6
    have ll := tkn_le ts (nmS x) (nmS_len x)
    rw [e_X10_saysEntries_89]
    unfold dyT
    cases z : bt D x with
    | false =>
      rw [if_neg (by decide), List.nil_append, ← se_days hI L hN h6 D m (x + 1) ts (by omega) (by omega)]
      simp (disch := omega) only [e_X10_saysEntries_106, e_X10_saysEntries_115, h6', s_has, z, Option.bind_some, Option.toList_some, Option.toList_none, List.cons_append, List.nil_append, Option.map_some, cond_true, cond_false, Bool.not_true, Bool.not_false, Bool.true_and, Bool.and_true, Bool.false_and, Bool.and_false, Bool.true_or, Bool.or_true, Bool.false_or, Bool.or_false, Bool.not_not, decide_true, decide_false, Bool.decide_eq_true, Bool.decide_eq_false, qz_0, qz_1, qz_n, qz_n0, qz_n1, qz_t, qz_f, Nat.reduceAdd, q1000000, q0, q1, q2, q3, q4, q5, q6, q7, q8, q9, q10, q11, q12, q13, q14, q15, q16, q18, q19, q20, q21, q22, q23, q24, q25, q26, q27, q28, q29, q30, q31, q32, q38, q44, q45, q48, q57, q58, q59, q60, q63, q64, q97, q122, q126, q127, q128, q255, q256, q300, q580, q600, q1000, nI_add, q_lt_t, q_lt_f, q_eq_t, q_eq_f, q_clamp, q_in_t, q_in_f]
    | true =>
      rw [if_pos rfl, tks_app, tks_1, tks_0, ← se_days hI L hN h6 D m (x + 1) _ (by omega) (by omega)]
      simp (disch := omega) only [e_X10_saysEntries_106, e_X10_saysEntries_115, h6', s_has, z, s_saysN hI, Option.bind_some, Option.toList_some, Option.toList_none, List.cons_append, List.nil_append, Option.map_some, cond_true, cond_false, Bool.not_true, Bool.not_false, Bool.true_and, Bool.and_true, Bool.false_and, Bool.and_false, Bool.true_or, Bool.or_true, Bool.false_or, Bool.or_false, Bool.not_not, decide_true, decide_false, Bool.decide_eq_true, Bool.decide_eq_false, qz_0, qz_1, qz_n, qz_n0, qz_n1, qz_t, qz_f, Nat.reduceAdd, q1000000, q0, q1, q2, q3, q4, q5, q6, q7, q8, q9, q10, q11, q12, q13, q14, q15, q16, q18, q19, q20, q21, q22, q23, q24, q25, q26, q27, q28, q29, q30, q31, q32, q38, q44, q45, q48, q57, q58, q59, q60, q63, q64, q97, q122, q126, q127, q128, q255, q256, q300, q580, q600, q1000, nI_add, q_lt_t, q_lt_f, q_eq_t, q_eq_f, q_clamp, q_in_t, q_in_f]
theorem se_name {I : zI} {w : Int32} (hI : I 52 41 = w) (L : zL) {x : Nat} (hx : x < 2) {cs : List Nat} (hn : NM I L x cs) (F D : Int32) : ∀ m i ts, i + m = cs.length → zrun zZ kX10_saysEntries (39, [some (.ref 52), none, some (.int F), some (.int D), some (.int (nI x)), some (.int (nI i))], [], hp (ws I w ts) L, 0, 0) = zrun zZ kX10_saysEntries (80, [some (.ref 52), none, some (.int F), some (.int D), some (.int (nI x)), none], [], hp (ws I w (ts ++ cs.drop i)) L, 0, 0)
  | 0, i, ts, h => by
    have e1 := (ws_o I w ts (o := 53) (k := 8 + x) (by omega)).trans hn.2.2.2.1
    have := hn.2.1
    rw [e_X10_saysEntries_39, List.drop_eq_nil_of_le (by omega), List.append_nil]
    simp (disch := omega) only [e1, Option.bind_some, Option.toList_some, Option.toList_none, List.cons_append, List.nil_append, Option.map_some, cond_true, cond_false, Bool.not_true, Bool.not_false, Bool.true_and, Bool.and_true, Bool.false_and, Bool.and_false, Bool.true_or, Bool.or_true, Bool.false_or, Bool.or_false, Bool.not_not, decide_true, decide_false, Bool.decide_eq_true, Bool.decide_eq_false, qz_0, qz_1, qz_n, qz_n0, qz_n1, qz_t, qz_f, Nat.reduceAdd, q1000000, q0, q1, q2, q3, q4, q5, q6, q7, q8, q9, q10, q11, q12, q13, q14, q15, q16, q18, q19, q20, q21, q22, q23, q24, q25, q26, q27, q28, q29, q30, q31, q32, q38, q44, q45, q48, q57, q58, q59, q60, q63, q64, q97, q122, q126, q127, q128, q255, q256, q300, q580, q600, q1000, nI_add, q_lt_t, q_lt_f, q_eq_t, q_eq_f, q_clamp, q_in_t, q_in_f]
  | m + 1, i, ts, h => by
    have e1 := (ws_o I w ts (o := 53) (k := 8 + x) (by omega)).trans hn.2.2.2.1
    have e2 := (ws_o I w ts (o := 53) (k := 10 + 8 * x + i) (by omega)).trans (hn.2.2.2.2.1 i (by omega))
    have := hn.2.1
    have ed : ts ++ cs.drop i = (ts ++ [cs.getD i 0]) ++ cs.drop (i + 1) := by
      rw [List.drop_eq_getElem_cons (show i < cs.length by omega), List.getD_eq_getElem?_getD, List.getElem?_eq_getElem (show i < cs.length by omega)]
      simp
    rw [ed, ← se_name hI L hx hn F D m (i + 1) _ (by omega), e_X10_saysEntries_39]
    simp (disch := omega) only [e_X10_saysEntries_74, e1, q_mul, e2, s_sign hI, Option.bind_some, Option.toList_some, Option.toList_none, List.cons_append, List.nil_append, Option.map_some, cond_true, cond_false, Bool.not_true, Bool.not_false, Bool.true_and, Bool.and_true, Bool.false_and, Bool.and_false, Bool.true_or, Bool.or_true, Bool.false_or, Bool.or_false, Bool.not_not, decide_true, decide_false, Bool.decide_eq_true, Bool.decide_eq_false, qz_0, qz_1, qz_n, qz_n0, qz_n1, qz_t, qz_f, Nat.reduceAdd, q1000000, q0, q1, q2, q3, q4, q5, q6, q7, q8, q9, q10, q11, q12, q13, q14, q15, q16, q18, q19, q20, q21, q22, q23, q24, q25, q26, q27, q28, q29, q30, q31, q32, q38, q44, q45, q48, q57, q58, q59, q60, q63, q64, q97, q122, q126, q127, q128, q255, q256, q300, q580, q600, q1000, nI_add, q_lt_t, q_lt_f, q_eq_t, q_eq_f, q_clamp, q_in_t, q_in_f]
theorem se_fe {I : zI} {w : Int32} (hI : I 52 41 = w) {L : zL} {N F : Nat} (hN : N ≤ 28) (hF : F ≤ 2) (h6 : I 53 0 = nI N) {nm : Nat → List Nat} (hnm : ∀ f, f < F → NM I L f (nm f)) {f : Nat} (hf : f < 2 ^ F) (D : Int32) : ∀ m x ts, x + m = 2 → ts.length + 9 * m < 80000 → zrun zZ kX10_saysEntries (17, [some (.ref 52), none, some (.int (nI f)), some (.int D), some (.int (nI x)), none], [], hp (ws I w ts) L, 0, 0) = some (none, hp (ws I w (tks ts (feT nm f m x ++ dyT D N 0))) L, 0, 0)
  | 0, x, ts, h, hl => by
    have := se_days hI L hN h6 D N 0 ts (by omega) (by omega)
    rw [e_X10_saysEntries_17]
    simp (disch := omega) only [this, Option.bind_some, Option.toList_some, Option.toList_none, List.cons_append, List.nil_append, Option.map_some, cond_true, cond_false, Bool.not_true, Bool.not_false, Bool.true_and, Bool.and_true, Bool.false_and, Bool.and_false, Bool.true_or, Bool.or_true, Bool.false_or, Bool.or_false, Bool.not_not, decide_true, decide_false, Bool.decide_eq_true, Bool.decide_eq_false, qz_0, qz_1, qz_n, qz_n0, qz_n1, qz_t, qz_f, Nat.reduceAdd, q1000000, q0, q1, q2, q3, q4, q5, q6, q7, q8, q9, q10, q11, q12, q13, q14, q15, q16, q18, q19, q20, q21, q22, q23, q24, q25, q26, q27, q28, q29, q30, q31, q32, q38, q44, q45, q48, q57, q58, q59, q60, q63, q64, q97, q122, q126, q127, q128, q255, q256, q300, q580, q600, q1000, nI_add, q_lt_t, q_lt_f, q_eq_t, q_eq_f, q_clamp, q_in_t, q_in_f]
    rfl
  | m + 1, x, ts, h, hl => by
    have hf4 : f < 4 := Nat.lt_of_lt_of_le hf (Nat.pow_le_pow_right (by decide) hF)
    rw [e_X10_saysEntries_17]
    unfold feT
    cases z : f.testBit x with
    | false =>
      rw [if_neg (by decide), List.nil_append, ← se_fe hI hN hF h6 hnm hf D m (x + 1) ts (by omega) (by omega)]
      simp (disch := omega) only [e_X10_saysEntries_29, e_X10_saysEntries_80, s_has, bt_nI, z, Option.bind_some, Option.toList_some, Option.toList_none, List.cons_append, List.nil_append, Option.map_some, cond_true, cond_false, Bool.not_true, Bool.not_false, Bool.true_and, Bool.and_true, Bool.false_and, Bool.and_false, Bool.true_or, Bool.or_true, Bool.false_or, Bool.or_false, Bool.not_not, decide_true, decide_false, Bool.decide_eq_true, Bool.decide_eq_false, qz_0, qz_1, qz_n, qz_n0, qz_n1, qz_t, qz_f, Nat.reduceAdd, q1000000, q0, q1, q2, q3, q4, q5, q6, q7, q8, q9, q10, q11, q12, q13, q14, q15, q16, q18, q19, q20, q21, q22, q23, q24, q25, q26, q27, q28, q29, q30, q31, q32, q38, q44, q45, q48, q57, q58, q59, q60, q63, q64, q97, q122, q126, q127, q128, q255, q256, q300, q580, q600, q1000, nI_add, q_lt_t, q_lt_f, q_eq_t, q_eq_f, q_clamp, q_in_t, q_in_f]
    | true =>
      have hxF : x < F := by
        rcases Nat.lt_or_ge x F with q | q
        · exact q
        · rw [tb_out hf q] at z
          cases z
      have hn := hnm x hxF
      have hname := fun ts => se_name hI L (by omega) hn (nI f) D (nm x).length 0 ts (by omega)
      have ll := tkn_le ts (nm x) hn.2.1
      rw [if_pos rfl, List.append_assoc, tks_app, tks_1, tks_0, ← se_fe hI hN hF h6 hnm hf D m (x + 1) _ (by omega) (by omega)]
      simp (disch := omega) only [e_X10_saysEntries_29, e_X10_saysEntries_36, e_X10_saysEntries_80, s_has, bt_nI, z, s_blank hI, hname, List.drop_zero, Option.bind_some, Option.toList_some, Option.toList_none, List.cons_append, List.nil_append, Option.map_some, cond_true, cond_false, Bool.not_true, Bool.not_false, Bool.true_and, Bool.and_true, Bool.false_and, Bool.and_false, Bool.true_or, Bool.or_true, Bool.false_or, Bool.or_false, Bool.not_not, decide_true, decide_false, Bool.decide_eq_true, Bool.decide_eq_false, qz_0, qz_1, qz_n, qz_n0, qz_n1, qz_t, qz_f, Nat.reduceAdd, q1000000, q0, q1, q2, q3, q4, q5, q6, q7, q8, q9, q10, q11, q12, q13, q14, q15, q16, q18, q19, q20, q21, q22, q23, q24, q25, q26, q27, q28, q29, q30, q31, q32, q38, q44, q45, q48, q57, q58, q59, q60, q63, q64, q97, q122, q126, q127, q128, q255, q256, q300, q580, q600, q1000, nI_add, q_lt_t, q_lt_f, q_eq_t, q_eq_f, q_clamp, q_in_t, q_in_f]
      rfl
theorem s_saysEntries {I : zI} {w : Int32} (hI : I 52 41 = w) {L : zL} {N F : Nat} (hN : N ≤ 28) (hF : F ≤ 2) (h6 : I 53 0 = nI N) {nm : Nat → List Nat} (hnm : ∀ f, f < F → NM I L f (nm f)) {k f : Nat} (hk : k < 19) (hf : f < 2 ^ F) (D : Int32) (ts : List Nat) (hl : ts.length < 70000) : zcall zZ nX10_saysEntries [.ref 52, .int (nI k), .int (nI f), .int D] (hp (ws I w ts) L) = some (none, hp (ws I w (tks ts (enT N F nm k f D))) L) := by
  have hf4 : f < 4 := Nat.lt_of_lt_of_le hf (Nat.pow_le_pow_right (by decide) hF)
  have ll := tkn_le ts (kw k) (kw_ok k hk).2.1
  have lp := se_fe hI hN hF h6 hnm hf D 2 0 (tkn ts (kw k)) (by omega) (by omega)
  unfold enT
  rw [feT_2 nm hF hf] at lp
  by_cases z : f = 0 ∧ D = nI 0
  · rw [if_pos z, z.1, z.2]
    simp (disch := omega) only [c_X10_saysEntries, e_X10_saysEntries_0, Option.bind_some, Option.toList_some, Option.toList_none, List.cons_append, List.nil_append, Option.map_some, cond_true, cond_false, Bool.not_true, Bool.not_false, Bool.true_and, Bool.and_true, Bool.false_and, Bool.and_false, Bool.true_or, Bool.or_true, Bool.false_or, Bool.or_false, Bool.not_not, decide_true, decide_false, Bool.decide_eq_true, Bool.decide_eq_false, qz_0, qz_1, qz_n, qz_n0, qz_n1, qz_t, qz_f, Nat.reduceAdd, q1000000, q0, q1, q2, q3, q4, q5, q6, q7, q8, q9, q10, q11, q12, q13, q14, q15, q16, q18, q19, q20, q21, q22, q23, q24, q25, q26, q27, q28, q29, q30, q31, q32, q38, q44, q45, q48, q57, q58, q59, q60, q63, q64, q97, q122, q126, q127, q128, q255, q256, q300, q580, q600, q1000, nI_add, q_lt_t, q_lt_f, q_eq_t, q_eq_f, q_clamp, q_in_t, q_in_f]
    rfl
  · rw [if_neg z, tks_1]
    by_cases y : f = 0
    · have hD : (D = nI 0) = False := eq_false (fun q => z ⟨y, q⟩)
      subst y
      simp (disch := omega) only [c_X10_saysEntries, e_X10_saysEntries_0, e_X10_saysEntries_9, e_X10_saysEntries_14, hD, s_says hI, lp, Option.bind_some, Option.toList_some, Option.toList_none, List.cons_append, List.nil_append, Option.map_some, cond_true, cond_false, Bool.not_true, Bool.not_false, Bool.true_and, Bool.and_true, Bool.false_and, Bool.and_false, Bool.true_or, Bool.or_true, Bool.false_or, Bool.or_false, Bool.not_not, decide_true, decide_false, Bool.decide_eq_true, Bool.decide_eq_false, qz_0, qz_1, qz_n, qz_n0, qz_n1, qz_t, qz_f, Nat.reduceAdd, q1000000, q0, q1, q2, q3, q4, q5, q6, q7, q8, q9, q10, q11, q12, q13, q14, q15, q16, q18, q19, q20, q21, q22, q23, q24, q25, q26, q27, q28, q29, q30, q31, q32, q38, q44, q45, q48, q57, q58, q59, q60, q63, q64, q97, q122, q126, q127, q128, q255, q256, q300, q580, q600, q1000, nI_add, q_lt_t, q_lt_f, q_eq_t, q_eq_f, q_clamp, q_in_t, q_in_f]
    · simp (disch := omega) only [c_X10_saysEntries, e_X10_saysEntries_0, e_X10_saysEntries_9, e_X10_saysEntries_14, s_says hI, lp, Option.bind_some, Option.toList_some, Option.toList_none, List.cons_append, List.nil_append, Option.map_some, cond_true, cond_false, Bool.not_true, Bool.not_false, Bool.true_and, Bool.and_true, Bool.false_and, Bool.and_false, Bool.true_or, Bool.or_true, Bool.false_or, Bool.or_false, Bool.not_not, decide_true, decide_false, Bool.decide_eq_true, Bool.decide_eq_false, qz_0, qz_1, qz_n, qz_n0, qz_n1, qz_t, qz_f, Nat.reduceAdd, q1000000, q0, q1, q2, q3, q4, q5, q6, q7, q8, q9, q10, q11, q12, q13, q14, q15, q16, q18, q19, q20, q21, q22, q23, q24, q25, q26, q27, q28, q29, q30, q31, q32, q38, q44, q45, q48, q57, q58, q59, q60, q63, q64, q97, q122, q126, q127, q128, q255, q256, q300, q580, q600, q1000, nI_add, q_lt_t, q_lt_f, q_eq_t, q_eq_f, q_clamp, q_in_t, q_in_f]
