/-! words behind not and also -/
def feT (nm : Nat → List Nat) (f : Nat) : Nat → Nat → List (List Nat)
  | 0, _ => []
  | m + 1, x => (if f.testBit x then [nm x] else []) ++ feT nm f m (x + 1)
def dyT (D : Int32) : Nat → Nat → List (List Nat)
  | 0, _ => []
  | m + 1, x => (if bt D x then [nmS x] else []) ++ dyT D m (x + 1)
def enT (N F : Nat) (nm : Nat → List Nat) (k f : Nat) (D : Int32) : List (List Nat) := if f = 0 ∧ D = nI 0 then [] else kw k :: (feT nm f F 0 ++ dyT D N 0)
theorem nmS_len (n : Nat) : (nmS n).length ≤ 8 := by
  unfold nmS
  by_cases h : 9 < n
  · rw [if_pos h]
    exact (show 2 ≤ 8 by decide)
  · rw [if_neg h]
    exact (show 1 ≤ 8 by decide)
theorem dyT_len (D : Int32) : ∀ m x, (dyT D m x).length ≤ m ∧ ∀ v, v ∈ dyT D m x → v.length ≤ 8
  | 0, x => ⟨Nat.le_refl 0, fun v hv => by cases hv⟩
  | m + 1, x => by
    obtain ⟨g1, g2⟩ := dyT_len D m (x + 1)
    unfold dyT
    cases bt D x with
    | false =>
      rw [if_neg (by decide), List.nil_append]
      exact ⟨by omega, g2⟩
    | true =>
      rw [if_pos rfl]
      refine ⟨by rw [List.length_append]; show 1 + _ ≤ _; omega, fun v hv => ?_⟩
      rcases List.mem_append.mp hv with q | q
      · rw [List.mem_singleton.mp q]
        exact nmS_len x
      · exact g2 v q
theorem feT_len {nm : Nat → List Nat} (f : Nat) : ∀ m x, (∀ y, x ≤ y → y < x + m → f.testBit y → (nm y).length ≤ 8) → (feT nm f m x).length ≤ m ∧ ∀ v, v ∈ feT nm f m x → v.length ≤ 8
  | 0, x, _ => ⟨Nat.le_refl 0, fun v hv => by cases hv⟩
  | m + 1, x, h => by
    obtain ⟨g1, g2⟩ := feT_len f m (x + 1) (fun y p1 p2 => h y (by omega) (by omega))
    unfold feT
    cases z : f.testBit x with
    | false =>
      rw [if_neg (by decide), List.nil_append]
      exact ⟨by omega, g2⟩
    | true =>
      rw [if_pos rfl]
      refine ⟨by rw [List.length_append]; show 1 + _ ≤ _; omega, fun v hv => ?_⟩
      rcases List.mem_append.mp hv with q | q
      · rw [List.mem_singleton.mp q]
        exact h x (by omega) (by omega) z
      · exact g2 v q
theorem tb_out {f F x : Nat} (h : f < 2 ^ F) (hx : F ≤ x) : f.testBit x = false := Nat.testBit_lt_two_pow (Nat.lt_of_lt_of_le h (Nat.pow_le_pow_right (by decide) hx))
theorem feT_2 (nm : Nat → List Nat) {f F : Nat} (hF : F ≤ 2) (hf : f < 2 ^ F) : feT nm f 2 0 = feT nm f F 0 := by
  have h0 : F ≤ 0 → f.testBit 0 = false := tb_out hf
  have h1 : F ≤ 1 → f.testBit 1 = false := tb_out hf
  rcases (by omega : F = 0 ∨ F = 1 ∨ F = 2) with rfl | rfl | rfl
  · show (if f.testBit 0 then [nm 0] else []) ++ ((if f.testBit 1 then [nm 1] else []) ++ []) = []
    rw [h0 (by omega), h1 (by omega)]
    rfl
  · show (if f.testBit 0 then [nm 0] else []) ++ ((if f.testBit 1 then [nm 1] else []) ++ []) = (if f.testBit 0 then [nm 0] else []) ++ []
    rw [h1 (by omega)]
    rfl
  · rfl
/-! the class -/
theorem NM_x {I : zI} {L : zL} {f : Nat} {cs : List Nat} (h : NM I L f cs) : ∀ x, x ∈ cs → 0 < x ∧ x < 128 := fun x hx => by
  obtain ⟨i, hi, rfl⟩ := List.mem_iff_getElem.mp hx
  have := h.2.2.1 i hi
  rw [List.getD_eq_getElem?_getD, List.getElem?_eq_getElem hi] at this
  have this : 97 ≤ cs[i] ∧ cs[i] ≤ 122 := this
  omega
theorem we_days {I : zI} (L : zL) {N : Nat} (hN : N ≤ 28) (h6 : I 11 6 = nI N) (D : Int32) : ∀ m x ts, x + m = N → zrun zZ kX8_writeEntries (106, [some (.ref 36), some (.ref 26), some (.ref 11), none, none, some (.int D), some (.int (nI x))], [], hp (wr I ts) L, 0, 0) = some (none, hp (wr I (tks ts (dyT D m x))) L, 0, 0)
  | 0, x, ts, h => by
    have h6' := (wr_o I ts (o := 11) (k := 6) (by omega) (by omega)).trans h6
    rw [e_X8_writeEntries_106]
    simp (disch := omega) only [h6', Option.bind_some, Option.toList_some, Option.toList_none, List.cons_append, List.nil_append, Option.map_some, cond_true, cond_false, Bool.not_true, Bool.not_false, Bool.true_and, Bool.and_true, Bool.false_and, Bool.and_false, Bool.true_or, Bool.or_true, Bool.false_or, Bool.or_false, Bool.not_not, decide_true, decide_false, Bool.decide_eq_true, Bool.decide_eq_false, qz_0, qz_1, qz_n, qz_n0, qz_n1, qz_t, qz_f, Nat.reduceAdd, q1000000, q0, q1, q2, q3, q4, q5, q6, q7, q8, q9, q10, q11, q12, q13, q14, q15, q16, q18, q19, q20, q21, q22, q23, q24, q25, q26, q27, q28, q29, q30, q31, q32, q38, q44, q45, q48, q57, q58, q59, q60, q63, q64, q97, q122, q126, q127, q128, q255, q256, q300, q580, q600, q1000, nI_add, q_lt_t, q_lt_f, q_eq_t, q_eq_f, q_clamp, q_in_t, q_in_f]
    rfl
  | m + 1, x, ts, h => by
    have h6' := (wr_o I ts (o := 11) (k := 6) (by omega) (by omega)).trans h6
    rw [e_X8_writeEntries_106]
    unfold dyT
    cases z : bt D x with
    | false =>
      rw [if_neg (by decide), List.nil_append, ← we_days L hN h6 D m (x + 1) ts (by omega)]
      simp (disch := omega) only [e_X8_writeEntries_132, h6', q_bit, z, Option.bind_some, Option.toList_some, Option.toList_none, List.cons_append, List.nil_append, Option.map_some, cond_true, cond_false, Bool.not_true, Bool.not_false, Bool.true_and, Bool.and_true, Bool.false_and, Bool.and_false, Bool.true_or, Bool.or_true, Bool.false_or, Bool.or_false, Bool.not_not, decide_true, decide_false, Bool.decide_eq_true, Bool.decide_eq_false, qz_0, qz_1, qz_n, qz_n0, qz_n1, qz_t, qz_f, Nat.reduceAdd, q1000000, q0, q1, q2, q3, q4, q5, q6, q7, q8, q9, q10, q11, q12, q13, q14, q15, q16, q18, q19, q20, q21, q22, q23, q24, q25, q26, q27, q28, q29, q30, q31, q32, q38, q44, q45, q48, q57, q58, q59, q60, q63, q64, q97, q122, q126, q127, q128, q255, q256, q300, q580, q600, q1000, nI_add, q_lt_t, q_lt_f, q_eq_t, q_eq_f, q_clamp, q_in_t, q_in_f]
    | true =>
      rw [if_pos rfl, tks_app, tks_1, tks_0, ← we_days L hN h6 D m (x + 1) _ (by omega)]
      simp (disch := omega) only [e_X8_writeEntries_132, h6', q_bit, z, s_putNumber, Option.bind_some, Option.toList_some, Option.toList_none, List.cons_append, List.nil_append, Option.map_some, cond_true, cond_false, Bool.not_true, Bool.not_false, Bool.true_and, Bool.and_true, Bool.false_and, Bool.and_false, Bool.true_or, Bool.or_true, Bool.false_or, Bool.or_false, Bool.not_not, decide_true, decide_false, Bool.decide_eq_true, Bool.decide_eq_false, qz_0, qz_1, qz_n, qz_n0, qz_n1, qz_t, qz_f, Nat.reduceAdd, q1000000, q0, q1, q2, q3, q4, q5, q6, q7, q8, q9, q10, q11, q12, q13, q14, q15, q16, q18, q19, q20, q21, q22, q23, q24, q25, q26, q27, q28, q29, q30, q31, q32, q38, q44, q45, q48, q57, q58, q59, q60, q63, q64, q97, q122, q126, q127, q128, q255, q256, q300, q580, q600, q1000, nI_add, q_lt_t, q_lt_f, q_eq_t, q_eq_f, q_clamp, q_in_t, q_in_f]
theorem we_fe {I : zI} {L : zL} {N F : Nat} (hN : N ≤ 28) (hF : F ≤ 2) (h6 : I 11 6 = nI N) (h8 : I 11 8 = nI F) {I' : zI} {nm : Nat → List Nat} (hnm : ∀ f, f < F → NM I' L f (nm f)) {f : Nat} (hf : f < 4) (D : Int32) : ∀ m x ts, x + m = F → zrun zZ kX8_writeEntries (66, [some (.ref 36), some (.ref 26), some (.ref 11), none, some (.int (nI f)), some (.int D), some (.int (nI x))], [], hp (wr I ts) L, 0, 0) = some (none, hp (wr I (tks ts (feT nm f m x ++ dyT D N 0))) L, 0, 0)
  | 0, x, ts, h => by
    have h8' := (wr_o I ts (o := 11) (k := 8) (by omega) (by omega)).trans h8
    have := we_days L hN h6 D N 0 ts (by omega)
    rw [e_X8_writeEntries_66]
    simp (disch := omega) only [h8', this, Option.bind_some, Option.toList_some, Option.toList_none, List.cons_append, List.nil_append, Option.map_some, cond_true, cond_false, Bool.not_true, Bool.not_false, Bool.true_and, Bool.and_true, Bool.false_and, Bool.and_false, Bool.true_or, Bool.or_true, Bool.false_or, Bool.or_false, Bool.not_not, decide_true, decide_false, Bool.decide_eq_true, Bool.decide_eq_false, qz_0, qz_1, qz_n, qz_n0, qz_n1, qz_t, qz_f, Nat.reduceAdd, q1000000, q0, q1, q2, q3, q4, q5, q6, q7, q8, q9, q10, q11, q12, q13, q14, q15, q16, q18, q19, q20, q21, q22, q23, q24, q25, q26, q27, q28, q29, q30, q31, q32, q38, q44, q45, q48, q57, q58, q59, q60, q63, q64, q97, q122, q126, q127, q128, q255, q256, q300, q580, q600, q1000, nI_add, q_lt_t, q_lt_f, q_eq_t, q_eq_f, q_clamp, q_in_t, q_in_f]
    rfl
  | m + 1, x, ts, h => by
    have h8' := (wr_o I ts (o := 11) (k := 8) (by omega) (by omega)).trans h8
    rw [e_X8_writeEntries_66]
    unfold feT
    cases z : f.testBit x with
    | false =>
      rw [if_neg (by decide), List.nil_append, ← we_fe hN hF h6 h8 hnm hf D m (x + 1) ts (by omega)]
      simp (disch := omega) only [e_X8_writeEntries_97, h8', q_bit, bt_nI, z, Option.bind_some, Option.toList_some, Option.toList_none, List.cons_append, List.nil_append, Option.map_some, cond_true, cond_false, Bool.not_true, Bool.not_false, Bool.true_and, Bool.and_true, Bool.false_and, Bool.and_false, Bool.true_or, Bool.or_true, Bool.false_or, Bool.or_false, Bool.not_not, decide_true, decide_false, Bool.decide_eq_true, Bool.decide_eq_false, qz_0, qz_1, qz_n, qz_n0, qz_n1, qz_t, qz_f, Nat.reduceAdd, q1000000, q0, q1, q2, q3, q4, q5, q6, q7, q8, q9, q10, q11, q12, q13, q14, q15, q16, q18, q19, q20, q21, q22, q23, q24, q25, q26, q27, q28, q29, q30, q31, q32, q38, q44, q45, q48, q57, q58, q59, q60, q63, q64, q97, q122, q126, q127, q128, q255, q256, q300, q580, q600, q1000, nI_add, q_lt_t, q_lt_f, q_eq_t, q_eq_f, q_clamp, q_in_t, q_in_f]
    | true =>
      have hn := hnm x (by omega)
      have hp' := fun ts => s_putL I L ts hn.2.1 (NM_x hn)
      rw [if_pos rfl, List.append_assoc, tks_app, tks_1, tks_0, ← we_fe hN hF h6 h8 hnm hf D m (x + 1) _ (by omega)]
      simp (disch := omega) only [e_X8_writeEntries_97, h8', q_bit, bt_nI, z, hn.2.2.2.2.2, hp', Option.bind_some, Option.toList_some, Option.toList_none, List.cons_append, List.nil_append, Option.map_some, cond_true, cond_false, Bool.not_true, Bool.not_false, Bool.true_and, Bool.and_true, Bool.false_and, Bool.and_false, Bool.true_or, Bool.or_true, Bool.false_or, Bool.or_false, Bool.not_not, decide_true, decide_false, Bool.decide_eq_true, Bool.decide_eq_false, qz_0, qz_1, qz_n, qz_n0, qz_n1, qz_t, qz_f, Nat.reduceAdd, q1000000, q0, q1, q2, q3, q4, q5, q6, q7, q8, q9, q10, q11, q12, q13, q14, q15, q16, q18, q19, q20, q21, q22, q23, q24, q25, q26, q27, q28, q29, q30, q31, q32, q38, q44, q45, q48, q57, q58, q59, q60, q63, q64, q97, q122, q126, q127, q128, q255, q256, q300, q580, q600, q1000, nI_add, q_lt_t, q_lt_f, q_eq_t, q_eq_f, q_clamp, q_in_t, q_in_f]
theorem s_writeEntries {I : zI} {L : zL} (hL : LX L) {N F : Nat} (hN : N ≤ 28) (hF : F ≤ 2) (h6 : I 11 6 = nI N) (h8 : I 11 8 = nI F) {I' : zI} {nm : Nat → List Nat} (hnm : ∀ f, f < F → NM I' L f (nm f)) {k f : Nat} {D : Int32} (hk : (k = 10 ∧ I 26 9 = nI f ∧ I 26 10 = D) ∨ (k = 11 ∧ I 26 11 = nI f ∧ I 26 12 = D)) (hf : f < 4) (ts : List Nat) : zcall zZ nX8_writeEntries [.ref 36, .ref 26, .ref 11, .int (nI k)] (hp (wr I ts) L) = some (none, hp (wr I (tks ts (enT N F nm k f D))) L) := by
  have lp := fun ts => we_fe hN hF h6 h8 hnm hf D F 0 ts (by omega)
  have o := fun k (h : k ≠ 13) => wr_o I ts (o := 26) (k := k) (by omega) (Or.inr h)
  have goal36 : zrun zZ kX8_writeEntries (36, [some (.ref 36), some (.ref 26), some (.ref 11), some (.int (nI k)), some (.int (nI f)), none, none], [.int D], hp (wr I ts) L, 0, 0) = some (none, hp (wr I (tks ts (enT N F nm k f D))) L, 0, 0) := by
    have hk19 : k < 19 := by omega
    unfold enT
    by_cases z : f = 0 ∧ D = nI 0
    · rw [if_pos z, z.1, z.2, e_X8_writeEntries_36]
      simp (disch := omega) only [Option.bind_some, Option.toList_some, Option.toList_none, List.cons_append, List.nil_append, Option.map_some, cond_true, cond_false, Bool.not_true, Bool.not_false, Bool.true_and, Bool.and_true, Bool.false_and, Bool.and_false, Bool.true_or, Bool.or_true, Bool.false_or, Bool.or_false, Bool.not_not, decide_true, decide_false, Bool.decide_eq_true, Bool.decide_eq_false, qz_0, qz_1, qz_n, qz_n0, qz_n1, qz_t, qz_f, Nat.reduceAdd, q1000000, q0, q1, q2, q3, q4, q5, q6, q7, q8, q9, q10, q11, q12, q13, q14, q15, q16, q18, q19, q20, q21, q22, q23, q24, q25, q26, q27, q28, q29, q30, q31, q32, q38, q44, q45, q48, q57, q58, q59, q60, q63, q64, q97, q122, q126, q127, q128, q255, q256, q300, q580, q600, q1000, nI_add, q_lt_t, q_lt_f, q_eq_t, q_eq_f, q_clamp, q_in_t, q_in_f]
      rfl
    · rw [if_neg z, tks_1, ← lp, e_X8_writeEntries_36]
      by_cases y : f = 0
      · have hD : (D = nI 0) = False := eq_false (fun q => z ⟨y, q⟩)
        subst y
        simp (disch := omega) only [e_X8_writeEntries_49, e_X8_writeEntries_63, hD, s_putK I hL, Option.bind_some, Option.toList_some, Option.toList_none, List.cons_append, List.nil_append, Option.map_some, cond_true, cond_false, Bool.not_true, Bool.not_false, Bool.true_and, Bool.and_true, Bool.false_and, Bool.and_false, Bool.true_or, Bool.or_true, Bool.false_or, Bool.or_false, Bool.not_not, decide_true, decide_false, Bool.decide_eq_true, Bool.decide_eq_false, qz_0, qz_1, qz_n, qz_n0, qz_n1, qz_t, qz_f, Nat.reduceAdd, q1000000, q0, q1, q2, q3, q4, q5, q6, q7, q8, q9, q10, q11, q12, q13, q14, q15, q16, q18, q19, q20, q21, q22, q23, q24, q25, q26, q27, q28, q29, q30, q31, q32, q38, q44, q45, q48, q57, q58, q59, q60, q63, q64, q97, q122, q126, q127, q128, q255, q256, q300, q580, q600, q1000, nI_add, q_lt_t, q_lt_f, q_eq_t, q_eq_f, q_clamp, q_in_t, q_in_f]
      · simp (disch := omega) only [e_X8_writeEntries_49, e_X8_writeEntries_63, s_putK I hL, Option.bind_some, Option.toList_some, Option.toList_none, List.cons_append, List.nil_append, Option.map_some, cond_true, cond_false, Bool.not_true, Bool.not_false, Bool.true_and, Bool.and_true, Bool.false_and, Bool.and_false, Bool.true_or, Bool.or_true, Bool.false_or, Bool.or_false, Bool.not_not, decide_true, decide_false, Bool.decide_eq_true, Bool.decide_eq_false, qz_0, qz_1, qz_n, qz_n0, qz_n1, qz_t, qz_f, Nat.reduceAdd, q1000000, q0, q1, q2, q3, q4, q5, q6, q7, q8, q9, q10, q11, q12, q13, q14, q15, q16, q18, q19, q20, q21, q22, q23, q24, q25, q26, q27, q28, q29, q30, q31, q32, q38, q44, q45, q48, q57, q58, q59, q60, q63, q64, q97, q122, q126, q127, q128, q255, q256, q300, q580, q600, q1000, nI_add, q_lt_t, q_lt_f, q_eq_t, q_eq_f, q_clamp, q_in_t, q_in_f]
  rcases hk with ⟨rfl, a1, a2⟩ | ⟨rfl, a1, a2⟩
  · have b1 := (o 9 (by omega)).trans a1
    have b2 := (o 10 (by omega)).trans a2
    simp (disch := omega) only [c_X8_writeEntries, e_X8_writeEntries_0, e_X8_writeEntries_17, b1, b2, q1000000, q0, q1, q2, q3, q4, q5, q6, q7, q8, q9, q10, q11, q12, q13, q14, q15, q16, q18, q19, q20, q21, q22, q23, q24, q25, q26, q27, q28, q29, q30, q31, q32, q38, q44, q45, q48, q57, q58, q59, q60, q63, q64, q97, q122, q126, q127, q128, q255, q256, q300, q580, q600, q1000, Option.bind_some, Option.toList_some, Option.toList_none, List.cons_append, List.nil_append, Option.map_some, cond_true, cond_false, Bool.not_true, Bool.not_false, Bool.true_and, Bool.and_true, Bool.false_and, Bool.and_false, Bool.true_or, Bool.or_true, Bool.false_or, Bool.or_false, Bool.not_not, decide_true, decide_false, Bool.decide_eq_true, Bool.decide_eq_false, qz_0, qz_1, qz_n, qz_n0, qz_n1, qz_t, qz_f, Nat.reduceAdd, q1000000, q0, q1, q2, q3, q4, q5, q6, q7, q8, q9, q10, q11, q12, q13, q14, q15, q16, q18, q19, q20, q21, q22, q23, q24, q25, q26, q27, q28, q29, q30, q31, q32, q38, q44, q45, q48, q57, q58, q59, q60, q63, q64, q97, q122, q126, q127, q128, q255, q256, q300, q580, q600, q1000, nI_add, q_lt_t, q_lt_f, q_eq_t, q_eq_f, q_clamp, q_in_t, q_in_f, goal36]
  · have b1 := (o 11 (by omega)).trans a1
    have b2 := (o 12 (by omega)).trans a2
    simp (disch := omega) only [c_X8_writeEntries, e_X8_writeEntries_0, e_X8_writeEntries_17, b1, b2, q1000000, q0, q1, q2, q3, q4, q5, q6, q7, q8, q9, q10, q11, q12, q13, q14, q15, q16, q18, q19, q20, q21, q22, q23, q24, q25, q26, q27, q28, q29, q30, q31, q32, q38, q44, q45, q48, q57, q58, q59, q60, q63, q64, q97, q122, q126, q127, q128, q255, q256, q300, q580, q600, q1000, Option.bind_some, Option.toList_some, Option.toList_none, List.cons_append, List.nil_append, Option.map_some, cond_true, cond_false, Bool.not_true, Bool.not_false, Bool.true_and, Bool.and_true, Bool.false_and, Bool.and_false, Bool.true_or, Bool.or_true, Bool.false_or, Bool.or_false, Bool.not_not, decide_true, decide_false, Bool.decide_eq_true, Bool.decide_eq_false, qz_0, qz_1, qz_n, qz_n0, qz_n1, qz_t, qz_f, Nat.reduceAdd, q1000000, q0, q1, q2, q3, q4, q5, q6, q7, q8, q9, q10, q11, q12, q13, q14, q15, q16, q18, q19, q20, q21, q22, q23, q24, q25, q26, q27, q28, q29, q30, q31, q32, q38, q44, q45, q48, q57, q58, q59, q60, q63, q64, q97, q122, q126, q127, q128, q255, q256, q300, q580, q600, q1000, nI_add, q_lt_t, q_lt_f, q_eq_t, q_eq_f, q_clamp, q_in_t, q_in_f, goal36]
