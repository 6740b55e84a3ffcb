/-! words of a pattern -/
def tks (ts : List Nat) (l : List (List Nat)) : List Nat := l.foldl tkn ts
theorem tks_app (ts : List Nat) (a b : List (List Nat)) : tks ts (a ++ b) = tks (tks ts a) b := List.foldl_append
theorem bl_le (ts : List Nat) : (bl ts).length ≤ ts.length + 1 := by
  unfold bl
  by_cases h : ts.length = 0
  · rw [if_pos h]
    omega
  · rw [if_neg h]
    simp
theorem tkn_le (ts w : List Nat) (h : w.length ≤ 8) : (tkn ts w).length ≤ ts.length + 9 := by
  have := bl_le ts
  unfold tkn
  rw [List.length_append]
  omega
theorem tks_le : ∀ (l : List (List Nat)) (ts : List Nat), (∀ w, w ∈ l → w.length ≤ 8) → (tks ts l).length ≤ ts.length + 9 * l.length
  | [], ts, _ => by
    show ts.length ≤ _
    omega
  | w :: l, ts, h => by
    have h1 := tkn_le ts w (h w (by simp))
    have h2 := tks_le l (tkn ts w) (fun v hv => h v (by simp [hv]))
    show (tks (tkn ts w) l).length ≤ _
    rw [List.length_cons]
    omega
def rE (P : Nat) : Nat → Nat → Nat
  | 0, x => x
  | m + 1, x => if P.testBit x then rE P m (x + 1) else x
theorem rE_le (P : Nat) : ∀ m x, x ≤ rE P m x ∧ rE P m x ≤ x + m
  | 0, x => ⟨Nat.le_refl x, Nat.le_refl x⟩
  | m + 1, x => by
    have := rE_le P m (x + 1)
    unfold rE
    by_cases h : P.testBit x
    · rw [if_pos h]
      omega
    · rw [if_neg h]
      omega
theorem rE_in (P : Nat) : ∀ m x i, x ≤ i → i < rE P m x → P.testBit i = true
  | 0, x, i, h1, h2 => by
    have h2 : i < x := h2
    omega
  | m + 1, x, i, h1, h2 => by
    unfold rE at h2
    by_cases h : P.testBit x
    · rw [if_pos h] at h2
      by_cases z : i = x
      · rw [z]
        exact h
      · exact rE_in P m (x + 1) i (by omega) h2
    · rw [if_neg h] at h2
      omega
theorem rE_end (P : Nat) : ∀ m x, rE P m x < x + m → P.testBit (rE P m x) = false
  | 0, x, h => by
    have h : x < x := h
    omega
  | m + 1, x, h => by
    unfold rE at h ⊢
    by_cases z : P.testBit x
    · rw [if_pos z] at h ⊢
      exact rE_end P m (x + 1) (by omega)
    · rw [if_neg z]
      simpa using z
theorem tb7 : ∀ P, P < 128 → P.testBit 7 = false := by decide +kernel
theorem s_rowSize (h : zH) {P x : Nat} (hP : P < 128) (hx : x < 7) : zcall zZ nX9_rowSize [.int (nI P), .int (nI x)] h = some (some (.int (nI (rE P (7 - x) x - x))), h) := by
  have hb : ∀ i, x + i < 32 → bt ((nI P >>> (nI x &&& nI 31)) ^^^ -nI 1) i = !P.testBit (x + i) := fun i hi => by
    rw [b_cpl (by omega), b_shrN x (by omega) _ hi, bt_nI (by omega)]
  have hl := rE_le P (7 - x) x
  have hz : zcall zZ nJ6_numberOfTrailingZeros_0f7a4 [.int ((nI P >>> (nI x &&& nI 31)) ^^^ -nI 1)] h = _ := j_ntz (t := rE P (7 - x) x - x) h (by omega) (by
    rw [hb _ (by omega), show x + (rE P (7 - x) x - x) = rE P (7 - x) x by omega]
    rcases Nat.lt_or_ge (rE P (7 - x) x) 7 with q | q
    · rw [rE_end P (7 - x) x (by omega)]
      rfl
    · rw [show rE P (7 - x) x = 7 by omega, tb7 P hP]
      rfl) (fun i hi => by
    rw [hb _ (by omega), rE_in P (7 - x) x (x + i) (by omega) (by omega)]
    rfl)
  simp (disch := omega) only [c_X9_rowSize, e_X9_rowSize_0, e_X9_rowSize_8, hz, q1000000, q0, q1, q2, q3, q4, q5, q6, q7, q8, q9, q10, q11, q12, q13, q14, q15, q16, q18, q19, q20, q21, q22, q23, q24, q25, q26, q27, q28, q29, q30, q31, q32, q38, q44, q45, q48, q57, q58, q59, q60, q63, q64, q97, q122, q126, q127, q128, q255, q256, q300, q580, q600, q1000, Option.bind_some, Option.toList_some, Option.toList_none, List.cons_append, List.nil_append, Option.map_some, cond_true, cond_false, Bool.not_true, Bool.not_false, Bool.true_and, Bool.and_true, Bool.false_and, Bool.and_false, Bool.true_or, Bool.or_true, Bool.false_or, Bool.or_false, Bool.not_not, decide_true, decide_false, Bool.decide_eq_true, Bool.decide_eq_false, qz_0, qz_1, qz_n, qz_n0, qz_n1, qz_t, qz_f, Nat.reduceAdd]
def stP (P x : Nat) : Bool := P.testBit x && !(decide (1 ≤ x) && P.testBit (x - 1))
theorem s_rowS (h : zH) (P : Nat) : zcall zZ nX9_rowStarts [.int (nI P)] h = some (some (.int (nI P &&& ((nI P <<< (nI 1 &&& nI 31)) ^^^ -nI 1))), h) := by
  simp (disch := omega) only [c_X9_rowStarts, e_X9_rowStarts_0, q1000000, q0, q1, q2, q3, q4, q5, q6, q7, q8, q9, q10, q11, q12, q13, q14, q15, q16, q18, q19, q20, q21, q22, q23, q24, q25, q26, q27, q28, q29, q30, q31, q32, q38, q44, q45, q48, q57, q58, q59, q60, q63, q64, q97, q122, q126, q127, q128, q255, q256, q300, q580, q600, q1000, Option.bind_some, Option.toList_some, Option.toList_none, List.cons_append, List.nil_append, Option.map_some, cond_true, cond_false, Bool.not_true, Bool.not_false, Bool.true_and, Bool.and_true, Bool.false_and, Bool.and_false, Bool.true_or, Bool.or_true, Bool.false_or, Bool.or_false, Bool.not_not, decide_true, decide_false, Bool.decide_eq_true, Bool.decide_eq_false, qz_0, qz_1, qz_n, qz_n0, qz_n1, qz_t, qz_f, Nat.reduceAdd]
theorem b_rowS {P x : Nat} (hP : P < 128) (hx : x < 32) : bt (nI P &&& ((nI P <<< (nI 1 &&& nI 31)) ^^^ -nI 1)) x = stP P x := by
  have := b_shl 1 (by omega) (nI P) hx
  have this : bt (nI P <<< (nI 1 &&& nI 31)) x = _ := this
  rw [b_and, b_cpl hx, this, bt_nI (by omega), bt_nI (by omega)]
  rfl
/-- the words of a pattern, by their numbers; 19 is the stroke -/
def pC (P : Nat) : Nat → Nat → List Nat
  | 0, _ => []
  | m + 1, x => (if stP P x then (12 + x) :: ((if 2 < rE P (7 - x) x - x then [19] else []) ++ (if 1 < rE P (7 - x) x - x then [12 + x + (rE P (7 - x) x - x) - 1] else [])) else []) ++ pC P m (x + 1)
def pR (P : Nat) : Nat → Nat → List Nat
  | 0, _ => []
  | m + 1, a => if a < 7 then (if 2 < rE P (7 - a) a - a then [12 + a, 19, 12 + rE P (7 - a) a - 1] else (if rE P (7 - a) a - a = 0 then [] else if rE P (7 - a) a - a = 1 then [12 + a] else [12 + a, 12 + (a + 1)])) ++ pR P m (max (rE P (7 - a) a) (a + 1)) else []
theorem pC_pR : ∀ P, P < 128 → pC P 7 0 = pR P 7 0 := by decide +kernel
theorem pC_all : ∀ P, P < 128 → (pC P 7 0).all (fun i => decide (i < 20)) = true ∧ (pC P 7 0).length ≤ 8 := by decide +kernel
def kwd (i : Nat) : List Nat := if i = 19 then [45] else kw i
def ptk (P : Nat) : List (List Nat) := if P = 127 then [kw 7] else (pC P 7 0).map kwd
theorem kwd_k {i : Nat} (h : i < 19) : kwd i = kw i := if_neg (by omega)
theorem kwd_19 : kwd 19 = [45] := rfl
theorem tks_1 (ts : List Nat) (w : List Nat) (l : List (List Nat)) : tks ts (w :: l) = tks (tkn ts w) l := rfl
theorem tks_0 (ts : List Nat) : tks ts [] = ts := rfl
/-- words lie in the class as they must -/
def LX (L : zL) : Prop := ∀ k, k < 19 → L 2 k = lN (wcode (kw k))
theorem s_putK (I : zI) {L : zL} (hL : LX L) (ts : List Nat) {k : Nat} (hk : k < 19) : zcall zZ nX8_putWord [.ref 36, .ref 26, .long (L 2 k)] (hp (wr I ts) L) = some (none, hp (wr I (tkn ts (kw k))) L) := by
  rw [hL k hk]
  exact s_putL I L ts (kw_ok k hk).2.1 (kw_x hk)
theorem s_put45 (I : zI) (L : zL) (ts : List Nat) : zcall zZ nX8_putWord [.ref 36, .ref 26, .long 45] (hp (wr I ts) L) = some (none, hp (wr I (tkn ts [45])) L) := s_putL (cs := [45]) I L ts (by decide) (by
  intro x hx
  rw [List.mem_singleton.mp hx]
  decide)
theorem wp_loop (I : zI) {L : zL} (hL : LX L) {P : Nat} (hP : P < 128) : ∀ m x ts, x + m = 7 → zrun zZ kX8_writePattern (24, [some (.ref 36), some (.ref 26), some (.int (nI P)), some (.int (nI x)), none], [], hp (wr I ts) L, 0, 0) = some (none, hp (wr I (tks ts ((pC P m x).map kwd))) L, 0, 0)
  | 0, x, ts, h => by
    rw [e_X8_writePattern_24]
    simp (disch := omega) only [Option.bind_some, Option.toList_some, Option.toList_none, List.cons_append, List.nil_append, Option.map_some, cond_true, cond_false, Bool.not_true, Bool.not_false, Bool.true_and, Bool.and_true, Bool.false_and, Bool.and_false, Bool.true_or, Bool.or_true, Bool.false_or, Bool.or_false, Bool.not_not, decide_true, decide_false, Bool.decide_eq_true, Bool.decide_eq_false, qz_0, qz_1, qz_n, qz_n0, qz_n1, qz_t, qz_f, Nat.reduceAdd, q1000000, q0, q1, q2, q3, q4, q5, q6, q7, q8, q9, q10, q11, q12, q13, q14, q15, q16, q18, q19, q20, q21, q22, q23, q24, q25, q26, q27, q28, q29, q30, q31, q32, q38, q44, q45, q48, q57, q58, q59, q60, q63, q64, q97, q122, q126, q127, q128, q255, q256, q300, q580, q600, q1000, nI_add, q_lt_t, q_lt_f, q_eq_t, q_eq_f, q_clamp, q_in_t, q_in_f]
    rfl
  | m + 1, x, ts, h => by
    have hl := rE_le P (7 - x) x
    have hs := b_rowS (x := x) hP (by omega)
    rw [e_X8_writePattern_24]
    unfold pC
    cases z : stP P x with
    | false =>
      rw [z] at hs
      rw [if_neg (by decide), List.nil_append, ← wp_loop I hL hP m (x + 1) ts (by omega)]
      simp (disch := omega) only [e_X8_writePattern_34, e_X8_writePattern_107, s_rowS, q_bit, hs, Option.bind_some, Option.toList_some, Option.toList_none, List.cons_append, List.nil_append, Option.map_some, cond_true, cond_false, Bool.not_true, Bool.not_false, Bool.true_and, Bool.and_true, Bool.false_and, Bool.and_false, Bool.true_or, Bool.or_true, Bool.false_or, Bool.or_false, Bool.not_not, decide_true, decide_false, Bool.decide_eq_true, Bool.decide_eq_false, qz_0, qz_1, qz_n, qz_n0, qz_n1, qz_t, qz_f, Nat.reduceAdd, q1000000, q0, q1, q2, q3, q4, q5, q6, q7, q8, q9, q10, q11, q12, q13, q14, q15, q16, q18, q19, q20, q21, q22, q23, q24, q25, q26, q27, q28, q29, q30, q31, q32, q38, q44, q45, q48, q57, q58, q59, q60, q63, q64, q97, q122, q126, q127, q128, q255, q256, q300, q580, q600, q1000, nI_add, q_lt_t, q_lt_f, q_eq_t, q_eq_f, q_clamp, q_in_t, q_in_f]
    | true =>
      rw [z] at hs
      rw [if_pos rfl]
      by_cases h1 : 1 < rE P (7 - x) x - x
      · rw [if_pos h1]
        by_cases h2 : 2 < rE P (7 - x) x - x
        · rw [if_pos h2, List.map_append, tks_app, ← wp_loop I hL hP m (x + 1) _ (by omega)]
          simp (disch := omega) only [e_X8_writePattern_34, e_X8_writePattern_46, e_X8_writePattern_65, e_X8_writePattern_79, e_X8_writePattern_107, s_rowS, q_bit, hs, s_rowSize, s_putK I hL, s_put45, q_sub, Option.bind_some, Option.toList_some, Option.toList_none, List.cons_append, List.nil_append, Option.map_some, cond_true, cond_false, Bool.not_true, Bool.not_false, Bool.true_and, Bool.and_true, Bool.false_and, Bool.and_false, Bool.true_or, Bool.or_true, Bool.false_or, Bool.or_false, Bool.not_not, decide_true, decide_false, Bool.decide_eq_true, Bool.decide_eq_false, qz_0, qz_1, qz_n, qz_n0, qz_n1, qz_t, qz_f, Nat.reduceAdd, q1000000, q0, q1, q2, q3, q4, q5, q6, q7, q8, q9, q10, q11, q12, q13, q14, q15, q16, q18, q19, q20, q21, q22, q23, q24, q25, q26, q27, q28, q29, q30, q31, q32, q38, q44, q45, q48, q57, q58, q59, q60, q63, q64, q97, q122, q126, q127, q128, q255, q256, q300, q580, q600, q1000, nI_add, q_lt_t, q_lt_f, q_eq_t, q_eq_f, q_clamp, q_in_t, q_in_f, List.map_cons, List.map_nil, tks_1, tks_0, kwd_k, kwd_19]
        · rw [if_neg h2, List.map_append, tks_app, ← wp_loop I hL hP m (x + 1) _ (by omega)]
          simp (disch := omega) only [e_X8_writePattern_34, e_X8_writePattern_46, e_X8_writePattern_65, e_X8_writePattern_79, e_X8_writePattern_107, s_rowS, q_bit, hs, s_rowSize, s_putK I hL, q_sub, Option.bind_some, Option.toList_some, Option.toList_none, List.cons_append, List.nil_append, Option.map_some, cond_true, cond_false, Bool.not_true, Bool.not_false, Bool.true_and, Bool.and_true, Bool.false_and, Bool.and_false, Bool.true_or, Bool.or_true, Bool.false_or, Bool.or_false, Bool.not_not, decide_true, decide_false, Bool.decide_eq_true, Bool.decide_eq_false, qz_0, qz_1, qz_n, qz_n0, qz_n1, qz_t, qz_f, Nat.reduceAdd, q1000000, q0, q1, q2, q3, q4, q5, q6, q7, q8, q9, q10, q11, q12, q13, q14, q15, q16, q18, q19, q20, q21, q22, q23, q24, q25, q26, q27, q28, q29, q30, q31, q32, q38, q44, q45, q48, q57, q58, q59, q60, q63, q64, q97, q122, q126, q127, q128, q255, q256, q300, q580, q600, q1000, nI_add, q_lt_t, q_lt_f, q_eq_t, q_eq_f, q_clamp, q_in_t, q_in_f, List.map_cons, List.map_nil, tks_1, tks_0, kwd_k]
      · rw [if_neg h1, if_neg (by omega), List.map_append, tks_app, ← wp_loop I hL hP m (x + 1) _ (by omega)]
        simp (disch := omega) only [e_X8_writePattern_34, e_X8_writePattern_46, e_X8_writePattern_65, e_X8_writePattern_79, e_X8_writePattern_107, s_rowS, q_bit, hs, s_rowSize, s_putK I hL, q_sub, Option.bind_some, Option.toList_some, Option.toList_none, List.cons_append, List.nil_append, Option.map_some, cond_true, cond_false, Bool.not_true, Bool.not_false, Bool.true_and, Bool.and_true, Bool.false_and, Bool.and_false, Bool.true_or, Bool.or_true, Bool.false_or, Bool.or_false, Bool.not_not, decide_true, decide_false, Bool.decide_eq_true, Bool.decide_eq_false, qz_0, qz_1, qz_n, qz_n0, qz_n1, qz_t, qz_f, Nat.reduceAdd, q1000000, q0, q1, q2, q3, q4, q5, q6, q7, q8, q9, q10, q11, q12, q13, q14, q15, q16, q18, q19, q20, q21, q22, q23, q24, q25, q26, q27, q28, q29, q30, q31, q32, q38, q44, q45, q48, q57, q58, q59, q60, q63, q64, q97, q122, q126, q127, q128, q255, q256, q300, q580, q600, q1000, nI_add, q_lt_t, q_lt_f, q_eq_t, q_eq_f, q_clamp, q_in_t, q_in_f, List.map_cons, List.map_nil, tks_1, tks_0, kwd_k]
theorem s_writePattern (I : zI) {L : zL} (hL : LX L) (ts : List Nat) {P : Nat} (hP : P < 128) : zcall zZ nX8_writePattern [.ref 36, .ref 26, .int (nI P)] (hp (wr I ts) L) = some (none, hp (wr I (tks ts (ptk P))) L) := by
  unfold ptk
  by_cases h : P = 127
  · subst h
    rw [if_pos rfl]
    simp (disch := omega) only [c_X8_writePattern, e_X8_writePattern_0, e_X8_writePattern_21, s_putK I hL, Option.bind_some, Option.toList_some, Option.toList_none, List.cons_append, List.nil_append, Option.map_some, cond_true, cond_false, Bool.not_true, Bool.not_false, Bool.true_and, Bool.and_true, Bool.false_and, Bool.and_false, Bool.true_or, Bool.or_true, Bool.false_or, Bool.or_false, Bool.not_not, decide_true, decide_false, Bool.decide_eq_true, Bool.decide_eq_false, qz_0, qz_1, qz_n, qz_n0, qz_n1, qz_t, qz_f, Nat.reduceAdd, q1000000, q0, q1, q2, q3, q4, q5, q6, q7, q8, q9, q10, q11, q12, q13, q14, q15, q16, q18, q19, q20, q21, q22, q23, q24, q25, q26, q27, q28, q29, q30, q31, q32, q38, q44, q45, q48, q57, q58, q59, q60, q63, q64, q97, q122, q126, q127, q128, q255, q256, q300, q580, q600, q1000, nI_add, q_lt_t, q_lt_f, q_eq_t, q_eq_f, q_clamp, q_in_t, q_in_f, tks_1, tks_0]
  · rw [if_neg h]
    have := wp_loop I hL hP 7 0 ts (by omega)
    simp (disch := omega) only [c_X8_writePattern, e_X8_writePattern_0, this, Option.bind_some, Option.toList_some, Option.toList_none, List.cons_append, List.nil_append, Option.map_some, cond_true, cond_false, Bool.not_true, Bool.not_false, Bool.true_and, Bool.and_true, Bool.false_and, Bool.and_false, Bool.true_or, Bool.or_true, Bool.false_or, Bool.or_false, Bool.not_not, decide_true, decide_false, Bool.decide_eq_true, Bool.decide_eq_false, qz_0, qz_1, qz_n, qz_n0, qz_n1, qz_t, qz_f, Nat.reduceAdd, q1000000, q0, q1, q2, q3, q4, q5, q6, q7, q8, q9, q10, q11, q12, q13, q14, q15, q16, q18, q19, q20, q21, q22, q23, q24, q25, q26, q27, q28, q29, q30, q31, q32, q38, q44, q45, q48, q57, q58, q59, q60, q63, q64, q97, q122, q126, q127, q128, q255, q256, q300, q580, q600, q1000, nI_add, q_lt_t, q_lt_f, q_eq_t, q_eq_f, q_clamp, q_in_t, q_in_f]
