/-! constructors: tables of the finder, words of the lexicon -/
def lxB (i : Nat) : Bool := decide ((zbyt.getD 0 []).getD i 0 = 32)
def lxW : Nat → Nat
  | 0 => 0
  | i + 1 => lxW i + (lxB i).toNat
def lxL (L : zL) : Nat → zL
  | 0 => L
  | i + 1 => cond (lxB i) (lxL L i) (zup (lxL L i) 2 (lxW i) ((lxL L i 2 (lxW i) <<< ((8 : Int32).toInt64 &&& 63)) ||| ((zbyt.getD 0 []).getD i 0).toInt64))
theorem lxW_le : ∀ i, i < 81 → lxW i ≤ 18 := by decide +kernel
theorem lxL_o {L : zL} : ∀ i a b, a ≠ 2 → lxL L i a b = L a b
  | 0, a, b, h => rfl
  | i + 1, a, b, h => by
    unfold lxL
    cases lxB i with
    | true => exact lxL_o i a b h
    | false =>
      rw [cond_false, zu_cell h]
      exact lxL_o i a b h
theorem lxL_2 {L M : zL} (h : ∀ b, L 2 b = M 2 b) : ∀ i b, lxL L i 2 b = lxL M i 2 b
  | 0, b => h b
  | i + 1, b => by
    unfold lxL
    cases lxB i with
    | true => exact lxL_2 h i b
    | false =>
      rw [cond_false, cond_false, lxL_2 h i (lxW i)]
      by_cases z : b = lxW i
      · rw [z, zu_same, zu_same]
      · rw [zu_at z, zu_at z]
        exact lxL_2 h i b
theorem lxL_k : ∀ k, k < 19 → lxL (fun _ _ => 0) 80 2 k = lN (wcode (kw k)) := by decide +kernel
theorem lx_loop (I : zI) (L : zL) : ∀ m i, i + m = 80 → zrun zZ kX3_init (16, [some (.ref 1), some (.int (nI (lxW i))), some (.int (nI i)), none], [], (zSH.take 3, I, lxL L i, bR4), 1, 19) = some (none, (zSH.take 3, I, lxL L 80, bR4), 1, 19)
  | 0, i, h => by
    obtain rfl : i = 80 := h
    rw [b_X3_16]
    simp (disch := omega) only [Option.bind_some, Option.toList_some, Option.toList_none, List.cons_append, List.nil_append, Option.map_some, cond_true, cond_false, Bool.not_true, Bool.not_false, Bool.true_and, Bool.and_true, Bool.false_and, Bool.and_false, Bool.true_or, Bool.or_true, Bool.false_or, Bool.or_false, Bool.not_not, decide_true, decide_false, Bool.decide_eq_true, Bool.decide_eq_false, qz_0, qz_1, qz_n, qz_n0, qz_n1, qz_t, qz_f, Nat.reduceAdd, q1000000, q0, q1, q2, q3, q4, q5, q6, q7, q8, q9, q10, q11, q12, q13, q14, q15, q16, q18, q19, q20, q21, q22, q23, q24, q25, q26, q27, q28, q29, q30, q31, q32, q38, q44, q45, q48, q57, q58, q59, q60, q63, q64, q97, q122, q126, q127, q128, q255, q256, q300, q580, q600, q1000, nI_add, q_lt_t, q_lt_f, q_eq_t, q_eq_f, q_clamp, q_in_t, q_in_f]
  | m + 1, i, h => by
    have hw := lxW_le i (by omega)
    have ih := lx_loop I L m (i + 1) (by omega)
    rw [b_X3_16]
    obtain ⟨v, hv⟩ : ∃ v, v = (zbyt.getD 0 []).getD i 0 := ⟨_, rfl⟩
    have hc : zch 0 (nI i) = v := by
      unfold zch
      rw [q_clamp (by omega), hv]
    cases z : lxB i with
    | true =>
      have hz : (v = nI 32) = True := by
        rw [hv]
        exact eq_true (of_decide_eq_true z)
      have e1 : lxW (i + 1) = lxW i + 1 := by
        show lxW i + (lxB i).toNat = _
        rw [z]
        rfl
      have e2 : lxL L (i + 1) = lxL L i := by
        show cond (lxB i) _ _ = _
        rw [z]
        rfl
      rw [e1, e2] at ih
      clear hv
      simp (disch := omega) only [hc, q1000000, q0, q1, q2, q3, q4, q5, q6, q7, q8, q9, q10, q11, q12, q13, q14, q15, q16, q18, q19, q20, q21, q22, q23, q24, q25, q26, q27, q28, q29, q30, q31, q32, q38, q44, q45, q48, q57, q58, q59, q60, q63, q64, q97, q122, q126, q127, q128, q255, q256, q300, q580, q600, q1000, hz, Option.bind_some, Option.toList_some, Option.toList_none, List.cons_append, List.nil_append, Option.map_some, cond_true, cond_false, Bool.not_true, Bool.not_false, Bool.true_and, Bool.and_true, Bool.false_and, Bool.and_false, Bool.true_or, Bool.or_true, Bool.false_or, Bool.or_false, Bool.not_not, decide_true, decide_false, Bool.decide_eq_true, Bool.decide_eq_false, qz_0, qz_1, qz_n, qz_n0, qz_n1, qz_t, qz_f, Nat.reduceAdd, q1000000, q0, q1, q2, q3, q4, q5, q6, q7, q8, q9, q10, q11, q12, q13, q14, q15, q16, q18, q19, q20, q21, q22, q23, q24, q25, q26, q27, q28, q29, q30, q31, q32, q38, q44, q45, q48, q57, q58, q59, q60, q63, q64, q97, q122, q126, q127, q128, q255, q256, q300, q580, q600, q1000, nI_add, q_lt_t, q_lt_f, q_eq_t, q_eq_f, q_clamp, q_in_t, q_in_f]
      exact ih
    | false =>
      have hz : (v = nI 32) = False := by
        rw [hv]
        exact eq_false (of_decide_eq_false z)
      have e1 : lxW (i + 1) = lxW i := by
        show lxW i + (lxB i).toNat = _
        rw [z]
        rfl
      have e2 : lxL L (i + 1) = zup (lxL L i) 2 (lxW i) ((lxL L i 2 (lxW i) <<< ((nI 8).toInt64 &&& 63)) ||| v.toInt64) := by
        show cond (lxB i) _ _ = _
        rw [z, hv]
        rfl
      rw [e1, e2] at ih
      clear hv
      simp (disch := omega) only [hc, q1000000, q0, q1, q2, q3, q4, q5, q6, q7, q8, q9, q10, q11, q12, q13, q14, q15, q16, q18, q19, q20, q21, q22, q23, q24, q25, q26, q27, q28, q29, q30, q31, q32, q38, q44, q45, q48, q57, q58, q59, q60, q63, q64, q97, q122, q126, q127, q128, q255, q256, q300, q580, q600, q1000, hz, Option.bind_some, Option.toList_some, Option.toList_none, List.cons_append, List.nil_append, Option.map_some, cond_true, cond_false, Bool.not_true, Bool.not_false, Bool.true_and, Bool.and_true, Bool.false_and, Bool.and_false, Bool.true_or, Bool.or_true, Bool.false_or, Bool.or_false, Bool.not_not, decide_true, decide_false, Bool.decide_eq_true, Bool.decide_eq_false, qz_0, qz_1, qz_n, qz_n0, qz_n1, qz_t, qz_f, Nat.reduceAdd, q1000000, q0, q1, q2, q3, q4, q5, q6, q7, q8, q9, q10, q11, q12, q13, q14, q15, q16, q18, q19, q20, q21, q22, q23, q24, q25, q26, q27, q28, q29, q30, q31, q32, q38, q44, q45, q48, q57, q58, q59, q60, q63, q64, q97, q122, q126, q127, q128, q255, q256, q300, q580, q600, q1000, nI_add, q_lt_t, q_lt_f, q_eq_t, q_eq_f, q_clamp, q_in_t, q_in_f]
      exact ih
theorem lx_run (I : zI) (L : zL) : zcall zZ nX3_init [.ref 1] (zSH.take 2, I, L, bR2) = some (none, (zSH.take 3, zfil I 2 0, lxL (zfil L 2 0) 80, bR4)) := by
  have t2 : zrun zZ kX3_init (16, [some (.ref 1), some (.int 0), some (.int 0), none], [], (zSH.take 3, zfil I 2 0, zfil L 2 0, bR4), 1, 19) = some (none, (zSH.take 3, zfil I 2 0, lxL (zfil L 2 0) 80, bR4), 1, 19) := lx_loop (zfil I 2 0) (zfil L 2 0) 80 0 rfl
  rw [b_X3_0, t2]
  rfl
/-! how many words a pattern takes -/
def tsum (P : Nat) : Nat → Nat → Nat
  | 0, _ => 0
  | m + 1, x => (if stP P x = true then min 3 (rE P (7 - x) x - x) else 0) + tsum P m (x + 1)
theorem tsum_pT : ∀ P, P < 128 → P ≠ 0 → P ≠ 127 → tsum P 7 0 = pT P := by decide +kernel
theorem to_loop (h : zH) {P : Nat} (hP : P < 128) : ∀ m x c, x + m = 7 → c ≤ 3 * x → zrun zZ kX2_tokensOf (12, [some (.int (nI P)), some (.int (nI c)), some (.int (nI x))], [], h, 0, 0) = some (some (.int (nI (c + tsum P m x))), h, 0, 0)
  | 0, x, c, hx, hc => by
    rw [e_X2_tokensOf_12]
    simp (disch := omega) only [Option.bind_some, Option.toList_some, Option.toList_none, List.cons_append, List.nil_append, Option.map_some, cond_true, cond_false, Bool.not_true, Bool.not_false, Bool.true_and, Bool.and_true, Bool.false_and, Bool.and_false, Bool.true_or, Bool.or_true, Bool.false_or, Bool.or_false, Bool.not_not, decide_true, decide_false, Bool.decide_eq_true, Bool.decide_eq_false, qz_0, qz_1, qz_n, qz_n0, qz_n1, qz_t, qz_f, Nat.reduceAdd, q1000000, q0, q1, q2, q3, q4, q5, q6, q7, q8, q9, q10, q11, q12, q13, q14, q15, q16, q18, q19, q20, q21, q22, q23, q24, q25, q26, q27, q28, q29, q30, q31, q32, q38, q44, q45, q48, q57, q58, q59, q60, q63, q64, q97, q122, q126, q127, q128, q255, q256, q300, q580, q600, q1000, nI_add, q_lt_t, q_lt_f, q_eq_t, q_eq_f, q_clamp, q_in_t, q_in_f]
    rfl
  | m + 1, x, c, hx, hc => by
    have hl := rE_le P (7 - x) x
    have hs := b_rowS (x := x) hP (by omega)
    rw [e_X2_tokensOf_12]
    unfold tsum
    cases z : stP P x with
    | false =>
      rw [z] at hs
      rw [if_neg (by decide), Nat.zero_add, ← to_loop h hP m (x + 1) c (by omega) (by omega)]
      simp (disch := omega) only [e_X2_tokensOf_22, e_X2_tokensOf_41, s_rowS, q_bit, hs, Option.bind_some, Option.toList_some, Option.toList_none, List.cons_append, List.nil_append, Option.map_some, cond_true, cond_false, Bool.not_true, Bool.not_false, Bool.true_and, Bool.and_true, Bool.false_and, Bool.and_false, Bool.true_or, Bool.or_true, Bool.false_or, Bool.or_false, Bool.not_not, decide_true, decide_false, Bool.decide_eq_true, Bool.decide_eq_false, qz_0, qz_1, qz_n, qz_n0, qz_n1, qz_t, qz_f, Nat.reduceAdd, q1000000, q0, q1, q2, q3, q4, q5, q6, q7, q8, q9, q10, q11, q12, q13, q14, q15, q16, q18, q19, q20, q21, q22, q23, q24, q25, q26, q27, q28, q29, q30, q31, q32, q38, q44, q45, q48, q57, q58, q59, q60, q63, q64, q97, q122, q126, q127, q128, q255, q256, q300, q580, q600, q1000, nI_add, q_lt_t, q_lt_f, q_eq_t, q_eq_f, q_clamp, q_in_t, q_in_f]
    | true =>
      rw [z] at hs
      rw [if_pos rfl, ← Nat.add_assoc, ← to_loop h hP m (x + 1) (c + min 3 (rE P (7 - x) x - x)) (by omega) (by omega)]
      have hmin := j_minN h (a := 3) (b := rE P (7 - x) x - x) (by omega) (by omega)
      simp (disch := omega) only [e_X2_tokensOf_22, e_X2_tokensOf_36, e_X2_tokensOf_39, e_X2_tokensOf_41, s_rowS, q_bit, hs, s_rowSize, hmin, Option.bind_some, Option.toList_some, Option.toList_none, List.cons_append, List.nil_append, Option.map_some, cond_true, cond_false, Bool.not_true, Bool.not_false, Bool.true_and, Bool.and_true, Bool.false_and, Bool.and_false, Bool.true_or, Bool.or_true, Bool.false_or, Bool.or_false, Bool.not_not, decide_true, decide_false, Bool.decide_eq_true, Bool.decide_eq_false, qz_0, qz_1, qz_n, qz_n0, qz_n1, qz_t, qz_f, Nat.reduceAdd, q1000000, q0, q1, q2, q3, q4, q5, q6, q7, q8, q9, q10, q11, q12, q13, q14, q15, q16, q18, q19, q20, q21, q22, q23, q24, q25, q26, q27, q28, q29, q30, q31, q32, q38, q44, q45, q48, q57, q58, q59, q60, q63, q64, q97, q122, q126, q127, q128, q255, q256, q300, q580, q600, q1000, nI_add, q_lt_t, q_lt_f, q_eq_t, q_eq_f, q_clamp, q_in_t, q_in_f]
theorem tk_of (h : zH) {P : Nat} (h1 : 1 ≤ P) (hP : P < 128) : zcall zZ nX2_tokensOf [.int (nI P)] h = some (some (.int (nI (pT P))), h) := by
  by_cases z : P = 127
  · subst z
    simp (disch := omega) only [c_X2_tokensOf, e_X2_tokensOf_0, Option.bind_some, Option.toList_some, Option.toList_none, List.cons_append, List.nil_append, Option.map_some, cond_true, cond_false, Bool.not_true, Bool.not_false, Bool.true_and, Bool.and_true, Bool.false_and, Bool.and_false, Bool.true_or, Bool.or_true, Bool.false_or, Bool.or_false, Bool.not_not, decide_true, decide_false, Bool.decide_eq_true, Bool.decide_eq_false, qz_0, qz_1, qz_n, qz_n0, qz_n1, qz_t, qz_f, Nat.reduceAdd, q1000000, q0, q1, q2, q3, q4, q5, q6, q7, q8, q9, q10, q11, q12, q13, q14, q15, q16, q18, q19, q20, q21, q22, q23, q24, q25, q26, q27, q28, q29, q30, q31, q32, q38, q44, q45, q48, q57, q58, q59, q60, q63, q64, q97, q122, q126, q127, q128, q255, q256, q300, q580, q600, q1000, nI_add, q_lt_t, q_lt_f, q_eq_t, q_eq_f, q_clamp, q_in_t, q_in_f]
    rfl
  · have := to_loop h hP 7 0 0 rfl (by omega)
    rw [Nat.zero_add, tsum_pT P hP (by omega) z] at this
    simp (disch := omega) only [c_X2_tokensOf, e_X2_tokensOf_0, Option.bind_some, Option.toList_some, Option.toList_none, List.cons_append, List.nil_append, Option.map_some, cond_true, cond_false, Bool.not_true, Bool.not_false, Bool.true_and, Bool.and_true, Bool.false_and, Bool.and_false, Bool.true_or, Bool.or_true, Bool.false_or, Bool.or_false, Bool.not_not, decide_true, decide_false, Bool.decide_eq_true, Bool.decide_eq_false, qz_0, qz_1, qz_n, qz_n0, qz_n1, qz_t, qz_f, Nat.reduceAdd, q1000000, q0, q1, q2, q3, q4, q5, q6, q7, q8, q9, q10, q11, q12, q13, q14, q15, q16, q18, q19, q20, q21, q22, q23, q24, q25, q26, q27, q28, q29, q30, q31, q32, q38, q44, q45, q48, q57, q58, q59, q60, q63, q64, q97, q122, q126, q127, q128, q255, q256, q300, q580, q600, q1000, nI_add, q_lt_t, q_lt_f, q_eq_t, q_eq_f, q_clamp, q_in_t, q_in_f, this]
/-! the finder's tables -/
theorem f149 (L : zL) : ∀ m P (I : zI), P + m = 128 → 1 ≤ P → (∀ Q, 1 ≤ Q → Q < P → I 31 Q = nI (pT Q)) → ∃ J, zrun zZ kX2_init (149, [some (.ref 25), none, none, some (.int (nI 0)), some (.int (nI P)), none], [], (zSH.take 52, I, L, bR104), 26, 1844) = zrun zZ kX2_init (178, [some (.ref 25), none, none, some (.int (nI 0)), some (.int (nI 1)), none], [], (zSH.take 52, J, L, bR104), 26, 1844) ∧ (∀ Q, 1 ≤ Q → Q < 128 → J 31 Q = nI (pT Q)) ∧ (∀ a b, a ≠ 31 → J a b = I a b)
  | 0, P, I, h, h1, hq => by
    obtain rfl : P = 128 := h
    refine ⟨I, ?_, hq, fun _ _ _ => rfl⟩
    rw [b_X2_init_149]
    simp (disch := omega) only [Option.bind_some, Option.toList_some, Option.toList_none, List.cons_append, List.nil_append, Option.map_some, cond_true, cond_false, Bool.not_true, Bool.not_false, Bool.true_and, Bool.and_true, Bool.false_and, Bool.and_false, Bool.true_or, Bool.or_true, Bool.false_or, Bool.or_false, Bool.not_not, decide_true, decide_false, Bool.decide_eq_true, Bool.decide_eq_false, qz_0, qz_1, qz_n, qz_n0, qz_n1, qz_t, qz_f, Nat.reduceAdd, q1000000, q0, q1, q2, q3, q4, q5, q6, q7, q8, q9, q10, q11, q12, q13, q14, q15, q16, q18, q19, q20, q21, q22, q23, q24, q25, q26, q27, q28, q29, q30, q31, q32, q38, q44, q45, q48, q57, q58, q59, q60, q63, q64, q97, q122, q126, q127, q128, q255, q256, q300, q580, q600, q1000, nI_add, q_lt_t, q_lt_f, q_eq_t, q_eq_f, q_clamp, q_in_t, q_in_f]
  | m + 1, P, I, h, h1, hq => by
    obtain ⟨J, g1, g2, g3⟩ := f149 L m (P + 1) (zup I 31 P (nI (pT P))) (by omega) (by omega) (fun Q q1' q2' => by
      by_cases z : Q = P
      · rw [z, zu_same]
      · rw [zu_at z]
        exact hq Q q1' (by omega))
    refine ⟨J, ?_, g2, fun a b p => by rw [g3 a b p, zu_cell p]⟩
    rw [← g1, b_X2_init_149]
    have ht := fun h => tk_of h h1 (show P < 128 by omega)
    simp (disch := omega) only [ht, b_X2_init_168, Option.bind_some, Option.toList_some, Option.toList_none, List.cons_append, List.nil_append, Option.map_some, cond_true, cond_false, Bool.not_true, Bool.not_false, Bool.true_and, Bool.and_true, Bool.false_and, Bool.and_false, Bool.true_or, Bool.or_true, Bool.false_or, Bool.or_false, Bool.not_not, decide_true, decide_false, Bool.decide_eq_true, Bool.decide_eq_false, qz_0, qz_1, qz_n, qz_n0, qz_n1, qz_t, qz_f, Nat.reduceAdd, q1000000, q0, q1, q2, q3, q4, q5, q6, q7, q8, q9, q10, q11, q12, q13, q14, q15, q16, q18, q19, q20, q21, q22, q23, q24, q25, q26, q27, q28, q29, q30, q31, q32, q38, q44, q45, q48, q57, q58, q59, q60, q63, q64, q97, q122, q126, q127, q128, q255, q256, q300, q580, q600, q1000, nI_add, q_lt_t, q_lt_f, q_eq_t, q_eq_f, q_clamp, q_in_t, q_in_f]
def plc (t P : Nat) : Nat := chp (t - 1) + cnt (fun Q => decide (pT Q = t)) P
theorem plc_end : ∀ t, t < 7 → 1 ≤ t → plc t 128 = chp t := by decide +kernel
theorem plc_1 : ∀ t, t < 7 → 1 ≤ t → plc t 1 = chp (t - 1) := by decide +kernel
theorem plc_od : ∀ i, i < 127 → plc (pT (odP i)) (odP i) = i := by decide +kernel
theorem plc_lt : ∀ t, t < 7 → 1 ≤ t → ∀ P, P < 128 → pT P = t → plc t P < 127 := by decide +kernel
theorem cnt_le2 (f : Nat → Bool) : ∀ n m, n ≤ m → cnt f n ≤ cnt f m
  | n, 0, h => by
    obtain rfl : n = 0 := by omega
    exact Nat.le_refl _
  | n, m + 1, h => by
    by_cases z : n = m + 1
    · rw [z]
      exact Nat.le_refl _
    · have := cnt_le2 f n m (by omega)
      show cnt f n ≤ cnt f m + (f m).toNat
      omega
theorem f188 (L : zL) {t : Nat} (h1 : 1 ≤ t) (h6 : t ≤ 6) : ∀ m P (I : zI), P + m = 128 → 1 ≤ P → (∀ Q, 1 ≤ Q → Q < 128 → I 31 Q = nI (pT Q)) → ∃ J, zrun zZ kX2_init (188, [some (.ref 25), none, none, some (.int (nI (plc t P))), some (.int (nI t)), some (.int (nI P))], [], (zSH.take 52, I, L, bR104), 26, 1844) = zrun zZ kX2_init (188, [some (.ref 25), none, none, some (.int (nI (plc t 128))), some (.int (nI t)), some (.int (nI 128))], [], (zSH.take 52, J, L, bR104), 26, 1844) ∧ (∀ Q, P ≤ Q → Q < 128 → pT Q = t → J 32 (plc t Q) = nI Q) ∧ (∀ a b, (a ≠ 32 ∨ b < plc t P) → J a b = I a b)
  | 0, P, I, h, hP, hq => by
    obtain rfl : P = 128 := h
    exact ⟨I, rfl, fun Q q1' q2' => by omega, fun _ _ _ => rfl⟩
  | m + 1, P, I, h, hP, hq => by
    have hb := pT_b P (by omega)
    have hle : plc t P ≤ plc t 128 := Nat.add_le_add_left (cnt_le2 _ P 128 (by omega)) _
    have he := plc_end t (by omega) h1
    have hc := chp_b t (by omega)
    have eP := hq P hP (by omega)
    by_cases z : pT P = t
    · have e1 : plc t (P + 1) = plc t P + 1 := by
        show chp (t - 1) + (cnt (fun Q => decide (pT Q = t)) P + (decide (pT P = t)).toNat) = _
        rw [decide_eq_true z]
        rfl
      have hlt := plc_lt t (by omega) h1 P (by omega) z
      obtain ⟨J, g1, g2, g3⟩ := f188 L h1 h6 m (P + 1) (zup I 32 (plc t P) (nI P)) (by omega) (by omega) (fun Q q1' q2' => (zu_cell (by omega)).trans (hq Q q1' q2'))
      refine ⟨J, ?_, fun Q q1' q2' q3' => ?_, fun a b p => ?_⟩
      · rw [← g1, e1, b_X2_init_188]
        simp (disch := omega) only [eP, z, Option.bind_some, Option.toList_some, Option.toList_none, List.cons_append, List.nil_append, Option.map_some, cond_true, cond_false, Bool.not_true, Bool.not_false, Bool.true_and, Bool.and_true, Bool.false_and, Bool.and_false, Bool.true_or, Bool.or_true, Bool.false_or, Bool.or_false, Bool.not_not, decide_true, decide_false, Bool.decide_eq_true, Bool.decide_eq_false, qz_0, qz_1, qz_n, qz_n0, qz_n1, qz_t, qz_f, Nat.reduceAdd, q1000000, q0, q1, q2, q3, q4, q5, q6, q7, q8, q9, q10, q11, q12, q13, q14, q15, q16, q18, q19, q20, q21, q22, q23, q24, q25, q26, q27, q28, q29, q30, q31, q32, q38, q44, q45, q48, q57, q58, q59, q60, q63, q64, q97, q122, q126, q127, q128, q255, q256, q300, q580, q600, q1000, nI_add, q_lt_t, q_lt_f, q_eq_t, q_eq_f, q_clamp, q_in_t, q_in_f]
      · by_cases y : Q = P
        · rw [y, g3 _ _ (by omega), zu_same]
        · exact g2 Q (by omega) q2' q3'
      · rw [g3 a b (by omega), upc (by omega)]
    · have e1 : plc t (P + 1) = plc t P := by
        show chp (t - 1) + (cnt (fun Q => decide (pT Q = t)) P + (decide (pT P = t)).toNat) = _
        rw [decide_eq_false z]
        rfl
      obtain ⟨J, g1, g2, g3⟩ := f188 L h1 h6 m (P + 1) I (by omega) (by omega) hq
      refine ⟨J, ?_, fun Q q1' q2' q3' => ?_, fun a b p => ?_⟩
      · rw [← g1, e1, b_X2_init_188]
        simp (disch := omega) only [eP, Option.bind_some, Option.toList_some, Option.toList_none, List.cons_append, List.nil_append, Option.map_some, cond_true, cond_false, Bool.not_true, Bool.not_false, Bool.true_and, Bool.and_true, Bool.false_and, Bool.and_false, Bool.true_or, Bool.or_true, Bool.false_or, Bool.or_false, Bool.not_not, decide_true, decide_false, Bool.decide_eq_true, Bool.decide_eq_false, qz_0, qz_1, qz_n, qz_n0, qz_n1, qz_t, qz_f, Nat.reduceAdd, q1000000, q0, q1, q2, q3, q4, q5, q6, q7, q8, q9, q10, q11, q12, q13, q14, q15, q16, q18, q19, q20, q21, q22, q23, q24, q25, q26, q27, q28, q29, q30, q31, q32, q38, q44, q45, q48, q57, q58, q59, q60, q63, q64, q97, q122, q126, q127, q128, q255, q256, q300, q580, q600, q1000, nI_add, q_lt_t, q_lt_f, q_eq_t, q_eq_f, q_clamp, q_in_t, q_in_f]
      · by_cases y : Q = P
        · exact absurd (y ▸ q3') z
        · exact g2 Q (by omega) q2' q3'
      · exact g3 a b (by omega)
theorem f178 (L : zL) : ∀ m t (I : zI), t + m = 7 → 1 ≤ t → (∀ Q, 1 ≤ Q → Q < 128 → I 31 Q = nI (pT Q)) → (∀ Q, 1 ≤ Q → Q < 128 → pT Q < t → I 32 (plc (pT Q) Q) = nI Q) → (∀ u, 1 ≤ u → u < t → I 33 u = nI (chp u)) → ∃ J, zrun zZ kX2_init (178, [some (.ref 25), none, none, some (.int (nI (chp (t - 1)))), some (.int (nI t)), none], [], (zSH.take 52, I, L, bR104), 26, 1844) = some (none, (zSH.take 52, J, L, bR104), 26, 1844) ∧ (∀ Q, 1 ≤ Q → Q < 128 → J 31 Q = nI (pT Q)) ∧ (∀ Q, 1 ≤ Q → Q < 128 → J 32 (plc (pT Q) Q) = nI Q) ∧ (∀ u, 1 ≤ u → u < 7 → J 33 u = nI (chp u)) ∧ (∀ a b, a ≠ 32 → a ≠ 33 → J a b = I a b)
  | 0, t, I, h, h1, h31, h32, h33 => by
    obtain rfl : t = 7 := h
    refine ⟨I, ?_, h31, fun Q q1' q2' => h32 Q q1' q2' (by have := (pT_b Q q2').1; omega), h33, fun _ _ _ _ => rfl⟩
    rw [b_X2_init_178]
    simp (disch := omega) only [Option.bind_some, Option.toList_some, Option.toList_none, List.cons_append, List.nil_append, Option.map_some, cond_true, cond_false, Bool.not_true, Bool.not_false, Bool.true_and, Bool.and_true, Bool.false_and, Bool.and_false, Bool.true_or, Bool.or_true, Bool.false_or, Bool.or_false, Bool.not_not, decide_true, decide_false, Bool.decide_eq_true, Bool.decide_eq_false, qz_0, qz_1, qz_n, qz_n0, qz_n1, qz_t, qz_f, Nat.reduceAdd, q1000000, q0, q1, q2, q3, q4, q5, q6, q7, q8, q9, q10, q11, q12, q13, q14, q15, q16, q18, q19, q20, q21, q22, q23, q24, q25, q26, q27, q28, q29, q30, q31, q32, q38, q44, q45, q48, q57, q58, q59, q60, q63, q64, q97, q122, q126, q127, q128, q255, q256, q300, q580, q600, q1000, nI_add, q_lt_t, q_lt_f, q_eq_t, q_eq_f, q_clamp, q_in_t, q_in_f]
  | m + 1, t, I, h, h1, h31, h32, h33 => by
    have hc := chp_b t (by omega)
    obtain ⟨J1, g1, g2, g3⟩ := f188 L h1 (show t ≤ 6 by omega) 127 1 I (by omega) (by omega) h31
    rw [plc_1 t (by omega) h1, plc_end t (by omega) h1] at g1
    have hlo : ∀ Q, 1 ≤ Q → Q < 128 → pT Q < t → plc (pT Q) Q < chp (t - 1) := fun Q q1' q2' q3' => by
      have : ∀ t, t < 7 → 1 ≤ t → ∀ Q, Q < 128 → 1 ≤ Q → pT Q < t → plc (pT Q) Q < chp (t - 1) := by decide +kernel
      exact this t (by omega) h1 Q q2' q1' q3'
    have e1 := plc_1 t (by omega) h1
    obtain ⟨J, k1, k2, k3, k4, k5⟩ := f178 L m (t + 1) (zup J1 33 t (nI (chp t))) (by omega) (by omega) (fun Q q1' q2' => by
      rw [zu_cell (by omega), g3 _ _ (by omega)]
      exact h31 Q q1' q2') (fun Q q1' q2' q3' => by
      rw [zu_cell (by omega)]
      by_cases z : pT Q = t
      · rw [z]
        exact g2 Q q1' q2' z
      · have := hlo Q q1' q2' (by omega)
        rw [g3 _ _ (by omega)]
        exact h32 Q q1' q2' (by omega)) (fun u q1' q2' => by
      by_cases z : u = t
      · rw [z, zu_same]
      · rw [zu_at z, g3 _ _ (by omega)]
        exact h33 u q1' (by omega))
    refine ⟨J, ?_, k2, k3, k4, fun a b p1 p2 => by rw [k5 a b p1 p2, zu_cell p2, g3 a b (by omega)]⟩
    rw [Nat.add_sub_cancel] at k1
    rw [← k1, b_X2_init_178]
    simp (disch := omega) only [Option.bind_some, Option.toList_some, Option.toList_none, List.cons_append, List.nil_append, Option.map_some, cond_true, cond_false, Bool.not_true, Bool.not_false, Bool.true_and, Bool.and_true, Bool.false_and, Bool.and_false, Bool.true_or, Bool.or_true, Bool.false_or, Bool.or_false, Bool.not_not, decide_true, decide_false, Bool.decide_eq_true, Bool.decide_eq_false, qz_0, qz_1, qz_n, qz_n0, qz_n1, qz_t, qz_f, Nat.reduceAdd, q1000000, q0, q1, q2, q3, q4, q5, q6, q7, q8, q9, q10, q11, q12, q13, q14, q15, q16, q18, q19, q20, q21, q22, q23, q24, q25, q26, q27, q28, q29, q30, q31, q32, q38, q44, q45, q48, q57, q58, q59, q60, q63, q64, q97, q122, q126, q127, q128, q255, q256, q300, q580, q600, q1000, nI_add, q_lt_t, q_lt_f, q_eq_t, q_eq_f, q_clamp, q_in_t, q_in_f, g1]
    rw [b_X2_init_188]
    simp (disch := omega) only [Option.bind_some, Option.toList_some, Option.toList_none, List.cons_append, List.nil_append, Option.map_some, cond_true, cond_false, Bool.not_true, Bool.not_false, Bool.true_and, Bool.and_true, Bool.false_and, Bool.and_false, Bool.true_or, Bool.or_true, Bool.false_or, Bool.or_false, Bool.not_not, decide_true, decide_false, Bool.decide_eq_true, Bool.decide_eq_false, qz_0, qz_1, qz_n, qz_n0, qz_n1, qz_t, qz_f, Nat.reduceAdd, q1000000, q0, q1, q2, q3, q4, q5, q6, q7, q8, q9, q10, q11, q12, q13, q14, q15, q16, q18, q19, q20, q21, q22, q23, q24, q25, q26, q27, q28, q29, q30, q31, q32, q38, q44, q45, q48, q57, q58, q59, q60, q63, q64, q97, q122, q126, q127, q128, q255, q256, q300, q580, q600, q1000, nI_add, q_lt_t, q_lt_f, q_eq_t, q_eq_f, q_clamp, q_in_t, q_in_f]
