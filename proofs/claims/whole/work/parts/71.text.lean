/-! the reference looks for one sign -/
def fdR (w : Int32) : List Nat → Int32
  | [] => -nI 1
  | c :: r => if nI r.length = w then nI c else fdR w r
def fdS (w : Int32) (ts : List Nat) : Int32 := fdR w ts.reverse
theorem fdS_s (w : Int32) (ts : List Nat) (c : Nat) : fdS w (ts ++ [c]) = if nI ts.length = w then nI c else fdS w ts := by
  unfold fdS
  rw [List.reverse_append]
  show (if nI ts.reverse.length = w then _ else _) = _
  rw [List.length_reverse]
  rfl
def ws (I : zI) (w : Int32) (ts : List Nat) : zI := fun o k => if o = 52 ∧ k = 40 then nI ts.length else if o = 52 ∧ k = 42 then fdS w ts else I o k
theorem ws_40 (I : zI) (w : Int32) (ts : List Nat) : ws I w ts 52 40 = nI ts.length := if_pos ⟨rfl, rfl⟩
theorem ws_42 (I : zI) (w : Int32) (ts : List Nat) : ws I w ts 52 42 = fdS w ts := by
  unfold ws
  rw [if_neg (by omega), if_pos ⟨rfl, rfl⟩]
theorem ws_o (I : zI) (w : Int32) (ts : List Nat) {o k : Nat} (h : o ≠ 52 ∨ (k ≠ 40 ∧ k ≠ 42)) : ws I w ts o k = I o k := by
  unfold ws
  rw [if_neg (by omega), if_neg (by omega)]
theorem ws_up (I : zI) (w : Int32) (ts us : List Nat) : zup (zup (ws I w ts) 52 42 (fdS w us)) 52 40 (nI us.length) = ws I w us := by
  funext o k
  by_cases z : o = 52
  · subst z
    rw [zu_if, zu_if]
    by_cases y : k = 40
    · rw [if_pos y, y, ws_40]
    · rw [if_neg y]
      by_cases x : k = 42
      · rw [if_pos x, x, ws_42]
      · rw [if_neg x, ws_o I w ts (by omega), ws_o I w us (by omega)]
  · rw [zu_cell z, zu_cell z, ws_o I w ts (by omega), ws_o I w us (by omega)]
theorem s_sign {I : zI} {w : Int32} (hI : I 52 41 = w) (L : zL) (ts : List Nat) (c : Nat) : zcall zZ nX10_sign [.ref 52, .int (nI c)] (hp (ws I w ts) L) = some (none, hp (ws I w (ts ++ [c])) L) := by
  have e41 : ws I w ts 52 41 = w := (ws_o I w ts (by omega)).trans hI
  have el : (ts ++ [c]).length = ts.length + 1 := by simp
  have eu := ws_up I w ts (ts ++ [c])
  rw [fdS_s, el] at eu
  by_cases h : nI ts.length = w
  · rw [if_pos h] at eu
    simp (disch := omega) only [c_X10_sign, e_X10_sign_0, e_X10_sign_20, ws_40, e41, h, Option.bind_some, Option.toList_some, Option.toList_none, List.cons_append, List.nil_append, Option.map_some, cond_true, cond_false, Bool.not_true, Bool.not_false, Bool.true_and, Bool.and_true, Bool.false_and, Bool.and_false, Bool.true_or, Bool.or_true, Bool.false_or, Bool.or_false, Bool.not_not, decide_true, decide_false, Bool.decide_eq_true, Bool.decide_eq_false, qz_0, qz_1, qz_n, qz_n0, qz_n1, qz_t, qz_f, Nat.reduceAdd]
    rw [← h, q1, nI_add]
    rw [← h] at eu
    exact congrArg (fun x => some (none, hp x L)) eu
  · rw [if_neg h] at eu
    have h' : (nI ts.length = w) = False := eq_false h
    simp (disch := omega) only [c_X10_sign, e_X10_sign_0, e_X10_sign_20, ws_40, ws_42, e41, h', Option.bind_some, Option.toList_some, Option.toList_none, List.cons_append, List.nil_append, Option.map_some, cond_true, cond_false, Bool.not_true, Bool.not_false, Bool.true_and, Bool.and_true, Bool.false_and, Bool.and_false, Bool.true_or, Bool.or_true, Bool.false_or, Bool.or_false, Bool.not_not, decide_true, decide_false, Bool.decide_eq_true, Bool.decide_eq_false, qz_0, qz_1, qz_n, qz_n0, qz_n1, qz_t, qz_f, Nat.reduceAdd, q1, nI_add, eu]
theorem s_blank {I : zI} {w : Int32} (hI : I 52 41 = w) (L : zL) (ts : List Nat) (hl : ts.length < 100000) : zcall zZ nX10_blank [.ref 52] (hp (ws I w ts) L) = some (none, hp (ws I w (bl ts)) L) := by
  have e40 := ws_40 I w ts
  unfold bl
  by_cases h : ts.length = 0
  · rw [if_pos h]
    rw [h] at e40
    simp (disch := omega) only [c_X10_blank, e_X10_blank_0, e_X10_blank_13, e40, Option.bind_some, Option.toList_some, Option.toList_none, List.cons_append, List.nil_append, Option.map_some, cond_true, cond_false, Bool.not_true, Bool.not_false, Bool.true_and, Bool.and_true, Bool.false_and, Bool.and_false, Bool.true_or, Bool.or_true, Bool.false_or, Bool.or_false, Bool.not_not, decide_true, decide_false, Bool.decide_eq_true, Bool.decide_eq_false, qz_0, qz_1, qz_n, qz_n0, qz_n1, qz_t, qz_f, Nat.reduceAdd, q1000000, q0, q1, q2, q3, q4, q5, q6, q7, q8, q9, q10, q11, q12, q13, q14, q15, q16, q18, q19, q20, q21, q22, q23, q24, q25, q26, q27, q28, q29, q30, q31, q32, q38, q44, q45, q48, q57, q58, q59, q60, q63, q64, q97, q122, q126, q127, q128, q255, q256, q300, q580, q600, q1000, nI_add, q_lt_t, q_lt_f, q_eq_t, q_eq_f, q_clamp, q_in_t, q_in_f]
  · rw [if_neg h]
    simp (disch := omega) only [c_X10_blank, e_X10_blank_0, e_X10_blank_13, e40, s_sign hI, Option.bind_some, Option.toList_some, Option.toList_none, List.cons_append, List.nil_append, Option.map_some, cond_true, cond_false, Bool.not_true, Bool.not_false, Bool.true_and, Bool.and_true, Bool.false_and, Bool.and_false, Bool.true_or, Bool.or_true, Bool.false_or, Bool.or_false, Bool.not_not, decide_true, decide_false, Bool.decide_eq_true, Bool.decide_eq_false, qz_0, qz_1, qz_n, qz_n0, qz_n1, qz_t, qz_f, Nat.reduceAdd, q1000000, q0, q1, q2, q3, q4, q5, q6, q7, q8, q9, q10, q11, q12, q13, q14, q15, q16, q18, q19, q20, q21, q22, q23, q24, q25, q26, q27, q28, q29, q30, q31, q32, q38, q44, q45, q48, q57, q58, q59, q60, q63, q64, q97, q122, q126, q127, q128, q255, q256, q300, q580, q600, q1000, nI_add, q_lt_t, q_lt_f, q_eq_t, q_eq_f, q_clamp, q_in_t, q_in_f]
/-! words of the lexicon -/
def lxT : List Nat := (zbyt.getD 1 []).map (fun x => x.toNatClampNeg)
def lxc (p : Nat) : Nat := lxT.getD p 0
theorem zch1 : ∀ p, p < 82 → zch 1 (nI p) = nI (lxc p) := by decide +kernel
theorem lxc_lt : ∀ p, p < 82 → lxc p < 128 := by decide +kernel
def sayI : Nat → Nat → Nat → List Nat
  | 0, _, _ => []
  | m + 1, p, r => if lxc (p + 1) = 32 then (if r = 0 then [] else sayI m (p + 1) (r - 1)) else if r = 0 then lxc (p + 1) :: sayI m (p + 1) 0 else sayI m (p + 1) r
def okI : Nat → Nat → Nat → Bool
  | 0, _, _ => false
  | m + 1, p, r => if lxc (p + 1) = 32 then (if r = 0 then true else okI m (p + 1) (r - 1)) else okI m (p + 1) r
def kw (k : Nat) : List Nat := sayI 81 0 k
theorem says_loop {I : zI} {w : Int32} (hI : I 52 41 = w) (L : zL) : ∀ m p r ts, p + m = 81 → r < 100 → okI m p r = true → zrun zZ kX10_says (8, [some (.ref 52), none, some (.int (nI p)), some (.int (nI r))], [], hp (ws I w ts) L, 0, 0) = some (none, hp (ws I w (ts ++ sayI m p r)) L, 0, 0)
  | 0, p, r, ts, _, _, h => by cases h
  | m + 1, p, r, ts, hm, hr, h => by
    unfold okI at h
    have ez := zch1 (p + 1) (by omega)
    have lc := lxc_lt (p + 1) (by omega)
    rw [e_X10_says_8]
    by_cases hc : lxc (p + 1) = 32
    · rw [if_pos hc] at h
      rw [hc] at ez
      by_cases h0 : r = 0
      · subst h0
        have e0 : sayI (m + 1) p 0 = [] := by
          unfold sayI
          rw [if_pos hc, if_pos rfl]
        have en : (nI 0 - nI 1 < nI 0) = True := eq_true (pk_sneg (a := 0) (b := 1) (by decide) (by decide))
        rw [e0, List.append_nil]
        simp (disch := omega) only [e_X10_says_40, e_X10_says_57, ez, Option.bind_some, Option.toList_some, Option.toList_none, List.cons_append, List.nil_append, Option.map_some, cond_true, cond_false, Bool.not_true, Bool.not_false, Bool.true_and, Bool.and_true, Bool.false_and, Bool.and_false, Bool.true_or, Bool.or_true, Bool.false_or, Bool.or_false, Bool.not_not, decide_true, decide_false, Bool.decide_eq_true, Bool.decide_eq_false, qz_0, qz_1, qz_n, qz_n0, qz_n1, qz_t, qz_f, Nat.reduceAdd, q1000000, q0, q1, q2, q3, q4, q5, q6, q7, q8, q9, q10, q11, q12, q13, q14, q15, q16, q18, q19, q20, q21, q22, q23, q24, q25, q26, q27, q28, q29, q30, q31, q32, q38, q44, q45, q48, q57, q58, q59, q60, q63, q64, q97, q122, q126, q127, q128, q255, q256, q300, q580, q600, q1000, nI_add, q_lt_t, q_lt_f, q_eq_t, q_eq_f, q_clamp, q_in_t, q_in_f]
        rw [e_X10_says_8]
        simp (disch := omega) only [en, Option.bind_some, Option.toList_some, Option.toList_none, List.cons_append, List.nil_append, Option.map_some, cond_true, cond_false, Bool.not_true, Bool.not_false, Bool.true_and, Bool.and_true, Bool.false_and, Bool.and_false, Bool.true_or, Bool.or_true, Bool.false_or, Bool.or_false, Bool.not_not, decide_true, decide_false, Bool.decide_eq_true, Bool.decide_eq_false, qz_0, qz_1, qz_n, qz_n0, qz_n1, qz_t, qz_f, Nat.reduceAdd, q1000000, q0, q1, q2, q3, q4, q5, q6, q7, q8, q9, q10, q11, q12, q13, q14, q15, q16, q18, q19, q20, q21, q22, q23, q24, q25, q26, q27, q28, q29, q30, q31, q32, q38, q44, q45, q48, q57, q58, q59, q60, q63, q64, q97, q122, q126, q127, q128, q255, q256, q300, q580, q600, q1000, nI_add, q_lt_t, q_lt_f, q_eq_t, q_eq_f, q_clamp, q_in_t, q_in_f]
      · rw [if_neg h0] at h
        have e0 : sayI (m + 1) p r = sayI m (p + 1) (r - 1) := by
          show (if lxc (p + 1) = 32 then (if r = 0 then [] else sayI m (p + 1) (r - 1)) else _) = _
          rw [if_pos hc, if_neg h0]
        rw [e0, ← says_loop hI L m (p + 1) (r - 1) ts (by omega) (by omega) h]
        simp (disch := omega) only [e_X10_says_40, e_X10_says_57, ez, q_sub, Option.bind_some, Option.toList_some, Option.toList_none, List.cons_append, List.nil_append, Option.map_some, cond_true, cond_false, Bool.not_true, Bool.not_false, Bool.true_and, Bool.and_true, Bool.false_and, Bool.and_false, Bool.true_or, Bool.or_true, Bool.false_or, Bool.or_false, Bool.not_not, decide_true, decide_false, Bool.decide_eq_true, Bool.decide_eq_false, qz_0, qz_1, qz_n, qz_n0, qz_n1, qz_t, qz_f, Nat.reduceAdd, q1000000, q0, q1, q2, q3, q4, q5, q6, q7, q8, q9, q10, q11, q12, q13, q14, q15, q16, q18, q19, q20, q21, q22, q23, q24, q25, q26, q27, q28, q29, q30, q31, q32, q38, q44, q45, q48, q57, q58, q59, q60, q63, q64, q97, q122, q126, q127, q128, q255, q256, q300, q580, q600, q1000, nI_add, q_lt_t, q_lt_f, q_eq_t, q_eq_f, q_clamp, q_in_t, q_in_f]
    · rw [if_neg hc] at h
      by_cases h0 : r = 0
      · subst h0
        have e0 : sayI (m + 1) p 0 = lxc (p + 1) :: sayI m (p + 1) 0 := by
          show (if lxc (p + 1) = 32 then _ else (if (0 : Nat) = 0 then lxc (p + 1) :: sayI m (p + 1) 0 else _)) = _
          rw [if_neg hc, if_pos rfl]
        rw [e0, show ts ++ lxc (p + 1) :: sayI m (p + 1) 0 = (ts ++ [lxc (p + 1)]) ++ sayI m (p + 1) 0 by simp, ← says_loop hI L m (p + 1) 0 (ts ++ [lxc (p + 1)]) (by omega) (by omega) h]
        simp (disch := omega) only [e_X10_says_40, e_X10_says_57, ez, s_sign hI, q_sub, Nat.sub_zero, Option.bind_some, Option.toList_some, Option.toList_none, List.cons_append, List.nil_append, Option.map_some, cond_true, cond_false, Bool.not_true, Bool.not_false, Bool.true_and, Bool.and_true, Bool.false_and, Bool.and_false, Bool.true_or, Bool.or_true, Bool.false_or, Bool.or_false, Bool.not_not, decide_true, decide_false, Bool.decide_eq_true, Bool.decide_eq_false, qz_0, qz_1, qz_n, qz_n0, qz_n1, qz_t, qz_f, Nat.reduceAdd, q1000000, q0, q1, q2, q3, q4, q5, q6, q7, q8, q9, q10, q11, q12, q13, q14, q15, q16, q18, q19, q20, q21, q22, q23, q24, q25, q26, q27, q28, q29, q30, q31, q32, q38, q44, q45, q48, q57, q58, q59, q60, q63, q64, q97, q122, q126, q127, q128, q255, q256, q300, q580, q600, q1000, nI_add, q_lt_t, q_lt_f, q_eq_t, q_eq_f, q_clamp, q_in_t, q_in_f]
      · have e0 : sayI (m + 1) p r = sayI m (p + 1) r := by
          show (if lxc (p + 1) = 32 then _ else (if r = 0 then _ else sayI m (p + 1) r)) = _
          rw [if_neg hc, if_neg h0]
        rw [e0, ← says_loop hI L m (p + 1) r ts (by omega) (by omega) h]
        simp (disch := omega) only [e_X10_says_40, e_X10_says_57, ez, q_sub, Nat.sub_zero, Option.bind_some, Option.toList_some, Option.toList_none, List.cons_append, List.nil_append, Option.map_some, cond_true, cond_false, Bool.not_true, Bool.not_false, Bool.true_and, Bool.and_true, Bool.false_and, Bool.and_false, Bool.true_or, Bool.or_true, Bool.false_or, Bool.or_false, Bool.not_not, decide_true, decide_false, Bool.decide_eq_true, Bool.decide_eq_false, qz_0, qz_1, qz_n, qz_n0, qz_n1, qz_t, qz_f, Nat.reduceAdd, q1000000, q0, q1, q2, q3, q4, q5, q6, q7, q8, q9, q10, q11, q12, q13, q14, q15, q16, q18, q19, q20, q21, q22, q23, q24, q25, q26, q27, q28, q29, q30, q31, q32, q38, q44, q45, q48, q57, q58, q59, q60, q63, q64, q97, q122, q126, q127, q128, q255, q256, q300, q580, q600, q1000, nI_add, q_lt_t, q_lt_f, q_eq_t, q_eq_f, q_clamp, q_in_t, q_in_f]
theorem kw_ok : ∀ k, k < 19 → okI 81 0 k = true ∧ (kw k).length ≤ 8 ∧ (kw k).all (fun x => decide (0 < x) && decide (x < 128)) = true := by decide +kernel
theorem kw_x {k : Nat} (h : k < 19) : ∀ x, x ∈ kw k → 0 < x ∧ x < 128 := fun x hx => by
  have := List.all_eq_true.mp (kw_ok k h).2.2 x hx
  simpa using this
theorem s_says {I : zI} {w : Int32} (hI : I 52 41 = w) (L : zL) (ts : List Nat) (hl : ts.length < 100000) {k : Nat} (hk : k < 19) : zcall zZ nX10_says [.ref 52, .int (nI k)] (hp (ws I w ts) L) = some (none, hp (ws I w (tkn ts (kw k))) L) := by
  have := says_loop hI L 81 0 k (bl ts) (by omega) (by omega) (kw_ok k hk).1
  simp (disch := omega) only [c_X10_says, e_X10_says_0, e_X10_says_4, s_blank hI, q1000000, q0, q1, q2, q3, q4, q5, q6, q7, q8, q9, q10, q11, q12, q13, q14, q15, q16, q18, q19, q20, q21, q22, q23, q24, q25, q26, q27, q28, q29, q30, q31, q32, q38, q44, q45, q48, q57, q58, q59, q60, q63, q64, q97, q122, q126, q127, q128, q255, q256, q300, q580, q600, q1000, this, Option.bind_some, Option.toList_some, Option.toList_none, List.cons_append, List.nil_append, Option.map_some, cond_true, cond_false, Bool.not_true, Bool.not_false, Bool.true_and, Bool.and_true, Bool.false_and, Bool.and_false, Bool.true_or, Bool.or_true, Bool.false_or, Bool.or_false, Bool.not_not, decide_true, decide_false, Bool.decide_eq_true, Bool.decide_eq_false, qz_0, qz_1, qz_n, qz_n0, qz_n1, qz_t, qz_f, Nat.reduceAdd]
  rfl
theorem s_saysN {I : zI} {w : Int32} (hI : I 52 41 = w) (L : zL) (ts : List Nat) (hl : ts.length < 100000) {n : Nat} (hn : n < 100) : zcall zZ nX10_saysNumber [.ref 52, .int (nI n)] (hp (ws I w ts) L) = some (none, hp (ws I w (tkn ts (nmS n))) L) := by
  unfold tkn nmS
  have h10 : n / 10 < 10 := by omega
  have h11 : n % 10 < 10 := by omega
  have er : nI n - nI (n / 10) * nI 10 = nI (n % 10) := by
    rw [← q_div (by omega) (by omega) (by omega)]
    exact q_rem (by omega) (by omega) (by omega)
  by_cases h : 9 < n
  · rw [if_pos h, show bl ts ++ [48 + n / 10, 48 + n % 10] = bl ts ++ [48 + n / 10] ++ [48 + n % 10] by simp]
    simp (disch := omega) only [c_X10_saysNumber, e_X10_saysNumber_0, e_X10_saysNumber_4, e_X10_saysNumber_21, e_X10_saysNumber_32, s_blank hI, s_sign hI, er, q_div, Option.bind_some, Option.toList_some, Option.toList_none, List.cons_append, List.nil_append, Option.map_some, cond_true, cond_false, Bool.not_true, Bool.not_false, Bool.true_and, Bool.and_true, Bool.false_and, Bool.and_false, Bool.true_or, Bool.or_true, Bool.false_or, Bool.or_false, Bool.not_not, decide_true, decide_false, Bool.decide_eq_true, Bool.decide_eq_false, qz_0, qz_1, qz_n, qz_n0, qz_n1, qz_t, qz_f, Nat.reduceAdd, q1000000, q0, q1, q2, q3, q4, q5, q6, q7, q8, q9, q10, q11, q12, q13, q14, q15, q16, q18, q19, q20, q21, q22, q23, q24, q25, q26, q27, q28, q29, q30, q31, q32, q38, q44, q45, q48, q57, q58, q59, q60, q63, q64, q97, q122, q126, q127, q128, q255, q256, q300, q580, q600, q1000, nI_add, q_lt_t, q_lt_f, q_eq_t, q_eq_f, q_clamp, q_in_t, q_in_f]
  · rw [if_neg h, show 48 + n = 48 + n % 10 by omega]
    simp (disch := omega) only [c_X10_saysNumber, e_X10_saysNumber_0, e_X10_saysNumber_4, e_X10_saysNumber_21, e_X10_saysNumber_32, s_blank hI, s_sign hI, er, q_div, Option.bind_some, Option.toList_some, Option.toList_none, List.cons_append, List.nil_append, Option.map_some, cond_true, cond_false, Bool.not_true, Bool.not_false, Bool.true_and, Bool.and_true, Bool.false_and, Bool.and_false, Bool.true_or, Bool.or_true, Bool.false_or, Bool.or_false, Bool.not_not, decide_true, decide_false, Bool.decide_eq_true, Bool.decide_eq_false, qz_0, qz_1, qz_n, qz_n0, qz_n1, qz_t, qz_f, Nat.reduceAdd, q1000000, q0, q1, q2, q3, q4, q5, q6, q7, q8, q9, q10, q11, q12, q13, q14, q15, q16, q18, q19, q20, q21, q22, q23, q24, q25, q26, q27, q28, q29, q30, q31, q32, q38, q44, q45, q48, q57, q58, q59, q60, q63, q64, q97, q122, q126, q127, q128, q255, q256, q300, q580, q600, q1000, nI_add, q_lt_t, q_lt_f, q_eq_t, q_eq_f, q_clamp, q_in_t, q_in_f]
