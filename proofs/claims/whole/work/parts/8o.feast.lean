theorem tyT_1 {k : Nat} (h : k ≤ 25) : tyT k = 1 ↔ k ≤ 19 := by
  have : ∀ k, k < 26 → (tyT k = 1 ↔ k ≤ 19) := by decide
  exact this k (by omega)
theorem fh_loop {I : zI} {B : Nat → Nat} {S j : Nat} (L : zL) (hB : BT I B S) (h : RF I B S j) {F : Nat} {nm : Nat → List Nat} (hn : NMr I F nm) (hF : F ≤ 2) (h2 : I 53 2 = nI F) : ∀ m f, f + m = F → zrun zZ kX10_feastHere (2, [some (.ref 52), some (.int (nI f)), none, none], [], hp I L, 0, 0) = some (some (.int (if KT B S j ≤ 19 then fxI (fx nm (wN B S j) m f) else -nI 1)), hp I L, 0, 0)
  | 0, f, hf => by
    rw [e_X10_feastHere_2]
    simp (disch := omega) only [h2, Option.bind_some, Option.toList_some, Option.toList_none, List.cons_append, List.nil_append, Option.map_some, cond_true, cond_false, Bool.not_true, Bool.not_false, Bool.true_and, Bool.and_true, Bool.false_and, Bool.and_false, Bool.true_or, Bool.or_true, Bool.false_or, Bool.or_false, Bool.not_not, decide_true, decide_false, Bool.decide_eq_true, Bool.decide_eq_false, qz_0, qz_1, qz_n, qz_n0, qz_n1, qz_t, qz_f, Nat.reduceAdd, q1000000, q0, q1, q2, q3, q4, q5, q6, q7, q8, q9, q10, q11, q12, q13, q14, q15, q16, q18, q19, q20, q21, q22, q23, q24, q25, q26, q27, q28, q29, q30, q31, q32, q38, q44, q45, q48, q57, q58, q59, q60, q63, q64, q97, q122, q126, q127, q128, q255, q256, q300, q580, q600, q1000, nI_add, q_lt_t, q_lt_f, q_eq_t, q_eq_f, q_clamp, q_in_t, q_in_f]
    by_cases z : KT B S j ≤ 19
    · rw [if_pos z]
      rfl
    · rw [if_neg z]
  | m + 1, f, hf => by
    obtain ⟨n1, n2, n3⟩ := hn f (by omega)
    have hk := KT_le B S j
    have ht := tyT_lt (KT B S j)
    have hS := hB.1
    have e10 := h.2.2.1
    have sle := sT_le B S j
    have ple := ps_le B S (j + 1)
    have ih := fh_loop L hB h hn hF h2 m (f + 1) (by omega)
    rw [e_X10_feastHere_2]
    by_cases z : KT B S j ≤ 19
    · rw [(tyT_1 hk).mpr z] at e10
      have hs : sT B S j < S := by
        rcases Nat.lt_or_ge (sT B S j) S with q | q
        · exact q
        · have := KT_24.mpr (show sT B S j = S by omega)
          omega
      have hps := ps_s B S j hs
      rw [if_pos z] at ih ⊢
      have hc := fun b hb => fh_cmp L hB h.1 (show sT B S j ≤ ps B S (j + 1) by omega) ple hn (show f < F by omega) hF (nm f).length 0 b (by omega) hb
      have he := cmN_eq (cs := nm f) (B := B) (s := sT B S j) (e := ps B S (j + 1))
      unfold fx
      by_cases y : (nm f).length = ps B S (j + 1) - sT B S j
      · have h1 := hc true (fun _ => y)
        rw [qz_t, Bool.true_and] at h1
        rw [decide_eq_true y, Bool.true_and] at he
        rw [← he] at h1
        by_cases x : nm f = wN B S j
        · rw [if_pos x]
          rw [decide_eq_true (show nm f = let' B (sT B S j) (ps B S (j + 1)) from x), qz_t] at h1
          simp (disch := omega) only [e_X10_feastHere_46, e_X10_feastHere_106, h2, e10, n2, h.1, h.2.1, q_sub, h1, Option.bind_some, Option.toList_some, Option.toList_none, List.cons_append, List.nil_append, Option.map_some, cond_true, cond_false, Bool.not_true, Bool.not_false, Bool.true_and, Bool.and_true, Bool.false_and, Bool.and_false, Bool.true_or, Bool.or_true, Bool.false_or, Bool.or_false, Bool.not_not, decide_true, decide_false, Bool.decide_eq_true, Bool.decide_eq_false, qz_0, qz_1, qz_n, qz_n0, qz_n1, qz_t, qz_f, Nat.reduceAdd, q1000000, q0, q1, q2, q3, q4, q5, q6, q7, q8, q9, q10, q11, q12, q13, q14, q15, q16, q18, q19, q20, q21, q22, q23, q24, q25, q26, q27, q28, q29, q30, q31, q32, q38, q44, q45, q48, q57, q58, q59, q60, q63, q64, q97, q122, q126, q127, q128, q255, q256, q300, q580, q600, q1000, nI_add, q_lt_t, q_lt_f, q_eq_t, q_eq_f, q_clamp, q_in_t, q_in_f]
          rfl
        · rw [if_neg x, ← ih]
          rw [decide_eq_false (show ¬ nm f = let' B (sT B S j) (ps B S (j + 1)) from x), qz_f] at h1
          simp (disch := omega) only [e_X10_feastHere_46, e_X10_feastHere_106, h2, e10, n2, h.1, h.2.1, q_sub, h1, Option.bind_some, Option.toList_some, Option.toList_none, List.cons_append, List.nil_append, Option.map_some, cond_true, cond_false, Bool.not_true, Bool.not_false, Bool.true_and, Bool.and_true, Bool.false_and, Bool.and_false, Bool.true_or, Bool.or_true, Bool.false_or, Bool.or_false, Bool.not_not, decide_true, decide_false, Bool.decide_eq_true, Bool.decide_eq_false, qz_0, qz_1, qz_n, qz_n0, qz_n1, qz_t, qz_f, Nat.reduceAdd, q1000000, q0, q1, q2, q3, q4, q5, q6, q7, q8, q9, q10, q11, q12, q13, q14, q15, q16, q18, q19, q20, q21, q22, q23, q24, q25, q26, q27, q28, q29, q30, q31, q32, q38, q44, q45, q48, q57, q58, q59, q60, q63, q64, q97, q122, q126, q127, q128, q255, q256, q300, q580, q600, q1000, nI_add, q_lt_t, q_lt_f, q_eq_t, q_eq_f, q_clamp, q_in_t, q_in_f]
      · have h1 := hc false (fun q => by cases q)
        rw [qz_f, Bool.false_and, qz_f] at h1
        have x : ¬ nm f = wN B S j := fun q => y (by
          rw [q]
          exact let_len B (sT B S j) (ps B S (j + 1)))
        rw [if_neg x, ← ih]
        simp (disch := omega) only [e_X10_feastHere_45, e_X10_feastHere_46, e_X10_feastHere_106, h2, e10, n2, h.1, h.2.1, q_sub, h1, Option.bind_some, Option.toList_some, Option.toList_none, List.cons_append, List.nil_append, Option.map_some, cond_true, cond_false, Bool.not_true, Bool.not_false, Bool.true_and, Bool.and_true, Bool.false_and, Bool.and_false, Bool.true_or, Bool.or_true, Bool.false_or, Bool.or_false, Bool.not_not, decide_true, decide_false, Bool.decide_eq_true, Bool.decide_eq_false, qz_0, qz_1, qz_n, qz_n0, qz_n1, qz_t, qz_f, Nat.reduceAdd, q1000000, q0, q1, q2, q3, q4, q5, q6, q7, q8, q9, q10, q11, q12, q13, q14, q15, q16, q18, q19, q20, q21, q22, q23, q24, q25, q26, q27, q28, q29, q30, q31, q32, q38, q44, q45, q48, q57, q58, q59, q60, q63, q64, q97, q122, q126, q127, q128, q255, q256, q300, q580, q600, q1000, nI_add, q_lt_t, q_lt_f, q_eq_t, q_eq_f, q_clamp, q_in_t, q_in_f]
    · have hne : tyT (KT B S j) ≠ 1 := fun q => z ((tyT_1 hk).mp q)
      have h1 := fh_cmp L hB h.1 (show sT B S j ≤ S by omega) (Nat.le_refl S) hn (show f < F by omega) hF (nm f).length 0 false (by omega) (fun q => by cases q)
      rw [qz_f, Bool.false_and, qz_f] at h1
      rw [if_neg z] at ih ⊢
      rw [← ih]
      simp (disch := omega) only [e_X10_feastHere_45, e_X10_feastHere_46, e_X10_feastHere_106, h2, e10, h1, Option.bind_some, Option.toList_some, Option.toList_none, List.cons_append, List.nil_append, Option.map_some, cond_true, cond_false, Bool.not_true, Bool.not_false, Bool.true_and, Bool.and_true, Bool.false_and, Bool.and_false, Bool.true_or, Bool.or_true, Bool.false_or, Bool.or_false, Bool.not_not, decide_true, decide_false, Bool.decide_eq_true, Bool.decide_eq_false, qz_0, qz_1, qz_n, qz_n0, qz_n1, qz_t, qz_f, Nat.reduceAdd, q1000000, q0, q1, q2, q3, q4, q5, q6, q7, q8, q9, q10, q11, q12, q13, q14, q15, q16, q18, q19, q20, q21, q22, q23, q24, q25, q26, q27, q28, q29, q30, q31, q32, q38, q44, q45, q48, q57, q58, q59, q60, q63, q64, q97, q122, q126, q127, q128, q255, q256, q300, q580, q600, q1000, nI_add, q_lt_t, q_lt_f, q_eq_t, q_eq_f, q_clamp, q_in_t, q_in_f]
theorem s_feastHere {I : zI} {B : Nat → Nat} {S j : Nat} (L : zL) (hB : BT I B S) (h : RF I B S j) {F : Nat} {nm : Nat → List Nat} (hn : NMr I F nm) (hF : F ≤ 2) (h2 : I 53 2 = nI F) : zcall zZ nX10_feastHere [.ref 52] (hp I L) = some (some (.int (if KT B S j ≤ 19 then fxI (fx nm (wN B S j) F 0) else -nI 1)), hp I L) := by
  have := fh_loop L hB h hn hF h2 F 0 (by omega)
  simp (disch := omega) only [c_X10_feastHere, e_X10_feastHere_0, q1000000, q0, q1, q2, q3, q4, q5, q6, q7, q8, q9, q10, q11, q12, q13, q14, q15, q16, q18, q19, q20, q21, q22, q23, q24, q25, q26, q27, q28, q29, q30, q31, q32, q38, q44, q45, q48, q57, q58, q59, q60, q63, q64, q97, q122, q126, q127, q128, q255, q256, q300, q580, q600, q1000, this, Option.bind_some, Option.toList_some, Option.toList_none, List.cons_append, List.nil_append, Option.map_some, cond_true, cond_false, Bool.not_true, Bool.not_false, Bool.true_and, Bool.and_true, Bool.false_and, Bool.and_false, Bool.true_or, Bool.or_true, Bool.false_or, Bool.or_false, Bool.not_not, decide_true, decide_false, Bool.decide_eq_true, Bool.decide_eq_false, qz_0, qz_1, qz_n, qz_n0, qz_n1, qz_t, qz_f, Nat.reduceAdd]
