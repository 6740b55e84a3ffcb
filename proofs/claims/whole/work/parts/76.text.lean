/-! the whole text -/
def spT (N : Nat) (p : Nat × Nat × Nat) : List (List Nat) := ptk p.2.2 ++ ((if 0 < p.1 then [kw 8, nmS p.1] else []) ++ (if p.2.1 < N - 1 then [kw 9, nmS p.2.1] else []))
def spsT (N : Nat) : List (Nat × Nat × Nat) → List (List Nat)
  | [] => []
  | p :: l => spT N p ++ spsT N l
def txT (N F : Nat) (nm : Nat → List Nat) (l : List (Nat × Nat × Nat)) (nf : Nat) (D1 : Int32) (af : Nat) (D2 : Int32) : List (List Nat) := spsT N l ++ (enT N F nm 10 nf D1 ++ enT N F nm 11 af D2)
def lOK (N : Nat) (l : List (Nat × Nat × Nat)) : Prop := ∀ p, p ∈ l → p.1 ≤ p.2.1 ∧ p.2.1 < N ∧ 1 ≤ p.2.2 ∧ p.2.2 < 128
theorem WL_tail {a b c : Nat} {I : zI} {p : Nat} {q : Nat × Nat × Nat} {l : List (Nat × Nat × Nat)} (h : WL a b c I p (q :: l)) : (I a p = nI q.1 ∧ I b p = nI q.2.1 ∧ I c p = nI q.2.2) ∧ WL a b c I (p + 1) l := by
  refine ⟨h 0 (by simp), fun j hj => ?_⟩
  have := h (j + 1) (by rw [List.length_cons]; omega)
  rw [show p + (j + 1) = p + 1 + j by omega] at this
  exact this
theorem wx_loop {I : zI} {L : zL} (hL : LX L) {N : Nat} (hN : N ≤ 28) (h6 : I 11 6 = nI N) {n : Nat} (hn : n ≤ 28) (h8 : I 26 8 = nI n) : ∀ l j ts, j + l.length = n → WL 27 28 29 I j l → lOK N l → zrun zZ kX8_write (29, [some (.ref 36), some (.ref 26), some (.ref 11), some (.int (nI j))], [], hp (wr I ts) L, 0, 0) = zrun zZ kX8_write (29, [some (.ref 36), some (.ref 26), some (.ref 11), some (.int (nI n))], [], hp (wr I (tks ts (spsT N l))) L, 0, 0)
  | [], j, ts, h, _, _ => by
    have h : j + 0 = n := h
    obtain rfl : j = n := by omega
    rfl
  | (d, e, P) :: l, j, ts, h, hW, hO => by
    rw [List.length_cons] at h
    obtain ⟨⟨w1, w2, w3⟩, hW'⟩ := WL_tail hW
    obtain ⟨o1, o2, o3, o4⟩ := hO (d, e, P) (by simp)
    have w1 : I 27 j = nI d := w1
    have w2 : I 28 j = nI e := w2
    have w3 : I 29 j = nI P := w3
    have o1 : d ≤ e := o1
    have o2 : e < N := o2
    have o4 : P < 128 := o4
    have x6 := fun ts => (wr_o I ts (o := 11) (k := 6) (by omega) (by omega)).trans h6
    have x8 := fun ts => (wr_o I ts (o := 26) (k := 8) (by omega) (by omega)).trans h8
    have x27 := fun ts => (wr_o I ts (o := 27) (k := j) (by omega) (by omega)).trans w1
    have x28 := fun ts => (wr_o I ts (o := 28) (k := j) (by omega) (by omega)).trans w2
    have x29 := fun ts => (wr_o I ts (o := 29) (k := j) (by omega) (by omega)).trans w3
    show _ = zrun zZ kX8_write (29, _, [], hp (wr I (tks ts ((ptk P ++ ((if 0 < d then [kw 8, nmS d] else []) ++ (if e < N - 1 then [kw 9, nmS e] else []))) ++ spsT N l))) L, 0, 0)
    rw [tks_app, ← wx_loop hL hN h6 hn h8 l (j + 1) _ (by omega) hW' (fun p hp => hO p (by simp [hp])), e_X8_write_29]
    by_cases z1 : 0 < d
    · by_cases z2 : e < N - 1
      · rw [if_pos z1, if_pos z2, tks_app, tks_app]
        simp (disch := omega) only [e_X8_write_48, e_X8_write_72, e_X8_write_83, e_X8_write_113, e_X8_write_124, x6, x8, x27, x28, x29, s_writePattern I hL, s_putK I hL, s_putNumber, q_sub, Option.bind_some, Option.toList_some, Option.toList_none, List.cons_append, List.nil_append, Option.map_some, cond_true, cond_false, Bool.not_true, Bool.not_false, Bool.true_and, Bool.and_true, Bool.false_and, Bool.and_false, Bool.true_or, Bool.or_true, Bool.false_or, Bool.or_false, Bool.not_not, decide_true, decide_false, Bool.decide_eq_true, Bool.decide_eq_false, qz_0, qz_1, qz_n, qz_n0, qz_n1, qz_t, qz_f, Nat.reduceAdd, q1000000, q0, q1, q2, q3, q4, q5, q6, q7, q8, q9, q10, q11, q12, q13, q14, q15, q16, q18, q19, q20, q21, q22, q23, q24, q25, q26, q27, q28, q29, q30, q31, q32, q38, q44, q45, q48, q57, q58, q59, q60, q63, q64, q97, q122, q126, q127, q128, q255, q256, q300, q580, q600, q1000, nI_add, q_lt_t, q_lt_f, q_eq_t, q_eq_f, q_clamp, q_in_t, q_in_f, tks_1, tks_0]
      · rw [if_pos z1, if_neg z2, tks_app, tks_app]
        simp (disch := omega) only [e_X8_write_48, e_X8_write_72, e_X8_write_83, e_X8_write_124, x6, x8, x27, x28, x29, s_writePattern I hL, s_putK I hL, s_putNumber, q_sub, Option.bind_some, Option.toList_some, Option.toList_none, List.cons_append, List.nil_append, Option.map_some, cond_true, cond_false, Bool.not_true, Bool.not_false, Bool.true_and, Bool.and_true, Bool.false_and, Bool.and_false, Bool.true_or, Bool.or_true, Bool.false_or, Bool.or_false, Bool.not_not, decide_true, decide_false, Bool.decide_eq_true, Bool.decide_eq_false, qz_0, qz_1, qz_n, qz_n0, qz_n1, qz_t, qz_f, Nat.reduceAdd, q1000000, q0, q1, q2, q3, q4, q5, q6, q7, q8, q9, q10, q11, q12, q13, q14, q15, q16, q18, q19, q20, q21, q22, q23, q24, q25, q26, q27, q28, q29, q30, q31, q32, q38, q44, q45, q48, q57, q58, q59, q60, q63, q64, q97, q122, q126, q127, q128, q255, q256, q300, q580, q600, q1000, nI_add, q_lt_t, q_lt_f, q_eq_t, q_eq_f, q_clamp, q_in_t, q_in_f, tks_1, tks_0]
    · obtain rfl : d = 0 := by omega
      by_cases z2 : e < N - 1
      · rw [if_neg z1, if_pos z2, tks_app, tks_app]
        simp (disch := omega) only [e_X8_write_48, e_X8_write_83, e_X8_write_113, e_X8_write_124, x6, x8, x27, x28, x29, s_writePattern I hL, s_putK I hL, s_putNumber, q_sub, Option.bind_some, Option.toList_some, Option.toList_none, List.cons_append, List.nil_append, Option.map_some, cond_true, cond_false, Bool.not_true, Bool.not_false, Bool.true_and, Bool.and_true, Bool.false_and, Bool.and_false, Bool.true_or, Bool.or_true, Bool.false_or, Bool.or_false, Bool.not_not, decide_true, decide_false, Bool.decide_eq_true, Bool.decide_eq_false, qz_0, qz_1, qz_n, qz_n0, qz_n1, qz_t, qz_f, Nat.reduceAdd, q1000000, q0, q1, q2, q3, q4, q5, q6, q7, q8, q9, q10, q11, q12, q13, q14, q15, q16, q18, q19, q20, q21, q22, q23, q24, q25, q26, q27, q28, q29, q30, q31, q32, q38, q44, q45, q48, q57, q58, q59, q60, q63, q64, q97, q122, q126, q127, q128, q255, q256, q300, q580, q600, q1000, nI_add, q_lt_t, q_lt_f, q_eq_t, q_eq_f, q_clamp, q_in_t, q_in_f, tks_1, tks_0]
      · rw [if_neg z1, if_neg z2, tks_app, tks_app]
        simp (disch := omega) only [e_X8_write_48, e_X8_write_83, e_X8_write_124, x6, x8, x27, x28, x29, s_writePattern I hL, q_sub, Option.bind_some, Option.toList_some, Option.toList_none, List.cons_append, List.nil_append, Option.map_some, cond_true, cond_false, Bool.not_true, Bool.not_false, Bool.true_and, Bool.and_true, Bool.false_and, Bool.and_false, Bool.true_or, Bool.or_true, Bool.false_or, Bool.or_false, Bool.not_not, decide_true, decide_false, Bool.decide_eq_true, Bool.decide_eq_false, qz_0, qz_1, qz_n, qz_n0, qz_n1, qz_t, qz_f, Nat.reduceAdd, q1000000, q0, q1, q2, q3, q4, q5, q6, q7, q8, q9, q10, q11, q12, q13, q14, q15, q16, q18, q19, q20, q21, q22, q23, q24, q25, q26, q27, q28, q29, q30, q31, q32, q38, q44, q45, q48, q57, q58, q59, q60, q63, q64, q97, q122, q126, q127, q128, q255, q256, q300, q580, q600, q1000, nI_add, q_lt_t, q_lt_f, q_eq_t, q_eq_f, q_clamp, q_in_t, q_in_f, tks_0]
theorem s_write {I : zI} {L : zL} (hL : LX L) {N F : Nat} (hN : N ≤ 28) (hF : F ≤ 2) (h6 : I 11 6 = nI N) (h8 : I 11 8 = nI F) {I' : zI} {nm : Nat → List Nat} (hnm : ∀ f, f < F → NM I' L f (nm f)) {l : List (Nat × Nat × Nat)} (hl : l.length ≤ 28) (hn : I 26 8 = nI l.length) (hW : WL 27 28 29 I 0 l) (hO : lOK N l) {nf af : Nat} {D1 D2 : Int32} (hnf : nf < 4) (haf : af < 4) (h9 : I 26 9 = nI nf) (h10 : I 26 10 = D1) (h11 : I 26 11 = nI af) (h12 : I 26 12 = D2) {T : Int32} (h5 : I 26 5 = T) : zcall zZ nX8_write [.ref 36, .ref 26, .ref 11] (hp I L) = some (none, hp (wr I (tks [] ((if T = nI 0 then [kw 6] else []) ++ txT N F nm l nf D1 af D2))) L) := by
  have go : ∀ ts, zrun zZ kX8_write (27, [some (.ref 36), some (.ref 26), some (.ref 11), none], [], hp (wr I ts) L, 0, 0) = some (none, hp (wr I (tks ts (txT N F nm l nf D1 af D2))) L, 0, 0) := fun ts => by
    have e8 := fun ts => (wr_o I ts (o := 26) (k := 8) (by omega) (by omega)).trans hn
    have s10 := fun ts => s_writeEntries hL hN hF h6 h8 hnm (Or.inl ⟨rfl, h9, h10⟩) hnf ts
    have s11 := fun ts => s_writeEntries hL hN hF h6 h8 hnm (Or.inr ⟨rfl, h11, h12⟩) haf ts
    unfold txT
    rw [e_X8_write_27, tks_app, tks_app, q0, wx_loop hL hN h6 hl hn l 0 ts (by omega) hW hO, e_X8_write_29]
    simp (disch := omega) only [e_X8_write_138, e_X8_write_146, e8, s10, s11, Option.bind_some, Option.toList_some, Option.toList_none, List.cons_append, List.nil_append, Option.map_some, cond_true, cond_false, Bool.not_true, Bool.not_false, Bool.true_and, Bool.and_true, Bool.false_and, Bool.and_false, Bool.true_or, Bool.or_true, Bool.false_or, Bool.or_false, Bool.not_not, decide_true, decide_false, Bool.decide_eq_true, Bool.decide_eq_false, qz_0, qz_1, qz_n, qz_n0, qz_n1, qz_t, qz_f, Nat.reduceAdd, q1000000, q0, q1, q2, q3, q4, q5, q6, q7, q8, q9, q10, q11, q12, q13, q14, q15, q16, q18, q19, q20, q21, q22, q23, q24, q25, q26, q27, q28, q29, q30, q31, q32, q38, q44, q45, q48, q57, q58, q59, q60, q63, q64, q97, q122, q126, q127, q128, q255, q256, q300, q580, q600, q1000, nI_add, q_lt_t, q_lt_f, q_eq_t, q_eq_f, q_clamp, q_in_t, q_in_f]
  rw [c_X8_write, e_X8_write_0, h5, q0, ← wr_nil]
  by_cases z : T = nI 0
  · rw [if_pos z, tks_app, tks_1, tks_0]
    have hz : (T = nI 0) = True := eq_true z
    simp (disch := omega) only [hz, s_putK I hL, go, Option.bind_some, Option.toList_some, Option.toList_none, List.cons_append, List.nil_append, Option.map_some, cond_true, cond_false, Bool.not_true, Bool.not_false, Bool.true_and, Bool.and_true, Bool.false_and, Bool.and_false, Bool.true_or, Bool.or_true, Bool.false_or, Bool.or_false, Bool.not_not, decide_true, decide_false, Bool.decide_eq_true, Bool.decide_eq_false, qz_0, qz_1, qz_n, qz_n0, qz_n1, qz_t, qz_f, Nat.reduceAdd]
  · rw [if_neg z, List.nil_append]
    have hz : (T = nI 0) = False := eq_false z
    simp (disch := omega) only [hz, go, Option.bind_some, Option.toList_some, Option.toList_none, List.cons_append, List.nil_append, Option.map_some, cond_true, cond_false, Bool.not_true, Bool.not_false, Bool.true_and, Bool.and_true, Bool.false_and, Bool.and_false, Bool.true_or, Bool.or_true, Bool.false_or, Bool.or_false, Bool.not_not, decide_true, decide_false, Bool.decide_eq_true, Bool.decide_eq_false, qz_0, qz_1, qz_n, qz_n0, qz_n1, qz_t, qz_f, Nat.reduceAdd]
/-! and of the reference -/
theorem wy_loop {I : zI} {w : Int32} (hI : I 52 41 = w) {L : zL} {N : Nat} (hN : N ≤ 28) (h6 : I 53 0 = nI N) {n : Nat} (hn : n ≤ 28) (h8 : I 52 33 = nI n) : ∀ l j ts, j + l.length = n → WL 63 64 65 I j l → lOK N l → ts.length + 1000 * l.length < 60000 → zrun zZ kX10_writes (42, [some (.ref 52), none, none, some (.int (nI j))], [], hp (ws I w ts) L, 0, 0) = zrun zZ kX10_writes (42, [some (.ref 52), none, none, some (.int (nI n))], [], hp (ws I w (tks ts (spsT N l))) L, 0, 0)
  | [], j, ts, h, _, _, _ => by
    have h : j + 0 = n := h
    obtain rfl : j = n := by omega
    rfl
  | (d, e, P) :: l, j, ts, h, hW, hO, hl => by
    rw [List.length_cons] at h hl
    obtain ⟨⟨w1, w2, w3⟩, hW'⟩ := WL_tail hW
    obtain ⟨o1, o2, o3, o4⟩ := hO (d, e, P) (by simp)
    have w1 : I 63 j = nI d := w1
    have w2 : I 64 j = nI e := w2
    have w3 : I 65 j = nI P := w3
    have o1 : d ≤ e := o1
    have o2 : e < N := o2
    have o4 : P < 128 := o4
    have x6 := fun ts => (ws_o I w ts (o := 53) (k := 0) (by omega)).trans h6
    have x8 := fun ts => (ws_o I w ts (o := 52) (k := 33) (by omega)).trans h8
    have x27 := fun ts => (ws_o I w ts (o := 63) (k := j) (by omega)).trans w1
    have x28 := fun ts => (ws_o I w ts (o := 64) (k := j) (by omega)).trans w2
    have x29 := fun ts => (ws_o I w ts (o := 65) (k := j) (by omega)).trans w3
    have lp : (tks ts (ptk P)).length ≤ ts.length + 72 := by
      have hp8 : (ptk P).length ≤ 8 ∧ ∀ v, v ∈ ptk P → v.length ≤ 8 := by
        unfold ptk
        by_cases z : P = 127
        · rw [if_pos z]
          refine ⟨by decide, fun v hv => ?_⟩
          rw [List.mem_singleton.mp hv]
          exact (kw_ok 7 (by omega)).2.1
        · rw [if_neg z, List.length_map]
          refine ⟨(pC_all P o4).2, fun v hv => ?_⟩
          obtain ⟨i, hi, rfl⟩ := List.mem_map.mp hv
          have hi2 := List.all_eq_true.mp (pC_all P o4).1 i hi
          have hi2 : i < 20 := of_decide_eq_true hi2
          by_cases y : i = 19
          · rw [y]
            decide
          · rw [kwd_k (by omega)]
            exact (kw_ok i (by omega)).2.1
      have := tks_le (ptk P) ts hp8.2
      omega
    have k8 := fun ts => tkn_le ts (kw 8) (kw_ok 8 (by omega)).2.1
    have k9 := fun ts => tkn_le ts (kw 9) (kw_ok 9 (by omega)).2.1
    have kn := fun ts n => tkn_le ts (nmS n) (nmS_len n)
    show _ = zrun zZ kX10_writes (42, _, [], hp (ws I w (tks ts ((ptk P ++ ((if 0 < d then [kw 8, nmS d] else []) ++ (if e < N - 1 then [kw 9, nmS e] else []))) ++ spsT N l))) L, 0, 0)
    by_cases z1 : 0 < d
    · have l1 := k8 (tks ts (ptk P))
      have l2 := kn (tkn (tks ts (ptk P)) (kw 8)) d
      by_cases z2 : e < N - 1
      · have l3 := k9 (tkn (tkn (tks ts (ptk P)) (kw 8)) (nmS d))
        have l4 := kn (tkn (tkn (tkn (tks ts (ptk P)) (kw 8)) (nmS d)) (kw 9)) e
        rw [if_pos z1, if_pos z2, tks_app, tks_app, tks_app, tks_1, tks_1, tks_0, tks_1, tks_1, tks_0, ← wy_loop hI hN h6 hn h8 l (j + 1) _ (by omega) hW' (fun p hp => hO p (by simp [hp])) (by omega), e_X10_writes_42]
        simp (disch := omega) only [e_X10_writes_60, e_X10_writes_75, e_X10_writes_85, e_X10_writes_108, e_X10_writes_118, x6, x8, x27, x28, x29, s_saysPattern hI, s_says hI, s_saysN hI, q_sub, Option.bind_some, Option.toList_some, Option.toList_none, List.cons_append, List.nil_append, Option.map_some, cond_true, cond_false, Bool.not_true, Bool.not_false, Bool.true_and, Bool.and_true, Bool.false_and, Bool.and_false, Bool.true_or, Bool.or_true, Bool.false_or, Bool.or_false, Bool.not_not, decide_true, decide_false, Bool.decide_eq_true, Bool.decide_eq_false, qz_0, qz_1, qz_n, qz_n0, qz_n1, qz_t, qz_f, Nat.reduceAdd, q1000000, q0, q1, q2, q3, q4, q5, q6, q7, q8, q9, q10, q11, q12, q13, q14, q15, q16, q18, q19, q20, q21, q22, q23, q24, q25, q26, q27, q28, q29, q30, q31, q32, q38, q44, q45, q48, q57, q58, q59, q60, q63, q64, q97, q122, q126, q127, q128, q255, q256, q300, q580, q600, q1000, nI_add, q_lt_t, q_lt_f, q_eq_t, q_eq_f, q_clamp, q_in_t, q_in_f]
      · rw [if_pos z1, if_neg z2, tks_app, tks_app, tks_app, tks_1, tks_1, tks_0, tks_0, ← wy_loop hI hN h6 hn h8 l (j + 1) _ (by omega) hW' (fun p hp => hO p (by simp [hp])) (by omega), e_X10_writes_42]
        simp (disch := omega) only [e_X10_writes_60, e_X10_writes_75, e_X10_writes_85, e_X10_writes_118, x6, x8, x27, x28, x29, s_saysPattern hI, s_says hI, s_saysN hI, q_sub, Option.bind_some, Option.toList_some, Option.toList_none, List.cons_append, List.nil_append, Option.map_some, cond_true, cond_false, Bool.not_true, Bool.not_false, Bool.true_and, Bool.and_true, Bool.false_and, Bool.and_false, Bool.true_or, Bool.or_true, Bool.false_or, Bool.or_false, Bool.not_not, decide_true, decide_false, Bool.decide_eq_true, Bool.decide_eq_false, qz_0, qz_1, qz_n, qz_n0, qz_n1, qz_t, qz_f, Nat.reduceAdd, q1000000, q0, q1, q2, q3, q4, q5, q6, q7, q8, q9, q10, q11, q12, q13, q14, q15, q16, q18, q19, q20, q21, q22, q23, q24, q25, q26, q27, q28, q29, q30, q31, q32, q38, q44, q45, q48, q57, q58, q59, q60, q63, q64, q97, q122, q126, q127, q128, q255, q256, q300, q580, q600, q1000, nI_add, q_lt_t, q_lt_f, q_eq_t, q_eq_f, q_clamp, q_in_t, q_in_f]
    · obtain rfl : d = 0 := by omega
      by_cases z2 : e < N - 1
      · have l3 := k9 (tks ts (ptk P))
        have l4 := kn (tkn (tks ts (ptk P)) (kw 9)) e
        rw [if_neg z1, if_pos z2, tks_app, tks_app, tks_app, tks_0, tks_1, tks_1, tks_0, ← wy_loop hI hN h6 hn h8 l (j + 1) _ (by omega) hW' (fun p hp => hO p (by simp [hp])) (by omega), e_X10_writes_42]
        simp (disch := omega) only [e_X10_writes_60, e_X10_writes_85, e_X10_writes_108, e_X10_writes_118, x6, x8, x27, x28, x29, s_saysPattern hI, s_says hI, s_saysN hI, q_sub, Option.bind_some, Option.toList_some, Option.toList_none, List.cons_append, List.nil_append, Option.map_some, cond_true, cond_false, Bool.not_true, Bool.not_false, Bool.true_and, Bool.and_true, Bool.false_and, Bool.and_false, Bool.true_or, Bool.or_true, Bool.false_or, Bool.or_false, Bool.not_not, decide_true, decide_false, Bool.decide_eq_true, Bool.decide_eq_false, qz_0, qz_1, qz_n, qz_n0, qz_n1, qz_t, qz_f, Nat.reduceAdd, q1000000, q0, q1, q2, q3, q4, q5, q6, q7, q8, q9, q10, q11, q12, q13, q14, q15, q16, q18, q19, q20, q21, q22, q23, q24, q25, q26, q27, q28, q29, q30, q31, q32, q38, q44, q45, q48, q57, q58, q59, q60, q63, q64, q97, q122, q126, q127, q128, q255, q256, q300, q580, q600, q1000, nI_add, q_lt_t, q_lt_f, q_eq_t, q_eq_f, q_clamp, q_in_t, q_in_f]
      · rw [if_neg z1, if_neg z2, tks_app, tks_app, tks_app, tks_0, tks_0, ← wy_loop hI hN h6 hn h8 l (j + 1) _ (by omega) hW' (fun p hp => hO p (by simp [hp])) (by omega), e_X10_writes_42]
        simp (disch := omega) only [e_X10_writes_60, e_X10_writes_85, e_X10_writes_118, x6, x8, x27, x28, x29, s_saysPattern hI, q_sub, Option.bind_some, Option.toList_some, Option.toList_none, List.cons_append, List.nil_append, Option.map_some, cond_true, cond_false, Bool.not_true, Bool.not_false, Bool.true_and, Bool.and_true, Bool.false_and, Bool.and_false, Bool.true_or, Bool.or_true, Bool.false_or, Bool.or_false, Bool.not_not, decide_true, decide_false, Bool.decide_eq_true, Bool.decide_eq_false, qz_0, qz_1, qz_n, qz_n0, qz_n1, qz_t, qz_f, Nat.reduceAdd, q1000000, q0, q1, q2, q3, q4, q5, q6, q7, q8, q9, q10, q11, q12, q13, q14, q15, q16, q18, q19, q20, q21, q22, q23, q24, q25, q26, q27, q28, q29, q30, q31, q32, q38, q44, q45, q48, q57, q58, q59, q60, q63, q64, q97, q122, q126, q127, q128, q255, q256, q300, q580, q600, q1000, nI_add, q_lt_t, q_lt_f, q_eq_t, q_eq_f, q_clamp, q_in_t, q_in_f]
