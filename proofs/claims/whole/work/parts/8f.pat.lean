theorem s_readPattern {I : zI} {L : zL} {B : Nat → Nat} {S n j : Nat} (hR : RD I L B S n) (hj : j ≤ n) (h9 : I 5 9 = nI j) : PatC I L B S n (patR (KT B S) j) (zcall zZ nX4_readPattern [.ref 5] (hp I L)) := by
  have h0 := hR.1
  have e6 := hR.k hj
  have hk := KT_le B S j
  unfold patR
  by_cases z : KT B S j = 7
  · rw [if_pos z]
    rw [z] at e6
    have hjn := hR.lt hj (by omega)
    have hR1 : RD (zup I 5 10 (nI 127)) L B S n := hR.cg (zu_at (by omega)) (fun b => zu_cell (by omega)) (fun b => zu_cell (by omega)) (fun _ => rfl)
    have hst := s_step hR1 hjn (by rw [zu_at (by omega)]; exact h9)
    refine ⟨zup (zup I 5 10 (nI 127)) 5 9 (nI (j + 1)), ?_, by omega, by omega, zu_same _ _ _ _, by rw [zu_at (by omega), zu_same], fun x y p => ?_⟩
    · simp (disch := omega) only [c_X4_readPattern, e_X4_readPattern_0, e_X4_readPattern_24, h9, e6, hst, Option.bind_some, Option.toList_some, Option.toList_none, List.cons_append, List.nil_append, Option.map_some, cond_true, cond_false, Bool.not_true, Bool.not_false, Bool.true_and, Bool.and_true, Bool.false_and, Bool.and_false, Bool.true_or, Bool.or_true, Bool.false_or, Bool.or_false, Bool.not_not, decide_true, decide_false, Bool.decide_eq_true, Bool.decide_eq_false, qz_0, qz_1, qz_n, qz_n0, qz_n1, qz_t, qz_f, Nat.reduceAdd, q1000000, q0, q1, q2, q3, q4, q5, q6, q7, q8, q9, q10, q11, q12, q13, q14, q15, q16, q18, q19, q20, q21, q22, q23, q24, q25, q26, q27, q28, q29, q30, q31, q32, q38, q44, q45, q48, q57, q58, q59, q60, q63, q64, q97, q122, q126, q127, q128, q255, q256, q300, q580, q600, q1000, nI_add, q_lt_t, q_lt_f, q_eq_t, q_eq_f, q_clamp, q_in_t, q_in_f]
    · by_cases u : x = 5
      · rw [zu_at (by omega), zu_at (by omega)]
      · rw [zu_cell u, zu_cell u]
  · rw [if_neg z]
    have hR1 : RD (zup I 5 10 (nI 0)) L B S n := hR.cg (zu_at (by omega)) (fun b => zu_cell (by omega)) (fun b => zu_cell (by omega)) (fun _ => rfl)
    have ih := cp_loop 8 j 0 0 0 (zup I 5 10 (nI 0)) hR1 (by omega) (by omega) (by omega) hj (by omega) (by rw [zu_at (by omega)]; exact h9) (zu_same _ _ _ _)
    have ih := ih.cg (I := I) (fun x y p => by
      by_cases u : x = 5
      · rw [zu_at (by omega)]
      · rw [zu_cell u])
    refine Eq.mp ?_ ih
    congr 1
    symm
    simp (disch := omega) only [c_X4_readPattern, e_X4_readPattern_0, h9, e6, Option.bind_some, Option.toList_some, Option.toList_none, List.cons_append, List.nil_append, Option.map_some, cond_true, cond_false, Bool.not_true, Bool.not_false, Bool.true_and, Bool.and_true, Bool.false_and, Bool.and_false, Bool.true_or, Bool.or_true, Bool.false_or, Bool.or_false, Bool.not_not, decide_true, decide_false, Bool.decide_eq_true, Bool.decide_eq_false, qz_0, qz_1, qz_n, qz_n0, qz_n1, qz_t, qz_f, Nat.reduceAdd, q1000000, q0, q1, q2, q3, q4, q5, q6, q7, q8, q9, q10, q11, q12, q13, q14, q15, q16, q18, q19, q20, q21, q22, q23, q24, q25, q26, q27, q28, q29, q30, q31, q32, q38, q44, q45, q48, q57, q58, q59, q60, q63, q64, q97, q122, q126, q127, q128, q255, q256, q300, q580, q600, q1000, nI_add, q_lt_t, q_lt_f, q_eq_t, q_eq_f, q_clamp, q_in_t, q_in_f]
/-! the reference -/
theorem jm_le {a d : Nat} (ha : a < 1000) (hd : d < 1000) : (nI a - nI 1 < nI d) = (a ≤ d) := by
  cases a with
  | zero =>
    have e : nI 0 - nI 1 < nI 0 := pk_sneg (a := 0) (b := 1) (by decide) (by decide)
    by_cases z : d = 0
    · rw [z]
      exact propext ⟨fun _ => Nat.le_refl 0, fun _ => e⟩
    · exact propext ⟨fun _ => Nat.zero_le d, fun _ => Int32.lt_trans e (nI_lt (by omega) (by omega))⟩
  | succ a =>
    rw [pk_sub (by omega), Nat.add_sub_cancel, q_lt (by omega) (by omega)]
    rfl
theorem FRf.n {I J : zI} (h : ∀ x y, (x ≠ 52 ∨ y < 14 ∨ 16 < y) → J x y = I x y) : FRf I J := fun x y p => h x y (by omega)
theorem FRn.trans {I J K : zI} (h : FRn I J) (h2 : FRn J K) : FRn I K := fun x y p => (h2 x y p).trans (h x y p)
theorem s_rdW_y {I : zI} {B : Nat → Nat} {S j : Nat} (L : zL) (hB : BT I B S) (h : RF I B S j) (h14 : I 52 14 = nI 0) {c : Nat} (h13 : I 52 13 = nI c) (w : isW (KT B S j) = true) : ∃ J, zcall zZ nX10_readsWeekday [.ref 52] (hp I L) = some (some (.int (nI (KT B S j - 12))), hp J L) ∧ RF J B S (j + 1) ∧ J 52 13 = nI (c + 1) ∧ FRn I J := by
  obtain ⟨y1, y2⟩ := isW_iff.mp w
  have eW := s_Mwkd L h
  rw [w] at eW
  have e12 := h.2.2.2.2
  unfold kI at e12
  rw [if_pos y2] at e12
  obtain ⟨J, g1, g2, g3, g4⟩ := s_need_y L hB h h14 h13
  refine ⟨J, ?_, g2, g3, g4⟩
  simp (disch := omega) only [c_X10_readsWeekday, e_X10_readsWeekday_0, e_X10_readsWeekday_13, e_X10_readsWeekday_16, eW, e12, q_sub, g1, Option.bind_some, Option.toList_some, Option.toList_none, List.cons_append, List.nil_append, Option.map_some, cond_true, cond_false, Bool.not_true, Bool.not_false, Bool.true_and, Bool.and_true, Bool.false_and, Bool.and_false, Bool.true_or, Bool.or_true, Bool.false_or, Bool.or_false, Bool.not_not, decide_true, decide_false, Bool.decide_eq_true, Bool.decide_eq_false, qz_0, qz_1, qz_n, qz_n0, qz_n1, qz_t, qz_f, Nat.reduceAdd, q1000000, q0, q1, q2, q3, q4, q5, q6, q7, q8, q9, q10, q11, q12, q13, q14, q15, q16, q18, q19, q20, q21, q22, q23, q24, q25, q26, q27, q28, q29, q30, q31, q32, q38, q44, q45, q48, q57, q58, q59, q60, q63, q64, q97, q122, q126, q127, q128, q255, q256, q300, q580, q600, q1000, nI_add, q_lt_t, q_lt_f, q_eq_t, q_eq_f, q_clamp, q_in_t, q_in_f]
theorem s_rdW_n {I : zI} {B : Nat → Nat} {S j : Nat} (L : zL) (h : RF I B S j) (h14 : I 52 14 = nI 0) (w : isW (KT B S j) = false) : ∃ J r, zcall zZ nX10_readsWeekday [.ref 52] (hp I L) = some (some (.int r), hp J L) ∧ FL J 1 (sT B S j) ∧ FRf I J := by
  have eW := s_Mwkd L h
  rw [w] at eW
  obtain ⟨J, g1, g2, g3⟩ := s_need_n L h h14
  refine ⟨J, I 52 12 - nI 12, ?_, g2, g3⟩
  simp (disch := omega) only [c_X10_readsWeekday, e_X10_readsWeekday_0, e_X10_readsWeekday_13, e_X10_readsWeekday_16, eW, g1, Option.bind_some, Option.toList_some, Option.toList_none, List.cons_append, List.nil_append, Option.map_some, cond_true, cond_false, Bool.not_true, Bool.not_false, Bool.true_and, Bool.and_true, Bool.false_and, Bool.and_false, Bool.true_or, Bool.or_true, Bool.false_or, Bool.or_false, Bool.not_not, decide_true, decide_false, Bool.decide_eq_true, Bool.decide_eq_false, qz_0, qz_1, qz_n, qz_n0, qz_n1, qz_t, qz_f, Nat.reduceAdd, q1000000, q0, q1, q2, q3, q4, q5, q6, q7, q8, q9, q10, q11, q12, q13, q14, q15, q16, q18, q19, q20, q21, q22, q23, q24, q25, q26, q27, q28, q29, q30, q31, q32, q38, q44, q45, q48, q57, q58, q59, q60, q63, q64, q97, q122, q126, q127, q128, q255, q256, q300, q580, q600, q1000]
theorem s_bh_y {I : zI} {B : Nat → Nat} {S j : Nat} (L : zL) (hB : BT I B S) (h : RF I B S j) (h14 : I 52 14 = nI 0) {c : Nat} (h13 : I 52 13 = nI c) (w : isW (KT B S j) = true) {a : Nat} (ha : a ≤ KT B S j - 12) : ∃ J, zcall zZ nX10_readsBehind [.ref 52, .int (nI a - nI 1)] (hp I L) = some (some (.int (nI (KT B S j - 12))), hp J L) ∧ RF J B S (j + 1) ∧ J 52 13 = nI (c + 1) ∧ FRn I J := by
  obtain ⟨y1, y2⟩ := isW_iff.mp w
  have eW := s_Mwkd L h
  rw [w] at eW
  have e12 := h.2.2.2.2
  unfold kI at e12
  rw [if_pos y2] at e12
  have hlt := jm_le (a := a) (d := KT B S j - 12) (by omega) (by omega)
  rw [eq_true ha] at hlt
  obtain ⟨J, g1, g2, g3, g4⟩ := s_rdW_y L hB h h14 h13 w
  refine ⟨J, ?_, g2, g3, g4⟩
  have e1 : nI (KT B S j) - nI 12 = nI (KT B S j - 12) := q_sub (by omega)
  simp (disch := omega) only [c_X10_readsBehind, e_X10_readsBehind_0, e_X10_readsBehind_30, e_X10_readsBehind_11, e_X10_readsBehind_45, h14, eW, e12, e1, hlt, g1, Option.bind_some, Option.toList_some, Option.toList_none, List.cons_append, List.nil_append, Option.map_some, cond_true, cond_false, Bool.not_true, Bool.not_false, Bool.true_and, Bool.and_true, Bool.false_and, Bool.and_false, Bool.true_or, Bool.or_true, Bool.false_or, Bool.or_false, Bool.not_not, decide_true, decide_false, Bool.decide_eq_true, Bool.decide_eq_false, qz_0, qz_1, qz_n, qz_n0, qz_n1, qz_t, qz_f, Nat.reduceAdd, q1000000, q0, q1, q2, q3, q4, q5, q6, q7, q8, q9, q10, q11, q12, q13, q14, q15, q16, q18, q19, q20, q21, q22, q23, q24, q25, q26, q27, q28, q29, q30, q31, q32, q38, q44, q45, q48, q57, q58, q59, q60, q63, q64, q97, q122, q126, q127, q128, q255, q256, q300, q580, q600, q1000, q_eq_t, q_eq_f]
theorem s_bh_2 {I : zI} {B : Nat → Nat} {S j : Nat} (L : zL) (h : RF I B S j) (h14 : I 52 14 = nI 0) (w : isW (KT B S j) = true) {a : Nat} (ha : KT B S j - 12 < a) (ha2 : a < 100) : ∃ J r, zcall zZ nX10_readsBehind [.ref 52, .int (nI a - nI 1)] (hp I L) = some (some (.int r), hp J L) ∧ FL J 2 (sT B S j) ∧ FRf I J := by
  obtain ⟨y1, y2⟩ := isW_iff.mp w
  have eW := s_Mwkd L h
  rw [w] at eW
  have e12 := h.2.2.2.2
  unfold kI at e12
  rw [if_pos y2] at e12
  have hlt := jm_le (a := a) (d := KT B S j - 12) (by omega) (by omega)
  rw [eq_false (show ¬ a ≤ KT B S j - 12 by omega)] at hlt
  obtain ⟨J, g1, g2, g3⟩ := s_flt L h h14 2
  refine ⟨J, nI 0, ?_, g2, FRf.n g3⟩
  have e1 : nI (KT B S j) - nI 12 = nI (KT B S j - 12) := q_sub (by omega)
  simp (disch := omega) only [c_X10_readsBehind, e_X10_readsBehind_0, e_X10_readsBehind_30, e_X10_readsBehind_11, e_X10_readsBehind_45, h14, eW, e12, e1, hlt, g1, g2.1, Option.bind_some, Option.toList_some, Option.toList_none, List.cons_append, List.nil_append, Option.map_some, cond_true, cond_false, Bool.not_true, Bool.not_false, Bool.true_and, Bool.and_true, Bool.false_and, Bool.and_false, Bool.true_or, Bool.or_true, Bool.false_or, Bool.or_false, Bool.not_not, decide_true, decide_false, Bool.decide_eq_true, Bool.decide_eq_false, qz_0, qz_1, qz_n, qz_n0, qz_n1, qz_t, qz_f, Nat.reduceAdd, q1000000, q0, q1, q2, q3, q4, q5, q6, q7, q8, q9, q10, q11, q12, q13, q14, q15, q16, q18, q19, q20, q21, q22, q23, q24, q25, q26, q27, q28, q29, q30, q31, q32, q38, q44, q45, q48, q57, q58, q59, q60, q63, q64, q97, q122, q126, q127, q128, q255, q256, q300, q580, q600, q1000, q_eq_t, q_eq_f]
theorem s_bh_1 {I : zI} {B : Nat → Nat} {S j : Nat} (L : zL) (h : RF I B S j) (h14 : I 52 14 = nI 0) (w : isW (KT B S j) = false) (x : Int32) : ∃ J r, zcall zZ nX10_readsBehind [.ref 52, .int x] (hp I L) = some (some (.int r), hp J L) ∧ FL J 1 (sT B S j) ∧ FRf I J := by
  have eW := s_Mwkd L h
  rw [w] at eW
  obtain ⟨J, r, g1, g2, g3⟩ := s_rdW_n L h h14 w
  refine ⟨J, r, ?_, g2, g3⟩
  simp (disch := omega) only [c_X10_readsBehind, e_X10_readsBehind_0, e_X10_readsBehind_30, e_X10_readsBehind_11, e_X10_readsBehind_45, h14, eW, g1, Option.bind_some, Option.toList_some, Option.toList_none, List.cons_append, List.nil_append, Option.map_some, cond_true, cond_false, Bool.not_true, Bool.not_false, Bool.true_and, Bool.and_true, Bool.false_and, Bool.and_false, Bool.true_or, Bool.or_true, Bool.false_or, Bool.or_false, Bool.not_not, decide_true, decide_false, Bool.decide_eq_true, Bool.decide_eq_false, qz_0, qz_1, qz_n, qz_n0, qz_n1, qz_t, qz_f, Nat.reduceAdd, q1000000, q0, q1, q2, q3, q4, q5, q6, q7, q8, q9, q10, q11, q12, q13, q14, q15, q16, q18, q19, q20, q21, q22, q23, q24, q25, q26, q27, q28, q29, q30, q31, q32, q38, q44, q45, q48, q57, q58, q59, q60, q63, q64, q97, q122, q126, q127, q128, q255, q256, q300, q580, q600, q1000, q_eq_t, q_eq_f]
theorem rg_step : ∀ d, d < 7 → ∀ e, e < 7 → d ≤ e → 2 ^ d ||| rgP (d + 1) e = rgP d e := by decide
theorem rg_0 : ∀ e, e < 7 → rgP (e + 1) e = 0 := by decide
theorem rb_loop {I : zI} (L : zL) (h14 : I 52 14 = nI 0) {e : Nat} (he : e < 7) : ∀ m d P, d + m = e + 1 → P < 128 → zrun zZ kX10_readsPattern (75, [some (.ref 52), some (.int (nI P)), none, none, some (.int (nI e)), some (.int (nI d))], [], hp I L, 0, 0) = zrun zZ kX10_readsPattern (21, [some (.ref 52), some (.int (nI (P ||| rgP d e))), some (.int (nI e)), none, none, none], [], hp I L, 0, 0)
  | 0, d, P, h, hP => by
    rw [show d = e + 1 by omega, rg_0 e he, Nat.or_zero, e_X10_readsPattern_75]
    simp (disch := omega) only [e_X10_readsPattern_102, Option.bind_some, Option.toList_some, Option.toList_none, List.cons_append, List.nil_append, Option.map_some, cond_true, cond_false, Bool.not_true, Bool.not_false, Bool.true_and, Bool.and_true, Bool.false_and, Bool.and_false, Bool.true_or, Bool.or_true, Bool.false_or, Bool.or_false, Bool.not_not, decide_true, decide_false, Bool.decide_eq_true, Bool.decide_eq_false, qz_0, qz_1, qz_n, qz_n0, qz_n1, qz_t, qz_f, Nat.reduceAdd, q1000000, q0, q1, q2, q3, q4, q5, q6, q7, q8, q9, q10, q11, q12, q13, q14, q15, q16, q18, q19, q20, q21, q22, q23, q24, q25, q26, q27, q28, q29, q30, q31, q32, q38, q44, q45, q48, q57, q58, q59, q60, q63, q64, q97, q122, q126, q127, q128, q255, q256, q300, q580, q600, q1000, nI_add, q_lt_t, q_lt_f, q_eq_t, q_eq_f, q_clamp, q_in_t, q_in_f]
  | m + 1, d, P, h, hP => by
    have r := rgP_lt 0 (by omega) d (by omega)
    have hd : 2 ^ d < 128 := Nat.lt_of_lt_of_le (Nat.pow_lt_pow_right (by decide) (show d < 7 by omega)) (by decide)
    have ih := rb_loop L h14 he m (d + 1) (P ||| 2 ^ d) (by omega) (or_128 hP hd)
    rw [Nat.or_assoc, rg_step d (by omega) e he (by omega)] at ih
    rw [← ih, e_X10_readsPattern_75]
    simp (disch := omega) only [h14, q_shl1, nx_or, Option.bind_some, Option.toList_some, Option.toList_none, List.cons_append, List.nil_append, Option.map_some, cond_true, cond_false, Bool.not_true, Bool.not_false, Bool.true_and, Bool.and_true, Bool.false_and, Bool.and_false, Bool.true_or, Bool.or_true, Bool.false_or, Bool.or_false, Bool.not_not, decide_true, decide_false, Bool.decide_eq_true, Bool.decide_eq_false, qz_0, qz_1, qz_n, qz_n0, qz_n1, qz_t, qz_f, Nat.reduceAdd, q1000000, q0, q1, q2, q3, q4, q5, q6, q7, q8, q9, q10, q11, q12, q13, q14, q15, q16, q18, q19, q20, q21, q22, q23, q24, q25, q26, q27, q28, q29, q30, q31, q32, q38, q44, q45, q48, q57, q58, q59, q60, q63, q64, q97, q122, q126, q127, q128, q255, q256, q300, q580, q600, q1000, nI_add, q_lt_t, q_lt_f, q_eq_t, q_eq_f, q_clamp, q_in_t, q_in_f]
/-- when the fault is set the reader of patterns leaves -/
theorem rp_out {I : zI} (L : zL) (h14 : I 52 14 = nI 1) (x y z : Int32) : zrun zZ kX10_readsPattern (75, [some (.ref 52), some (.int x), none, none, some (.int y), some (.int z)], [], hp I L, 0, 0) = some (some (.int x), hp I L, 0, 0) := by
  rw [e_X10_readsPattern_75]
  by_cases q : y < z
  · simp (disch := omega) only [e_X10_readsPattern_102, q, Option.bind_some, Option.toList_some, Option.toList_none, List.cons_append, List.nil_append, Option.map_some, cond_true, cond_false, Bool.not_true, Bool.not_false, Bool.true_and, Bool.and_true, Bool.false_and, Bool.and_false, Bool.true_or, Bool.or_true, Bool.false_or, Bool.or_false, Bool.not_not, decide_true, decide_false, Bool.decide_eq_true, Bool.decide_eq_false, qz_0, qz_1, qz_n, qz_n0, qz_n1, qz_t, qz_f, Nat.reduceAdd]
    rw [e_X10_readsPattern_21]
    simp (disch := omega) only [e_X10_readsPattern_108, h14, Option.bind_some, Option.toList_some, Option.toList_none, List.cons_append, List.nil_append, Option.map_some, cond_true, cond_false, Bool.not_true, Bool.not_false, Bool.true_and, Bool.and_true, Bool.false_and, Bool.and_false, Bool.true_or, Bool.or_true, Bool.false_or, Bool.or_false, Bool.not_not, decide_true, decide_false, Bool.decide_eq_true, Bool.decide_eq_false, qz_0, qz_1, qz_n, qz_n0, qz_n1, qz_t, qz_f, Nat.reduceAdd, q1000000, q0, q1, q2, q3, q4, q5, q6, q7, q8, q9, q10, q11, q12, q13, q14, q15, q16, q18, q19, q20, q21, q22, q23, q24, q25, q26, q27, q28, q29, q30, q31, q32, q38, q44, q45, q48, q57, q58, q59, q60, q63, q64, q97, q122, q126, q127, q128, q255, q256, q300, q580, q600, q1000, nI_add, q_lt_t, q_lt_f, q_eq_t, q_eq_f, q_clamp, q_in_t, q_in_f]
  · simp (disch := omega) only [e_X10_readsPattern_102, q, h14, Option.bind_some, Option.toList_some, Option.toList_none, List.cons_append, List.nil_append, Option.map_some, cond_true, cond_false, Bool.not_true, Bool.not_false, Bool.true_and, Bool.and_true, Bool.false_and, Bool.and_false, Bool.true_or, Bool.or_true, Bool.false_or, Bool.or_false, Bool.not_not, decide_true, decide_false, Bool.decide_eq_true, Bool.decide_eq_false, qz_0, qz_1, qz_n, qz_n0, qz_n1, qz_t, qz_f, Nat.reduceAdd, q1000000, q0, q1, q2, q3, q4, q5, q6, q7, q8, q9, q10, q11, q12, q13, q14, q15, q16, q18, q19, q20, q21, q22, q23, q24, q25, q26, q27, q28, q29, q30, q31, q32, q38, q44, q45, q48, q57, q58, q59, q60, q63, q64, q97, q122, q126, q127, q128, q255, q256, q300, q580, q600, q1000, nI_add, q_lt_t, q_lt_f, q_eq_t, q_eq_f, q_clamp, q_in_t, q_in_f]
    rw [e_X10_readsPattern_21]
    simp (disch := omega) only [e_X10_readsPattern_108, h14, Option.bind_some, Option.toList_some, Option.toList_none, List.cons_append, List.nil_append, Option.map_some, cond_true, cond_false, Bool.not_true, Bool.not_false, Bool.true_and, Bool.and_true, Bool.false_and, Bool.and_false, Bool.true_or, Bool.or_true, Bool.false_or, Bool.or_false, Bool.not_not, decide_true, decide_false, Bool.decide_eq_true, Bool.decide_eq_false, qz_0, qz_1, qz_n, qz_n0, qz_n1, qz_t, qz_f, Nat.reduceAdd, q1000000, q0, q1, q2, q3, q4, q5, q6, q7, q8, q9, q10, q11, q12, q13, q14, q15, q16, q18, q19, q20, q21, q22, q23, q24, q25, q26, q27, q28, q29, q30, q31, q32, q38, q44, q45, q48, q57, q58, q59, q60, q63, q64, q97, q122, q126, q127, q128, q255, q256, q300, q580, q600, q1000, nI_add, q_lt_t, q_lt_f, q_eq_t, q_eq_f, q_clamp, q_in_t, q_in_f]
