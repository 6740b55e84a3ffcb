/-! entries of the reference -/
theorem kx_kw {ws : List Nat} : ∀ m k, k + m = 19 → kx ws m k < 19 → kw (kx ws m k) = ws
  | 0, k, _, h => by
    have h : 19 < 19 := h
    omega
  | m + 1, k, hk, h => by
    unfold kx at h ⊢
    by_cases z : kw k = ws
    · rw [if_pos z]
      exact z
    · rw [if_neg z] at h ⊢
      exact kx_kw m (k + 1) (by omega) h
/-- no feast is named by a word of the lexicon -/
def NK (F : Nat) (nm : Nat → List Nat) : Prop := ∀ f, f < F → kx (nm f) 19 0 = 19
theorem fx_nm {nm : Nat → List Nat} {ws : List Nat} : ∀ m f g, fx nm ws m f = some g → nm g = ws
  | 0, f, g, h => by cases h
  | m + 1, f, g, h => by
    unfold fx at h
    by_cases z : nm f = ws
    · rw [if_pos z] at h
      cases h
      exact z
    · rw [if_neg z] at h
      exact fx_nm m (f + 1) g h
theorem fi_ok {B : Nat → Nat} {S F : Nat} {nm : Nat → List Nat} (hK : NK F nm) {j : Nat} (h : KT B S j ≤ 19) : fx nm (wN B S j) F 0 = fiT B S F nm j := by
  unfold fiT
  by_cases z : KT B S j = 19
  · rw [if_pos z]
  · rw [if_neg z]
    cases hf : fx nm (wN B S j) F 0 with
    | none => rfl
    | some f =>
      have e := fx_nm F 0 f hf
      have hl := fx_lt F 0 f hf
      have h19 := hK f (by omega)
      rw [e] at h19
      have hs : sT B S j ≠ S := fun q => by
        rw [KT_24.mpr q] at h
        omega
      unfold KT at h z
      rw [if_neg hs] at h z
      by_cases y : kb (B (sT B S j)) = 19
      · rw [if_pos y] at z
        exact absurd h19 z
      · rw [if_neg y] at h
        have := kb_all (B (sT B S j))
        omega
def VEn (I : zI) (L : zL) (B : Nat → Nat) (S c j : Nat) (r : (Nat × Nat) ⊕ (Nat × Int32)) (x : Option (Option Value × zH)) : Prop := match r with
  | .inl (e, jf) => ∃ J v, x = some (some (.int v), hp J L) ∧ FL J e (sT B S jf) ∧ FRf I J
  | .inr (j', M') => (∃ J, x = some (some (.int M'), hp J L) ∧ j ≤ j' ∧ RF J B S j' ∧ J 52 13 = nI (c + (j' - j)) ∧ FRn I J) ∨ ((KT B S j' ≤ 19 ∧ KT B S j' ≠ 11) ∧ ∃ J v, x = some (some (.int v), hp J L) ∧ FL J 1 (sT B S j') ∧ FRf I J)
theorem VEn.cg {I I' : zI} {L : zL} {B : Nat → Nat} {S c j k : Nat} {r : (Nat × Nat) ⊕ (Nat × Int32)} {x : Option (Option Value × zH)} (h : VEn I' L B S (c + k) (j + k) r x) (hc : FRn I I') : VEn I L B S c j r x := by
  match r, h with
  | .inl (e, jf), ⟨J, v, h1, h2, h3⟩ => exact ⟨J, v, h1, h2, hc.f.trans h3⟩
  | .inr (j', P'), .inl ⟨J, h1, h2, h3, h4, h5⟩ => exact Or.inl ⟨J, h1, by omega, h3, by rw [h4]; congr 1; omega, hc.trans h5⟩
  | .inr (j', P'), .inr ⟨h0, J, v, h1, h2, h3⟩ => exact Or.inr ⟨h0, J, v, h1, h2, hc.f.trans h3⟩
theorem en_out {I : zI} (L : zL) (h14 : I 52 14 = nI 1) (x1 x2 x3 : Int32) : zrun zZ kX10_readsEntries (141, [some (.ref 52), some (.int x1), some (.int x2), some (.int x3), none, none, none], [], hp I L, 0, 0) = some (some (.int (x1 ||| x3)), hp I L, 0, 0) := by
  simp (disch := omega) only [e_X10_readsEntries_141, e_X10_readsEntries_177, e_X10_readsEntries_178, h14, Option.bind_some, Option.toList_some, Option.toList_none, List.cons_append, List.nil_append, Option.map_some, cond_true, cond_false, Bool.not_true, Bool.not_false, Bool.true_and, Bool.and_true, Bool.false_and, Bool.and_false, Bool.true_or, Bool.or_true, Bool.false_or, Bool.or_false, Bool.not_not, decide_true, decide_false, Bool.decide_eq_true, Bool.decide_eq_false, qz_0, qz_1, qz_n, qz_n0, qz_n1, qz_t, qz_f, Nat.reduceAdd, q1000000, q0, q1, q2, q3, q4, q5, q6, q7, q8, q9, q10, q11, q12, q13, q14, q15, q16, q18, q19, q20, q21, q22, q23, q24, q25, q26, q27, q28, q29, q30, q31, q32, q38, q44, q45, q48, q57, q58, q59, q60, q63, q64, q97, q122, q126, q127, q128, q255, q256, q300, q580, q600, q1000, nI_add, q_lt_t, q_lt_f, q_eq_t, q_eq_f, q_clamp, q_in_t, q_in_f]
  rw [e_X10_readsEntries_20]
  simp (disch := omega) only [Option.bind_some, Option.toList_some, Option.toList_none, List.cons_append, List.nil_append, Option.map_some, cond_true, cond_false, Bool.not_true, Bool.not_false, Bool.true_and, Bool.and_true, Bool.false_and, Bool.and_false, Bool.true_or, Bool.or_true, Bool.false_or, Bool.or_false, Bool.not_not, decide_true, decide_false, Bool.decide_eq_true, Bool.decide_eq_false, qz_0, qz_1, qz_n, qz_n0, qz_n1, qz_t, qz_f, Nat.reduceAdd, q1000000, q0, q1, q2, q3, q4, q5, q6, q7, q8, q9, q10, q11, q12, q13, q14, q15, q16, q18, q19, q20, q21, q22, q23, q24, q25, q26, q27, q28, q29, q30, q31, q32, q38, q44, q45, q48, q57, q58, q59, q60, q63, q64, q97, q122, q126, q127, q128, q255, q256, q300, q580, q600, q1000, nI_add, q_lt_t, q_lt_f, q_eq_t, q_eq_f, q_clamp, q_in_t, q_in_f]
theorem en_out66 {I : zI} (L : zL) (h14 : I 52 14 = nI 1) (x1 x2 x3 x5 : Int32) : zrun zZ kX10_readsEntries (66, [some (.ref 52), some (.int x1), some (.int x2), some (.int x3), none, some (.int x5), none], [], hp I L, 0, 0) = some (some (.int (x1 ||| (x3 ||| nI 0))), hp I L, 0, 0) := by
  have hn := s_need1 L h14 true
  rw [qz_t] at hn
  simp (disch := omega) only [e_X10_readsEntries_66, e_X10_readsEntries_71, e_X10_readsEntries_87, e_X10_readsEntries_111, en_out L h14, h14, hn, Option.bind_some, Option.toList_some, Option.toList_none, List.cons_append, List.nil_append, Option.map_some, cond_true, cond_false, Bool.not_true, Bool.not_false, Bool.true_and, Bool.and_true, Bool.false_and, Bool.and_false, Bool.true_or, Bool.or_true, Bool.false_or, Bool.or_false, Bool.not_not, decide_true, decide_false, Bool.decide_eq_true, Bool.decide_eq_false, qz_0, qz_1, qz_n, qz_n0, qz_n1, qz_t, qz_f, Nat.reduceAdd, q1000000, q0, q1, q2, q3, q4, q5, q6, q7, q8, q9, q10, q11, q12, q13, q14, q15, q16, q18, q19, q20, q21, q22, q23, q24, q25, q26, q27, q28, q29, q30, q31, q32, q38, q44, q45, q48, q57, q58, q59, q60, q63, q64, q97, q122, q126, q127, q128, q255, q256, q300, q580, q600, q1000, nI_add, q_lt_t, q_lt_f, q_eq_t, q_eq_f, q_clamp, q_in_t, q_in_f]
/-- a day among entries: reference -/
theorem s_rdDay {I : zI} {B : Nat → Nat} {S j N : Nat} (L : zL) (hB : BT I B S) (h : RF I B S j) (h14 : I 52 14 = nI 0) {c : Nat} (h13 : I 52 13 = nI c) (h0 : I 53 0 = nI N) (hN : 1 ≤ N ∧ N ≤ 28) (ds : Int32) : (∃ e J r, (KT B S j = 20 → ((nuR (KT B S) (vN B S) 0 (N - 1) j = .inl (e, j)) ∨ (nuR (KT B S) (vN B S) 0 (N - 1) j = .inr (j + 1, vN B S j) ∧ bt ds (vN B S j) = true ∧ e = 2))) ∧ (KT B S j ≠ 20 → e = 1) ∧ zcall zZ nX10_readsDay [.ref 52, .int ds] (hp I L) = some (some (.int r), hp J L) ∧ FL J e (sT B S j) ∧ FRf I J) ∨ (KT B S j = 20 ∧ nuR (KT B S) (vN B S) 0 (N - 1) j = .inr (j + 1, vN B S j) ∧ vN B S j < N ∧ bt ds (vN B S j) = false ∧ ∃ J, zcall zZ nX10_readsDay [.ref 52, .int ds] (hp I L) = some (some (.int (nI (vN B S j))), hp J L) ∧ RF J B S (j + 1) ∧ J 52 13 = nI (c + 1) ∧ FRn I J) := by
  have hk := KT_le B S j
  have ht := tyT_lt (KT B S j)
  have e10 := h.2.2.1
  have e11 := h.2.2.2.1
  have hsub : nI N - nI 1 = nI (N - 1) := q_sub (by omega)
  have hrd := s_rd L hB h h14 h13 (a := 0) (b := N - 1) (by omega) (by omega)
  by_cases z : KT B S j = 20
  · rw [if_pos z] at e11
    rw [(tyT_2 hk).mpr z] at e10
    rcases hrd with ⟨e, u1, J, r, u2, u3, u4⟩ | ⟨u1, ⟨u2, u3⟩, J, u4, u5, u6, u7⟩
    · have hv : N ≤ vN B S j := by
        unfold nuR at u1
        rw [if_pos z] at u1
        by_cases q : vN B S j < 0 ∨ N - 1 < vN B S j
        · omega
        · rw [if_neg q] at u1
          cases u1
      refine Or.inl ⟨e, J, r, fun _ => Or.inl u1, fun q => absurd z q, ?_, u3, u4⟩
      simp (disch := omega) only [c_X10_readsDay, e_X10_readsDay_0, e_X10_readsDay_37, e_X10_readsDay_29, e_X10_readsDay_61, e10, e11, h0, h14, hsub, u2, Option.bind_some, Option.toList_some, Option.toList_none, List.cons_append, List.nil_append, Option.map_some, cond_true, cond_false, Bool.not_true, Bool.not_false, Bool.true_and, Bool.and_true, Bool.false_and, Bool.and_false, Bool.true_or, Bool.or_true, Bool.false_or, Bool.or_false, Bool.not_not, decide_true, decide_false, Bool.decide_eq_true, Bool.decide_eq_false, qz_0, qz_1, qz_n, qz_n0, qz_n1, qz_t, qz_f, Nat.reduceAdd, q1000000, q0, q1, q2, q3, q4, q5, q6, q7, q8, q9, q10, q11, q12, q13, q14, q15, q16, q18, q19, q20, q21, q22, q23, q24, q25, q26, q27, q28, q29, q30, q31, q32, q38, q44, q45, q48, q57, q58, q59, q60, q63, q64, q97, q122, q126, q127, q128, q255, q256, q300, q580, q600, q1000, nI_add, q_lt_t, q_lt_f, q_eq_t, q_eq_f, q_clamp, q_in_t, q_in_f]
    · have em : min 99999 (vN B S j) = vN B S j := by omega
      rw [em] at e11
      have hh := s_has (hp I L) ds (k := vN B S j) (by omega)
      cases y : bt ds (vN B S j) with
      | true =>
        rw [y] at hh
        obtain ⟨J1, f1, f2, f3⟩ := s_flt L h h14 2
        refine Or.inl ⟨2, J1, nI 0, fun _ => Or.inr ⟨u1, rfl, rfl⟩, fun q => absurd z q, ?_, f2, FRf.n f3⟩
        simp (disch := omega) only [c_X10_readsDay, e_X10_readsDay_0, e_X10_readsDay_37, e_X10_readsDay_29, e_X10_readsDay_61, e10, e11, h0, hh, f1, f2.1, Option.bind_some, Option.toList_some, Option.toList_none, List.cons_append, List.nil_append, Option.map_some, cond_true, cond_false, Bool.not_true, Bool.not_false, Bool.true_and, Bool.and_true, Bool.false_and, Bool.and_false, Bool.true_or, Bool.or_true, Bool.false_or, Bool.or_false, Bool.not_not, decide_true, decide_false, Bool.decide_eq_true, Bool.decide_eq_false, qz_0, qz_1, qz_n, qz_n0, qz_n1, qz_t, qz_f, Nat.reduceAdd, q1000000, q0, q1, q2, q3, q4, q5, q6, q7, q8, q9, q10, q11, q12, q13, q14, q15, q16, q18, q19, q20, q21, q22, q23, q24, q25, q26, q27, q28, q29, q30, q31, q32, q38, q44, q45, q48, q57, q58, q59, q60, q63, q64, q97, q122, q126, q127, q128, q255, q256, q300, q580, q600, q1000, nI_add, q_lt_t, q_lt_f, q_eq_t, q_eq_f, q_clamp, q_in_t, q_in_f]
      | false =>
        rw [y] at hh
        refine Or.inr ⟨z, u1, by omega, rfl, J, ?_, u5, u6, u7⟩
        simp (disch := omega) only [c_X10_readsDay, e_X10_readsDay_0, e_X10_readsDay_37, e_X10_readsDay_29, e_X10_readsDay_61, e10, e11, h0, hh, h14, hsub, u4, Option.bind_some, Option.toList_some, Option.toList_none, List.cons_append, List.nil_append, Option.map_some, cond_true, cond_false, Bool.not_true, Bool.not_false, Bool.true_and, Bool.and_true, Bool.false_and, Bool.and_false, Bool.true_or, Bool.or_true, Bool.false_or, Bool.or_false, Bool.not_not, decide_true, decide_false, Bool.decide_eq_true, Bool.decide_eq_false, qz_0, qz_1, qz_n, qz_n0, qz_n1, qz_t, qz_f, Nat.reduceAdd, q1000000, q0, q1, q2, q3, q4, q5, q6, q7, q8, q9, q10, q11, q12, q13, q14, q15, q16, q18, q19, q20, q21, q22, q23, q24, q25, q26, q27, q28, q29, q30, q31, q32, q38, q44, q45, q48, q57, q58, q59, q60, q63, q64, q97, q122, q126, q127, q128, q255, q256, q300, q580, q600, q1000, nI_add, q_lt_t, q_lt_f, q_eq_t, q_eq_f, q_clamp, q_in_t, q_in_f]
  · have n2 : tyT (KT B S j) ≠ 2 := fun q => z ((tyT_2 hk).mp q)
    obtain ⟨J, r, g1, g2, g3⟩ := s_rd_n L h h14 (a := 0) (b := N - 1) (by omega) (by omega) (Or.inl z)
    rw [if_neg z] at g2
    refine Or.inl ⟨1, J, r, fun q => absurd q z, fun _ => rfl, ?_, g2, g3⟩
    simp (disch := omega) only [c_X10_readsDay, e_X10_readsDay_0, e_X10_readsDay_37, e_X10_readsDay_29, e_X10_readsDay_61, e10, h0, h14, hsub, g1, Option.bind_some, Option.toList_some, Option.toList_none, List.cons_append, List.nil_append, Option.map_some, cond_true, cond_false, Bool.not_true, Bool.not_false, Bool.true_and, Bool.and_true, Bool.false_and, Bool.and_false, Bool.true_or, Bool.or_true, Bool.false_or, Bool.or_false, Bool.not_not, decide_true, decide_false, Bool.decide_eq_true, Bool.decide_eq_false, qz_0, qz_1, qz_n, qz_n0, qz_n1, qz_t, qz_f, Nat.reduceAdd, q1000000, q0, q1, q2, q3, q4, q5, q6, q7, q8, q9, q10, q11, q12, q13, q14, q15, q16, q18, q19, q20, q21, q22, q23, q24, q25, q26, q27, q28, q29, q30, q31, q32, q38, q44, q45, q48, q57, q58, q59, q60, q63, q64, q97, q122, q126, q127, q128, q255, q256, q300, q580, q600, q1000, nI_add, q_lt_t, q_lt_f, q_eq_t, q_eq_f, q_clamp, q_in_t, q_in_f]
