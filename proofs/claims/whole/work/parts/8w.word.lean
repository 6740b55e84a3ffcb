/-! wordings: reference -/
def DR (I : zI) (N w F : Nat) (nm : Nat → List Nat) (fd : Nat → Int32) : Prop := I 53 0 = nI N ∧ I 53 1 = nI w ∧ I 53 2 = nI F ∧ NMr I F nm ∧ ∀ f, f < F → I 53 (6 + f) = fd f
theorem DR.cg {I J : zI} {N w F : Nat} {nm : Nat → List Nat} {fd : Nat → Int32} (h : DR I N w F nm fd) (hc : ∀ y, J 53 y = I 53 y) : DR J N w F nm fd := ⟨(hc _).trans h.1, (hc _).trans h.2.1, (hc _).trans h.2.2.1, fun f hf => by
  obtain ⟨a1, a2, a3⟩ := h.2.2.2.1 f hf
  exact ⟨a1, (hc _).trans a2, fun i hi => ⟨(a3 i hi).1, (hc _).trans (a3 i hi).2⟩⟩, fun f hf => (hc _).trans (h.2.2.2.2 f hf)⟩
theorem DR.fn {I J : zI} {N w F : Nat} {nm : Nat → List Nat} {fd : Nat → Int32} (h : DR I N w F nm fd) (hc : FRn I J) : DR J N w F nm fd := h.cg (fun y => hc _ _ (by omega))
def VWo (I : zI) (L : zL) (B : Nat → Nat) (S c j : Nat) (r : (Nat × Nat) ⊕ (Nat × Int32)) (x : Option (Option Value × zH)) : Prop := match r with
  | .inl (e, jf) => ∃ J v, x = some (some (.int v), hp J L) ∧ FL J e (sT B S jf) ∧ FRf I J
  | .inr (j', M') => (∃ J, x = some (some (.int M'), hp J L) ∧ j ≤ j' ∧ RF J B S j' ∧ J 52 13 = nI (c + (j' - j)) ∧ FRn I J) ∨ (KT B S j' ≤ 19 ∧ ∃ J v, x = some (some (.int v), hp J L) ∧ FL J 1 (sT B S j') ∧ FRf I J)
theorem VWo.cg {I I' : zI} {L : zL} {B : Nat → Nat} {S c j k : Nat} {r : (Nat × Nat) ⊕ (Nat × Int32)} {x : Option (Option Value × zH)} (h : VWo I' L B S (c + k) (j + k) r x) (hc : FRn I I') : VWo I L B S c j r x := by
  match r, h with
  | .inl (e, jf), ⟨J, v, h1, h2, h3⟩ => exact ⟨J, v, h1, h2, hc.f.trans h3⟩
  | .inr (j', P'), .inl ⟨J, h1, h2, h3, h4, h5⟩ => exact Or.inl ⟨J, h1, by omega, h3, by rw [h4]; congr 1; omega, hc.trans h5⟩
  | .inr (j', P'), .inr ⟨h0, J, v, h1, h2, h3⟩ => exact Or.inr ⟨h0, J, v, h1, h2, hc.f.trans h3⟩
theorem wo_out92 {I : zI} (L : zL) (h14 : I 52 14 = nI 1) (x1 : Int32) : zrun zZ kX10_readsWording (92, [some (.ref 52), some (.int x1)], [], hp I L, 0, 0) = some (some (.int x1), hp I L, 0, 0) := by
  simp (disch := omega) only [e_X10_readsWording_92, e_X10_readsWording_120, h14, Option.bind_some, Option.toList_some, Option.toList_none, List.cons_append, List.nil_append, Option.map_some, cond_true, cond_false, Bool.not_true, Bool.not_false, Bool.true_and, Bool.and_true, Bool.false_and, Bool.and_false, Bool.true_or, Bool.or_true, Bool.false_or, Bool.or_false, Bool.not_not, decide_true, decide_false, Bool.decide_eq_true, Bool.decide_eq_false, qz_0, qz_1, qz_n, qz_n0, qz_n1, qz_t, qz_f, Nat.reduceAdd, q1000000, q0, q1, q2, q3, q4, q5, q6, q7, q8, q9, q10, q11, q12, q13, q14, q15, q16, q18, q19, q20, q21, q22, q23, q24, q25, q26, q27, q28, q29, q30, q31, q32, q38, q44, q45, q48, q57, q58, q59, q60, q63, q64, q97, q122, q126, q127, q128, q255, q256, q300, q580, q600, q1000, nI_add, q_lt_t, q_lt_f, q_eq_t, q_eq_f, q_clamp, q_in_t, q_in_f]
theorem wo_out61 {I : zI} (L : zL) (h14 : I 52 14 = nI 1) (x1 : Int32) : zrun zZ kX10_readsWording (61, [some (.ref 52), none], [.int x1], hp I L, 0, 0) = some (some (.int x1), hp I L, 0, 0) := by
  simp (disch := omega) only [e_X10_readsWording_61, wo_out92 L h14, h14, Option.bind_some, Option.toList_some, Option.toList_none, List.cons_append, List.nil_append, Option.map_some, cond_true, cond_false, Bool.not_true, Bool.not_false, Bool.true_and, Bool.and_true, Bool.false_and, Bool.and_false, Bool.true_or, Bool.or_true, Bool.false_or, Bool.or_false, Bool.not_not, decide_true, decide_false, Bool.decide_eq_true, Bool.decide_eq_false, qz_0, qz_1, qz_n, qz_n0, qz_n1, qz_t, qz_f, Nat.reduceAdd, q1000000, q0, q1, q2, q3, q4, q5, q6, q7, q8, q9, q10, q11, q12, q13, q14, q15, q16, q18, q19, q20, q21, q22, q23, q24, q25, q26, q27, q28, q29, q30, q31, q32, q38, q44, q45, q48, q57, q58, q59, q60, q63, q64, q97, q122, q126, q127, q128, q255, q256, q300, q580, q600, q1000, nI_add, q_lt_t, q_lt_f, q_eq_t, q_eq_f, q_clamp, q_in_t, q_in_f]
theorem vw_al {I : zI} {L : zL} {B : Nat → Nat} {S N w F j c : Nat} (hN : 1 ≤ N ∧ N ≤ 28) (hF : F ≤ 2) {nm : Nat → List Nat} (hK : NK F nm) {fd : Nat → Int32} (hB : BT I B S) (h : RF I B S j) (h14 : I 52 14 = nI 0) (h13 : I 52 13 = nI c) (hD : DR I N w F nm fd) (M : Int32) : VWo I L B S c j (alR (KT B S) (vN B S) (fiT B S F nm) N fd j M) ((zrun zZ kX10_readsWording (92, [some (.ref 52), some (.int M)], [], hp I L, 0, 0)).map (fun r => (r.1, r.2.1))) := by
  have hk := KT_le B S j
  have e12 := h.2.2.2.2
  have k11 := kI_eq (k := KT B S j) (t := 11) (by omega)
  unfold alR
  by_cases z : KT B S j = 11
  · rw [if_pos z]
    rw [eq_true z] at k11
    obtain ⟨I2, f1, f2, f3, f4⟩ := s_need_y L hB h h14 h13
    have hD2 := hD.fn f4
    have he := s_readsEntries (L := L) hN hF hK (fd := fd) (hB.ff f4.f) f2 ((f4 _ _ (by omega)).trans h14) f3 hD2.1 hD2.2.2.1 hD2.2.2.2.1 hD2.2.2.2.2
    match her : enF' (KT B S) (vN B S) (fiT B S F nm) N fd 31 (j + 1) 0 (nI 0) (nI 0) false, he with
    | .inl (e, jf), ⟨J, v, x1, x2, x3⟩ =>
      refine ⟨J, M ||| v, ?_, x2, f4.f.trans x3⟩
      simp (disch := omega) only [e_X10_readsWording_92, e_X10_readsWording_113, e_X10_readsWording_118, e_X10_readsWording_120, h14, e12, k11, f1, x1, Option.bind_some, Option.toList_some, Option.toList_none, List.cons_append, List.nil_append, Option.map_some, cond_true, cond_false, Bool.not_true, Bool.not_false, Bool.true_and, Bool.and_true, Bool.false_and, Bool.and_false, Bool.true_or, Bool.or_true, Bool.false_or, Bool.or_false, Bool.not_not, decide_true, decide_false, Bool.decide_eq_true, Bool.decide_eq_false, qz_0, qz_1, qz_n, qz_n0, qz_n1, qz_t, qz_f, Nat.reduceAdd, q1000000, q0, q1, q2, q3, q4, q5, q6, q7, q8, q9, q10, q11, q12, q13, q14, q15, q16, q18, q19, q20, q21, q22, q23, q24, q25, q26, q27, q28, q29, q30, q31, q32, q38, q44, q45, q48, q57, q58, q59, q60, q63, q64, q97, q122, q126, q127, q128, q255, q256, q300, q580, q600, q1000, nI_add, q_lt_t, q_lt_f, q_eq_t, q_eq_f, q_clamp, q_in_t, q_in_f]
    | .inr (j', R), .inl ⟨J, x1, x2, x3, x4, x5⟩ =>
      refine Or.inl ⟨J, ?_, by omega, x3, by rw [x4]; congr 1; omega, f4.trans x5⟩
      simp (disch := omega) only [e_X10_readsWording_92, e_X10_readsWording_113, e_X10_readsWording_118, e_X10_readsWording_120, h14, e12, k11, f1, x1, Option.bind_some, Option.toList_some, Option.toList_none, List.cons_append, List.nil_append, Option.map_some, cond_true, cond_false, Bool.not_true, Bool.not_false, Bool.true_and, Bool.and_true, Bool.false_and, Bool.and_false, Bool.true_or, Bool.or_true, Bool.false_or, Bool.or_false, Bool.not_not, decide_true, decide_false, Bool.decide_eq_true, Bool.decide_eq_false, qz_0, qz_1, qz_n, qz_n0, qz_n1, qz_t, qz_f, Nat.reduceAdd, q1000000, q0, q1, q2, q3, q4, q5, q6, q7, q8, q9, q10, q11, q12, q13, q14, q15, q16, q18, q19, q20, q21, q22, q23, q24, q25, q26, q27, q28, q29, q30, q31, q32, q38, q44, q45, q48, q57, q58, q59, q60, q63, q64, q97, q122, q126, q127, q128, q255, q256, q300, q580, q600, q1000, nI_add, q_lt_t, q_lt_f, q_eq_t, q_eq_f, q_clamp, q_in_t, q_in_f]
    | .inr (j', R), .inr ⟨hq, J, v, x1, x2, x3⟩ =>
      refine Or.inr ⟨hq.1, J, M ||| v, ?_, x2, f4.f.trans x3⟩
      simp (disch := omega) only [e_X10_readsWording_92, e_X10_readsWording_113, e_X10_readsWording_118, e_X10_readsWording_120, h14, e12, k11, f1, x1, Option.bind_some, Option.toList_some, Option.toList_none, List.cons_append, List.nil_append, Option.map_some, cond_true, cond_false, Bool.not_true, Bool.not_false, Bool.true_and, Bool.and_true, Bool.false_and, Bool.and_false, Bool.true_or, Bool.or_true, Bool.false_or, Bool.or_false, Bool.not_not, decide_true, decide_false, Bool.decide_eq_true, Bool.decide_eq_false, qz_0, qz_1, qz_n, qz_n0, qz_n1, qz_t, qz_f, Nat.reduceAdd, q1000000, q0, q1, q2, q3, q4, q5, q6, q7, q8, q9, q10, q11, q12, q13, q14, q15, q16, q18, q19, q20, q21, q22, q23, q24, q25, q26, q27, q28, q29, q30, q31, q32, q38, q44, q45, q48, q57, q58, q59, q60, q63, q64, q97, q122, q126, q127, q128, q255, q256, q300, q580, q600, q1000, nI_add, q_lt_t, q_lt_f, q_eq_t, q_eq_f, q_clamp, q_in_t, q_in_f]
  · rw [if_neg z]
    rw [eq_false z] at k11
    refine Or.inl ⟨I, ?_, Nat.le_refl j, h, by rw [Nat.sub_self]; exact h13, fun _ _ _ => rfl⟩
    simp (disch := omega) only [e_X10_readsWording_92, e_X10_readsWording_120, h14, e12, k11, Option.bind_some, Option.toList_some, Option.toList_none, List.cons_append, List.nil_append, Option.map_some, cond_true, cond_false, Bool.not_true, Bool.not_false, Bool.true_and, Bool.and_true, Bool.false_and, Bool.and_false, Bool.true_or, Bool.or_true, Bool.false_or, Bool.or_false, Bool.not_not, decide_true, decide_false, Bool.decide_eq_true, Bool.decide_eq_false, qz_0, qz_1, qz_n, qz_n0, qz_n1, qz_t, qz_f, Nat.reduceAdd, q1000000, q0, q1, q2, q3, q4, q5, q6, q7, q8, q9, q10, q11, q12, q13, q14, q15, q16, q18, q19, q20, q21, q22, q23, q24, q25, q26, q27, q28, q29, q30, q31, q32, q38, q44, q45, q48, q57, q58, q59, q60, q63, q64, q97, q122, q126, q127, q128, q255, q256, q300, q580, q600, q1000, nI_add, q_lt_t, q_lt_f, q_eq_t, q_eq_f, q_clamp, q_in_t, q_in_f]
theorem vw_ex {I : zI} {L : zL} {B : Nat → Nat} {S N w F j c : Nat} (hN : 1 ≤ N ∧ N ≤ 28) (hF : F ≤ 2) {nm : Nat → List Nat} (hK : NK F nm) {fd : Nat → Int32} (hB : BT I B S) (h : RF I B S j) (h14 : I 52 14 = nI 0) (h13 : I 52 13 = nI c) (hD : DR I N w F nm fd) (M : Int32) : VWo I L B S c j (exR (KT B S) (vN B S) (fiT B S F nm) N fd j M) ((zrun zZ kX10_readsWording (61, [some (.ref 52), none], [.int M], hp I L, 0, 0)).map (fun r => (r.1, r.2.1))) := by
  have hk := KT_le B S j
  have e12 := h.2.2.2.2
  have k10 := kI_eq (k := KT B S j) (t := 10) (by omega)
  unfold exR noR
  by_cases z : KT B S j = 10
  · rw [if_pos z]
    rw [eq_true z] at k10
    obtain ⟨I2, f1, f2, f3, f4⟩ := s_need_y L hB h h14 h13
    have hD2 := hD.fn f4
    have he := s_readsEntries (L := L) hN hF hK (fd := fd) (hB.ff f4.f) f2 ((f4 _ _ (by omega)).trans h14) f3 hD2.1 hD2.2.2.1 hD2.2.2.2.1 hD2.2.2.2.2
    match her : enF' (KT B S) (vN B S) (fiT B S F nm) N fd 31 (j + 1) 0 (nI 0) (nI 0) false, he with
    | .inl (e, jf), ⟨J, v, x1, x2, x3⟩ =>
      refine ⟨J, M &&& (v ^^^ -nI 1), ?_, x2, f4.f.trans x3⟩
      simp (disch := omega) only [e_X10_readsWording_61, e_X10_readsWording_83, e_X10_readsWording_88, wo_out92 L x2.1, h14, e12, k10, f1, x1, Option.bind_some, Option.toList_some, Option.toList_none, List.cons_append, List.nil_append, Option.map_some, cond_true, cond_false, Bool.not_true, Bool.not_false, Bool.true_and, Bool.and_true, Bool.false_and, Bool.and_false, Bool.true_or, Bool.or_true, Bool.false_or, Bool.or_false, Bool.not_not, decide_true, decide_false, Bool.decide_eq_true, Bool.decide_eq_false, qz_0, qz_1, qz_n, qz_n0, qz_n1, qz_t, qz_f, Nat.reduceAdd, q1000000, q0, q1, q2, q3, q4, q5, q6, q7, q8, q9, q10, q11, q12, q13, q14, q15, q16, q18, q19, q20, q21, q22, q23, q24, q25, q26, q27, q28, q29, q30, q31, q32, q38, q44, q45, q48, q57, q58, q59, q60, q63, q64, q97, q122, q126, q127, q128, q255, q256, q300, q580, q600, q1000, nI_add, q_lt_t, q_lt_f, q_eq_t, q_eq_f, q_clamp, q_in_t, q_in_f]
    | .inr (j', R), .inl ⟨J, x1, x2, x3, x4, x5⟩ =>
      have fJ := f4.trans x5
      have ha := vw_al (L := L) hN hF hK (hB.ff fJ.f) x3 ((fJ _ _ (by omega)).trans h14) x4 (hD.fn fJ) (M &&& (R ^^^ -nI 1))
      have ha := VWo.cg (I := I) (j := j) (c := c) (k := j' - j) (by rw [show c + (j' - j) = c + 1 + (j' - (j + 1)) by omega, show j + (j' - j) = j' by omega]; exact ha) fJ
      refine Eq.mp ?_ ha
      congr 1
      symm
      simp (disch := omega) only [e_X10_readsWording_61, e_X10_readsWording_83, e_X10_readsWording_88, h14, e12, k10, f1, x1, Option.bind_some, Option.toList_some, Option.toList_none, List.cons_append, List.nil_append, Option.map_some, cond_true, cond_false, Bool.not_true, Bool.not_false, Bool.true_and, Bool.and_true, Bool.false_and, Bool.and_false, Bool.true_or, Bool.or_true, Bool.false_or, Bool.or_false, Bool.not_not, decide_true, decide_false, Bool.decide_eq_true, Bool.decide_eq_false, qz_0, qz_1, qz_n, qz_n0, qz_n1, qz_t, qz_f, Nat.reduceAdd, q1000000, q0, q1, q2, q3, q4, q5, q6, q7, q8, q9, q10, q11, q12, q13, q14, q15, q16, q18, q19, q20, q21, q22, q23, q24, q25, q26, q27, q28, q29, q30, q31, q32, q38, q44, q45, q48, q57, q58, q59, q60, q63, q64, q97, q122, q126, q127, q128, q255, q256, q300, q580, q600, q1000, nI_add, q_lt_t, q_lt_f, q_eq_t, q_eq_f, q_clamp, q_in_t, q_in_f]
    | .inr (j', R), .inr ⟨hq, J, v, x1, x2, x3⟩ =>
      show VWo I L B S c j (alR (KT B S) (vN B S) (fiT B S F nm) N fd j' (M &&& (R ^^^ -nI 1))) _
      have ea : alR (KT B S) (vN B S) (fiT B S F nm) N fd j' (M &&& (R ^^^ -nI 1)) = .inr (j', M &&& (R ^^^ -nI 1)) := if_neg hq.2
      rw [ea]
      refine Or.inr ⟨hq.1, J, M &&& (v ^^^ -nI 1), ?_, x2, f4.f.trans x3⟩
      simp (disch := omega) only [e_X10_readsWording_61, e_X10_readsWording_83, e_X10_readsWording_88, wo_out92 L x2.1, h14, e12, k10, f1, x1, Option.bind_some, Option.toList_some, Option.toList_none, List.cons_append, List.nil_append, Option.map_some, cond_true, cond_false, Bool.not_true, Bool.not_false, Bool.true_and, Bool.and_true, Bool.false_and, Bool.and_false, Bool.true_or, Bool.or_true, Bool.false_or, Bool.or_false, Bool.not_not, decide_true, decide_false, Bool.decide_eq_true, Bool.decide_eq_false, qz_0, qz_1, qz_n, qz_n0, qz_n1, qz_t, qz_f, Nat.reduceAdd, q1000000, q0, q1, q2, q3, q4, q5, q6, q7, q8, q9, q10, q11, q12, q13, q14, q15, q16, q18, q19, q20, q21, q22, q23, q24, q25, q26, q27, q28, q29, q30, q31, q32, q38, q44, q45, q48, q57, q58, q59, q60, q63, q64, q97, q122, q126, q127, q128, q255, q256, q300, q580, q600, q1000, nI_add, q_lt_t, q_lt_f, q_eq_t, q_eq_f, q_clamp, q_in_t, q_in_f]
  · rw [if_neg z]
    rw [eq_false z] at k10
    have ha := vw_al (L := L) hN hF hK hB h h14 h13 hD M
    refine Eq.mp ?_ ha
    congr 1
    symm
    simp (disch := omega) only [e_X10_readsWording_61, h14, e12, k10, Option.bind_some, Option.toList_some, Option.toList_none, List.cons_append, List.nil_append, Option.map_some, cond_true, cond_false, Bool.not_true, Bool.not_false, Bool.true_and, Bool.and_true, Bool.false_and, Bool.and_false, Bool.true_or, Bool.or_true, Bool.false_or, Bool.or_false, Bool.not_not, decide_true, decide_false, Bool.decide_eq_true, Bool.decide_eq_false, qz_0, qz_1, qz_n, qz_n0, qz_n1, qz_t, qz_f, Nat.reduceAdd, q1000000, q0, q1, q2, q3, q4, q5, q6, q7, q8, q9, q10, q11, q12, q13, q14, q15, q16, q18, q19, q20, q21, q22, q23, q24, q25, q26, q27, q28, q29, q30, q31, q32, q38, q44, q45, q48, q57, q58, q59, q60, q63, q64, q97, q122, q126, q127, q128, q255, q256, q300, q580, q600, q1000, nI_add, q_lt_t, q_lt_f, q_eq_t, q_eq_f, q_clamp, q_in_t, q_in_f]
theorem s_readsWording {I : zI} {L : zL} {B : Nat → Nat} {S N w F j c : Nat} (hN : 1 ≤ N ∧ N ≤ 28) (hw : w < 7) (hF : F ≤ 2) {nm : Nat → List Nat} (hK : NK F nm) {fd : Nat → Int32} (hB : BT I B S) (h : RF I B S j) (h14 : I 52 14 = nI 0) (h13 : I 52 13 = nI c) (hD : DR I N w F nm fd) : VWo I L B S c j (woR (KT B S) (vN B S) (fiT B S F nm) N w fd j) (zcall zZ nX10_readsWording [.ref 52] (hp I L)) := by
  have hk := KT_le B S j
  have e12 := h.2.2.2.2
  have k6 := kI_eq (k := KT B S j) (t := 6) (by omega)
  have k7 := kI_eq (k := KT B S j) (t := 7) (by omega)
  have k10 := kI_eq (k := KT B S j) (t := 10) (by omega)
  have k11 := kI_eq (k := KT B S j) (t := 11) (by omega)
  have eW := s_Mwkd L h
  unfold woR
  by_cases z : KT B S j = 6
  · rw [if_pos z]
    rw [eq_true z] at k6
    obtain ⟨I2, f1, f2, f3, f4⟩ := s_need_y L hB h h14 h13
    refine Or.inl ⟨I2, ?_, by omega, f2, by rw [f3]; congr 1; omega, f4⟩
    simp (disch := omega) only [c_X10_readsWording, e_X10_readsWording_0, e_X10_readsWording_14, e12, k6, f1, Option.bind_some, Option.toList_some, Option.toList_none, List.cons_append, List.nil_append, Option.map_some, cond_true, cond_false, Bool.not_true, Bool.not_false, Bool.true_and, Bool.and_true, Bool.false_and, Bool.and_false, Bool.true_or, Bool.or_true, Bool.false_or, Bool.or_false, Bool.not_not, decide_true, decide_false, Bool.decide_eq_true, Bool.decide_eq_false, qz_0, qz_1, qz_n, qz_n0, qz_n1, qz_t, qz_f, Nat.reduceAdd, q1000000, q0, q1, q2, q3, q4, q5, q6, q7, q8, q9, q10, q11, q12, q13, q14, q15, q16, q18, q19, q20, q21, q22, q23, q24, q25, q26, q27, q28, q29, q30, q31, q32, q38, q44, q45, q48, q57, q58, q59, q60, q63, q64, q97, q122, q126, q127, q128, q255, q256, q300, q580, q600, q1000, nI_add, q_lt_t, q_lt_f, q_eq_t, q_eq_f, q_clamp, q_in_t, q_in_f]
  · rw [if_neg z]
    rw [eq_false z] at k6
    by_cases y : woB (KT B S) j = true
    · rw [if_pos y]
      have st : zcall zZ nX10_readsWording [.ref 52] (hp I L) = (zrun zZ kX10_readsWording (57, [some (.ref 52), none], [], hp I L, 0, 0)).map (fun r => (r.1, r.2.1)) := by
        by_cases z7 : KT B S j = 7
        · rw [eq_true z7] at k7
          simp (disch := omega) only [c_X10_readsWording, e_X10_readsWording_0, e12, k6, k7, Option.bind_some, Option.toList_some, Option.toList_none, List.cons_append, List.nil_append, Option.map_some, cond_true, cond_false, Bool.not_true, Bool.not_false, Bool.true_and, Bool.and_true, Bool.false_and, Bool.and_false, Bool.true_or, Bool.or_true, Bool.false_or, Bool.or_false, Bool.not_not, decide_true, decide_false, Bool.decide_eq_true, Bool.decide_eq_false, qz_0, qz_1, qz_n, qz_n0, qz_n1, qz_t, qz_f, Nat.reduceAdd, q1000000, q0, q1, q2, q3, q4, q5, q6, q7, q8, q9, q10, q11, q12, q13, q14, q15, q16, q18, q19, q20, q21, q22, q23, q24, q25, q26, q27, q28, q29, q30, q31, q32, q38, q44, q45, q48, q57, q58, q59, q60, q63, q64, q97, q122, q126, q127, q128, q255, q256, q300, q580, q600, q1000, nI_add, q_lt_t, q_lt_f, q_eq_t, q_eq_f, q_clamp, q_in_t, q_in_f]
        · rw [eq_false z7] at k7
          by_cases z10 : KT B S j = 10
          · rw [eq_true z10] at k10
            simp (disch := omega) only [c_X10_readsWording, e_X10_readsWording_0, e12, k6, k7, k10, Option.bind_some, Option.toList_some, Option.toList_none, List.cons_append, List.nil_append, Option.map_some, cond_true, cond_false, Bool.not_true, Bool.not_false, Bool.true_and, Bool.and_true, Bool.false_and, Bool.and_false, Bool.true_or, Bool.or_true, Bool.false_or, Bool.or_false, Bool.not_not, decide_true, decide_false, Bool.decide_eq_true, Bool.decide_eq_false, qz_0, qz_1, qz_n, qz_n0, qz_n1, qz_t, qz_f, Nat.reduceAdd, q1000000, q0, q1, q2, q3, q4, q5, q6, q7, q8, q9, q10, q11, q12, q13, q14, q15, q16, q18, q19, q20, q21, q22, q23, q24, q25, q26, q27, q28, q29, q30, q31, q32, q38, q44, q45, q48, q57, q58, q59, q60, q63, q64, q97, q122, q126, q127, q128, q255, q256, q300, q580, q600, q1000, nI_add, q_lt_t, q_lt_f, q_eq_t, q_eq_f, q_clamp, q_in_t, q_in_f]
          · rw [eq_false z10] at k10
            by_cases z11 : KT B S j = 11
            · rw [eq_true z11] at k11
              simp (disch := omega) only [c_X10_readsWording, e_X10_readsWording_0, e12, k6, k7, k10, k11, Option.bind_some, Option.toList_some, Option.toList_none, List.cons_append, List.nil_append, Option.map_some, cond_true, cond_false, Bool.not_true, Bool.not_false, Bool.true_and, Bool.and_true, Bool.false_and, Bool.and_false, Bool.true_or, Bool.or_true, Bool.false_or, Bool.or_false, Bool.not_not, decide_true, decide_false, Bool.decide_eq_true, Bool.decide_eq_false, qz_0, qz_1, qz_n, qz_n0, qz_n1, qz_t, qz_f, Nat.reduceAdd, q1000000, q0, q1, q2, q3, q4, q5, q6, q7, q8, q9, q10, q11, q12, q13, q14, q15, q16, q18, q19, q20, q21, q22, q23, q24, q25, q26, q27, q28, q29, q30, q31, q32, q38, q44, q45, q48, q57, q58, q59, q60, q63, q64, q97, q122, q126, q127, q128, q255, q256, q300, q580, q600, q1000, nI_add, q_lt_t, q_lt_f, q_eq_t, q_eq_f, q_clamp, q_in_t, q_in_f]
            · rw [eq_false z11] at k11
              unfold woB at y
              rw [decide_eq_false z7, decide_eq_false z10, decide_eq_false z11, Bool.or_false, Bool.or_false, Bool.or_false] at y
              rw [y] at eW
              simp (disch := omega) only [c_X10_readsWording, e_X10_readsWording_0, e_X10_readsWording_47, e12, k6, k7, k10, k11, eW, Option.bind_some, Option.toList_some, Option.toList_none, List.cons_append, List.nil_append, Option.map_some, cond_true, cond_false, Bool.not_true, Bool.not_false, Bool.true_and, Bool.and_true, Bool.false_and, Bool.and_false, Bool.true_or, Bool.or_true, Bool.false_or, Bool.or_false, Bool.not_not, decide_true, decide_false, Bool.decide_eq_true, Bool.decide_eq_false, qz_0, qz_1, qz_n, qz_n0, qz_n1, qz_t, qz_f, Nat.reduceAdd, q1000000, q0, q1, q2, q3, q4, q5, q6, q7, q8, q9, q10, q11, q12, q13, q14, q15, q16, q18, q19, q20, q21, q22, q23, q24, q25, q26, q27, q28, q29, q30, q31, q32, q38, q44, q45, q48, q57, q58, q59, q60, q63, q64, q97, q122, q126, q127, q128, q255, q256, q300, q580, q600, q1000, nI_add, q_lt_t, q_lt_f, q_eq_t, q_eq_f, q_clamp, q_in_t, q_in_f]
      rw [st]
      have hs := s_readsSpans (L := L) hN hw hB h h14 h13 hD.1 hD.2.1
      match hsr : spF (KT B S) (vN B S) N w (N + 1) j 0 true (nI 0), hs with
      | .inl (e, jf), ⟨J, v, x1, x2, x3⟩ =>
        refine ⟨J, v, ?_, x2, x3⟩
        simp (disch := omega) only [e_X10_readsWording_57, wo_out61 L x2.1, x1, Option.bind_some, Option.toList_some, Option.toList_none, List.cons_append, List.nil_append, Option.map_some, cond_true, cond_false, Bool.not_true, Bool.not_false, Bool.true_and, Bool.and_true, Bool.false_and, Bool.and_false, Bool.true_or, Bool.or_true, Bool.false_or, Bool.or_false, Bool.not_not, decide_true, decide_false, Bool.decide_eq_true, Bool.decide_eq_false, qz_0, qz_1, qz_n, qz_n0, qz_n1, qz_t, qz_f, Nat.reduceAdd, q1000000, q0, q1, q2, q3, q4, q5, q6, q7, q8, q9, q10, q11, q12, q13, q14, q15, q16, q18, q19, q20, q21, q22, q23, q24, q25, q26, q27, q28, q29, q30, q31, q32, q38, q44, q45, q48, q57, q58, q59, q60, q63, q64, q97, q122, q126, q127, q128, q255, q256, q300, q580, q600, q1000, nI_add, q_lt_t, q_lt_f, q_eq_t, q_eq_f, q_clamp, q_in_t, q_in_f]
      | .inr (j', M1), .inl ⟨J, x1, x2, x3, x4, x5⟩ =>
        have ha := vw_ex (L := L) hN hF hK (hB.ff x5.f) x3 ((x5 _ _ (by omega)).trans h14) x4 (hD.fn x5) M1
        have ha := VWo.cg (I := I) (j := j) (c := c) (k := j' - j) (by rw [show j + (j' - j) = j' by omega]; exact ha) x5
        refine Eq.mp ?_ ha
        congr 1
        symm
        simp (disch := omega) only [e_X10_readsWording_57, x1, Option.bind_some, Option.toList_some, Option.toList_none, List.cons_append, List.nil_append, Option.map_some, cond_true, cond_false, Bool.not_true, Bool.not_false, Bool.true_and, Bool.and_true, Bool.false_and, Bool.and_false, Bool.true_or, Bool.or_true, Bool.false_or, Bool.or_false, Bool.not_not, decide_true, decide_false, Bool.decide_eq_true, Bool.decide_eq_false, qz_0, qz_1, qz_n, qz_n0, qz_n1, qz_t, qz_f, Nat.reduceAdd, q1000000, q0, q1, q2, q3, q4, q5, q6, q7, q8, q9, q10, q11, q12, q13, q14, q15, q16, q18, q19, q20, q21, q22, q23, q24, q25, q26, q27, q28, q29, q30, q31, q32, q38, q44, q45, q48, q57, q58, q59, q60, q63, q64, q97, q122, q126, q127, q128, q255, q256, q300, q580, q600, q1000, nI_add, q_lt_t, q_lt_f, q_eq_t, q_eq_f, q_clamp, q_in_t, q_in_f]
      | .inr (j', M1), .inr ⟨hq, J, v, x1, x2, x3⟩ =>
        show VWo I L B S c j (exR (KT B S) (vN B S) (fiT B S F nm) N fd j' M1) _
        rw [Bool.or_eq_true, isW_iff, decide_eq_true_iff] at hq
        have ea : exR (KT B S) (vN B S) (fiT B S F nm) N fd j' M1 = .inr (j', M1) := by
          unfold exR noR alR
          rw [if_neg (by omega)]
          show (if KT B S j' = 11 then _ else _) = _
          rw [if_neg (by omega)]
        rw [ea]
        refine Or.inr ⟨by omega, J, v, ?_, x2, x3⟩
        simp (disch := omega) only [e_X10_readsWording_57, wo_out61 L x2.1, x1, Option.bind_some, Option.toList_some, Option.toList_none, List.cons_append, List.nil_append, Option.map_some, cond_true, cond_false, Bool.not_true, Bool.not_false, Bool.true_and, Bool.and_true, Bool.false_and, Bool.and_false, Bool.true_or, Bool.or_true, Bool.false_or, Bool.or_false, Bool.not_not, decide_true, decide_false, Bool.decide_eq_true, Bool.decide_eq_false, qz_0, qz_1, qz_n, qz_n0, qz_n1, qz_t, qz_f, Nat.reduceAdd, q1000000, q0, q1, q2, q3, q4, q5, q6, q7, q8, q9, q10, q11, q12, q13, q14, q15, q16, q18, q19, q20, q21, q22, q23, q24, q25, q26, q27, q28, q29, q30, q31, q32, q38, q44, q45, q48, q57, q58, q59, q60, q63, q64, q97, q122, q126, q127, q128, q255, q256, q300, q580, q600, q1000, nI_add, q_lt_t, q_lt_f, q_eq_t, q_eq_f, q_clamp, q_in_t, q_in_f]
    · rw [if_neg y]
      unfold woB at y
      rw [Bool.or_eq_true, Bool.or_eq_true (decide (KT B S j = 10)), Bool.or_eq_true (isW (KT B S j)), decide_eq_true_iff, decide_eq_true_iff, decide_eq_true_iff] at y
      rw [eq_false (fun q => y (Or.inl (Or.inr q)))] at k7
      rw [eq_false (fun q => y (Or.inr (Or.inl q)))] at k10
      rw [eq_false (fun q => y (Or.inr (Or.inr q)))] at k11
      rw [show isW (KT B S j) = false from by
        cases q : isW (KT B S j) with
        | false => rfl
        | true => exact absurd (Or.inl (Or.inl q)) y] at eW
      obtain ⟨J1, f1, f2, f3⟩ := s_flt L h h14 1
      refine ⟨J1, nI 0, ?_, f2, FRf.n f3⟩
      simp (disch := omega) only [c_X10_readsWording, e_X10_readsWording_0, e_X10_readsWording_47, e_X10_readsWording_55, e12, k6, k7, k10, k11, eW, f1, Option.bind_some, Option.toList_some, Option.toList_none, List.cons_append, List.nil_append, Option.map_some, cond_true, cond_false, Bool.not_true, Bool.not_false, Bool.true_and, Bool.and_true, Bool.false_and, Bool.and_false, Bool.true_or, Bool.or_true, Bool.false_or, Bool.or_false, Bool.not_not, decide_true, decide_false, Bool.decide_eq_true, Bool.decide_eq_false, qz_0, qz_1, qz_n, qz_n0, qz_n1, qz_t, qz_f, Nat.reduceAdd, q1000000, q0, q1, q2, q3, q4, q5, q6, q7, q8, q9, q10, q11, q12, q13, q14, q15, q16, q18, q19, q20, q21, q22, q23, q24, q25, q26, q27, q28, q29, q30, q31, q32, q38, q44, q45, q48, q57, q58, q59, q60, q63, q64, q97, q122, q126, q127, q128, q255, q256, q300, q580, q600, q1000, nI_add, q_lt_t, q_lt_f, q_eq_t, q_eq_f, q_clamp, q_in_t, q_in_f]
