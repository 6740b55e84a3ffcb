/-! the fewest of both -/
def OK3 (N w F : Nat) (fd : Nat → Int32) (T : Int32) (b : Bool) (k n : Nat) (c : Nat × Nat) : Prop := MW (gsum (chG N w F fd T false 0) (cond b (chC F (inN fd T F)) [(0, 0)])) k n ∧ (cond b (chC F (inN fd T F)) [(0, 0)]).find? (fun c => decide (chG N w F fd T false 0 c k ≠ 0)) = some c
theorem OK3_uniq {N w F : Nat} {fd : Nat → Int32} {T : Int32} {b : Bool} {k n k' n' : Nat} {c c' : Nat × Nat} (h : OK3 N w F fd T b k n c) (h' : OK3 N w F fd T b k' n' c') : k = k' ∧ n = n' ∧ c = c' := by
  obtain ⟨e1, e2⟩ := MW_uniq h.1 h'.1
  subst e1
  subst e2
  refine ⟨rfl, rfl, ?_⟩
  have := h.2.symm.trans h'.2
  injection this
/-- cells in which the class solves -/
def FX (I J : zI) : Prop := (∀ x y, x < 35 → (x ≠ 25 ∨ y < 8) → J x y = I x y) ∧ (∀ x y, 35 < x → (x < 37 ∨ 52 ≤ x) → J x y = I x y)
def FXL (L M : zL) : Prop := ∀ x y, (x ≠ 25 ∨ y ≠ 13) → (x < 37 ∨ 52 ≤ x) → M x y = L x y
/-- cells in which the reference solves -/
def FM (I J : zI) : Prop := ∀ x y, x ≠ 57 → x ≠ 60 → x ≠ 61 → x ≠ 62 → (x ≠ 52 ∨ y < 17 ∨ 30 ≤ y) → J x y = I x y
def FML (L M : zL) : Prop := ∀ x y, x ≠ 58 → (x ≠ 52 ∨ y ≠ 27) → M x y = L x y
theorem FX.refl (I : zI) : FX I I := ⟨fun _ _ _ _ => rfl, fun _ _ _ _ => rfl⟩
theorem FXL.refl (L : zL) : FXL L L := fun _ _ _ _ => rfl
theorem FM.refl (I : zI) : FM I I := fun _ _ _ _ _ _ _ => rfl
theorem FML.refl (L : zL) : FML L L := fun _ _ _ _ => rfl
theorem FX.trans {I J K : zI} (h : FX I J) (h2 : FX J K) : FX I K := ⟨fun x y p q => (h2.1 x y p q).trans (h.1 x y p q), fun x y p q => (h2.2 x y p q).trans (h.2 x y p q)⟩
theorem FXL.trans {I J K : zL} (h : FXL I J) (h2 : FXL J K) : FXL I K := fun x y p q => (h2 x y p q).trans (h x y p q)
theorem FM.trans {I J K : zI} (h : FM I J) (h2 : FM J K) : FM I K := fun x y p q r s t => (h2 x y p q r s t).trans (h x y p q r s t)
theorem FML.trans {I J K : zL} (h : FML I J) (h2 : FML J K) : FML I K := fun x y p q => (h2 x y p q).trans (h x y p q)
theorem SB_of {I : zI} {L : zL} {N w F Tn ln : Nat} (D : DK I L N w F Tn ln) (hK : KC I) (hN : N ≠ 0) : SB I N w F (I 25 8) (I 14) := ⟨⟨D.b.1, D.b.2.1, D.b.2.2.1⟩, ⟨D.x.1, D.x.2.1, D.x.2.2.1⟩, fun P hP => D.pd hN hP, hK, rfl, fun _ => rfl⟩
theorem s_srch {I : zI} {L : zL} {N w F Tn ln : Nat} (D : DK I L N w F Tn ln) (hK : KC I) (hN : N ≠ 0) (T : Int32) (b : Bool) : ∃ J M k n c, zcall zZ nX2_search [.ref 25, .int T, .int (-1), .int (zbo b)] (hp I L) = some (none, hp J M) ∧ k ≤ 100 ∧ OK3 N w F (I 14) T b k n c ∧ J 25 12 = nI k ∧ M 25 13 = lN n ∧ J 25 14 = nI c.1 ∧ J 25 15 = nI c.2 ∧ J 25 8 = T ∧ FX I J ∧ FXL L M := by
  obtain ⟨J, M, s1, s2, s3, s4, s5, s6⟩ := s_search ONE_unl mx_unl (T := T) b (L := L) (SB_of D hK hN)
  have hF := D.b.2.2.1
  obtain ⟨-, i2, -⟩ := inN_ok (I 14) T hF
  rcases s2 with ⟨h, -⟩ | ⟨k, n, c, h1, h2, h3, h4, h5, h6, h7⟩
  · exfalso
    cases b with
    | false => cases h
    | true =>
      have hne : ∀ F, F < 3 → ∀ i, i < 2 ^ F → chC F i ≠ [] := by decide +kernel
      exact hne F (by omega) _ i2 h
  · exact ⟨J, M, k, n, c, s1, h1, ⟨h6, h7⟩, h2, h3, h4, h5, s4, ⟨s3, s5⟩, s6⟩
theorem s_fewX {I : zI} {L : zL} {N w F Tn ln : Nat} (D : DK I L N w F Tn ln) (hK : KC I) (hN : N ≠ 0) (T : Int32) (hT : T ≠ nI 0) (b : Bool) : ∃ J M k n c, zcall zZ nX2_fewest [.ref 25, .int T, .int (-1), .int (zbo b)] (hp I L) = some (some (.int (nI k)), hp J M) ∧ k ≤ 100 ∧ OK3 N w F (I 14) T b k n c ∧ FX I J ∧ FXL L M := by
  obtain ⟨J, M, k, n, c, s1, s2, s3, s4, s5, s6, s7, s8, s9, s10⟩ := s_srch (L := L) D hK hN T b
  refine ⟨J, M, k, n, c, ?_, s2, s3, s9, s10⟩
  have h0 : (T = nI 0) = False := eq_false hT
  rw [c_X2_fewest, e_X2_fewest_0, q0]
  simp only [h0, Option.bind_some, Option.toList_some, Option.toList_none, List.cons_append, List.nil_append, Option.map_some, cond_true, cond_false, Bool.not_true, Bool.not_false, Bool.true_and, Bool.and_true, Bool.false_and, Bool.and_false, Bool.true_or, Bool.or_true, Bool.false_or, Bool.or_false, Bool.not_not, decide_true, decide_false, Bool.decide_eq_true, Bool.decide_eq_false, qz_0, qz_1, qz_n, qz_n0, qz_n1, qz_t, qz_f, Nat.reduceAdd]
  rw [s1]
  simp only [Option.bind_some, Option.toList_some, Option.toList_none, List.cons_append, List.nil_append, Option.map_some, cond_true, cond_false, Bool.not_true, Bool.not_false, Bool.true_and, Bool.and_true, Bool.false_and, Bool.and_false, Bool.true_or, Bool.or_true, Bool.false_or, Bool.or_false, Bool.not_not, decide_true, decide_false, Bool.decide_eq_true, Bool.decide_eq_false, qz_0, qz_1, qz_n, qz_n0, qz_n1, qz_t, qz_f, Nat.reduceAdd, e_X2_fewest_13, s4]
theorem s_solM {I : zI} {L : zL} {N w F : Nat} {fd : Nat → Int32} (hb : N ≤ 28 ∧ w < 7 ∧ F ≤ 2) (hm : I 53 0 = nI N ∧ I 53 1 = nI w ∧ I 53 2 = nI F ∧ (∀ f, f < F → I 53 (6 + f) = fd f)) (T : Int32) (hT : T ≠ nI 0) (b : Bool) {k n : Nat} {c : Nat × Nat} (hk : k ≤ 100) (hO : OK3 N w F fd T b k n c) : ∃ J M, zcall zZ nX10_solves [.ref 52, .int T, .int (zbo b)] (hp I L) = some (some (.int (nI k)), hp J M) ∧ J 52 26 = nI k ∧ M 52 27 = lN n ∧ J 52 28 = nI c.1 ∧ J 52 29 = nI c.2 ∧ MZ J N w F T fd ∧ FM I J ∧ FML L M := by
  obtain ⟨J, M, s1, s2, s3, s4, s5⟩ := s_solves (L := L) hb hm hT b
  obtain ⟨-, i2, -⟩ := inN_ok fd T hb.2.2
  have key : MW (gsum (chG N w F fd T false 0) (crR F (inN fd T F) (cond b 16 1) 0)) k n ∧ (crR F (inN fd T F) (cond b 16 1) 0).find? (fun c => decide (chG N w F fd T false 0 c k ≠ 0)) = some c := by
    cases b with
    | false =>
      rw [show crR F (inN fd T F) (cond false 16 1) 0 = [(0, 0)] from chC_one F (by omega) _ i2]
      exact hO
    | true =>
      have h1 : MW (gsum (chG N w F fd T false 0) (chC F (inN fd T F))) k n := hO.1
      have h2 : (chC F (inN fd T F)).find? (fun c => decide (chG N w F fd T false 0 c k ≠ 0)) = some c := hO.2
      have hf := chC_fil F (by omega) _ i2
      rw [hf] at h1 h2
      obtain ⟨t1, t2⟩ := two_lists h1 (fun x hx hp => by
        have hp : x.1 &&& inN fd T F ≠ 0 := of_decide_eq_false hp
        refine ⟨_, ?_, fun e he => ch_dear hb.2.2 false 0 hx hp he⟩
        rw [← hf]
        exact (ch_drop F (by omega) _ i2 x hx hp).1)
      exact ⟨t1, t2.trans h2⟩
  rcases s2 with ⟨h0, -, -⟩ | ⟨k', n', r1, r2, r3, r4, r5, r6⟩
  · rw [gadd_0] at h0
    have := key.1.1
    rw [h0] at this
    have := key.1.2.1
    unfold g0 at *
    omega
  · rw [gadd_0] at r4
    obtain ⟨e1, e2⟩ := MW_uniq r4 key.1
    subst e1
    subst e2
    have ef : fsC (chG N w F fd T false 0) (crR F (inN fd T F) (cond b 16 1) 0) (0, 0) k' = c := by
      unfold fsC
      rw [key.2]
      rfl
    rw [ef] at r5 r6
    exact ⟨J, M, by rw [← r2]; exact s1, r2, r3, r5, r6, s3, s4, s5⟩
/-! no day at all -/
def abN (N w : Nat) : Nat := cnt (fun i => decide (wds N w i = nI 0)) 7
theorem absX_loop {I : zI} {L : zL} {N w F Tn ln : Nat} (D : DK I L N w F Tn ln) (hN : N ≠ 0) : ∀ r i, i + r = 7 → zrun zZ kX2_absentWeekdays (4, [some (.ref 25), some (.int (nI (cnt (fun i => decide (wds N w i = nI 0)) i))), some (.int (nI i))], [], hp I L, 0, 0) = some (some (.int (nI (abN N w))), hp I L, 0, 0)
  | 0, i, h => by
    obtain rfl : i = 7 := h
    rw [e_X2_absentWeekdays_4]
    simp (disch := omega) only [Option.bind_some, Option.toList_some, Option.toList_none, List.cons_append, List.nil_append, Option.map_some, cond_true, cond_false, Bool.not_true, Bool.not_false, Bool.true_and, Bool.and_true, Bool.false_and, Bool.and_false, Bool.true_or, Bool.or_true, Bool.false_or, Bool.or_false, Bool.not_not, decide_true, decide_false, Bool.decide_eq_true, Bool.decide_eq_false, qz_0, qz_1, qz_n, qz_n0, qz_n1, qz_t, qz_f, Nat.reduceAdd, q1000000, q0, q1, q2, q3, q4, q5, q6, q7, q8, q9, q10, q11, q12, q13, q14, q15, q16, q18, q19, q20, q21, q22, q23, q24, q25, q26, q27, q28, q29, q30, q31, q32, q38, q44, q45, q48, q57, q58, q59, q60, q63, q64, q97, q122, q126, q127, q128, q255, q256, q300, q580, q600, q1000, nI_add, q_lt_t, q_lt_f, q_eq_t, q_eq_f, q_clamp, q_in_t, q_in_f]
    rfl
  | r + 1, i, h => by
    have ih := absX_loop (L := L) D hN r (i + 1) (by omega)
    have hp1 := pow7 (show i < 7 by omega)
    rw [show cnt (fun i => decide (wds N w i = nI 0)) (i + 1) = cnt (fun i => decide (wds N w i = nI 0)) i + (decide (wds N w i = nI 0)).toNat from rfl] at ih
    rw [e_X2_absentWeekdays_4]
    by_cases q : wds N w i = nI 0
    · rw [decide_eq_true q] at ih
      simp (disch := omega) only [e_X2_absentWeekdays_27, q_shl1, D.pd hN hp1, wds_pds, q, Option.bind_some, Option.toList_some, Option.toList_none, List.cons_append, List.nil_append, Option.map_some, cond_true, cond_false, Bool.not_true, Bool.not_false, Bool.true_and, Bool.and_true, Bool.false_and, Bool.and_false, Bool.true_or, Bool.or_true, Bool.false_or, Bool.or_false, Bool.not_not, decide_true, decide_false, Bool.decide_eq_true, Bool.decide_eq_false, qz_0, qz_1, qz_n, qz_n0, qz_n1, qz_t, qz_f, Nat.reduceAdd, q1000000, q0, q1, q2, q3, q4, q5, q6, q7, q8, q9, q10, q11, q12, q13, q14, q15, q16, q18, q19, q20, q21, q22, q23, q24, q25, q26, q27, q28, q29, q30, q31, q32, q38, q44, q45, q48, q57, q58, q59, q60, q63, q64, q97, q122, q126, q127, q128, q255, q256, q300, q580, q600, q1000, nI_add, q_lt_t, q_lt_f, q_eq_t, q_eq_f, q_clamp, q_in_t, q_in_f]
      exact ih
    · rw [decide_eq_false q] at ih
      simp (disch := omega) only [e_X2_absentWeekdays_27, q_shl1, D.pd hN hp1, wds_pds, q, Option.bind_some, Option.toList_some, Option.toList_none, List.cons_append, List.nil_append, Option.map_some, cond_true, cond_false, Bool.not_true, Bool.not_false, Bool.true_and, Bool.and_true, Bool.false_and, Bool.and_false, Bool.true_or, Bool.or_true, Bool.false_or, Bool.or_false, Bool.not_not, decide_true, decide_false, Bool.decide_eq_true, Bool.decide_eq_false, qz_0, qz_1, qz_n, qz_n0, qz_n1, qz_t, qz_f, Nat.reduceAdd, q1000000, q0, q1, q2, q3, q4, q5, q6, q7, q8, q9, q10, q11, q12, q13, q14, q15, q16, q18, q19, q20, q21, q22, q23, q24, q25, q26, q27, q28, q29, q30, q31, q32, q38, q44, q45, q48, q57, q58, q59, q60, q63, q64, q97, q122, q126, q127, q128, q255, q256, q300, q580, q600, q1000, nI_add, q_lt_t, q_lt_f, q_eq_t, q_eq_f, q_clamp, q_in_t, q_in_f]
      exact ih
theorem s_absX {I : zI} {L : zL} {N w F Tn ln : Nat} (D : DK I L N w F Tn ln) (hN : N ≠ 0) : zcall zZ nX2_absentWeekdays [.ref 25] (hp I L) = some (some (.int (nI (abN N w))), hp I L) := by
  have h := absX_loop (L := L) D hN 7 0 (by omega)
  rw [show cnt (fun i => decide (wds N w i = nI 0)) 0 = 0 from rfl] at h
  simp (disch := omega) only [c_X2_absentWeekdays, e_X2_absentWeekdays_0, Option.bind_some, Option.toList_some, Option.toList_none, List.cons_append, List.nil_append, Option.map_some, cond_true, cond_false, Bool.not_true, Bool.not_false, Bool.true_and, Bool.and_true, Bool.false_and, Bool.and_false, Bool.true_or, Bool.or_true, Bool.false_or, Bool.or_false, Bool.not_not, decide_true, decide_false, Bool.decide_eq_true, Bool.decide_eq_false, qz_0, qz_1, qz_n, qz_n0, qz_n1, qz_t, qz_f, Nat.reduceAdd, q1000000, q0, q1, q2, q3, q4, q5, q6, q7, q8, q9, q10, q11, q12, q13, q14, q15, q16, q18, q19, q20, q21, q22, q23, q24, q25, q26, q27, q28, q29, q30, q31, q32, q38, q44, q45, q48, q57, q58, q59, q60, q63, q64, q97, q122, q126, q127, q128, q255, q256, q300, q580, q600, q1000, nI_add, q_lt_t, q_lt_f, q_eq_t, q_eq_f, q_clamp, q_in_t, q_in_f, h]
theorem daysOf_loop2 {J : zI} {L : zL} {N w i : Nat} (hN : N ≤ 28) (hw : w < 7) (h0 : J 53 0 = nI N) (h1 : J 53 1 = nI w) (hi : i < 7) : ∀ m d, d + m = N → zrun zZ kX10_daysOf (4, [some (.ref 52), some (.int (nI i)), some (.int (dset (fun d => decide ((w + d) % 7 = i)) d)), some (.int (nI d))], [], hp J L, 0, 0) = some (some (.int (wds N w i)), hp J L, 0, 0)
  | 0, d, h => by
    obtain rfl : d = N := h
    rw [e_X10_daysOf_4]
    simp (disch := omega) only [h0, Option.bind_some, Option.toList_some, Option.toList_none, List.cons_append, List.nil_append, Option.map_some, cond_true, cond_false, Bool.not_true, Bool.not_false, Bool.true_and, Bool.and_true, Bool.false_and, Bool.and_false, Bool.true_or, Bool.or_true, Bool.false_or, Bool.or_false, Bool.not_not, decide_true, decide_false, Bool.decide_eq_true, Bool.decide_eq_false, qz_0, qz_1, qz_n, qz_n0, qz_n1, qz_t, qz_f, Nat.reduceAdd, q1000000, q0, q1, q2, q3, q4, q5, q6, q7, q8, q9, q10, q11, q12, q13, q14, q15, q16, q18, q19, q20, q21, q22, q23, q24, q25, q26, q27, q28, q29, q30, q31, q32, q38, q44, q45, q48, q57, q58, q59, q60, q63, q64, q97, q122, q126, q127, q128, q255, q256, q300, q580, q600, q1000, nI_add, q_lt_t, q_lt_f, q_eq_t, q_eq_f, q_clamp, q_in_t, q_in_f]
    rfl
  | m + 1, d, h => by
    have ih := daysOf_loop2 (L := L) hN hw h0 h1 hi m (d + 1) (by omega)
    have hwk : zcall zZ nX10_weekdayOf [.ref 52, .int (nI d)] (hp J L) = some (some (.int (nI ((w + d) % 7))), hp J L) := s_MweekdayOf h1 (by omega)
    rw [show dset (fun d => decide ((w + d) % 7 = i)) (d + 1) = dset (fun d => decide ((w + d) % 7 = i)) d ||| cond (decide ((w + d) % 7 = i)) (nI 1 <<< (nI d &&& nI 31)) (nI 0) from rfl] at ih
    rw [e_X10_daysOf_4]
    by_cases q : (w + d) % 7 = i
    · rw [decide_eq_true q] at ih
      simp (disch := omega) only [e_X10_daysOf_20, e_X10_daysOf_31, h0, hwk, Option.bind_some, Option.toList_some, Option.toList_none, List.cons_append, List.nil_append, Option.map_some, cond_true, cond_false, Bool.not_true, Bool.not_false, Bool.true_and, Bool.and_true, Bool.false_and, Bool.and_false, Bool.true_or, Bool.or_true, Bool.false_or, Bool.or_false, Bool.not_not, decide_true, decide_false, Bool.decide_eq_true, Bool.decide_eq_false, qz_0, qz_1, qz_n, qz_n0, qz_n1, qz_t, qz_f, Nat.reduceAdd, q1000000, q0, q1, q2, q3, q4, q5, q6, q7, q8, q9, q10, q11, q12, q13, q14, q15, q16, q18, q19, q20, q21, q22, q23, q24, q25, q26, q27, q28, q29, q30, q31, q32, q38, q44, q45, q48, q57, q58, q59, q60, q63, q64, q97, q122, q126, q127, q128, q255, q256, q300, q580, q600, q1000, nI_add, q_lt_t, q_lt_f, q_eq_t, q_eq_f, q_clamp, q_in_t, q_in_f]
      exact ih
    · rw [decide_eq_false q] at ih
      simp (disch := omega) only [e_X10_daysOf_20, e_X10_daysOf_31, h0, hwk, Option.bind_some, Option.toList_some, Option.toList_none, List.cons_append, List.nil_append, Option.map_some, cond_true, cond_false, Bool.not_true, Bool.not_false, Bool.true_and, Bool.and_true, Bool.false_and, Bool.and_false, Bool.true_or, Bool.or_true, Bool.false_or, Bool.or_false, Bool.not_not, decide_true, decide_false, Bool.decide_eq_true, Bool.decide_eq_false, qz_0, qz_1, qz_n, qz_n0, qz_n1, qz_t, qz_f, Nat.reduceAdd, q1000000, q0, q1, q2, q3, q4, q5, q6, q7, q8, q9, q10, q11, q12, q13, q14, q15, q16, q18, q19, q20, q21, q22, q23, q24, q25, q26, q27, q28, q29, q30, q31, q32, q38, q44, q45, q48, q57, q58, q59, q60, q63, q64, q97, q122, q126, q127, q128, q255, q256, q300, q580, q600, q1000, nI_add, q_lt_t, q_lt_f, q_eq_t, q_eq_f, q_clamp, q_in_t, q_in_f]
      exact ih
theorem s_daysOf2 {J : zI} {L : zL} {N w i : Nat} (hN : N ≤ 28) (hw : w < 7) (h0 : J 53 0 = nI N) (h1 : J 53 1 = nI w) (hi : i < 7) : zcall zZ nX10_daysOf [.ref 52, .int (nI i)] (hp J L) = some (some (.int (wds N w i)), hp J L) := by
  have h := daysOf_loop2 (L := L) hN hw h0 h1 hi N 0 (by omega)
  rw [show dset (fun d => decide ((w + d) % 7 = i)) 0 = nI 0 from rfl] at h
  simp (disch := omega) only [c_X10_daysOf, e_X10_daysOf_0, Option.bind_some, Option.toList_some, Option.toList_none, List.cons_append, List.nil_append, Option.map_some, cond_true, cond_false, Bool.not_true, Bool.not_false, Bool.true_and, Bool.and_true, Bool.false_and, Bool.and_false, Bool.true_or, Bool.or_true, Bool.false_or, Bool.or_false, Bool.not_not, decide_true, decide_false, Bool.decide_eq_true, Bool.decide_eq_false, qz_0, qz_1, qz_n, qz_n0, qz_n1, qz_t, qz_f, Nat.reduceAdd, q1000000, q0, q1, q2, q3, q4, q5, q6, q7, q8, q9, q10, q11, q12, q13, q14, q15, q16, q18, q19, q20, q21, q22, q23, q24, q25, q26, q27, q28, q29, q30, q31, q32, q38, q44, q45, q48, q57, q58, q59, q60, q63, q64, q97, q122, q126, q127, q128, q255, q256, q300, q580, q600, q1000, nI_add, q_lt_t, q_lt_f, q_eq_t, q_eq_f, q_clamp, q_in_t, q_in_f, h]
theorem sol0_loop {J : zI} {N w : Nat} (hN : N ≤ 28) (hw : w < 7) (h0 : J 53 0 = nI N) (h1 : J 53 1 = nI w) : ∀ r i (L : zL), i + r = 7 → L 52 27 = lN (1 + cnt (fun i => decide (wds N w i = nI 0)) i) → ∃ M, zrun zZ kX10_solves (43, [some (.ref 52), none, none, some (.int (nI i)), none, none], [], hp J L, 0, 0) = some (some (.int (nI 1)), hp J M, 0, 0) ∧ M 52 27 = lN (1 + abN N w) ∧ FML L M
  | 0, i, L, h, hL => by
    obtain rfl : i = 7 := h
    refine ⟨L, ?_, hL, FML.refl L⟩
    rw [e_X10_solves_43]
    simp (disch := omega) only [Option.bind_some, Option.toList_some, Option.toList_none, List.cons_append, List.nil_append, Option.map_some, cond_true, cond_false, Bool.not_true, Bool.not_false, Bool.true_and, Bool.and_true, Bool.false_and, Bool.and_false, Bool.true_or, Bool.or_true, Bool.false_or, Bool.or_false, Bool.not_not, decide_true, decide_false, Bool.decide_eq_true, Bool.decide_eq_false, qz_0, qz_1, qz_n, qz_n0, qz_n1, qz_t, qz_f, Nat.reduceAdd, q1000000, q0, q1, q2, q3, q4, q5, q6, q7, q8, q9, q10, q11, q12, q13, q14, q15, q16, q18, q19, q20, q21, q22, q23, q24, q25, q26, q27, q28, q29, q30, q31, q32, q38, q44, q45, q48, q57, q58, q59, q60, q63, q64, q97, q122, q126, q127, q128, q255, q256, q300, q580, q600, q1000, nI_add, q_lt_t, q_lt_f, q_eq_t, q_eq_f, q_clamp, q_in_t, q_in_f]
  | r + 1, i, L, h, hL => by
    have hc : cnt (fun i => decide (wds N w i = nI 0)) (i + 1) = cnt (fun i => decide (wds N w i = nI 0)) i + (decide (wds N w i = nI 0)).toNat := rfl
    obtain ⟨M, g1, g2, g3⟩ := sol0_loop hN hw h0 h1 r (i + 1) (zup L 52 27 (lN (1 + cnt (fun i => decide (wds N w i = nI 0)) (i + 1)))) (by omega) (zu_same _ _ _ _)
    refine ⟨M, ?_, g2, FML.trans (fun x y p q => ?_) g3⟩
    · rw [e_X10_solves_43]
      have hd := s_daysOf2 (L := L) hN hw h0 h1 (show i < 7 by omega)
      by_cases q : wds N w i = nI 0
      · rw [decide_eq_true q] at hc
        have e : lN (1 + cnt (fun i => decide (wds N w i = nI 0)) i) + (1 : Int64) = lN (1 + cnt (fun i => decide (wds N w i = nI 0)) (i + 1)) := by
          rw [lN_1, hc]
          rfl
        simp (disch := omega) only [e_X10_solves_59, e_X10_solves_67, hd, hL, q, e, Option.bind_some, Option.toList_some, Option.toList_none, List.cons_append, List.nil_append, Option.map_some, cond_true, cond_false, Bool.not_true, Bool.not_false, Bool.true_and, Bool.and_true, Bool.false_and, Bool.and_false, Bool.true_or, Bool.or_true, Bool.false_or, Bool.or_false, Bool.not_not, decide_true, decide_false, Bool.decide_eq_true, Bool.decide_eq_false, qz_0, qz_1, qz_n, qz_n0, qz_n1, qz_t, qz_f, Nat.reduceAdd, q1000000, q0, q1, q2, q3, q4, q5, q6, q7, q8, q9, q10, q11, q12, q13, q14, q15, q16, q18, q19, q20, q21, q22, q23, q24, q25, q26, q27, q28, q29, q30, q31, q32, q38, q44, q45, q48, q57, q58, q59, q60, q63, q64, q97, q122, q126, q127, q128, q255, q256, q300, q580, q600, q1000, nI_add, q_lt_t, q_lt_f, q_eq_t, q_eq_f, q_clamp, q_in_t, q_in_f]
        exact g1
      · rw [decide_eq_false q] at hc
        have e : lN (1 + cnt (fun i => decide (wds N w i = nI 0)) i) + (0 : Int64) = lN (1 + cnt (fun i => decide (wds N w i = nI 0)) (i + 1)) := by
          rw [show (0 : Int64) = lN 0 from rfl, lN_add, hc]
          rfl
        simp (disch := omega) only [e_X10_solves_59, e_X10_solves_67, hd, hL, q, e, Option.bind_some, Option.toList_some, Option.toList_none, List.cons_append, List.nil_append, Option.map_some, cond_true, cond_false, Bool.not_true, Bool.not_false, Bool.true_and, Bool.and_true, Bool.false_and, Bool.and_false, Bool.true_or, Bool.or_true, Bool.false_or, Bool.or_false, Bool.not_not, decide_true, decide_false, Bool.decide_eq_true, Bool.decide_eq_false, qz_0, qz_1, qz_n, qz_n0, qz_n1, qz_t, qz_f, Nat.reduceAdd, q1000000, q0, q1, q2, q3, q4, q5, q6, q7, q8, q9, q10, q11, q12, q13, q14, q15, q16, q18, q19, q20, q21, q22, q23, q24, q25, q26, q27, q28, q29, q30, q31, q32, q38, q44, q45, q48, q57, q58, q59, q60, q63, q64, q97, q122, q126, q127, q128, q255, q256, q300, q580, q600, q1000, nI_add, q_lt_t, q_lt_f, q_eq_t, q_eq_f, q_clamp, q_in_t, q_in_f]
        exact g1
    · by_cases z : x = 52
      · rw [zu_at (by omega)]
      · rw [zu_cell z]
theorem s_sol0 {I : zI} {L : zL} {N w : Nat} (hN : N ≤ 28) (hw : w < 7) (h0 : I 53 0 = nI N) (h1 : I 53 1 = nI w) (x : Int32) : ∃ J M, zcall zZ nX10_solves [.ref 52, .int (nI 0), .int x] (hp I L) = some (some (.int (nI 1)), hp J M) ∧ M 52 27 = lN (1 + abN N w) ∧ J 52 28 = nI 0 ∧ J 52 29 = nI 0 ∧ FM I J ∧ FML L M := by
  obtain ⟨J, b1, b2, b3, b4⟩ := s_begins (I := I) (L := L) (nI 0)
  have cg : ∀ x y, (x ≠ 52 ∨ y < 26 ∨ 30 ≤ y) → zup (zup (zup (zup J 52 26 (nI 1000)) 52 28 (nI 0)) 52 29 (nI 0)) 52 26 (nI 1) x y = J x y := fun x y p => by
    by_cases z : x = 52
    · rw [zu_at (by omega), zu_at (by omega), zu_at (by omega), zu_at (by omega)]
    · rw [zu_cell z, zu_cell z, zu_cell z, zu_cell z]
  obtain ⟨M, g1, g2, g3⟩ := sol0_loop (J := zup (zup (zup (zup J 52 26 (nI 1000)) 52 28 (nI 0)) 52 29 (nI 0)) 52 26 (nI 1)) hN hw (by rw [cg _ _ (by omega), b4 _ _ (by omega) (by omega)]; exact h0) (by rw [cg _ _ (by omega), b4 _ _ (by omega) (by omega)]; exact h1) 7 0 (zup (zup L 52 27 (lN 0)) 52 27 (lN 1)) (by omega) (zu_same _ _ _ _)
  refine ⟨zup (zup (zup (zup J 52 26 (nI 1000)) 52 28 (nI 0)) 52 29 (nI 0)) 52 26 (nI 1), M, ?_, g2, ?_, ?_, fun x y p1 p2 p3 p4 p5 => ?_, FML.trans (fun x y p q => ?_) g3⟩
  · simp (disch := omega) only [c_X10_solves, e_X10_solves_0, e_X10_solves_5, b1, Option.bind_some, Option.toList_some, Option.toList_none, List.cons_append, List.nil_append, Option.map_some, cond_true, cond_false, Bool.not_true, Bool.not_false, Bool.true_and, Bool.and_true, Bool.false_and, Bool.and_false, Bool.true_or, Bool.or_true, Bool.false_or, Bool.or_false, Bool.not_not, decide_true, decide_false, Bool.decide_eq_true, Bool.decide_eq_false, qz_0, qz_1, qz_n, qz_n0, qz_n1, qz_t, qz_f, Nat.reduceAdd, q1000000, q0, q1, q2, q3, q4, q5, q6, q7, q8, q9, q10, q11, q12, q13, q14, q15, q16, q18, q19, q20, q21, q22, q23, q24, q25, q26, q27, q28, q29, q30, q31, q32, q38, q44, q45, q48, q57, q58, q59, q60, q63, q64, q97, q122, q126, q127, q128, q255, q256, q300, q580, q600, q1000, nI_add, q_lt_t, q_lt_f, q_eq_t, q_eq_f, q_clamp, q_in_t, q_in_f]
    rw [show (0 : Int64) = lN 0 from rfl, show (1 : Int64) = lN 1 from rfl, g1]
    rfl
  · rw [zu_at (by omega), zu_at (by omega), zu_same]
  · rw [zu_at (by omega), zu_same]
  · rw [cg x y (by omega), b4 x y p4 (by omega)]
  · by_cases z : x = 52
    · rw [zu_at (by omega), zu_at (by omega)]
    · rw [zu_cell z, zu_cell z]
/-- both, one behind the other: the fewest of days T -/
theorem both_few {I : zI} {L : zL} {N w F Tn ln : Nat} (D : DK I L N w F Tn ln) (hK : KC I) (hN : N ≠ 0) (T : Int32) (b : Bool) : ∃ k J M, k ≤ 100 ∧ zcall zZ nX2_fewest [.ref 25, .int T, .int (-1), .int (zbo b)] (hp I L) = some (some (.int (nI k)), hp J M) ∧ FX I J ∧ FXL L M ∧ ∀ (I' : zI) (L' : zL), I' 53 0 = nI N → I' 53 1 = nI w → I' 53 2 = nI F → (∀ f, f < F → I' 53 (6 + f) = I 14 f) → ∃ J' M', zcall zZ nX10_solves [.ref 52, .int T, .int (zbo b)] (hp I' L') = some (some (.int (nI k)), hp J' M') ∧ FM I' J' ∧ FML L' M' := by
  have hb := D.b
  by_cases hT : T = nI 0
  · subst hT
    refine ⟨1, I, L, by omega, ?_, FX.refl I, FXL.refl L, fun I' L' h0 h1 h2 h3 => ?_⟩
    · simp (disch := omega) only [c_X2_fewest, e_X2_fewest_0, Option.bind_some, Option.toList_some, Option.toList_none, List.cons_append, List.nil_append, Option.map_some, cond_true, cond_false, Bool.not_true, Bool.not_false, Bool.true_and, Bool.and_true, Bool.false_and, Bool.and_false, Bool.true_or, Bool.or_true, Bool.false_or, Bool.or_false, Bool.not_not, decide_true, decide_false, Bool.decide_eq_true, Bool.decide_eq_false, qz_0, qz_1, qz_n, qz_n0, qz_n1, qz_t, qz_f, Nat.reduceAdd, q1000000, q0, q1, q2, q3, q4, q5, q6, q7, q8, q9, q10, q11, q12, q13, q14, q15, q16, q18, q19, q20, q21, q22, q23, q24, q25, q26, q27, q28, q29, q30, q31, q32, q38, q44, q45, q48, q57, q58, q59, q60, q63, q64, q97, q122, q126, q127, q128, q255, q256, q300, q580, q600, q1000, nI_add, q_lt_t, q_lt_f, q_eq_t, q_eq_f, q_clamp, q_in_t, q_in_f]
    · obtain ⟨J', M', g1, -, -, -, g2, g3⟩ := s_sol0 (L := L') hb.1 hb.2.1 h0 h1 (zbo b)
      exact ⟨J', M', g1, g2, g3⟩
  · obtain ⟨J, M, k, n, c, s1, s2, s3, s4, s5⟩ := s_fewX (L := L) D hK hN T hT b
    refine ⟨k, J, M, s2, s1, s4, s5, fun I' L' h0 h1 h2 h3 => ?_⟩
    obtain ⟨J', M', g1, -, -, -, -, -, g2, g3⟩ := s_solM (L := L') ⟨hb.1, hb.2.1, hb.2.2.1⟩ ⟨h0, h1, h2, h3⟩ T hT b s2 s3
    exact ⟨J', M', g1, g2, g3⟩
