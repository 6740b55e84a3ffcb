/-! the number of tokens that days take, as a function -/
def TK (N w F : Nat) (fd : Nat → Int32) (T : Int32) (b : Bool) (k : Nat) : Prop := (T = nI 0 ∧ k = 1) ∨ (T ≠ nI 0 ∧ ∃ n c, OK3 N w F fd T b k n c)
theorem TK_uniq {N w F : Nat} {fd : Nat → Int32} {T : Int32} {b : Bool} {k k' : Nat} (h : TK N w F fd T b k) (h' : TK N w F fd T b k') : k = k' := by
  rcases h with ⟨h1, h2⟩ | ⟨h1, n, c, h2⟩
  · rcases h' with ⟨g1, g2⟩ | ⟨g1, g2⟩
    · omega
    · exact absurd h1 g1
  · rcases h' with ⟨g1, g2⟩ | ⟨g1, n', c', g2⟩
    · exact absurd g1 h1
    · exact (OK3_uniq h2 g2).1
noncomputable def tkF (N w F : Nat) (fd : Nat → Int32) (T : Int32) (b : Bool) : Nat := Classical.epsilon (fun k => TK N w F fd T b k)
theorem tkF_eq {N w F : Nat} {fd : Nat → Int32} {T : Int32} {b : Bool} {k : Nat} (h : TK N w F fd T b k) : tkF N w F fd T b = k := TK_uniq (Classical.epsilon_spec (p := fun k => TK N w F fd T b k) ⟨k, h⟩) h
/-- cells in which either solves -/
def FU (I J : zI) : Prop := ∀ x y, (x < 25 ∨ (x = 25 ∧ y < 8) ∨ (25 < x ∧ x < 35) ∨ x = 36 ∨ (x = 52 ∧ (y < 17 ∨ 30 ≤ y)) ∨ (53 ≤ x ∧ x ≤ 56) ∨ 63 ≤ x) → J x y = I x y
def FUL (L M : zL) : Prop := ∀ x y, (x < 25 ∨ (x = 25 ∧ y ≠ 13) ∨ (25 < x ∧ x < 37) ∨ (x = 52 ∧ y ≠ 27) ∨ (53 ≤ x ∧ x ≤ 57) ∨ 59 ≤ x) → M x y = L x y
theorem FU.refl (I : zI) : FU I I := fun _ _ _ => rfl
theorem FUL.refl (L : zL) : FUL L L := fun _ _ _ => rfl
theorem FU.trans {I J K : zI} (h : FU I J) (h2 : FU J K) : FU I K := fun x y p => (h2 x y p).trans (h x y p)
theorem FUL.trans {I J K : zL} (h : FUL I J) (h2 : FUL J K) : FUL I K := fun x y p => (h2 x y p).trans (h x y p)
theorem FX.fu {I J : zI} (h : FX I J) : FU I J := fun x y p => by
  rcases Nat.lt_or_ge x 35 with q | q
  · exact h.1 x y q (by omega)
  · exact h.2 x y (by omega) (by omega)
theorem FXL.fu {I J : zL} (h : FXL I J) : FUL I J := fun x y p => h x y (by omega) (by omega)
theorem FM.fu {I J : zI} (h : FM I J) : FU I J := fun x y p => h x y (by omega) (by omega) (by omega) (by omega) (by omega)
theorem FML.fu {I J : zL} (h : FML I J) : FUL I J := fun x y p => h x y (by omega) (by omega)
theorem FW.fu {I J : zI} (h : FW I J) : FU I J := fun x y p => h x y (by omega) (by omega) (by omega) (by omega) (by omega)
theorem DK.fu {I J : zI} {L M : zL} {N w F T ln : Nat} (D : DK I L N w F T ln) (h : FU I J) (h2 : FUL L M) : DK J M N w F T ln := D.cg (fun a b p => h a b (by omega)) (fun b => h2 13 b (by omega))
theorem KC.fu {I J : zI} (hK : KC I) (h : FU I J) : KC J := hK.cg (fun b => h _ _ (by omega)) (fun b => h _ _ (by omega)) (fun b => h _ _ (by omega))
theorem EV.fu {I J : zI} {L M : zL} {N w F T ln A S : Nat} (E : EV I L N w F T ln A S) (h : FU I J) (h2 : FUL L M) : EV J M N w F T ln A S := by
  obtain ⟨D, hP, hA, hF, hT⟩ := E
  exact ⟨D.fu h h2, hP.cg (h _ _ (by omega)) (h _ _ (by omega)) (fun b => h _ _ (by omega)) (fun b => h _ _ (by omega)), hA.cg (h _ _ (by omega)) (h _ _ (by omega)) (fun b => h _ _ (by omega)) (fun b => h _ _ (by omega)), hF.cg (fun b => h _ _ (by omega)) (h _ _ (by omega)) (h _ _ (by omega)), hT.cg (fun b => h _ _ (by omega)) (fun b hb => h _ _ (by omega))⟩
theorem FU.f14 {I J : zI} (h : FU I J) : J 14 = I 14 := funext fun y => h 14 y (by omega)
theorem s_fX {I : zI} {L : zL} {N w F Tn ln : Nat} (D : DK I L N w F Tn ln) (hK : KC I) (hN : N ≠ 0) (T : Int32) (b : Bool) : ∃ J M, zcall zZ nX2_fewest [.ref 25, .int T, .int (-nI 1), .int (zbo b)] (hp I L) = some (some (.int (nI (tkF N w F (I 14) T b))), hp J M) ∧ tkF N w F (I 14) T b ≤ 100 ∧ FU I J ∧ FUL L M := by
  by_cases hT : T = nI 0
  · have e := tkF_eq (N := N) (w := w) (F := F) (fd := I 14) (T := T) (b := b) (Or.inl ⟨hT, rfl⟩)
    refine ⟨I, L, ?_, by omega, FU.refl I, FUL.refl L⟩
    rw [e, hT]
    simp (disch := omega) only [c_X2_fewest, e_X2_fewest_0, Option.bind_some, Option.toList_some, Option.toList_none, List.cons_append, List.nil_append, Option.map_some, cond_true, cond_false, Bool.not_true, Bool.not_false, Bool.true_and, Bool.and_true, Bool.false_and, Bool.and_false, Bool.true_or, Bool.or_true, Bool.false_or, Bool.or_false, Bool.not_not, decide_true, decide_false, Bool.decide_eq_true, Bool.decide_eq_false, qz_0, qz_1, qz_n, qz_n0, qz_n1, qz_t, qz_f, Nat.reduceAdd, q1000000, q0, q1, q2, q3, q4, q5, q6, q7, q8, q9, q10, q11, q12, q13, q14, q15, q16, q18, q19, q20, q21, q22, q23, q24, q25, q26, q27, q28, q29, q30, q31, q32, q38, q44, q45, q48, q57, q58, q59, q60, q63, q64, q97, q122, q126, q127, q128, q255, q256, q300, q580, q600, q1000, nI_add, q_lt_t, q_lt_f, q_eq_t, q_eq_f, q_clamp, q_in_t, q_in_f]
  · obtain ⟨J, M, k, n, c, s1, s2, s3, s4, s5⟩ := s_fewX (L := L) D hK hN T hT b
    have e := tkF_eq (N := N) (w := w) (F := F) (fd := I 14) (T := T) (b := b) (Or.inr ⟨hT, n, c, s3⟩)
    rw [e]
    exact ⟨J, M, s1, s2, s4.fu, s5.fu⟩
theorem s_sM {I : zI} {L : zL} {N w F Tn ln : Nat} (D : DK I L N w F Tn ln) (hK : KC I) (hN : N ≠ 0) (T : Int32) (b : Bool) : ∃ J M, zcall zZ nX10_solves [.ref 52, .int T, .int (zbo b)] (hp I L) = some (some (.int (nI (tkF N w F (I 14) T b))), hp J M) ∧ FU I J ∧ FUL L M := by
  have hb := D.b
  have hm := D.m
  by_cases hT : T = nI 0
  · have e := tkF_eq (N := N) (w := w) (F := F) (fd := I 14) (T := T) (b := b) (Or.inl ⟨hT, rfl⟩)
    rw [e, hT]
    obtain ⟨J, M, g1, -, -, -, g2, g3⟩ := s_sol0 (L := L) hb.1 hb.2.1 hm.1 hm.2.1 (zbo b)
    exact ⟨J, M, g1, g2.fu, g3.fu⟩
  · obtain ⟨J0, M0, k, n, c, s1, s2, s3, s4, s5⟩ := s_fewX (L := L) D hK hN T hT b
    have e := tkF_eq (N := N) (w := w) (F := F) (fd := I 14) (T := T) (b := b) (Or.inr ⟨hT, n, c, s3⟩)
    rw [e]
    obtain ⟨J, M, g1, -, -, -, -, -, g2, g3⟩ := s_solM (L := L) ⟨hb.1, hb.2.1, hb.2.2.1⟩ ⟨hm.1, hm.2.1, hm.2.2.1, fun f hf => D.fe hf⟩ T hT b s2 s3
    exact ⟨J, M, g1, g2.fu, g3.fu⟩
/-- two methods that solve: the same answer, changed is what solving changes -/
def PS (nX nM : Nat) (as : List Value) (I : zI) (L : zL) : Prop := ∃ r I1 L1 I2 L2, zcall zZ nX (.ref 0 :: as) (hp I L) = some (some r, hp I1 L1) ∧ zcall zZ nM (.ref 52 :: as) (hp I1 L1) = some (some r, hp I2 L2) ∧ FU I I2 ∧ FUL L L2
theorem SAME.ps {nX nM : Nat} {as : List Value} {I : zI} {L : zL} (h : SAME nX nM as I L) : PS nX nM as I L := by
  obtain ⟨r, h1, h2⟩ := h
  exact ⟨r, I, L, I, L, h1, h2, FU.refl I, FUL.refl L⟩
theorem p_plain {I : zI} {L : zL} {N w F T ln : Nat} (D : DK I L N w F T ln) (hK : KC I) (x : Int32) : PS nX9_plain nX10_plain [.int x] I L := by
  have hb := D.b
  rcases zin_N (x := x) (n := T) (by omega) with h | ⟨j, hj, rfl⟩
  · refine SAME.ps ⟨.int (-2), ?_, ?_⟩
    · simp (disch := omega) only [c_X9_plain, e_X9_plain_0, e_X9_plain_5, e_X9_plain_31, e_X9_plain_26, s_Xtrain D, h, Option.bind_some, Option.toList_some, Option.toList_none, List.cons_append, List.nil_append, Option.map_some, cond_true, cond_false, Bool.not_true, Bool.not_false, Bool.true_and, Bool.and_true, Bool.false_and, Bool.and_false, Bool.true_or, Bool.or_true, Bool.false_or, Bool.or_false, Bool.not_not, decide_true, decide_false, Bool.decide_eq_true, Bool.decide_eq_false, qz_0, qz_1, qz_n, qz_n0, qz_n1, qz_t, qz_f, Nat.reduceAdd, q1000000, q0, q1, q2, q3, q4, q5, q6, q7, q8, q9, q10, q11, q12, q13, q14, q15, q16, q18, q19, q20, q21, q22, q23, q24, q25, q26, q27, q28, q29, q30, q31, q32, q38, q44, q45, q48, q57, q58, q59, q60, q63, q64, q97, q122, q126, q127, q128, q255, q256, q300, q580, q600, q1000, nI_add, q_lt_t, q_lt_f, q_eq_t, q_eq_f, q_clamp, q_in_t, q_in_f]
    · simp (disch := omega) only [c_X10_plain, e_X10_plain_0, e_X10_plain_5, e_X10_plain_23, e_X10_plain_14, e_X10_plain_18, s_Mtrain D, h, Option.bind_some, Option.toList_some, Option.toList_none, List.cons_append, List.nil_append, Option.map_some, cond_true, cond_false, Bool.not_true, Bool.not_false, Bool.true_and, Bool.and_true, Bool.false_and, Bool.and_false, Bool.true_or, Bool.or_true, Bool.false_or, Bool.or_false, Bool.not_not, decide_true, decide_false, Bool.decide_eq_true, Bool.decide_eq_false, qz_0, qz_1, qz_n, qz_n0, qz_n1, qz_t, qz_f, Nat.reduceAdd, q1000000, q0, q1, q2, q3, q4, q5, q6, q7, q8, q9, q10, q11, q12, q13, q14, q15, q16, q18, q19, q20, q21, q22, q23, q24, q25, q26, q27, q28, q29, q30, q31, q32, q38, q44, q45, q48, q57, q58, q59, q60, q63, q64, q97, q122, q126, q127, q128, q255, q256, q300, q580, q600, q1000, nI_add, q_lt_t, q_lt_f, q_eq_t, q_eq_f, q_clamp, q_in_t, q_in_f]
  · obtain ⟨J, M, x1, -, x2, x3⟩ := s_fX (L := L) D hK (D.nz hj) (I 17 j) false
    have DJ := D.fu x2 x3
    obtain ⟨J2, M2, y1, y2, y3⟩ := s_sM DJ (hK.fu x2) (D.nz hj) (I 17 j) false
    rw [x2.f14] at y1
    have e17 : J 17 j = I 17 j := x2 _ _ (by omega)
    have hr := s_Mruns DJ hj
    rw [e17] at hr
    have x1 : zcall zZ nX2_fewest [.ref 25, .int (I 17 j), .int (-nI 1), .int (nI 0)] (hp I L) = _ := x1
    have y1 : zcall zZ nX10_solves [.ref 52, .int (I 17 j), .int (nI 0)] (hp J M) = _ := y1
    refine ⟨.int (nI (tkF N w F (I 14) (I 17 j) false)), J, M, J2, M2, ?_, ?_, x2.trans y2, x3.trans y3⟩
    · simp (disch := omega) only [c_X9_plain, e_X9_plain_0, e_X9_plain_5, e_X9_plain_31, e_X9_plain_26, s_Xtrain D, x1, Option.bind_some, Option.toList_some, Option.toList_none, List.cons_append, List.nil_append, Option.map_some, cond_true, cond_false, Bool.not_true, Bool.not_false, Bool.true_and, Bool.and_true, Bool.false_and, Bool.and_false, Bool.true_or, Bool.or_true, Bool.false_or, Bool.or_false, Bool.not_not, decide_true, decide_false, Bool.decide_eq_true, Bool.decide_eq_false, qz_0, qz_1, qz_n, qz_n0, qz_n1, qz_t, qz_f, Nat.reduceAdd, q1000000, q0, q1, q2, q3, q4, q5, q6, q7, q8, q9, q10, q11, q12, q13, q14, q15, q16, q18, q19, q20, q21, q22, q23, q24, q25, q26, q27, q28, q29, q30, q31, q32, q38, q44, q45, q48, q57, q58, q59, q60, q63, q64, q97, q122, q126, q127, q128, q255, q256, q300, q580, q600, q1000, nI_add, q_lt_t, q_lt_f, q_eq_t, q_eq_f, q_clamp, q_in_t, q_in_f]
    · simp (disch := omega) only [c_X10_plain, e_X10_plain_0, e_X10_plain_5, e_X10_plain_23, e_X10_plain_14, e_X10_plain_18, s_Mtrain DJ, hr, y1, Option.bind_some, Option.toList_some, Option.toList_none, List.cons_append, List.nil_append, Option.map_some, cond_true, cond_false, Bool.not_true, Bool.not_false, Bool.true_and, Bool.and_true, Bool.false_and, Bool.and_false, Bool.true_or, Bool.or_true, Bool.false_or, Bool.or_false, Bool.not_not, decide_true, decide_false, Bool.decide_eq_true, Bool.decide_eq_false, qz_0, qz_1, qz_n, qz_n0, qz_n1, qz_t, qz_f, Nat.reduceAdd, q1000000, q0, q1, q2, q3, q4, q5, q6, q7, q8, q9, q10, q11, q12, q13, q14, q15, q16, q18, q19, q20, q21, q22, q23, q24, q25, q26, q27, q28, q29, q30, q31, q32, q38, q44, q45, q48, q57, q58, q59, q60, q63, q64, q97, q122, q126, q127, q128, q255, q256, q300, q580, q600, q1000, nI_add, q_lt_t, q_lt_f, q_eq_t, q_eq_f, q_clamp, q_in_t, q_in_f]
theorem p_other {I : zI} {L : zL} {N w F T ln : Nat} (D : DK I L N w F T ln) (hK : KC I) (x y : Int32) : PS nX9_other nX10_other [.int x, .int y] I L := by
  have hb := D.b
  rcases zin_N (x := x) (n := T) (by omega) with h | ⟨j, hj, rfl⟩
  · refine SAME.ps ⟨.int (-2), ?_, ?_⟩
    · simp (disch := omega) only [c_X9_other, e_X9_other_0, e_X9_other_5, e_X9_other_16, e_X9_other_13, e_X9_other_41, s_Xtrain D, h, Option.bind_some, Option.toList_some, Option.toList_none, List.cons_append, List.nil_append, Option.map_some, cond_true, cond_false, Bool.not_true, Bool.not_false, Bool.true_and, Bool.and_true, Bool.false_and, Bool.and_false, Bool.true_or, Bool.or_true, Bool.false_or, Bool.or_false, Bool.not_not, decide_true, decide_false, Bool.decide_eq_true, Bool.decide_eq_false, qz_0, qz_1, qz_n, qz_n0, qz_n1, qz_t, qz_f, Nat.reduceAdd, q1000000, q0, q1, q2, q3, q4, q5, q6, q7, q8, q9, q10, q11, q12, q13, q14, q15, q16, q18, q19, q20, q21, q22, q23, q24, q25, q26, q27, q28, q29, q30, q31, q32, q38, q44, q45, q48, q57, q58, q59, q60, q63, q64, q97, q122, q126, q127, q128, q255, q256, q300, q580, q600, q1000, nI_add, q_lt_t, q_lt_f, q_eq_t, q_eq_f, q_clamp, q_in_t, q_in_f]
    · simp (disch := omega) only [c_X10_other, e_X10_other_0, e_X10_other_5, e_X10_other_33, e_X10_other_13, e_X10_other_35, e_X10_other_22, e_X10_other_30, s_Mtrain D, h, Option.bind_some, Option.toList_some, Option.toList_none, List.cons_append, List.nil_append, Option.map_some, cond_true, cond_false, Bool.not_true, Bool.not_false, Bool.true_and, Bool.and_true, Bool.false_and, Bool.and_false, Bool.true_or, Bool.or_true, Bool.false_or, Bool.or_false, Bool.not_not, decide_true, decide_false, Bool.decide_eq_true, Bool.decide_eq_false, qz_0, qz_1, qz_n, qz_n0, qz_n1, qz_t, qz_f, Nat.reduceAdd, q1000000, q0, q1, q2, q3, q4, q5, q6, q7, q8, q9, q10, q11, q12, q13, q14, q15, q16, q18, q19, q20, q21, q22, q23, q24, q25, q26, q27, q28, q29, q30, q31, q32, q38, q44, q45, q48, q57, q58, q59, q60, q63, q64, q97, q122, q126, q127, q128, q255, q256, q300, q580, q600, q1000, nI_add, q_lt_t, q_lt_f, q_eq_t, q_eq_f, q_clamp, q_in_t, q_in_f]
  rcases zin_N (x := y) (n := N) (by omega) with h | ⟨d, hd, rfl⟩
  · refine SAME.ps ⟨.int (-2), ?_, ?_⟩
    · simp (disch := omega) only [c_X9_other, e_X9_other_0, e_X9_other_5, e_X9_other_16, e_X9_other_13, e_X9_other_41, s_Xtrain D, s_Xday D, h, Option.bind_some, Option.toList_some, Option.toList_none, List.cons_append, List.nil_append, Option.map_some, cond_true, cond_false, Bool.not_true, Bool.not_false, Bool.true_and, Bool.and_true, Bool.false_and, Bool.and_false, Bool.true_or, Bool.or_true, Bool.false_or, Bool.or_false, Bool.not_not, decide_true, decide_false, Bool.decide_eq_true, Bool.decide_eq_false, qz_0, qz_1, qz_n, qz_n0, qz_n1, qz_t, qz_f, Nat.reduceAdd, q1000000, q0, q1, q2, q3, q4, q5, q6, q7, q8, q9, q10, q11, q12, q13, q14, q15, q16, q18, q19, q20, q21, q22, q23, q24, q25, q26, q27, q28, q29, q30, q31, q32, q38, q44, q45, q48, q57, q58, q59, q60, q63, q64, q97, q122, q126, q127, q128, q255, q256, q300, q580, q600, q1000, nI_add, q_lt_t, q_lt_f, q_eq_t, q_eq_f, q_clamp, q_in_t, q_in_f]
    · simp (disch := omega) only [c_X10_other, e_X10_other_0, e_X10_other_5, e_X10_other_33, e_X10_other_13, e_X10_other_35, e_X10_other_22, e_X10_other_30, s_Mtrain D, s_Mday D, h, Option.bind_some, Option.toList_some, Option.toList_none, List.cons_append, List.nil_append, Option.map_some, cond_true, cond_false, Bool.not_true, Bool.not_false, Bool.true_and, Bool.and_true, Bool.false_and, Bool.and_false, Bool.true_or, Bool.or_true, Bool.false_or, Bool.or_false, Bool.not_not, decide_true, decide_false, Bool.decide_eq_true, Bool.decide_eq_false, qz_0, qz_1, qz_n, qz_n0, qz_n1, qz_t, qz_f, Nat.reduceAdd, q1000000, q0, q1, q2, q3, q4, q5, q6, q7, q8, q9, q10, q11, q12, q13, q14, q15, q16, q18, q19, q20, q21, q22, q23, q24, q25, q26, q27, q28, q29, q30, q31, q32, q38, q44, q45, q48, q57, q58, q59, q60, q63, q64, q97, q122, q126, q127, q128, q255, q256, q300, q580, q600, q1000, nI_add, q_lt_t, q_lt_f, q_eq_t, q_eq_f, q_clamp, q_in_t, q_in_f]
  · obtain ⟨J, M, x1, -, x2, x3⟩ := s_fX (L := L) D hK (D.nz hj) (I 17 j ^^^ (nI 1 <<< (nI d &&& nI 31))) true
    have DJ := D.fu x2 x3
    obtain ⟨J2, M2, y1, y2, y3⟩ := s_sM DJ (hK.fu x2) (D.nz hj) (I 17 j ^^^ (nI 1 <<< (nI d &&& nI 31))) true
    rw [x2.f14] at y1
    have e17 : J 17 j = I 17 j := x2 _ _ (by omega)
    have hr := s_Mruns DJ hj
    rw [e17] at hr
    have x1 : zcall zZ nX2_fewest [.ref 25, .int (I 17 j ^^^ (nI 1 <<< (nI d &&& nI 31))), .int (-nI 1), .int (nI 1)] (hp I L) = _ := x1
    have y1 : zcall zZ nX10_solves [.ref 52, .int (I 17 j ^^^ (nI 1 <<< (nI d &&& nI 31))), .int (nI 1)] (hp J M) = _ := y1
    refine ⟨.int (nI (tkF N w F (I 14) (I 17 j ^^^ (nI 1 <<< (nI d &&& nI 31))) true)), J, M, J2, M2, ?_, ?_, x2.trans y2, x3.trans y3⟩
    · simp (disch := omega) only [c_X9_other, e_X9_other_0, e_X9_other_5, e_X9_other_16, e_X9_other_13, e_X9_other_41, s_Xtrain D, s_Xday D, x1, Option.bind_some, Option.toList_some, Option.toList_none, List.cons_append, List.nil_append, Option.map_some, cond_true, cond_false, Bool.not_true, Bool.not_false, Bool.true_and, Bool.and_true, Bool.false_and, Bool.and_false, Bool.true_or, Bool.or_true, Bool.false_or, Bool.or_false, Bool.not_not, decide_true, decide_false, Bool.decide_eq_true, Bool.decide_eq_false, qz_0, qz_1, qz_n, qz_n0, qz_n1, qz_t, qz_f, Nat.reduceAdd, q1000000, q0, q1, q2, q3, q4, q5, q6, q7, q8, q9, q10, q11, q12, q13, q14, q15, q16, q18, q19, q20, q21, q22, q23, q24, q25, q26, q27, q28, q29, q30, q31, q32, q38, q44, q45, q48, q57, q58, q59, q60, q63, q64, q97, q122, q126, q127, q128, q255, q256, q300, q580, q600, q1000, nI_add, q_lt_t, q_lt_f, q_eq_t, q_eq_f, q_clamp, q_in_t, q_in_f]
    · simp (disch := omega) only [c_X10_other, e_X10_other_0, e_X10_other_5, e_X10_other_33, e_X10_other_13, e_X10_other_35, e_X10_other_22, e_X10_other_30, s_Mtrain DJ, s_Mday DJ, hr, y1, Option.bind_some, Option.toList_some, Option.toList_none, List.cons_append, List.nil_append, Option.map_some, cond_true, cond_false, Bool.not_true, Bool.not_false, Bool.true_and, Bool.and_true, Bool.false_and, Bool.and_false, Bool.true_or, Bool.or_true, Bool.false_or, Bool.or_false, Bool.not_not, decide_true, decide_false, Bool.decide_eq_true, Bool.decide_eq_false, qz_0, qz_1, qz_n, qz_n0, qz_n1, qz_t, qz_f, Nat.reduceAdd, q1000000, q0, q1, q2, q3, q4, q5, q6, q7, q8, q9, q10, q11, q12, q13, q14, q15, q16, q18, q19, q20, q21, q22, q23, q24, q25, q26, q27, q28, q29, q30, q31, q32, q38, q44, q45, q48, q57, q58, q59, q60, q63, q64, q97, q122, q126, q127, q128, q255, q256, q300, q580, q600, q1000, nI_add, q_lt_t, q_lt_f, q_eq_t, q_eq_f, q_clamp, q_in_t, q_in_f]
theorem p_within {I : zI} {L : zL} {N w F T ln : Nat} (D : DK I L N w F T ln) (hK : KC I) (x y : Int32) : PS nX9_within nX10_within [.int x, .int y] I L := by
  have hb := D.b
  rcases zin_N (x := x) (n := T) (by omega) with h | ⟨j, hj, rfl⟩
  · refine SAME.ps ⟨.int (-2), ?_, ?_⟩
    · simp (disch := omega) only [c_X9_within, e_X9_within_0, e_X9_within_5, e_X9_within_17, e_X9_within_38, s_Xtrain D, h, Option.bind_some, Option.toList_some, Option.toList_none, List.cons_append, List.nil_append, Option.map_some, cond_true, cond_false, Bool.not_true, Bool.not_false, Bool.true_and, Bool.and_true, Bool.false_and, Bool.and_false, Bool.true_or, Bool.or_true, Bool.false_or, Bool.or_false, Bool.not_not, decide_true, decide_false, Bool.decide_eq_true, Bool.decide_eq_false, qz_0, qz_1, qz_n, qz_n0, qz_n1, qz_t, qz_f, Nat.reduceAdd, q1000000, q0, q1, q2, q3, q4, q5, q6, q7, q8, q9, q10, q11, q12, q13, q14, q15, q16, q18, q19, q20, q21, q22, q23, q24, q25, q26, q27, q28, q29, q30, q31, q32, q38, q44, q45, q48, q57, q58, q59, q60, q63, q64, q97, q122, q126, q127, q128, q255, q256, q300, q580, q600, q1000, nI_add, q_lt_t, q_lt_f, q_eq_t, q_eq_f, q_clamp, q_in_t, q_in_f]
    · simp (disch := omega) only [c_X10_within, e_X10_within_0, e_X10_within_5, e_X10_within_33, e_X10_within_17, e_X10_within_35, e_X10_within_26, e_X10_within_30, s_Mtrain D, h, Option.bind_some, Option.toList_some, Option.toList_none, List.cons_append, List.nil_append, Option.map_some, cond_true, cond_false, Bool.not_true, Bool.not_false, Bool.true_and, Bool.and_true, Bool.false_and, Bool.and_false, Bool.true_or, Bool.or_true, Bool.false_or, Bool.or_false, Bool.not_not, decide_true, decide_false, Bool.decide_eq_true, Bool.decide_eq_false, qz_0, qz_1, qz_n, qz_n0, qz_n1, qz_t, qz_f, Nat.reduceAdd, q1000000, q0, q1, q2, q3, q4, q5, q6, q7, q8, q9, q10, q11, q12, q13, q14, q15, q16, q18, q19, q20, q21, q22, q23, q24, q25, q26, q27, q28, q29, q30, q31, q32, q38, q44, q45, q48, q57, q58, q59, q60, q63, q64, q97, q122, q126, q127, q128, q255, q256, q300, q580, q600, q1000, nI_add, q_lt_t, q_lt_f, q_eq_t, q_eq_f, q_clamp, q_in_t, q_in_f]
  rcases zin_N (x := y) (n := 5) (by omega) with h | ⟨sp, hs, rfl⟩
  · refine SAME.ps ⟨.int (-2), ?_, ?_⟩
    · rcases zin_no' (by omega) h with q | ⟨u1, u2⟩
      · simp (disch := omega) only [c_X9_within, e_X9_within_0, e_X9_within_5, e_X9_within_17, e_X9_within_38, s_Xtrain D, q, Option.bind_some, Option.toList_some, Option.toList_none, List.cons_append, List.nil_append, Option.map_some, cond_true, cond_false, Bool.not_true, Bool.not_false, Bool.true_and, Bool.and_true, Bool.false_and, Bool.and_false, Bool.true_or, Bool.or_true, Bool.false_or, Bool.or_false, Bool.not_not, decide_true, decide_false, Bool.decide_eq_true, Bool.decide_eq_false, qz_0, qz_1, qz_n, qz_n0, qz_n1, qz_t, qz_f, Nat.reduceAdd, q1000000, q0, q1, q2, q3, q4, q5, q6, q7, q8, q9, q10, q11, q12, q13, q14, q15, q16, q18, q19, q20, q21, q22, q23, q24, q25, q26, q27, q28, q29, q30, q31, q32, q38, q44, q45, q48, q57, q58, q59, q60, q63, q64, q97, q122, q126, q127, q128, q255, q256, q300, q580, q600, q1000, nI_add, q_lt_t, q_lt_f, q_eq_t, q_eq_f, q_clamp, q_in_t, q_in_f]
      · simp (disch := omega) only [c_X9_within, e_X9_within_0, e_X9_within_5, e_X9_within_17, e_X9_within_38, s_Xtrain D, u1, u2, Option.bind_some, Option.toList_some, Option.toList_none, List.cons_append, List.nil_append, Option.map_some, cond_true, cond_false, Bool.not_true, Bool.not_false, Bool.true_and, Bool.and_true, Bool.false_and, Bool.and_false, Bool.true_or, Bool.or_true, Bool.false_or, Bool.or_false, Bool.not_not, decide_true, decide_false, Bool.decide_eq_true, Bool.decide_eq_false, qz_0, qz_1, qz_n, qz_n0, qz_n1, qz_t, qz_f, Nat.reduceAdd, q1000000, q0, q1, q2, q3, q4, q5, q6, q7, q8, q9, q10, q11, q12, q13, q14, q15, q16, q18, q19, q20, q21, q22, q23, q24, q25, q26, q27, q28, q29, q30, q31, q32, q38, q44, q45, q48, q57, q58, q59, q60, q63, q64, q97, q122, q126, q127, q128, q255, q256, q300, q580, q600, q1000, nI_add, q_lt_t, q_lt_f, q_eq_t, q_eq_f, q_clamp, q_in_t, q_in_f]
    · simp (disch := omega) only [c_X10_within, e_X10_within_0, e_X10_within_5, e_X10_within_33, e_X10_within_17, e_X10_within_35, e_X10_within_26, e_X10_within_30, s_Mtrain D, s_in_04, h, Option.bind_some, Option.toList_some, Option.toList_none, List.cons_append, List.nil_append, Option.map_some, cond_true, cond_false, Bool.not_true, Bool.not_false, Bool.true_and, Bool.and_true, Bool.false_and, Bool.and_false, Bool.true_or, Bool.or_true, Bool.false_or, Bool.or_false, Bool.not_not, decide_true, decide_false, Bool.decide_eq_true, Bool.decide_eq_false, qz_0, qz_1, qz_n, qz_n0, qz_n1, qz_t, qz_f, Nat.reduceAdd, q1000000, q0, q1, q2, q3, q4, q5, q6, q7, q8, q9, q10, q11, q12, q13, q14, q15, q16, q18, q19, q20, q21, q22, q23, q24, q25, q26, q27, q28, q29, q30, q31, q32, q38, q44, q45, q48, q57, q58, q59, q60, q63, q64, q97, q122, q126, q127, q128, q255, q256, q300, q580, q600, q1000, nI_add, q_lt_t, q_lt_f, q_eq_t, q_eq_f, q_clamp, q_in_t, q_in_f]
  · obtain ⟨k, J, M, -, x1, x2, x3, hy⟩ := both_within (L := L) D hK (D.nz hj) (I 17 j) hs
    have DJ := D.fu x2.fu x3.fu
    obtain ⟨J2, y1, y2⟩ := hy J M DJ.m.1 DJ.m.2.1 DJ.m.2.2.1 (fun f hf => by rw [DJ.fe hf]; exact x2.fu 14 f (by omega))
    have e17 : J 17 j = I 17 j := x2.fu _ _ (by omega)
    have hr := s_Mruns DJ hj
    rw [e17] at hr
    refine ⟨.int (nI k), J, M, J2, M, ?_, ?_, x2.fu.trans y2.fu, x3.fu⟩
    · simp (disch := omega) only [c_X9_within, e_X9_within_0, e_X9_within_5, e_X9_within_17, e_X9_within_38, s_Xtrain D, x1, Option.bind_some, Option.toList_some, Option.toList_none, List.cons_append, List.nil_append, Option.map_some, cond_true, cond_false, Bool.not_true, Bool.not_false, Bool.true_and, Bool.and_true, Bool.false_and, Bool.and_false, Bool.true_or, Bool.or_true, Bool.false_or, Bool.or_false, Bool.not_not, decide_true, decide_false, Bool.decide_eq_true, Bool.decide_eq_false, qz_0, qz_1, qz_n, qz_n0, qz_n1, qz_t, qz_f, Nat.reduceAdd, q1000000, q0, q1, q2, q3, q4, q5, q6, q7, q8, q9, q10, q11, q12, q13, q14, q15, q16, q18, q19, q20, q21, q22, q23, q24, q25, q26, q27, q28, q29, q30, q31, q32, q38, q44, q45, q48, q57, q58, q59, q60, q63, q64, q97, q122, q126, q127, q128, q255, q256, q300, q580, q600, q1000, nI_add, q_lt_t, q_lt_f, q_eq_t, q_eq_f, q_clamp, q_in_t, q_in_f]
    · simp (disch := omega) only [c_X10_within, e_X10_within_0, e_X10_within_5, e_X10_within_33, e_X10_within_17, e_X10_within_35, e_X10_within_26, e_X10_within_30, s_Mtrain DJ, s_in_04, hr, y1, Option.bind_some, Option.toList_some, Option.toList_none, List.cons_append, List.nil_append, Option.map_some, cond_true, cond_false, Bool.not_true, Bool.not_false, Bool.true_and, Bool.and_true, Bool.false_and, Bool.and_false, Bool.true_or, Bool.or_true, Bool.false_or, Bool.or_false, Bool.not_not, decide_true, decide_false, Bool.decide_eq_true, Bool.decide_eq_false, qz_0, qz_1, qz_n, qz_n0, qz_n1, qz_t, qz_f, Nat.reduceAdd, q1000000, q0, q1, q2, q3, q4, q5, q6, q7, q8, q9, q10, q11, q12, q13, q14, q15, q16, q18, q19, q20, q21, q22, q23, q24, q25, q26, q27, q28, q29, q30, q31, q32, q38, q44, q45, q48, q57, q58, q59, q60, q63, q64, q97, q122, q126, q127, q128, q255, q256, q300, q580, q600, q1000, nI_add, q_lt_t, q_lt_f, q_eq_t, q_eq_f, q_clamp, q_in_t, q_in_f]
/-! least -/
theorem s_alld {I : zI} {L : zL} {N w F T ln : Nat} (D : DK I L N w F T ln) : zcall zZ nX1_allDays [.ref 11] (hp I L) = some (some (.int (nI (2 ^ N - 1))), hp I L) := by
  have hb := D.b
  have hp1 : 1 ≤ 2 ^ N := Nat.one_le_two_pow
  simp (disch := omega) only [c_X1_allDays hd11, e_X1_allDays_0 hd11, D.x.1, q_shl1, q_sub, Option.bind_some, Option.toList_some, Option.toList_none, List.cons_append, List.nil_append, Option.map_some, cond_true, cond_false, Bool.not_true, Bool.not_false, Bool.true_and, Bool.and_true, Bool.false_and, Bool.and_false, Bool.true_or, Bool.or_true, Bool.false_or, Bool.or_false, Bool.not_not, decide_true, decide_false, Bool.decide_eq_true, Bool.decide_eq_false, qz_0, qz_1, qz_n, qz_n0, qz_n1, qz_t, qz_f, Nat.reduceAdd, q1000000, q0, q1, q2, q3, q4, q5, q6, q7, q8, q9, q10, q11, q12, q13, q14, q15, q16, q18, q19, q20, q21, q22, q23, q24, q25, q26, q27, q28, q29, q30, q31, q32, q38, q44, q45, q48, q57, q58, q59, q60, q63, q64, q97, q122, q126, q127, q128, q255, q256, q300, q580, q600, q1000, nI_add, q_lt_t, q_lt_f, q_eq_t, q_eq_f, q_clamp, q_in_t, q_in_f]
theorem s_whole {I : zI} {L : zL} {N w F T ln : Nat} (D : DK I L N w F T ln) : zcall zZ nX10_whole [.ref 52] (hp I L) = some (some (.int (nI (2 ^ N - 1))), hp I L) := by
  have hb := D.b
  have hp1 : 1 ≤ 2 ^ N := Nat.one_le_two_pow
  simp (disch := omega) only [c_X10_whole, e_X10_whole_0, D.m.1, q_shl1, q_sub, Option.bind_some, Option.toList_some, Option.toList_none, List.cons_append, List.nil_append, Option.map_some, cond_true, cond_false, Bool.not_true, Bool.not_false, Bool.true_and, Bool.and_true, Bool.false_and, Bool.and_false, Bool.true_or, Bool.or_true, Bool.false_or, Bool.or_false, Bool.not_not, decide_true, decide_false, Bool.decide_eq_true, Bool.decide_eq_false, qz_0, qz_1, qz_n, qz_n0, qz_n1, qz_t, qz_f, Nat.reduceAdd, q1000000, q0, q1, q2, q3, q4, q5, q6, q7, q8, q9, q10, q11, q12, q13, q14, q15, q16, q18, q19, q20, q21, q22, q23, q24, q25, q26, q27, q28, q29, q30, q31, q32, q38, q44, q45, q48, q57, q58, q59, q60, q63, q64, q97, q122, q126, q127, q128, q255, q256, q300, q580, q600, q1000, nI_add, q_lt_t, q_lt_f, q_eq_t, q_eq_f, q_clamp, q_in_t, q_in_f]
theorem pow28 {N : Nat} (h : N ≤ 28) : 2 ^ N ≤ 268435456 := Nat.pow_le_pow_right (n := 2) (by decide) h
theorem b_all {N : Nat} (hN : N ≤ 28) (i : Nat) : bt (nI (2 ^ N - 1)) i = decide (i < N) := by
  have := pow28 hN
  rw [bt_nI (by omega), Nat.testBit_two_pow_sub_one]
/-- days within the period, as a set and as a number -/
theorem in_all {N : Nat} (hN : N ≤ 28) (x : Int32) : (x &&& (nI (2 ^ N - 1) ^^^ -nI 1) = nI 0) ↔ zin x (2 ^ N) = true := by
  have h28 := pow28 hN
  have hp1 : 1 ≤ 2 ^ N := Nat.one_le_two_pow
  constructor
  · intro h
    have hs : sub N x := fun i hi => by
      rcases Nat.lt_or_ge i 32 with q | q
      · have := congrArg (fun z => bt z i) h
        simp only [b_and, b_cpl q, b_all hN, decide_eq_false (show ¬ i < N by omega), show bt (nI 0) i = false from b_0 i, Bool.not_false, Bool.and_true] at this
        exact this
      · exact b_big q
    obtain ⟨k, hk, rfl⟩ := sub_num (by omega) hs
    exact q_in_t hk (by omega)
  · intro h
    obtain ⟨k, hk, rfl⟩ := zin_of2 (by omega) h
    apply b_ext
    intro i hi
    rw [b_and, b_cpl hi, b_all hN, show bt (nI 0) i = false from b_0 i, bt_nI (by omega)]
    by_cases q : i < N
    · rw [decide_eq_true q, Bool.not_true, Bool.and_false]
    · have : 2 ^ N ≤ 2 ^ i := Nat.pow_le_pow_right (by decide) (by omega)
      rw [Nat.testBit_lt_two_pow (by omega), Bool.false_and]
theorem s_in_big (h : zH) (x : Int32) {n : Nat} (hn : n < 2 ^ 29) : zcall zZ nX10_in [.long x.toInt64, .long 0, .long (nI n).toInt64] h = some (some (.int (zbo (zin x (n + 1)))), h) := by
  have := s_in0 h x (n := n + 1) (by omega)
  rw [show nI (n + 1) - 1 = nI n from nI_pred n] at this
  exact this
theorem p_least {I : zI} {L : zL} {N w F T ln : Nat} (D : DK I L N w F T ln) (hK : KC I) (x : Int32) : PS nX9_least nX10_least [.int x] I L := by
  have hb := D.b
  have h28 := pow28 hb.1
  have hp1 : 1 ≤ 2 ^ N := Nat.one_le_two_pow
  have ein : ∀ h : zH, zcall zZ nX10_in [.long x.toInt64, .long 0, .long (nI (2 ^ N - 1)).toInt64] h = some (some (.int (zbo (zin x (2 ^ N)))), h) := fun h => by
    have := s_in_big h x (n := 2 ^ N - 1) (by omega)
    rw [show 2 ^ N - 1 + 1 = 2 ^ N by omega] at this
    exact this
  by_cases h0 : N = 0
  · have hl : ln = 0 := by omega
    refine SAME.ps ⟨.int (-2), ?_, ?_⟩
    · simp (disch := omega) only [c_X9_least, e_X9_least_0, e_X9_least_24, e_X9_least_18, e_X9_least_37, D.x.1, h0, Option.bind_some, Option.toList_some, Option.toList_none, List.cons_append, List.nil_append, Option.map_some, cond_true, cond_false, Bool.not_true, Bool.not_false, Bool.true_and, Bool.and_true, Bool.false_and, Bool.and_false, Bool.true_or, Bool.or_true, Bool.false_or, Bool.or_false, Bool.not_not, decide_true, decide_false, Bool.decide_eq_true, Bool.decide_eq_false, qz_0, qz_1, qz_n, qz_n0, qz_n1, qz_t, qz_f, Nat.reduceAdd, q1000000, q0, q1, q2, q3, q4, q5, q6, q7, q8, q9, q10, q11, q12, q13, q14, q15, q16, q18, q19, q20, q21, q22, q23, q24, q25, q26, q27, q28, q29, q30, q31, q32, q38, q44, q45, q48, q57, q58, q59, q60, q63, q64, q97, q122, q126, q127, q128, q255, q256, q300, q580, q600, q1000, nI_add, q_lt_t, q_lt_f, q_eq_t, q_eq_f, q_clamp, q_in_t, q_in_f]
    · simp (disch := omega) only [c_X10_least, e_X10_least_0, e_X10_least_32, e_X10_least_16, e_X10_least_34, e_X10_least_20, e_X10_least_29, D.m.2.2.2.2, hl, Option.bind_some, Option.toList_some, Option.toList_none, List.cons_append, List.nil_append, Option.map_some, cond_true, cond_false, Bool.not_true, Bool.not_false, Bool.true_and, Bool.and_true, Bool.false_and, Bool.and_false, Bool.true_or, Bool.or_true, Bool.false_or, Bool.or_false, Bool.not_not, decide_true, decide_false, Bool.decide_eq_true, Bool.decide_eq_false, qz_0, qz_1, qz_n, qz_n0, qz_n1, qz_t, qz_f, Nat.reduceAdd, q1000000, q0, q1, q2, q3, q4, q5, q6, q7, q8, q9, q10, q11, q12, q13, q14, q15, q16, q18, q19, q20, q21, q22, q23, q24, q25, q26, q27, q28, q29, q30, q31, q32, q38, q44, q45, q48, q57, q58, q59, q60, q63, q64, q97, q122, q126, q127, q128, q255, q256, q300, q580, q600, q1000, nI_add, q_lt_t, q_lt_f, q_eq_t, q_eq_f, q_clamp, q_in_t, q_in_f]
  have hl : ln ≠ 0 := by omega
  cases hz : zin x (2 ^ N) with
  | false =>
    have hn : ¬ (x &&& (nI (2 ^ N - 1) ^^^ -nI 1) = nI 0) := fun e => by
      rw [(in_all hb.1 x).mp e] at hz
      cases hz
    refine SAME.ps ⟨.int (-2), ?_, ?_⟩
    · simp (disch := omega) only [c_X9_least, e_X9_least_0, e_X9_least_24, e_X9_least_18, e_X9_least_37, D.x.1, s_alld D, hn, Option.bind_some, Option.toList_some, Option.toList_none, List.cons_append, List.nil_append, Option.map_some, cond_true, cond_false, Bool.not_true, Bool.not_false, Bool.true_and, Bool.and_true, Bool.false_and, Bool.and_false, Bool.true_or, Bool.or_true, Bool.false_or, Bool.or_false, Bool.not_not, decide_true, decide_false, Bool.decide_eq_true, Bool.decide_eq_false, qz_0, qz_1, qz_n, qz_n0, qz_n1, qz_t, qz_f, Nat.reduceAdd, q1000000, q0, q1, q2, q3, q4, q5, q6, q7, q8, q9, q10, q11, q12, q13, q14, q15, q16, q18, q19, q20, q21, q22, q23, q24, q25, q26, q27, q28, q29, q30, q31, q32, q38, q44, q45, q48, q57, q58, q59, q60, q63, q64, q97, q122, q126, q127, q128, q255, q256, q300, q580, q600, q1000, nI_add, q_lt_t, q_lt_f, q_eq_t, q_eq_f, q_clamp, q_in_t, q_in_f]
    · simp (disch := omega) only [c_X10_least, e_X10_least_0, e_X10_least_32, e_X10_least_16, e_X10_least_34, e_X10_least_20, e_X10_least_29, D.m.2.2.2.2, s_whole D, ein, hz, Option.bind_some, Option.toList_some, Option.toList_none, List.cons_append, List.nil_append, Option.map_some, cond_true, cond_false, Bool.not_true, Bool.not_false, Bool.true_and, Bool.and_true, Bool.false_and, Bool.and_false, Bool.true_or, Bool.or_true, Bool.false_or, Bool.or_false, Bool.not_not, decide_true, decide_false, Bool.decide_eq_true, Bool.decide_eq_false, qz_0, qz_1, qz_n, qz_n0, qz_n1, qz_t, qz_f, Nat.reduceAdd, q1000000, q0, q1, q2, q3, q4, q5, q6, q7, q8, q9, q10, q11, q12, q13, q14, q15, q16, q18, q19, q20, q21, q22, q23, q24, q25, q26, q27, q28, q29, q30, q31, q32, q38, q44, q45, q48, q57, q58, q59, q60, q63, q64, q97, q122, q126, q127, q128, q255, q256, q300, q580, q600, q1000, nI_add, q_lt_t, q_lt_f, q_eq_t, q_eq_f, q_clamp, q_in_t, q_in_f]
  | true =>
    have hn := (in_all hb.1 x).mpr hz
    obtain ⟨J, M, x1, -, x2, x3⟩ := s_fX (L := L) D hK h0 x true
    have DJ := D.fu x2 x3
    obtain ⟨J2, M2, y1, y2, y3⟩ := s_sM DJ (hK.fu x2) h0 x true
    rw [x2.f14] at y1
    have x1 : zcall zZ nX2_fewest [.ref 25, .int x, .int (-nI 1), .int (nI 1)] (hp I L) = _ := x1
    have y1 : zcall zZ nX10_solves [.ref 52, .int x, .int (nI 1)] (hp J M) = _ := y1
    refine ⟨.int (nI (tkF N w F (I 14) x true)), J, M, J2, M2, ?_, ?_, x2.trans y2, x3.trans y3⟩
    · simp (disch := omega) only [c_X9_least, e_X9_least_0, e_X9_least_24, e_X9_least_18, e_X9_least_37, D.x.1, s_alld D, hn, x1, Option.bind_some, Option.toList_some, Option.toList_none, List.cons_append, List.nil_append, Option.map_some, cond_true, cond_false, Bool.not_true, Bool.not_false, Bool.true_and, Bool.and_true, Bool.false_and, Bool.and_false, Bool.true_or, Bool.or_true, Bool.false_or, Bool.or_false, Bool.not_not, decide_true, decide_false, Bool.decide_eq_true, Bool.decide_eq_false, qz_0, qz_1, qz_n, qz_n0, qz_n1, qz_t, qz_f, Nat.reduceAdd, q1000000, q0, q1, q2, q3, q4, q5, q6, q7, q8, q9, q10, q11, q12, q13, q14, q15, q16, q18, q19, q20, q21, q22, q23, q24, q25, q26, q27, q28, q29, q30, q31, q32, q38, q44, q45, q48, q57, q58, q59, q60, q63, q64, q97, q122, q126, q127, q128, q255, q256, q300, q580, q600, q1000, nI_add, q_lt_t, q_lt_f, q_eq_t, q_eq_f, q_clamp, q_in_t, q_in_f]
    · simp (disch := omega) only [c_X10_least, e_X10_least_0, e_X10_least_32, e_X10_least_16, e_X10_least_34, e_X10_least_20, e_X10_least_29, DJ.m.2.2.2.2, s_whole DJ, ein, hz, y1, Option.bind_some, Option.toList_some, Option.toList_none, List.cons_append, List.nil_append, Option.map_some, cond_true, cond_false, Bool.not_true, Bool.not_false, Bool.true_and, Bool.and_true, Bool.false_and, Bool.and_false, Bool.true_or, Bool.or_true, Bool.false_or, Bool.or_false, Bool.not_not, decide_true, decide_false, Bool.decide_eq_true, Bool.decide_eq_false, qz_0, qz_1, qz_n, qz_n0, qz_n1, qz_t, qz_f, Nat.reduceAdd, q1000000, q0, q1, q2, q3, q4, q5, q6, q7, q8, q9, q10, q11, q12, q13, q14, q15, q16, q18, q19, q20, q21, q22, q23, q24, q25, q26, q27, q28, q29, q30, q31, q32, q38, q44, q45, q48, q57, q58, q59, q60, q63, q64, q97, q122, q126, q127, q128, q255, q256, q300, q580, q600, q1000, nI_add, q_lt_t, q_lt_f, q_eq_t, q_eq_f, q_clamp, q_in_t, q_in_f]
theorem p_worse {I : zI} {L : zL} {N w F T ln A S : Nat} (E : EV I L N w F T ln A S) (hK : KC I) : PS nX9_worse nX10_worse [] I L := by
  obtain ⟨D, -, -, -, h8, hc⟩ := E
  rcases hc with hc | ⟨hc, ⟨h9, h10, h11, h12⟩, hN, k, hk, h0, hs⟩
  · exact SAME.ps ⟨.int (-1), by simp (disch := omega) only [c_X9_worse, e_X9_worse_0, e_X9_worse_14, e_X9_worse_33, hc, Option.bind_some, Option.toList_some, Option.toList_none, List.cons_append, List.nil_append, Option.map_some, cond_true, cond_false, Bool.not_true, Bool.not_false, Bool.true_and, Bool.and_true, Bool.false_and, Bool.and_false, Bool.true_or, Bool.or_true, Bool.false_or, Bool.or_false, Bool.not_not, decide_true, decide_false, Bool.decide_eq_true, Bool.decide_eq_false, qz_0, qz_1, qz_n, qz_n0, qz_n1, qz_t, qz_f, Nat.reduceAdd, q1000000, q0, q1, q2, q3, q4, q5, q6, q7, q8, q9, q10, q11, q12, q13, q14, q15, q16, q18, q19, q20, q21, q22, q23, q24, q25, q26, q27, q28, q29, q30, q31, q32, q38, q44, q45, q48, q57, q58, q59, q60, q63, q64, q97, q122, q126, q127, q128, q255, q256, q300, q580, q600, q1000, nI_add, q_lt_t, q_lt_f, q_eq_t, q_eq_f, q_clamp, q_in_t, q_in_f], by simp (disch := omega) only [c_X10_worse, e_X10_worse_0, e_X10_worse_14, e_X10_worse_31, e_X10_worse_32, h8, hc, Option.bind_some, Option.toList_some, Option.toList_none, List.cons_append, List.nil_append, Option.map_some, cond_true, cond_false, Bool.not_true, Bool.not_false, Bool.true_and, Bool.and_true, Bool.false_and, Bool.and_false, Bool.true_or, Bool.or_true, Bool.false_or, Bool.or_false, Bool.not_not, decide_true, decide_false, Bool.decide_eq_true, Bool.decide_eq_false, qz_0, qz_1, qz_n, qz_n0, qz_n1, qz_t, qz_f, Nat.reduceAdd, q1000000, q0, q1, q2, q3, q4, q5, q6, q7, q8, q9, q10, q11, q12, q13, q14, q15, q16, q18, q19, q20, q21, q22, q23, q24, q25, q26, q27, q28, q29, q30, q31, q32, q38, q44, q45, q48, q57, q58, q59, q60, q63, q64, q97, q122, q126, q127, q128, q255, q256, q300, q580, q600, q1000, nI_add, q_lt_t, q_lt_f, q_eq_t, q_eq_f, q_clamp, q_in_t, q_in_f]⟩
  by_cases k0 : k = 0
  · subst k0
    obtain ⟨J, M, x1, -, x2, x3⟩ := s_fX (L := L) D hK hN (I 0 9) true
    have DJ := D.fu x2 x3
    obtain ⟨J2, M2, y1, y2, y3⟩ := s_sM DJ (hK.fu x2) hN (I 0 9) true
    rw [x2.f14] at y1
    have x1 : zcall zZ nX2_fewest [.ref 25, .int (I 0 9), .int (-nI 1), .int (nI 1)] (hp I L) = _ := x1
    have y1 : zcall zZ nX10_solves [.ref 52, .int (I 0 9), .int (nI 1)] (hp J M) = _ := y1
    have e43 : J 52 43 = nI 1 := by rw [x2 _ _ (by omega), h8, hc]
    have e44 : J 52 44 = I 0 9 := by rw [x2 _ _ (by omega), h9]
    have e45 : J 52 45 = I 0 10 := by rw [x2 _ _ (by omega), h10]
    have e46 : J 52 46 = nI 0 := by rw [x2 _ _ (by omega), h11, h0]
    refine ⟨.int (I 0 10 - nI (tkF N w F (I 14) (I 0 9) true)), J, M, J2, M2, ?_, ?_, x2.trans y2, x3.trans y3⟩
    · simp (disch := omega) only [c_X9_worse, e_X9_worse_0, e_X9_worse_14, e_X9_worse_33, hc, h0, x1, Option.bind_some, Option.toList_some, Option.toList_none, List.cons_append, List.nil_append, Option.map_some, cond_true, cond_false, Bool.not_true, Bool.not_false, Bool.true_and, Bool.and_true, Bool.false_and, Bool.and_false, Bool.true_or, Bool.or_true, Bool.false_or, Bool.or_false, Bool.not_not, decide_true, decide_false, Bool.decide_eq_true, Bool.decide_eq_false, qz_0, qz_1, qz_n, qz_n0, qz_n1, qz_t, qz_f, Nat.reduceAdd, q1000000, q0, q1, q2, q3, q4, q5, q6, q7, q8, q9, q10, q11, q12, q13, q14, q15, q16, q18, q19, q20, q21, q22, q23, q24, q25, q26, q27, q28, q29, q30, q31, q32, q38, q44, q45, q48, q57, q58, q59, q60, q63, q64, q97, q122, q126, q127, q128, q255, q256, q300, q580, q600, q1000, nI_add, q_lt_t, q_lt_f, q_eq_t, q_eq_f, q_clamp, q_in_t, q_in_f]
    · simp (disch := omega) only [c_X10_worse, e_X10_worse_0, e_X10_worse_14, e_X10_worse_31, e_X10_worse_32, e43, e44, e45, e46, y1, Option.bind_some, Option.toList_some, Option.toList_none, List.cons_append, List.nil_append, Option.map_some, cond_true, cond_false, Bool.not_true, Bool.not_false, Bool.true_and, Bool.and_true, Bool.false_and, Bool.and_false, Bool.true_or, Bool.or_true, Bool.false_or, Bool.or_false, Bool.not_not, decide_true, decide_false, Bool.decide_eq_true, Bool.decide_eq_false, qz_0, qz_1, qz_n, qz_n0, qz_n1, qz_t, qz_f, Nat.reduceAdd, q1000000, q0, q1, q2, q3, q4, q5, q6, q7, q8, q9, q10, q11, q12, q13, q14, q15, q16, q18, q19, q20, q21, q22, q23, q24, q25, q26, q27, q28, q29, q30, q31, q32, q38, q44, q45, q48, q57, q58, q59, q60, q63, q64, q97, q122, q126, q127, q128, q255, q256, q300, q580, q600, q1000, nI_add, q_lt_t, q_lt_f, q_eq_t, q_eq_f, q_clamp, q_in_t, q_in_f]
  · exact SAME.ps ⟨.int (-1), by simp (disch := omega) only [c_X9_worse, e_X9_worse_0, e_X9_worse_14, e_X9_worse_33, hc, h0, Option.bind_some, Option.toList_some, Option.toList_none, List.cons_append, List.nil_append, Option.map_some, cond_true, cond_false, Bool.not_true, Bool.not_false, Bool.true_and, Bool.and_true, Bool.false_and, Bool.and_false, Bool.true_or, Bool.or_true, Bool.false_or, Bool.or_false, Bool.not_not, decide_true, decide_false, Bool.decide_eq_true, Bool.decide_eq_false, qz_0, qz_1, qz_n, qz_n0, qz_n1, qz_t, qz_f, Nat.reduceAdd, q1000000, q0, q1, q2, q3, q4, q5, q6, q7, q8, q9, q10, q11, q12, q13, q14, q15, q16, q18, q19, q20, q21, q22, q23, q24, q25, q26, q27, q28, q29, q30, q31, q32, q38, q44, q45, q48, q57, q58, q59, q60, q63, q64, q97, q122, q126, q127, q128, q255, q256, q300, q580, q600, q1000, nI_add, q_lt_t, q_lt_f, q_eq_t, q_eq_f, q_clamp, q_in_t, q_in_f], by simp (disch := omega) only [c_X10_worse, e_X10_worse_0, e_X10_worse_14, e_X10_worse_31, e_X10_worse_32, h8, hc, h11, h0, Option.bind_some, Option.toList_some, Option.toList_none, List.cons_append, List.nil_append, Option.map_some, cond_true, cond_false, Bool.not_true, Bool.not_false, Bool.true_and, Bool.and_true, Bool.false_and, Bool.and_false, Bool.true_or, Bool.or_true, Bool.false_or, Bool.or_false, Bool.not_not, decide_true, decide_false, Bool.decide_eq_true, Bool.decide_eq_false, qz_0, qz_1, qz_n, qz_n0, qz_n1, qz_t, qz_f, Nat.reduceAdd, q1000000, q0, q1, q2, q3, q4, q5, q6, q7, q8, q9, q10, q11, q12, q13, q14, q15, q16, q18, q19, q20, q21, q22, q23, q24, q25, q26, q27, q28, q29, q30, q31, q32, q38, q44, q45, q48, q57, q58, q59, q60, q63, q64, q97, q122, q126, q127, q128, q255, q256, q300, q580, q600, q1000, nI_add, q_lt_t, q_lt_f, q_eq_t, q_eq_f, q_clamp, q_in_t, q_in_f]⟩
