/-! later or earlier -/
theorem s_in27 (h : zH) (x : Int32) : zcall zZ nX10_in [.long x.toInt64, .long (-27), .long 27] h = some (some (.int (zbo (!decide (x < -nI 27) && !decide (nI 27 < x)))), h) := by
  rw [s_in]
  have e1 : decide ((-27 : Int64) ≤ x.toInt64) = !decide (x < -nI 27) := by
    rw [show (!decide (x < -nI 27)) = decide (¬ x < -nI 27) from (decide_not).symm, decide_eq_decide, Int64.le_iff_toInt_le, Int32.toInt_toInt64, Int32.lt_iff_toInt_lt]
    have : (-27 : Int64).toInt = -27 := rfl
    have : (-nI 27).toInt = -27 := rfl
    omega
  have e2 : decide (x.toInt64 ≤ (27 : Int64)) = !decide (nI 27 < x) := by
    rw [show (!decide (nI 27 < x)) = decide (¬ nI 27 < x) from (decide_not).symm, decide_eq_decide, Int64.le_iff_toInt_le, Int32.toInt_toInt64, Int32.lt_iff_toInt_lt]
    have : (27 : Int64).toInt = 27 := rfl
    have : (nI 27).toInt = 27 := rfl
    omega
  rw [e1, e2]
theorem p_shift {I : zI} {L : zL} {N w F T ln : Nat} (D : DK I L N w F T ln) (hK : KC I) (x y : Int32) : PS nX9_shift nX10_shift [.int x, .int y] I L := by
  have hb := D.b
  rcases zin_N (x := x) (n := T) (by omega) with h | ⟨j, hj, rfl⟩
  · refine SAME.ps ⟨.int (-2), ?_, ?_⟩
    · simp (disch := omega) only [c_X9_shift, e_X9_shift_0, e_X9_shift_5, e_X9_shift_20, e_X9_shift_47, e_X9_shift_62, e_X9_shift_68, s_Xtrain D, h, Option.bind_some, Option.toList_some, Option.toList_none, List.cons_append, List.nil_append, Option.map_some, cond_true, cond_false, Bool.not_true, Bool.not_false, Bool.true_and, Bool.and_true, Bool.false_and, Bool.and_false, Bool.true_or, Bool.or_true, Bool.false_or, Bool.or_false, Bool.not_not, decide_true, decide_false, Bool.decide_eq_true, Bool.decide_eq_false, qz_0, qz_1, qz_n, qz_n0, qz_n1, qz_t, qz_f, Nat.reduceAdd, q1000000, q0, q1, q2, q3, q4, q5, q6, q7, q8, q9, q10, q11, q12, q13, q14, q15, q16, q18, q19, q20, q21, q22, q23, q24, q25, q26, q27, q28, q29, q30, q31, q32, q38, q44, q45, q48, q57, q58, q59, q60, q63, q64, q97, q122, q126, q127, q128, q255, q256, q300, q580, q600, q1000, nI_add, q_lt_t, q_lt_f, q_eq_t, q_eq_f, q_clamp, q_in_t, q_in_f]
    · simp (disch := omega) only [c_X10_shift, e_X10_shift_0, e_X10_shift_5, e_X10_shift_22, e_X10_shift_19, e_X10_shift_46, e_X10_shift_35, e_X10_shift_48, e_X10_shift_52, e_X10_shift_57, s_Mtrain D, h, Option.bind_some, Option.toList_some, Option.toList_none, List.cons_append, List.nil_append, Option.map_some, cond_true, cond_false, Bool.not_true, Bool.not_false, Bool.true_and, Bool.and_true, Bool.false_and, Bool.and_false, Bool.true_or, Bool.or_true, Bool.false_or, Bool.or_false, Bool.not_not, decide_true, decide_false, Bool.decide_eq_true, Bool.decide_eq_false, qz_0, qz_1, qz_n, qz_n0, qz_n1, qz_t, qz_f, Nat.reduceAdd, q1000000, q0, q1, q2, q3, q4, q5, q6, q7, q8, q9, q10, q11, q12, q13, q14, q15, q16, q18, q19, q20, q21, q22, q23, q24, q25, q26, q27, q28, q29, q30, q31, q32, q38, q44, q45, q48, q57, q58, q59, q60, q63, q64, q97, q122, q126, q127, q128, q255, q256, q300, q580, q600, q1000, nI_add, q_lt_t, q_lt_f, q_eq_t, q_eq_f, q_clamp, q_in_t, q_in_f]
  by_cases z1 : y < -nI 27
  · refine SAME.ps ⟨.int (-2), ?_, ?_⟩
    · simp (disch := omega) only [c_X9_shift, e_X9_shift_0, e_X9_shift_5, e_X9_shift_20, e_X9_shift_47, e_X9_shift_62, e_X9_shift_68, s_Xtrain D, z1, Option.bind_some, Option.toList_some, Option.toList_none, List.cons_append, List.nil_append, Option.map_some, cond_true, cond_false, Bool.not_true, Bool.not_false, Bool.true_and, Bool.and_true, Bool.false_and, Bool.and_false, Bool.true_or, Bool.or_true, Bool.false_or, Bool.or_false, Bool.not_not, decide_true, decide_false, Bool.decide_eq_true, Bool.decide_eq_false, qz_0, qz_1, qz_n, qz_n0, qz_n1, qz_t, qz_f, Nat.reduceAdd, q1000000, q0, q1, q2, q3, q4, q5, q6, q7, q8, q9, q10, q11, q12, q13, q14, q15, q16, q18, q19, q20, q21, q22, q23, q24, q25, q26, q27, q28, q29, q30, q31, q32, q38, q44, q45, q48, q57, q58, q59, q60, q63, q64, q97, q122, q126, q127, q128, q255, q256, q300, q580, q600, q1000, nI_add, q_lt_t, q_lt_f, q_eq_t, q_eq_f, q_clamp, q_in_t, q_in_f]
    · simp (disch := omega) only [c_X10_shift, e_X10_shift_0, e_X10_shift_5, e_X10_shift_22, e_X10_shift_19, e_X10_shift_46, e_X10_shift_35, e_X10_shift_48, e_X10_shift_52, e_X10_shift_57, s_Mtrain D, s_in27, z1, Option.bind_some, Option.toList_some, Option.toList_none, List.cons_append, List.nil_append, Option.map_some, cond_true, cond_false, Bool.not_true, Bool.not_false, Bool.true_and, Bool.and_true, Bool.false_and, Bool.and_false, Bool.true_or, Bool.or_true, Bool.false_or, Bool.or_false, Bool.not_not, decide_true, decide_false, Bool.decide_eq_true, Bool.decide_eq_false, qz_0, qz_1, qz_n, qz_n0, qz_n1, qz_t, qz_f, Nat.reduceAdd, q1000000, q0, q1, q2, q3, q4, q5, q6, q7, q8, q9, q10, q11, q12, q13, q14, q15, q16, q18, q19, q20, q21, q22, q23, q24, q25, q26, q27, q28, q29, q30, q31, q32, q38, q44, q45, q48, q57, q58, q59, q60, q63, q64, q97, q122, q126, q127, q128, q255, q256, q300, q580, q600, q1000, nI_add, q_lt_t, q_lt_f, q_eq_t, q_eq_f, q_clamp, q_in_t, q_in_f]
  by_cases z2 : nI 27 < y
  · refine SAME.ps ⟨.int (-2), ?_, ?_⟩
    · simp (disch := omega) only [c_X9_shift, e_X9_shift_0, e_X9_shift_5, e_X9_shift_20, e_X9_shift_47, e_X9_shift_62, e_X9_shift_68, s_Xtrain D, z1, z2, Option.bind_some, Option.toList_some, Option.toList_none, List.cons_append, List.nil_append, Option.map_some, cond_true, cond_false, Bool.not_true, Bool.not_false, Bool.true_and, Bool.and_true, Bool.false_and, Bool.and_false, Bool.true_or, Bool.or_true, Bool.false_or, Bool.or_false, Bool.not_not, decide_true, decide_false, Bool.decide_eq_true, Bool.decide_eq_false, qz_0, qz_1, qz_n, qz_n0, qz_n1, qz_t, qz_f, Nat.reduceAdd, q1000000, q0, q1, q2, q3, q4, q5, q6, q7, q8, q9, q10, q11, q12, q13, q14, q15, q16, q18, q19, q20, q21, q22, q23, q24, q25, q26, q27, q28, q29, q30, q31, q32, q38, q44, q45, q48, q57, q58, q59, q60, q63, q64, q97, q122, q126, q127, q128, q255, q256, q300, q580, q600, q1000, nI_add, q_lt_t, q_lt_f, q_eq_t, q_eq_f, q_clamp, q_in_t, q_in_f]
    · simp (disch := omega) only [c_X10_shift, e_X10_shift_0, e_X10_shift_5, e_X10_shift_22, e_X10_shift_19, e_X10_shift_46, e_X10_shift_35, e_X10_shift_48, e_X10_shift_52, e_X10_shift_57, s_Mtrain D, s_in27, z1, z2, Option.bind_some, Option.toList_some, Option.toList_none, List.cons_append, List.nil_append, Option.map_some, cond_true, cond_false, Bool.not_true, Bool.not_false, Bool.true_and, Bool.and_true, Bool.false_and, Bool.and_false, Bool.true_or, Bool.or_true, Bool.false_or, Bool.or_false, Bool.not_not, decide_true, decide_false, Bool.decide_eq_true, Bool.decide_eq_false, qz_0, qz_1, qz_n, qz_n0, qz_n1, qz_t, qz_f, Nat.reduceAdd, q1000000, q0, q1, q2, q3, q4, q5, q6, q7, q8, q9, q10, q11, q12, q13, q14, q15, q16, q18, q19, q20, q21, q22, q23, q24, q25, q26, q27, q28, q29, q30, q31, q32, q38, q44, q45, q48, q57, q58, q59, q60, q63, q64, q97, q122, q126, q127, q128, q255, q256, q300, q580, q600, q1000, nI_add, q_lt_t, q_lt_f, q_eq_t, q_eq_f, q_clamp, q_in_t, q_in_f]
  have key : ∀ V : Int32, (y < nI 0 → V = I 17 j >>> (-y &&& nI 31)) → (¬ y < nI 0 → V = I 17 j <<< (y &&& nI 31)) → PS nX9_shift nX10_shift [.int (nI j), .int y] I L := by
    intro V v1 v2
    obtain ⟨J, M, x1, -, x2, x3⟩ := s_fX (L := L) D hK (D.nz hj) (V &&& nI (2 ^ N - 1)) true
    have DJ := D.fu x2 x3
    obtain ⟨J2, M2, y1, y2, y3⟩ := s_sM DJ (hK.fu x2) (D.nz hj) (V &&& nI (2 ^ N - 1)) true
    rw [x2.f14] at y1
    have e17 : J 17 j = I 17 j := x2 _ _ (by omega)
    have hr := s_Mruns DJ hj
    rw [e17] at hr
    have x1 : zcall zZ nX2_fewest [.ref 25, .int (V &&& nI (2 ^ N - 1)), .int (-nI 1), .int (nI 1)] (hp I L) = _ := x1
    have y1 : zcall zZ nX10_solves [.ref 52, .int (V &&& nI (2 ^ N - 1)), .int (nI 1)] (hp J M) = _ := y1
    refine ⟨.int (nI (tkF N w F (I 14) (V &&& nI (2 ^ N - 1)) true)), J, M, J2, M2, ?_, ?_, x2.trans y2, x3.trans y3⟩
    · by_cases z3 : y < nI 0
      · have := v1 z3
        simp (disch := omega) only [c_X9_shift, e_X9_shift_0, e_X9_shift_5, e_X9_shift_20, e_X9_shift_47, e_X9_shift_62, e_X9_shift_68, s_Xtrain D, z1, z2, z3, ← this, s_alld D, x1, Option.bind_some, Option.toList_some, Option.toList_none, List.cons_append, List.nil_append, Option.map_some, cond_true, cond_false, Bool.not_true, Bool.not_false, Bool.true_and, Bool.and_true, Bool.false_and, Bool.and_false, Bool.true_or, Bool.or_true, Bool.false_or, Bool.or_false, Bool.not_not, decide_true, decide_false, Bool.decide_eq_true, Bool.decide_eq_false, qz_0, qz_1, qz_n, qz_n0, qz_n1, qz_t, qz_f, Nat.reduceAdd, q1000000, q0, q1, q2, q3, q4, q5, q6, q7, q8, q9, q10, q11, q12, q13, q14, q15, q16, q18, q19, q20, q21, q22, q23, q24, q25, q26, q27, q28, q29, q30, q31, q32, q38, q44, q45, q48, q57, q58, q59, q60, q63, q64, q97, q122, q126, q127, q128, q255, q256, q300, q580, q600, q1000, nI_add, q_lt_t, q_lt_f, q_eq_t, q_eq_f, q_clamp, q_in_t, q_in_f]
      · have := v2 z3
        simp (disch := omega) only [c_X9_shift, e_X9_shift_0, e_X9_shift_5, e_X9_shift_20, e_X9_shift_47, e_X9_shift_62, e_X9_shift_68, s_Xtrain D, z1, z2, z3, ← this, s_alld D, x1, Option.bind_some, Option.toList_some, Option.toList_none, List.cons_append, List.nil_append, Option.map_some, cond_true, cond_false, Bool.not_true, Bool.not_false, Bool.true_and, Bool.and_true, Bool.false_and, Bool.and_false, Bool.true_or, Bool.or_true, Bool.false_or, Bool.or_false, Bool.not_not, decide_true, decide_false, Bool.decide_eq_true, Bool.decide_eq_false, qz_0, qz_1, qz_n, qz_n0, qz_n1, qz_t, qz_f, Nat.reduceAdd, q1000000, q0, q1, q2, q3, q4, q5, q6, q7, q8, q9, q10, q11, q12, q13, q14, q15, q16, q18, q19, q20, q21, q22, q23, q24, q25, q26, q27, q28, q29, q30, q31, q32, q38, q44, q45, q48, q57, q58, q59, q60, q63, q64, q97, q122, q126, q127, q128, q255, q256, q300, q580, q600, q1000, nI_add, q_lt_t, q_lt_f, q_eq_t, q_eq_f, q_clamp, q_in_t, q_in_f]
    · by_cases z3 : y < nI 0
      · have := v1 z3
        simp (disch := omega) only [c_X10_shift, e_X10_shift_0, e_X10_shift_5, e_X10_shift_22, e_X10_shift_19, e_X10_shift_46, e_X10_shift_35, e_X10_shift_48, e_X10_shift_52, e_X10_shift_57, s_Mtrain DJ, s_in27, z1, z2, z3, hr, ← this, s_whole DJ, y1, Option.bind_some, Option.toList_some, Option.toList_none, List.cons_append, List.nil_append, Option.map_some, cond_true, cond_false, Bool.not_true, Bool.not_false, Bool.true_and, Bool.and_true, Bool.false_and, Bool.and_false, Bool.true_or, Bool.or_true, Bool.false_or, Bool.or_false, Bool.not_not, decide_true, decide_false, Bool.decide_eq_true, Bool.decide_eq_false, qz_0, qz_1, qz_n, qz_n0, qz_n1, qz_t, qz_f, Nat.reduceAdd, q1000000, q0, q1, q2, q3, q4, q5, q6, q7, q8, q9, q10, q11, q12, q13, q14, q15, q16, q18, q19, q20, q21, q22, q23, q24, q25, q26, q27, q28, q29, q30, q31, q32, q38, q44, q45, q48, q57, q58, q59, q60, q63, q64, q97, q122, q126, q127, q128, q255, q256, q300, q580, q600, q1000, nI_add, q_lt_t, q_lt_f, q_eq_t, q_eq_f, q_clamp, q_in_t, q_in_f]
      · have := v2 z3
        simp (disch := omega) only [c_X10_shift, e_X10_shift_0, e_X10_shift_5, e_X10_shift_22, e_X10_shift_19, e_X10_shift_46, e_X10_shift_35, e_X10_shift_48, e_X10_shift_52, e_X10_shift_57, s_Mtrain DJ, s_in27, z1, z2, z3, hr, ← this, s_whole DJ, y1, Option.bind_some, Option.toList_some, Option.toList_none, List.cons_append, List.nil_append, Option.map_some, cond_true, cond_false, Bool.not_true, Bool.not_false, Bool.true_and, Bool.and_true, Bool.false_and, Bool.and_false, Bool.true_or, Bool.or_true, Bool.false_or, Bool.or_false, Bool.not_not, decide_true, decide_false, Bool.decide_eq_true, Bool.decide_eq_false, qz_0, qz_1, qz_n, qz_n0, qz_n1, qz_t, qz_f, Nat.reduceAdd, q1000000, q0, q1, q2, q3, q4, q5, q6, q7, q8, q9, q10, q11, q12, q13, q14, q15, q16, q18, q19, q20, q21, q22, q23, q24, q25, q26, q27, q28, q29, q30, q31, q32, q38, q44, q45, q48, q57, q58, q59, q60, q63, q64, q97, q122, q126, q127, q128, q255, q256, q300, q580, q600, q1000, nI_add, q_lt_t, q_lt_f, q_eq_t, q_eq_f, q_clamp, q_in_t, q_in_f]
  by_cases z3 : y < nI 0
  · exact key _ (fun _ => rfl) (fun q => absurd z3 q)
  · exact key _ (fun q => absurd q z3) (fun _ => rfl)
/-! what joining saves -/
noncomputable def svF (N w F : Nat) (I : zI) (T : Nat) : Nat → Int32
  | 0 => nI 0
  | t + 1 => if ld I t = t then svF N w F I T t + nI (tkF N w F (I 14) (I 17 t) true) - nI (tkF N w F (I 14) (onF (mts I t) (I 17) T) true) else svF N w F I T t + nI (tkF N w F (I 14) (I 17 t) true)
theorem FU.mts {I J : zI} (h : FU I J) (t : Nat) : mts J t = mts I t := funext (mts_cg (fun a b p q => h a b (by omega)) t)
theorem FU.ld {I J : zI} (h : FU I J) (t : Nat) : ld J t = ld I t := ld_cg (fun a b p q => h a b (by omega)) t
theorem FU.f17 {I J : zI} (h : FU I J) : J 17 = I 17 := funext fun y => h 17 y (by omega)
theorem savedX_loop {I : zI} {L : zL} {N w F T ln : Nat} (D : DK I L N w F T ln) (hK : KC I) : ∀ r t (J : zI) (M : zL), t + r = T → FU I J → FUL L M → ∃ J' M', zrun zZ kX9_saved (17, [some (.ref 0), some (.int (svF N w F I T t)), some (.int (nI t))], [], hp J M, 0, 0) = some (some (.int (svF N w F I T T)), hp J' M', 0, 0) ∧ FU I J' ∧ FUL L M'
  | 0, t, J, M, h, hU, hUL => by
    have hb := D.b
    obtain rfl : t = T := h
    refine ⟨J, M, ?_, hU, hUL⟩
    rw [e_X9_saved_17]
    simp (disch := omega) only [(D.fu hU hUL).x.2.2.2.1, Option.bind_some, Option.toList_some, Option.toList_none, List.cons_append, List.nil_append, Option.map_some, cond_true, cond_false, Bool.not_true, Bool.not_false, Bool.true_and, Bool.and_true, Bool.false_and, Bool.and_false, Bool.true_or, Bool.or_true, Bool.false_or, Bool.or_false, Bool.not_not, decide_true, decide_false, Bool.decide_eq_true, Bool.decide_eq_false, qz_0, qz_1, qz_n, qz_n0, qz_n1, qz_t, qz_f, Nat.reduceAdd, q1000000, q0, q1, q2, q3, q4, q5, q6, q7, q8, q9, q10, q11, q12, q13, q14, q15, q16, q18, q19, q20, q21, q22, q23, q24, q25, q26, q27, q28, q29, q30, q31, q32, q38, q44, q45, q48, q57, q58, q59, q60, q63, q64, q97, q122, q126, q127, q128, q255, q256, q300, q580, q600, q1000, nI_add, q_lt_t, q_lt_f, q_eq_t, q_eq_f, q_clamp, q_in_t, q_in_f]
  | r + 1, t, J, M, h, hU, hUL => by
    have hb := D.b
    have ht : t < T := by omega
    have DJ := D.fu hU hUL
    have hN := D.nz ht
    obtain ⟨J1, M1, x1, -, x2, x3⟩ := s_fX DJ (hK.fu hU) hN (J 17 t) true
    rw [hU.f14, hU.f17] at x1
    have x1 : zcall zZ nX2_fewest [.ref 25, .int (I 17 t), .int (-nI 1), .int (nI 1)] (hp J M) = _ := x1
    have U1 := hU.trans x2
    have UL1 := hUL.trans x3
    have D1 := D.fu U1 UL1
    have el : zcall zZ nX1_leader [.ref 11, .int (nI t)] (hp J1 M1) = some (some (.int (nI (ld I t))), hp J1 M1) := by
      rw [s_leader (by omega)]
      show some (some (Value.int (nI (ld J1 t))), hp J1 M1) = _
      rw [U1.ld]
    have hld := ld_le I t
    have esv : svF N w F I T (t + 1) = if ld I t = t then svF N w F I T t + nI (tkF N w F (I 14) (I 17 t) true) - nI (tkF N w F (I 14) (onF (mts I t) (I 17) T) true) else svF N w F I T t + nI (tkF N w F (I 14) (I 17 t) true) := rfl
    have e17 : J 17 t = I 17 t := hU 17 t (by omega)
    by_cases q : ld I t = t
    · rw [if_pos q] at esv
      have ej := s_jointX D1 ht
      rw [U1.mts, U1.f17] at ej
      obtain ⟨J2, M2, y1, -, y2, y3⟩ := s_fX D1 (hK.fu U1) hN (onF (mts I t) (I 17) T) true
      rw [U1.f14] at y1
      have y1 : zcall zZ nX2_fewest [.ref 25, .int (onF (mts I t) (I 17) T), .int (-nI 1), .int (nI 1)] (hp J1 M1) = _ := y1
      obtain ⟨J', M', g1, g2, g3⟩ := savedX_loop D hK r (t + 1) J2 M2 (by omega) (U1.trans y2) (UL1.trans y3)
      rw [esv] at g1
      refine ⟨J', M', ?_, g2, g3⟩
      rw [e_X9_saved_17]
      simp (disch := omega) only [e_X9_saved_47, e_X9_saved_57, e_X9_saved_74, e_X9_saved_79, e_X9_saved_81, DJ.x.2.2.2.1, e17, x1, el, q, ej, y1, Option.bind_some, Option.toList_some, Option.toList_none, List.cons_append, List.nil_append, Option.map_some, cond_true, cond_false, Bool.not_true, Bool.not_false, Bool.true_and, Bool.and_true, Bool.false_and, Bool.and_false, Bool.true_or, Bool.or_true, Bool.false_or, Bool.or_false, Bool.not_not, decide_true, decide_false, Bool.decide_eq_true, Bool.decide_eq_false, qz_0, qz_1, qz_n, qz_n0, qz_n1, qz_t, qz_f, Nat.reduceAdd, q1000000, q0, q1, q2, q3, q4, q5, q6, q7, q8, q9, q10, q11, q12, q13, q14, q15, q16, q18, q19, q20, q21, q22, q23, q24, q25, q26, q27, q28, q29, q30, q31, q32, q38, q44, q45, q48, q57, q58, q59, q60, q63, q64, q97, q122, q126, q127, q128, q255, q256, q300, q580, q600, q1000, nI_add, q_lt_t, q_lt_f, q_eq_t, q_eq_f, q_clamp, q_in_t, q_in_f]
      exact g1
    · rw [if_neg q] at esv
      obtain ⟨J', M', g1, g2, g3⟩ := savedX_loop D hK r (t + 1) J1 M1 (by omega) U1 UL1
      rw [esv] at g1
      refine ⟨J', M', ?_, g2, g3⟩
      rw [e_X9_saved_17]
      simp (disch := omega) only [e_X9_saved_47, e_X9_saved_57, e_X9_saved_74, e_X9_saved_79, e_X9_saved_81, DJ.x.2.2.2.1, e17, x1, el, Option.bind_some, Option.toList_some, Option.toList_none, List.cons_append, List.nil_append, Option.map_some, cond_true, cond_false, Bool.not_true, Bool.not_false, Bool.true_and, Bool.and_true, Bool.false_and, Bool.and_false, Bool.true_or, Bool.or_true, Bool.false_or, Bool.or_false, Bool.not_not, decide_true, decide_false, Bool.decide_eq_true, Bool.decide_eq_false, qz_0, qz_1, qz_n, qz_n0, qz_n1, qz_t, qz_f, Nat.reduceAdd, q1000000, q0, q1, q2, q3, q4, q5, q6, q7, q8, q9, q10, q11, q12, q13, q14, q15, q16, q18, q19, q20, q21, q22, q23, q24, q25, q26, q27, q28, q29, q30, q31, q32, q38, q44, q45, q48, q57, q58, q59, q60, q63, q64, q97, q122, q126, q127, q128, q255, q256, q300, q580, q600, q1000, nI_add, q_lt_t, q_lt_f, q_eq_t, q_eq_f, q_clamp, q_in_t, q_in_f]
      exact g1
theorem sub_nI0 (x : Int32) : x - nI 0 = x := Int32.sub_zero x
theorem savedM_loop {I : zI} {L : zL} {N w F T ln : Nat} (D : DK I L N w F T ln) (hK : KC I) : ∀ r t (J : zI) (M : zL), t + r = T → FU I J → FUL L M → ∃ J' M', zrun zZ kX10_saved (16, [some (.ref 52), some (.int (svF N w F I T t)), some (.int (nI t))], [], hp J M, 0, 0) = some (some (.int (svF N w F I T T)), hp J' M', 0, 0) ∧ FU I J' ∧ FUL L M'
  | 0, t, J, M, h, hU, hUL => by
    have hb := D.b
    obtain rfl : t = T := h
    refine ⟨J, M, ?_, hU, hUL⟩
    rw [e_X10_saved_16]
    simp (disch := omega) only [(D.fu hU hUL).m.2.2.2.1, Option.bind_some, Option.toList_some, Option.toList_none, List.cons_append, List.nil_append, Option.map_some, cond_true, cond_false, Bool.not_true, Bool.not_false, Bool.true_and, Bool.and_true, Bool.false_and, Bool.and_false, Bool.true_or, Bool.or_true, Bool.false_or, Bool.or_false, Bool.not_not, decide_true, decide_false, Bool.decide_eq_true, Bool.decide_eq_false, qz_0, qz_1, qz_n, qz_n0, qz_n1, qz_t, qz_f, Nat.reduceAdd, q1000000, q0, q1, q2, q3, q4, q5, q6, q7, q8, q9, q10, q11, q12, q13, q14, q15, q16, q18, q19, q20, q21, q22, q23, q24, q25, q26, q27, q28, q29, q30, q31, q32, q38, q44, q45, q48, q57, q58, q59, q60, q63, q64, q97, q122, q126, q127, q128, q255, q256, q300, q580, q600, q1000, nI_add, q_lt_t, q_lt_f, q_eq_t, q_eq_f, q_clamp, q_in_t, q_in_f]
  | r + 1, t, J, M, h, hU, hUL => by
    have hb := D.b
    have ht : t < T := by omega
    have DJ := D.fu hU hUL
    have hN := D.nz ht
    have hr := s_Mruns DJ ht
    rw [hU.f17] at hr
    obtain ⟨J1, M1, x1, x2, x3⟩ := s_sM DJ (hK.fu hU) hN (I 17 t) true
    rw [hU.f14] at x1
    have x1 : zcall zZ nX10_solves [.ref 52, .int (I 17 t), .int (nI 1)] (hp J M) = _ := x1
    have U1 := hU.trans x2
    have UL1 := hUL.trans x3
    have D1 := D.fu U1 UL1
    have el : zcall zZ nX10_joinOf [.ref 52, .int (nI t)] (hp J1 M1) = some (some (.int (nI (ld I t))), hp J1 M1) := by
      rw [s_joinOf D1 ht]
      show some (some (Value.int (nI (ld J1 t))), hp J1 M1) = _
      rw [U1.ld]
    have hld := ld_le I t
    have esv : svF N w F I T (t + 1) = if ld I t = t then svF N w F I T t + nI (tkF N w F (I 14) (I 17 t) true) - nI (tkF N w F (I 14) (onF (mts I t) (I 17) T) true) else svF N w F I T t + nI (tkF N w F (I 14) (I 17 t) true) := rfl
    by_cases q : ld I t = t
    · rw [if_pos q] at esv
      have ej := s_jointM0 D1 ht
      rw [U1.mts, U1.f17] at ej
      obtain ⟨J2, M2, y1, y2, y3⟩ := s_sM D1 (hK.fu U1) hN (onF (mts I t) (I 17) T) true
      rw [U1.f14] at y1
      have y1 : zcall zZ nX10_solves [.ref 52, .int (onF (mts I t) (I 17) T), .int (nI 1)] (hp J1 M1) = _ := y1
      obtain ⟨J', M', g1, g2, g3⟩ := savedM_loop D hK r (t + 1) J2 M2 (by omega) (U1.trans y2) (UL1.trans y3)
      rw [esv] at g1
      refine ⟨J', M', ?_, g2, g3⟩
      rw [e_X10_saved_16]
      simp (disch := omega) only [e_X10_saved_33, e_X10_saved_37, e_X10_saved_45, e_X10_saved_56, e_X10_saved_60, e_X10_saved_64, DJ.m.2.2.2.1, hr, x1, el, q, ej, y1, Option.bind_some, Option.toList_some, Option.toList_none, List.cons_append, List.nil_append, Option.map_some, cond_true, cond_false, Bool.not_true, Bool.not_false, Bool.true_and, Bool.and_true, Bool.false_and, Bool.and_false, Bool.true_or, Bool.or_true, Bool.false_or, Bool.or_false, Bool.not_not, decide_true, decide_false, Bool.decide_eq_true, Bool.decide_eq_false, qz_0, qz_1, qz_n, qz_n0, qz_n1, qz_t, qz_f, Nat.reduceAdd, q1000000, q0, q1, q2, q3, q4, q5, q6, q7, q8, q9, q10, q11, q12, q13, q14, q15, q16, q18, q19, q20, q21, q22, q23, q24, q25, q26, q27, q28, q29, q30, q31, q32, q38, q44, q45, q48, q57, q58, q59, q60, q63, q64, q97, q122, q126, q127, q128, q255, q256, q300, q580, q600, q1000, nI_add, q_lt_t, q_lt_f, q_eq_t, q_eq_f, q_clamp, q_in_t, q_in_f]
      exact g1
    · rw [if_neg q] at esv
      obtain ⟨J', M', g1, g2, g3⟩ := savedM_loop D hK r (t + 1) J1 M1 (by omega) U1 UL1
      rw [esv] at g1
      refine ⟨J', M', ?_, g2, g3⟩
      rw [e_X10_saved_16]
      simp (disch := omega) only [e_X10_saved_33, e_X10_saved_37, e_X10_saved_45, e_X10_saved_56, e_X10_saved_60, e_X10_saved_64, DJ.m.2.2.2.1, hr, x1, el, sub_nI0, Option.bind_some, Option.toList_some, Option.toList_none, List.cons_append, List.nil_append, Option.map_some, cond_true, cond_false, Bool.not_true, Bool.not_false, Bool.true_and, Bool.and_true, Bool.false_and, Bool.and_false, Bool.true_or, Bool.or_true, Bool.false_or, Bool.or_false, Bool.not_not, decide_true, decide_false, Bool.decide_eq_true, Bool.decide_eq_false, qz_0, qz_1, qz_n, qz_n0, qz_n1, qz_t, qz_f, Nat.reduceAdd, q1000000, q0, q1, q2, q3, q4, q5, q6, q7, q8, q9, q10, q11, q12, q13, q14, q15, q16, q18, q19, q20, q21, q22, q23, q24, q25, q26, q27, q28, q29, q30, q31, q32, q38, q44, q45, q48, q57, q58, q59, q60, q63, q64, q97, q122, q126, q127, q128, q255, q256, q300, q580, q600, q1000, nI_add, q_lt_t, q_lt_f, q_eq_t, q_eq_f, q_clamp, q_in_t, q_in_f]
      exact g1
theorem p_saved {I : zI} {L : zL} {N w F T ln : Nat} (D : DK I L N w F T ln) (hK : KC I) : PS nX9_saved nX10_saved [] I L := by
  have hb := D.b
  by_cases h0 : N = 0
  · have hl : ln = 0 := by omega
    refine SAME.ps ⟨.int (-2), ?_, ?_⟩
    · simp (disch := omega) only [c_X9_saved, e_X9_saved_0, D.x.1, h0, Option.bind_some, Option.toList_some, Option.toList_none, List.cons_append, List.nil_append, Option.map_some, cond_true, cond_false, Bool.not_true, Bool.not_false, Bool.true_and, Bool.and_true, Bool.false_and, Bool.and_false, Bool.true_or, Bool.or_true, Bool.false_or, Bool.or_false, Bool.not_not, decide_true, decide_false, Bool.decide_eq_true, Bool.decide_eq_false, qz_0, qz_1, qz_n, qz_n0, qz_n1, qz_t, qz_f, Nat.reduceAdd, q1000000, q0, q1, q2, q3, q4, q5, q6, q7, q8, q9, q10, q11, q12, q13, q14, q15, q16, q18, q19, q20, q21, q22, q23, q24, q25, q26, q27, q28, q29, q30, q31, q32, q38, q44, q45, q48, q57, q58, q59, q60, q63, q64, q97, q122, q126, q127, q128, q255, q256, q300, q580, q600, q1000, nI_add, q_lt_t, q_lt_f, q_eq_t, q_eq_f, q_clamp, q_in_t, q_in_f]
    · simp (disch := omega) only [c_X10_saved, e_X10_saved_0, D.m.2.2.2.2, hl, Option.bind_some, Option.toList_some, Option.toList_none, List.cons_append, List.nil_append, Option.map_some, cond_true, cond_false, Bool.not_true, Bool.not_false, Bool.true_and, Bool.and_true, Bool.false_and, Bool.and_false, Bool.true_or, Bool.or_true, Bool.false_or, Bool.or_false, Bool.not_not, decide_true, decide_false, Bool.decide_eq_true, Bool.decide_eq_false, qz_0, qz_1, qz_n, qz_n0, qz_n1, qz_t, qz_f, Nat.reduceAdd, q1000000, q0, q1, q2, q3, q4, q5, q6, q7, q8, q9, q10, q11, q12, q13, q14, q15, q16, q18, q19, q20, q21, q22, q23, q24, q25, q26, q27, q28, q29, q30, q31, q32, q38, q44, q45, q48, q57, q58, q59, q60, q63, q64, q97, q122, q126, q127, q128, q255, q256, q300, q580, q600, q1000, nI_add, q_lt_t, q_lt_f, q_eq_t, q_eq_f, q_clamp, q_in_t, q_in_f]
  have hl : ln ≠ 0 := by omega
  obtain ⟨J, M, x1, x2, x3⟩ := savedX_loop D hK T 0 I L (by omega) (FU.refl I) (FUL.refl L)
  obtain ⟨J2, M2, y1, y2, y3⟩ := savedM_loop D hK T 0 J M (by omega) x2 x3
  rw [show svF N w F I T 0 = nI 0 from rfl] at x1 y1
  refine ⟨.int (svF N w F I T T), J, M, J2, M2, ?_, ?_, y2, y3⟩
  · simp (disch := omega) only [c_X9_saved, e_X9_saved_0, D.x.1, Option.bind_some, Option.toList_some, Option.toList_none, List.cons_append, List.nil_append, Option.map_some, cond_true, cond_false, Bool.not_true, Bool.not_false, Bool.true_and, Bool.and_true, Bool.false_and, Bool.and_false, Bool.true_or, Bool.or_true, Bool.false_or, Bool.or_false, Bool.not_not, decide_true, decide_false, Bool.decide_eq_true, Bool.decide_eq_false, qz_0, qz_1, qz_n, qz_n0, qz_n1, qz_t, qz_f, Nat.reduceAdd, q1000000, q0, q1, q2, q3, q4, q5, q6, q7, q8, q9, q10, q11, q12, q13, q14, q15, q16, q18, q19, q20, q21, q22, q23, q24, q25, q26, q27, q28, q29, q30, q31, q32, q38, q44, q45, q48, q57, q58, q59, q60, q63, q64, q97, q122, q126, q127, q128, q255, q256, q300, q580, q600, q1000, nI_add, q_lt_t, q_lt_f, q_eq_t, q_eq_f, q_clamp, q_in_t, q_in_f, x1]
  · simp (disch := omega) only [c_X10_saved, e_X10_saved_0, (D.fu x2 x3).m.2.2.2.2, Option.bind_some, Option.toList_some, Option.toList_none, List.cons_append, List.nil_append, Option.map_some, cond_true, cond_false, Bool.not_true, Bool.not_false, Bool.true_and, Bool.and_true, Bool.false_and, Bool.and_false, Bool.true_or, Bool.or_true, Bool.false_or, Bool.or_false, Bool.not_not, decide_true, decide_false, Bool.decide_eq_true, Bool.decide_eq_false, qz_0, qz_1, qz_n, qz_n0, qz_n1, qz_t, qz_f, Nat.reduceAdd, q1000000, q0, q1, q2, q3, q4, q5, q6, q7, q8, q9, q10, q11, q12, q13, q14, q15, q16, q18, q19, q20, q21, q22, q23, q24, q25, q26, q27, q28, q29, q30, q31, q32, q38, q44, q45, q48, q57, q58, q59, q60, q63, q64, q97, q122, q126, q127, q128, q255, q256, q300, q580, q600, q1000, nI_add, q_lt_t, q_lt_f, q_eq_t, q_eq_f, q_clamp, q_in_t, q_in_f, y1]
/-! flips -/
def cFlp (I J : zI) : Prop := ∀ x y, (x < 9 ∨ (x = 9 ∧ y ≠ 1) ∨ (10 < x ∧ x ≠ 17 ∧ x < 25) ∨ (x = 25 ∧ y < 8) ∨ (25 < x ∧ x < 35) ∨ x = 36 ∨ (x = 52 ∧ y ≠ 3 ∧ (y < 17 ∨ 30 ≤ y)) ∨ (x = 53 ∧ y < 38) ∨ x = 54 ∨ x = 56 ∨ 63 ≤ x) → J x y = I x y
theorem p_flips {I : zI} {L : zL} {N w F T ln A S : Nat} (E : EV I L N w F T ln A S) (hK : KC I) (x y : Int32) : ∃ r I1 L1 I2 L2, zcall zZ nX9_flips [.ref 0, .int x, .int y] (hp I L) = some (some r, hp I1 L1) ∧ zcall zZ nX10_flips [.ref 52, .int x, .int y] (hp I1 L1) = some (some r, hp I2 L2) ∧ cFlp I I2 ∧ FUL L L2 ∧ ∃ A', EV I2 L2 N w F T ln A' S := by
  have E' := E
  obtain ⟨D, hTP, ⟨a1, a2, a3, a4⟩, hF, hT⟩ := E'
  have hb := D.b
  have pure : SAME nX9_flips nX10_flips [.int x, .int y] I L → ∃ r I1 L1 I2 L2, zcall zZ nX9_flips [.ref 0, .int x, .int y] (hp I L) = some (some r, hp I1 L1) ∧ zcall zZ nX10_flips [.ref 52, .int x, .int y] (hp I1 L1) = some (some r, hp I2 L2) ∧ cFlp I I2 ∧ FUL L L2 ∧ ∃ A', EV I2 L2 N w F T ln A' S := fun ⟨r, h1, h2⟩ => ⟨r, I, L, I, L, h1, h2, fun _ _ _ => rfl, FUL.refl L, A, E⟩
  rcases zin_N (x := x) (n := T) (by omega) with h | ⟨j, hj, rfl⟩
  · refine pure ⟨.int (-2), ?_, ?_⟩
    · simp (disch := omega) only [c_X9_flips, e_X9_flips_0, e_X9_flips_5, e_X9_flips_16, e_X9_flips_13, e_X9_flips_45, e_X9_flips_78, s_Xtrain D, h, Option.bind_some, Option.toList_some, Option.toList_none, List.cons_append, List.nil_append, Option.map_some, cond_true, cond_false, Bool.not_true, Bool.not_false, Bool.true_and, Bool.and_true, Bool.false_and, Bool.and_false, Bool.true_or, Bool.or_true, Bool.false_or, Bool.or_false, Bool.not_not, decide_true, decide_false, Bool.decide_eq_true, Bool.decide_eq_false, qz_0, qz_1, qz_n, qz_n0, qz_n1, qz_t, qz_f, Nat.reduceAdd, q1000000, q0, q1, q2, q3, q4, q5, q6, q7, q8, q9, q10, q11, q12, q13, q14, q15, q16, q18, q19, q20, q21, q22, q23, q24, q25, q26, q27, q28, q29, q30, q31, q32, q38, q44, q45, q48, q57, q58, q59, q60, q63, q64, q97, q122, q126, q127, q128, q255, q256, q300, q580, q600, q1000, nI_add, q_lt_t, q_lt_f, q_eq_t, q_eq_f, q_clamp, q_in_t, q_in_f]
    · simp (disch := omega) only [c_X10_flips, e_X10_flips_0, e_X10_flips_5, e_X10_flips_16, e_X10_flips_13, e_X10_flips_35, e_X10_flips_56, e_X10_flips_60, s_Mtrain D, h, Option.bind_some, Option.toList_some, Option.toList_none, List.cons_append, List.nil_append, Option.map_some, cond_true, cond_false, Bool.not_true, Bool.not_false, Bool.true_and, Bool.and_true, Bool.false_and, Bool.and_false, Bool.true_or, Bool.or_true, Bool.false_or, Bool.or_false, Bool.not_not, decide_true, decide_false, Bool.decide_eq_true, Bool.decide_eq_false, qz_0, qz_1, qz_n, qz_n0, qz_n1, qz_t, qz_f, Nat.reduceAdd, q1000000, q0, q1, q2, q3, q4, q5, q6, q7, q8, q9, q10, q11, q12, q13, q14, q15, q16, q18, q19, q20, q21, q22, q23, q24, q25, q26, q27, q28, q29, q30, q31, q32, q38, q44, q45, q48, q57, q58, q59, q60, q63, q64, q97, q122, q126, q127, q128, q255, q256, q300, q580, q600, q1000, nI_add, q_lt_t, q_lt_f, q_eq_t, q_eq_f, q_clamp, q_in_t, q_in_f]
  rcases zin_N (x := y) (n := N) (by omega) with h | ⟨d, hd, rfl⟩
  · refine pure ⟨.int (-2), ?_, ?_⟩
    · simp (disch := omega) only [c_X9_flips, e_X9_flips_0, e_X9_flips_5, e_X9_flips_16, e_X9_flips_13, e_X9_flips_45, e_X9_flips_78, s_Xtrain D, s_Xday D, h, Option.bind_some, Option.toList_some, Option.toList_none, List.cons_append, List.nil_append, Option.map_some, cond_true, cond_false, Bool.not_true, Bool.not_false, Bool.true_and, Bool.and_true, Bool.false_and, Bool.and_false, Bool.true_or, Bool.or_true, Bool.false_or, Bool.or_false, Bool.not_not, decide_true, decide_false, Bool.decide_eq_true, Bool.decide_eq_false, qz_0, qz_1, qz_n, qz_n0, qz_n1, qz_t, qz_f, Nat.reduceAdd, q1000000, q0, q1, q2, q3, q4, q5, q6, q7, q8, q9, q10, q11, q12, q13, q14, q15, q16, q18, q19, q20, q21, q22, q23, q24, q25, q26, q27, q28, q29, q30, q31, q32, q38, q44, q45, q48, q57, q58, q59, q60, q63, q64, q97, q122, q126, q127, q128, q255, q256, q300, q580, q600, q1000, nI_add, q_lt_t, q_lt_f, q_eq_t, q_eq_f, q_clamp, q_in_t, q_in_f]
    · simp (disch := omega) only [c_X10_flips, e_X10_flips_0, e_X10_flips_5, e_X10_flips_16, e_X10_flips_13, e_X10_flips_35, e_X10_flips_56, e_X10_flips_60, s_Mtrain D, s_Mday D, h, Option.bind_some, Option.toList_some, Option.toList_none, List.cons_append, List.nil_append, Option.map_some, cond_true, cond_false, Bool.not_true, Bool.not_false, Bool.true_and, Bool.and_true, Bool.false_and, Bool.and_false, Bool.true_or, Bool.or_true, Bool.false_or, Bool.or_false, Bool.not_not, decide_true, decide_false, Bool.decide_eq_true, Bool.decide_eq_false, qz_0, qz_1, qz_n, qz_n0, qz_n1, qz_t, qz_f, Nat.reduceAdd, q1000000, q0, q1, q2, q3, q4, q5, q6, q7, q8, q9, q10, q11, q12, q13, q14, q15, q16, q18, q19, q20, q21, q22, q23, q24, q25, q26, q27, q28, q29, q30, q31, q32, q38, q44, q45, q48, q57, q58, q59, q60, q63, q64, q97, q122, q126, q127, q128, q255, q256, q300, q580, q600, q1000, nI_add, q_lt_t, q_lt_f, q_eq_t, q_eq_f, q_clamp, q_in_t, q_in_f]
  by_cases hA : A = 20
  · refine pure ⟨.int (-5), ?_, ?_⟩
    · simp (disch := omega) only [c_X9_flips, e_X9_flips_0, e_X9_flips_5, e_X9_flips_16, e_X9_flips_13, e_X9_flips_45, e_X9_flips_78, s_Xtrain D, s_Xday D, a2, hA, Option.bind_some, Option.toList_some, Option.toList_none, List.cons_append, List.nil_append, Option.map_some, cond_true, cond_false, Bool.not_true, Bool.not_false, Bool.true_and, Bool.and_true, Bool.false_and, Bool.and_false, Bool.true_or, Bool.or_true, Bool.false_or, Bool.or_false, Bool.not_not, decide_true, decide_false, Bool.decide_eq_true, Bool.decide_eq_false, qz_0, qz_1, qz_n, qz_n0, qz_n1, qz_t, qz_f, Nat.reduceAdd, q1000000, q0, q1, q2, q3, q4, q5, q6, q7, q8, q9, q10, q11, q12, q13, q14, q15, q16, q18, q19, q20, q21, q22, q23, q24, q25, q26, q27, q28, q29, q30, q31, q32, q38, q44, q45, q48, q57, q58, q59, q60, q63, q64, q97, q122, q126, q127, q128, q255, q256, q300, q580, q600, q1000, nI_add, q_lt_t, q_lt_f, q_eq_t, q_eq_f, q_clamp, q_in_t, q_in_f]
    · simp (disch := omega) only [c_X10_flips, e_X10_flips_0, e_X10_flips_5, e_X10_flips_16, e_X10_flips_13, e_X10_flips_35, e_X10_flips_56, e_X10_flips_60, s_Mtrain D, s_Mday D, a3, hA, Option.bind_some, Option.toList_some, Option.toList_none, List.cons_append, List.nil_append, Option.map_some, cond_true, cond_false, Bool.not_true, Bool.not_false, Bool.true_and, Bool.and_true, Bool.false_and, Bool.and_false, Bool.true_or, Bool.or_true, Bool.false_or, Bool.or_false, Bool.not_not, decide_true, decide_false, Bool.decide_eq_true, Bool.decide_eq_false, qz_0, qz_1, qz_n, qz_n0, qz_n1, qz_t, qz_f, Nat.reduceAdd, q1000000, q0, q1, q2, q3, q4, q5, q6, q7, q8, q9, q10, q11, q12, q13, q14, q15, q16, q18, q19, q20, q21, q22, q23, q24, q25, q26, q27, q28, q29, q30, q31, q32, q38, q44, q45, q48, q57, q58, q59, q60, q63, q64, q97, q122, q126, q127, q128, q255, q256, q300, q580, q600, q1000, nI_add, q_lt_t, q_lt_f, q_eq_t, q_eq_f, q_clamp, q_in_t, q_in_f]
  have hN := D.nz hj
  obtain ⟨V, hV⟩ : ∃ V, V = I 17 j ^^^ (nI 1 <<< (nI d &&& nI 31)) := ⟨_, rfl⟩
  have hVs : sub N V := fun i hi => by
    rw [hV, b_xor, D.ts hj i hi]
    rcases Nat.lt_or_ge i 32 with q | q
    · rw [b_one (by omega) q, decide_eq_false (by omega)]
      rfl
    · rw [b_big q]
      rfl
  obtain ⟨J, n1, n2, n3, n4⟩ := both_note E (by omega)
  have e17 : J 17 j = I 17 j := n4 _ _ (by omega) (by omega)
  -- the desk of the class, the day flipped; the reference's yet as it was
  have cJ : ∀ a b, a ≠ 10 → (a ≠ 9 ∨ b ≠ 1) → (a ≠ 17 ∨ b ≠ j) → zup J 17 j V a b = I a b := fun a b p1 p2 p3 => by
    rw [show zup J 17 j V a b = J a b by
      rcases p3 with p3 | p3
      · exact zu_cell p3
      · exact zu_at p3]
    exact n4 a b (by omega) p2
  have hKV : KC (zup J 17 j V) := hK.cg (fun b => cJ _ _ (by omega) (by omega) (by omega)) (fun b => cJ _ _ (by omega) (by omega) (by omega)) (fun b => cJ _ _ (by omega) (by omega) (by omega))
  -- the class searches over cells that do not name the reference's
  have hSB : SB (zup J 17 j V) N w F (zup J 17 j V 25 8) (I 14) := ⟨⟨hb.1, hb.2.1, hb.2.2.1⟩, ⟨(cJ _ _ (by omega) (by omega) (by omega)).trans D.x.1, (cJ _ _ (by omega) (by omega) (by omega)).trans D.x.2.1, (cJ _ _ (by omega) (by omega) (by omega)).trans D.x.2.2.1⟩, fun P hP => (cJ _ _ (by omega) (by omega) (by omega)).trans (D.pd hN hP), hKV, rfl, fun y => cJ _ _ (by omega) (by omega) (by omega)⟩
  have hX : ∃ J1 M1, zcall zZ nX2_fewest [.ref 25, .int V, .int (-nI 1), .int (nI 1)] (hp (zup J 17 j V) L) = some (some (.int (nI (tkF N w F (I 14) V true))), hp J1 M1) ∧ FU (zup J 17 j V) J1 ∧ FUL L M1 := by
    by_cases hV0 : V = nI 0
    · have e := tkF_eq (N := N) (w := w) (F := F) (fd := I 14) (T := V) (b := true) (Or.inl ⟨hV0, rfl⟩)
      refine ⟨_, L, ?_, FU.refl _, FUL.refl L⟩
      rw [e, hV0]
      simp (disch := omega) only [c_X2_fewest, e_X2_fewest_0, Option.bind_some, Option.toList_some, Option.toList_none, List.cons_append, List.nil_append, Option.map_some, cond_true, cond_false, Bool.not_true, Bool.not_false, Bool.true_and, Bool.and_true, Bool.false_and, Bool.and_false, Bool.true_or, Bool.or_true, Bool.false_or, Bool.or_false, Bool.not_not, decide_true, decide_false, Bool.decide_eq_true, Bool.decide_eq_false, qz_0, qz_1, qz_n, qz_n0, qz_n1, qz_t, qz_f, Nat.reduceAdd, q1000000, q0, q1, q2, q3, q4, q5, q6, q7, q8, q9, q10, q11, q12, q13, q14, q15, q16, q18, q19, q20, q21, q22, q23, q24, q25, q26, q27, q28, q29, q30, q31, q32, q38, q44, q45, q48, q57, q58, q59, q60, q63, q64, q97, q122, q126, q127, q128, q255, q256, q300, q580, q600, q1000, nI_add, q_lt_t, q_lt_f, q_eq_t, q_eq_f, q_clamp, q_in_t, q_in_f]
    · obtain ⟨J1, M1, s1, s2, s3, s4, s5, s6⟩ := s_search ONE_unl mx_unl (T := V) true (L := L) hSB
      obtain ⟨-, i2, -⟩ := inN_ok (I 14) V hb.2.2.1
      rcases s2 with ⟨h, -⟩ | ⟨k, n, c, h1, h2, h3, h4, h5, h6, h7⟩
      · exfalso
        have hne : ∀ F, F < 3 → ∀ i, i < 2 ^ F → chC F i ≠ [] := by decide +kernel
        exact hne F (by omega) _ i2 h
      · have e := tkF_eq (N := N) (w := w) (F := F) (fd := I 14) (T := V) (b := true) (Or.inr ⟨hV0, n, c, h6, h7⟩)
        rw [e]
        refine ⟨J1, M1, ?_, FX.fu ⟨s3, s5⟩, FXL.fu s6⟩
        have h0 : (V = nI 0) = False := eq_false hV0
        have s1 : zcall zZ nX2_search [.ref 25, .int V, .int (-nI 1), .int (nI 1)] (hp (zup J 17 j V) L) = _ := s1
        rw [c_X2_fewest, e_X2_fewest_0, q0]
        simp only [h0, Option.bind_some, Option.toList_some, Option.toList_none, List.cons_append, List.nil_append, Option.map_some, cond_true, cond_false, Bool.not_true, Bool.not_false, Bool.true_and, Bool.and_true, Bool.false_and, Bool.and_false, Bool.true_or, Bool.or_true, Bool.false_or, Bool.or_false, Bool.not_not, decide_true, decide_false, Bool.decide_eq_true, Bool.decide_eq_false, qz_0, qz_1, qz_n, qz_n0, qz_n1, qz_t, qz_f, Nat.reduceAdd]
        rw [s1]
        simp only [Option.bind_some, Option.toList_some, Option.toList_none, List.cons_append, List.nil_append, Option.map_some, cond_true, cond_false, Bool.not_true, Bool.not_false, Bool.true_and, Bool.and_true, Bool.false_and, Bool.and_false, Bool.true_or, Bool.or_true, Bool.false_or, Bool.or_false, Bool.not_not, decide_true, decide_false, Bool.decide_eq_true, Bool.decide_eq_false, qz_0, qz_1, qz_n, qz_n0, qz_n1, qz_t, qz_f, Nat.reduceAdd, e_X2_fewest_13, h2]
  obtain ⟨J1, M1, x1, x2, x3⟩ := hX
  obtain ⟨J2, k1, k2, k3, k4⟩ := s_keeps (J := J1) (L := M1) (A := A) (by omega) (by rw [x2 _ _ (by omega), cJ _ _ (by omega) (by omega) (by omega)]; exact a3)
  have c1 : ∀ a b, (a < 9 ∨ (a = 9 ∧ b ≠ 1) ∨ (10 < a ∧ a ≠ 17 ∧ a < 25) ∨ (a = 25 ∧ b < 8) ∨ (25 < a ∧ a < 35) ∨ a = 36 ∨ (a = 52 ∧ (b < 17 ∨ 30 ≤ b)) ∨ a = 53 ∨ a = 54 ∨ a = 55 ∨ a = 56 ∨ 63 ≤ a) → J1 a b = I a b := fun a b p => (x2 a b (by omega)).trans (cJ a b (by omega) (by omega) (by omega))
  have c2 : ∀ a b, (a < 9 ∨ (a = 9 ∧ b ≠ 1) ∨ (10 < a ∧ a ≠ 17 ∧ a < 25) ∨ (a = 25 ∧ b < 8) ∨ (25 < a ∧ a < 35) ∨ a = 36 ∨ (a = 52 ∧ b ≠ 3 ∧ (b < 17 ∨ 30 ≤ b)) ∨ a = 53 ∨ a = 54 ∨ a = 56 ∨ 63 ≤ a) → J2 a b = I a b := fun a b p => (k4 a b (by omega) (by omega)).trans (c1 a b (by omega))
  have e2j : J2 53 (38 + j) = I 17 j := (c2 _ _ (by omega)).trans (D.tr hj)
  have c3 : ∀ a b, (a < 9 ∨ (a = 9 ∧ b ≠ 1) ∨ (10 < a ∧ a ≠ 17 ∧ a < 25) ∨ (a = 25 ∧ b < 8) ∨ (25 < a ∧ a < 35) ∨ a = 36 ∨ (a = 52 ∧ b ≠ 3 ∧ (b < 17 ∨ 30 ≤ b)) ∨ (a = 53 ∧ b ≠ 38 + j) ∨ a = 54 ∨ a = 56 ∨ 63 ≤ a) → zup J2 53 (38 + j) V a b = I a b := fun a b p => by
    rw [show zup J2 53 (38 + j) V a b = J2 a b by
      by_cases z : a = 53
      · exact zu_at (by omega)
      · exact zu_cell z]
    exact c2 a b (by omega)
  have e17' : ∀ t, zup J2 53 (38 + j) V 17 t = zup J 17 j V 17 t := fun t => by rw [zu_cell (by omega), k4 _ _ (by omega) (by omega), x2 _ _ (by omega)]
  have D3 : DK (zup J2 53 (38 + j) V) M1 N w F T ln := by
    have D0 : DK I M1 N w F T ln := D.cg (fun _ _ _ => rfl) (fun b => x3 _ _ (by omega))
    refine D0.run (fun t ht => ?_) (fun a b p1 p2 => c3 a b (by omega)) (fun b hb' => c3 53 b (by omega))
    rw [e17']
    by_cases q : t = j
    · subst q
      rw [zu_same, zu_same]
      exact ⟨rfl, hVs⟩
    · rw [zu_at (by omega), zu_at q, c2 _ _ (by omega), n4 17 _ (by omega) (by omega)]
      exact ⟨D.tr ht, D.ts ht⟩
  have hK3 : KC (zup J2 53 (38 + j) V) := hK.cg (fun b => c3 _ _ (by omega)) (fun b => c3 _ _ (by omega)) (fun b => c3 _ _ (by omega))
  obtain ⟨J4, M4, y1, y2, y3⟩ := s_sM D3 hK3 hN V true
  have e14 : (zup J2 53 (38 + j) V) 14 = I 14 := funext fun y => c3 _ _ (by omega)
  rw [e14] at y1
  have y1 : zcall zZ nX10_solves [.ref 52, .int V, .int (nI 1)] (hp (zup J2 53 (38 + j) V) M1) = _ := y1
  have hr3 := s_Mruns D3 hj
  rw [e17', zu_same] at hr3
  have D1 : DK J1 M1 N w F T ln ∨ True := Or.inr trivial
  have hIsT : zcall zZ nX10_isTrain [.ref 52, .int (nI j)] (hp J1 M1) = some (some (.int (zbo (zin (nI j) T))), hp J1 M1) := s_MisTrain ((c1 _ _ (by omega)).trans D.m.2.2.2.1) (by omega) _
  have hIsD : zcall zZ nX10_isDay [.ref 52, .int (nI d)] (hp J1 M1) = some (some (.int (zbo (zin (nI d) N))), hp J1 M1) := s_MisDay ((c1 _ _ (by omega)).trans D.m.1) (by omega) _
  refine ⟨.int (nI (tkF N w F (I 14) V true)), J1, M1, J4, M4, ?_, ?_, ?_, x3.trans y3, A + 1, ?_⟩
  · have eV : zup J 17 j V 17 j = V := zu_same _ _ _ _
    simp (disch := omega) only [c_X9_flips, e_X9_flips_0, e_X9_flips_5, e_X9_flips_16, e_X9_flips_13, e_X9_flips_45, e_X9_flips_78, s_Xtrain D, s_Xday D, a2, n1, e17, ← hV, eV, x1, Option.bind_some, Option.toList_some, Option.toList_none, List.cons_append, List.nil_append, Option.map_some, cond_true, cond_false, Bool.not_true, Bool.not_false, Bool.true_and, Bool.and_true, Bool.false_and, Bool.and_false, Bool.true_or, Bool.or_true, Bool.false_or, Bool.or_false, Bool.not_not, decide_true, decide_false, Bool.decide_eq_true, Bool.decide_eq_false, qz_0, qz_1, qz_n, qz_n0, qz_n1, qz_t, qz_f, Nat.reduceAdd, q1000000, q0, q1, q2, q3, q4, q5, q6, q7, q8, q9, q10, q11, q12, q13, q14, q15, q16, q18, q19, q20, q21, q22, q23, q24, q25, q26, q27, q28, q29, q30, q31, q32, q38, q44, q45, q48, q57, q58, q59, q60, q63, q64, q97, q122, q126, q127, q128, q255, q256, q300, q580, q600, q1000, nI_add, q_lt_t, q_lt_f, q_eq_t, q_eq_f, q_clamp, q_in_t, q_in_f]
  · have e3 : J1 52 3 = nI A := (c1 _ _ (by omega)).trans a3
    simp (disch := omega) only [c_X10_flips, e_X10_flips_0, e_X10_flips_5, e_X10_flips_16, e_X10_flips_13, e_X10_flips_35, e_X10_flips_56, e_X10_flips_60, hIsT, hIsD, e3, k1, e2j, ← hV, hr3, y1, Option.bind_some, Option.toList_some, Option.toList_none, List.cons_append, List.nil_append, Option.map_some, cond_true, cond_false, Bool.not_true, Bool.not_false, Bool.true_and, Bool.and_true, Bool.false_and, Bool.and_false, Bool.true_or, Bool.or_true, Bool.false_or, Bool.or_false, Bool.not_not, decide_true, decide_false, Bool.decide_eq_true, Bool.decide_eq_false, qz_0, qz_1, qz_n, qz_n0, qz_n1, qz_t, qz_f, Nat.reduceAdd, q1000000, q0, q1, q2, q3, q4, q5, q6, q7, q8, q9, q10, q11, q12, q13, q14, q15, q16, q18, q19, q20, q21, q22, q23, q24, q25, q26, q27, q28, q29, q30, q31, q32, q38, q44, q45, q48, q57, q58, q59, q60, q63, q64, q97, q122, q126, q127, q128, q255, q256, q300, q580, q600, q1000, nI_add, q_lt_t, q_lt_f, q_eq_t, q_eq_f, q_clamp, q_in_t, q_in_f]
  · intro a b p
    rw [y2 a b (by omega)]
    exact c3 a b (by omega)
  · refine EV.fu (I := zup J2 53 (38 + j) V) (L := M1) ⟨D3, ?_, ?_, ?_, ?_⟩ y2 y3
    · exact hTP.cg (c3 _ _ (by omega)) (c3 _ _ (by omega)) (fun b => c3 _ _ (by omega)) (fun b => c3 _ _ (by omega))
    · refine ⟨by omega, ?_, ?_, fun i t hi ht => ?_⟩
      · rw [zu_cell (by omega), k4 _ _ (by omega) (by omega), x2 _ _ (by omega), zu_cell (by omega)]
        exact n2
      · rw [zu_cell (by omega)]
        exact k3
      · rw [zu_cell (by omega), zu_cell (by omega), k4 10 _ (by omega) (by omega), x2 10 _ (by omega), zu_cell (by omega)]
        by_cases z : i = A
        · subst z
          rw [k2 t (by omega), n3 t (by omega), c1 53 _ (by omega), D.tr ht]
          exact ⟨rfl, D.ts ht⟩
        · rw [k4 55 _ (by omega) (by omega), x2 55 _ (by omega), zu_cell (by omega), n4 55 _ (by omega) (by omega), n4 10 _ (by omega) (by omega)]
          exact a4 i t (by omega) ht
    · exact hF.cg (fun b => c3 _ _ (by omega)) (c3 _ _ (by omega)) (c3 _ _ (by omega))
    · exact hT.cg (fun b => c3 _ _ (by omega)) (fun b hb => c3 _ _ (by omega))
