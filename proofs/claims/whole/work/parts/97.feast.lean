def VFe (I : zI) (L : zL) (B : Nat → Nat) (S F : Nat) (ws : List Nat) (r : (Nat × Nat) ⊕ (Nat × Int32)) (x : Option (Option Value × zH)) : Prop := match r with
  | .inl (e, jf) => ∃ J, x = some (none, hp J L) ∧ FL J e (sT B S jf) ∧ FRd I J
  | .inr (j', V) => ∃ J c, x = some (none, hp J L) ∧ RF J B S j' ∧ J 52 13 = nI c ∧ J 53 2 = nI (F + 1) ∧ J 53 (6 + F) = V ∧ J 53 (8 + F) = nI ws.length ∧ (∀ i, i < ws.length → J 53 (10 + 8 * F + i) = nI (ws.getD i 0)) ∧ (∀ x y, (x ≠ 52 ∨ y < 8 ∨ 13 < y) → (x ≠ 53 ∨ (y ≠ 2 ∧ y ≠ 6 + F ∧ y ≠ 8 + F ∧ (y < 10 + 8 * F ∨ 18 + 8 * F ≤ y))) → J x y = I x y)
theorem s_readsFeast {I : zI} {L : zL} {B : Nat → Nat} {S N F j c : Nat} (hN : 1 ≤ N ∧ N ≤ 28) (hF : F ≤ 2) {nm : Nat → List Nat} (hB : BT I B S) (h : RF I B S j) (h14 : I 52 14 = nI 0) (h13 : I 52 13 = nI c) (h0 : I 53 0 = nI N) (h2 : I 53 2 = nI F) (hn : NMr I F nm) : VFe I L B S F (wN B S (j + 1)) (feR (KT B S) (vN B S) (wN B S) F nm N j) (zcall zZ nX10_readsFeast [.ref 52] (hp I L)) := by
  obtain ⟨r, hr⟩ : ∃ r, feR (KT B S) (vN B S) (wN B S) F nm N j = r := ⟨_, rfl⟩
  rw [hr]
  unfold feR at hr
  have hS := hB.1
  by_cases zF : F = 2
  · rw [if_pos zF] at hr
    rw [← hr]
    obtain ⟨J, f1, f2, f3⟩ := s_flt L h h14 3
    refine ⟨J, ?_, f2, (FRf.n f3).d⟩
    simp (disch := omega) only [c_X10_readsFeast, e_X10_readsFeast_0, e_X10_readsFeast_15, h2, f1, Option.bind_some, Option.toList_some, Option.toList_none, List.cons_append, List.nil_append, Option.map_some, cond_true, cond_false, Bool.not_true, Bool.not_false, Bool.true_and, Bool.and_true, Bool.false_and, Bool.and_false, Bool.true_or, Bool.or_true, Bool.false_or, Bool.or_false, Bool.not_not, decide_true, decide_false, Bool.decide_eq_true, Bool.decide_eq_false, qz_0, qz_1, qz_n, qz_n0, qz_n1, qz_t, qz_f, Nat.reduceAdd, q1000000, q0, q1, q2, q3, q4, q5, q6, q7, q8, q9, q10, q11, q12, q13, q14, q15, q16, q18, q19, q20, q21, q22, q23, q24, q25, q26, q27, q28, q29, q30, q31, q32, q38, q44, q45, q48, q57, q58, q59, q60, q63, q64, q97, q122, q126, q127, q128, q255, q256, q300, q580, q600, q1000, nI_add, q_lt_t, q_lt_f, q_eq_t, q_eq_f, q_clamp, q_in_t, q_in_f]
  rw [if_neg zF] at hr
  obtain ⟨I1, a1, a2, a3⟩ := s_nextJ L hB h
  have f1 : FRn I I1 := fun x y p => a3 x y (by omega)
  have b14 : I1 52 14 = nI 0 := (a3 _ _ (by omega)).trans h14
  have b13 : I1 52 13 = nI c := (a3 _ _ (by omega)).trans h13
  have hB1 : BT I1 B S := hB.ff f1.f
  have hk := KT_le B S (j + 1)
  have ht := tyT_lt (KT B S (j + 1))
  have e9 := a2.1
  have e8 := a2.2.1
  have e10 := a2.2.2.1
  have e12 := a2.2.2.2.2
  by_cases z : 19 < KT B S (j + 1)
  · rw [if_pos z] at hr
    rw [← hr]
    have n1 : tyT (KT B S (j + 1)) ≠ 1 := fun q => by
      have := (tyT_1 hk).mp q
      omega
    obtain ⟨J, g1, g2, g3⟩ := s_flt L a2 b14 1
    refine ⟨J, ?_, g2, (f1.f.trans (FRf.n g3)).d⟩
    simp (disch := omega) only [c_X10_readsFeast, e_X10_readsFeast_0, e_X10_readsFeast_20, e_X10_readsFeast_33, h2, a1, e10, g1, Option.bind_some, Option.toList_some, Option.toList_none, List.cons_append, List.nil_append, Option.map_some, cond_true, cond_false, Bool.not_true, Bool.not_false, Bool.true_and, Bool.and_true, Bool.false_and, Bool.and_false, Bool.true_or, Bool.or_true, Bool.false_or, Bool.or_false, Bool.not_not, decide_true, decide_false, Bool.decide_eq_true, Bool.decide_eq_false, qz_0, qz_1, qz_n, qz_n0, qz_n1, qz_t, qz_f, Nat.reduceAdd, q1000000, q0, q1, q2, q3, q4, q5, q6, q7, q8, q9, q10, q11, q12, q13, q14, q15, q16, q18, q19, q20, q21, q22, q23, q24, q25, q26, q27, q28, q29, q30, q31, q32, q38, q44, q45, q48, q57, q58, q59, q60, q63, q64, q97, q122, q126, q127, q128, q255, q256, q300, q580, q600, q1000, nI_add, q_lt_t, q_lt_f, q_eq_t, q_eq_f, q_clamp, q_in_t, q_in_f]
  rw [if_neg z] at hr
  rw [(tyT_1 hk).mpr (by omega)] at e10
  obtain ⟨l1, l2, l3, l4, l5⟩ := wN_az (show KT B S (j + 1) ≤ 19 by omega)
  have hps := ps_le B S (j + 1 + 1)
  have hsub : nI (ps B S (j + 1 + 1)) - nI (sT B S (j + 1)) = nI (wN B S (j + 1)).length := by
    rw [q_sub (by omega), l2]
  have hfh := s_feastHere L hB1 a2 (fun f hf => by
    obtain ⟨q1', q2', q3'⟩ := hn f hf
    exact ⟨q1', (f1 _ _ (by omega)).trans q2', fun i hi => ⟨(q3' i hi).1, (f1 _ _ (by omega)).trans (q3' i hi).2⟩⟩) hF ((f1 _ _ (by omega)).trans h2)
  rw [if_pos (show KT B S (j + 1) ≤ 19 by omega)] at hfh
  obtain ⟨G, g1, g2, g3⟩ := s_flt L a2 b14 2
  have hlt : (-nI 1 < nI 0) = True := eq_true (by decide)
  by_cases y : KT B S (j + 1) = 19 ∧ (wN B S (j + 1)).length ≤ 8 ∧ fx nm (wN B S (j + 1)) F 0 = none
  · rw [if_pos y] at hr
    obtain ⟨y1, y2, y3⟩ := y
    rw [y3] at hfh
    have hfh : zcall zZ nX10_feastHere [.ref 52] (hp I1 L) = some (some (.int (-nI 1)), hp I1 L) := hfh
    rw [y1] at e12
    have e12 : I1 52 12 = -nI 1 := e12
    obtain ⟨I2, hI2⟩ : ∃ I2, I2 = zup I1 53 (8 + F) (nI (wN B S (j + 1)).length) := ⟨_, rfl⟩
    have o2 : ∀ x y, (x ≠ 53 ∨ y ≠ 8 + F) → I2 x y = I1 x y := fun x y p => by rw [hI2]; exact up53 p
    obtain ⟨I3, p1, p2, p3⟩ := fl_loop (L := L) (B := B) (S := S) (F := F) (s := sT B S (j + 1)) (len := (wN B S (j + 1)).length) (by omega) y2 (by omega) hS (wN B S (j + 1)).length 0 I2 (by omega) (by rw [o2 _ _ (by omega), e8]; congr 1; omega) ((o2 _ _ (by omega)).trans e9) (fun i hi => (o2 _ _ (by omega)).trans (hB1.2.2.2 i hi).2.1)
    have o3 : ∀ x y, x ≠ 53 → I3 x y = I1 x y := fun x y p => (p3 x y (by omega)).trans (o2 x y (by omega))
    have hB3 : BT I3 B S := hB1.cg (o3 _ _ (by omega)) (fun b => o3 _ _ (by omega))
    obtain ⟨I4, q1', q2', q3'⟩ := s_nextJ L hB3 (a2.cg (fun y _ _ => o3 52 y (by omega)))
    have o4 : ∀ y, y ≠ 8 + F → (y < 10 + 8 * F ∨ 18 + 8 * F ≤ y) → I4 53 y = I 53 y := fun y r1 r2 => by
      rw [q3' _ _ (by omega), p3 _ _ (by omega), o2 _ _ (by omega)]
      exact f1 _ _ (by omega)
    have lp := fr_loop (L := L) (B := B) (S := S) (N := N) (F := F) hN (by omega) (N + 1) (j + 2) c 0 (nI 0) I4 (hB3.cg (q3' _ _ (by omega)) (fun b => q3' _ _ (by omega))) q2' ((q3' _ _ (by omega)).trans ((o3 _ _ (by omega)).trans b14)) ((q3' _ _ (by omega)).trans ((o3 _ _ (by omega)).trans b13)) ((o4 0 (by omega) (by omega)).trans h0) ((o4 2 (by omega) (by omega)).trans h2) (by rw [cnt_n0]) (by omega)
    have run : zcall zZ nX10_readsFeast [.ref 52] (hp I L) = (zrun zZ kX10_readsFeast (147, [some (.ref 52), some (.int (nI F)), some (.int (nI 0)), some (.int (nI 1)), none], [], hp I4 L, 0, 0)).map (fun r => (r.1, r.2.1)) := by
      have b2 : I1 53 2 = nI F := (f1 _ _ (by omega)).trans h2
      simp (disch := omega) only [c_X10_readsFeast, e_X10_readsFeast_0, e_X10_readsFeast_20, e_X10_readsFeast_59, e_X10_readsFeast_139, e_X10_readsFeast_143, h2, b2, a1, e8, e9, e10, e12, hsub, hlt, hfh, ← hI2, p1, q1', Option.bind_some, Option.toList_some, Option.toList_none, List.cons_append, List.nil_append, Option.map_some, cond_true, cond_false, Bool.not_true, Bool.not_false, Bool.true_and, Bool.and_true, Bool.false_and, Bool.and_false, Bool.true_or, Bool.or_true, Bool.false_or, Bool.or_false, Bool.not_not, decide_true, decide_false, Bool.decide_eq_true, Bool.decide_eq_false, qz_0, qz_1, qz_n, qz_n0, qz_n1, qz_t, qz_f, Nat.reduceAdd, q1000000, q0, q1, q2, q3, q4, q5, q6, q7, q8, q9, q10, q11, q12, q13, q14, q15, q16, q18, q19, q20, q21, q22, q23, q24, q25, q26, q27, q28, q29, q30, q31, q32, q38, q44, q45, q48, q57, q58, q59, q60, q63, q64, q97, q122, q126, q127, q128, q255, q256, q300, q580, q600, q1000, nI_add, q_lt_t, q_lt_f, q_eq_t, q_eq_f, q_clamp, q_in_t, q_in_f]
    rw [run]
    have oN : ∀ x y, (x ≠ 52 ∨ y < 8 ∨ 13 < y) → (x ≠ 53 ∨ (y ≠ 8 + F ∧ (y < 10 + 8 * F ∨ 18 + 8 * F ≤ y))) → I4 x y = I x y := fun x y r1 r2 => by
      by_cases u : x = 53
      · subst u
        exact o4 y (by omega) (by omega)
      · rw [q3' _ _ (by omega), o3 _ _ u]
        exact f1 _ _ (by omega)
    match hfr : fyF (KT B S) (vN B S) N (N + 1) (j + 2) (nI 0), lp with
    | .inl (e, jf), ⟨J, V, x1, x2, x3⟩ =>
      rw [hfr] at hr
      rw [← hr]
      refine ⟨_, x1, x2.up.up, FRd.up (FRd.up (fun x y r1 r2 => (x3 x y (by omega)).trans ?_))⟩
      by_cases u : x = 52
      · exact oN x y (by omega) (by omega)
      · exact oN x y (by omega) (by omega)
    | .inr (j', V), ⟨J, c', x1, x2, x3, x4⟩ =>
      rw [hfr] at hr
      rw [← hr]
      refine ⟨_, c', x1, RF.up (RF.up x2), ?_, zu_same _ _ _ _, ?_, ?_, fun i hi => ?_, fun x y r1 r2 => ?_⟩
      · rw [zu_cell (by omega), zu_cell (by omega)]
        exact x3
      · rw [zu_at (by omega), zu_same]
      · rw [zu_at (by omega), zu_at (by omega), x4 _ _ (by omega), q3' _ _ (by omega), p3 _ _ (by omega), hI2, zu_same]
      · rw [zu_at (by omega), zu_at (by omega), x4 _ _ (by omega), q3' _ _ (by omega), p2 i (by omega) hi, (l4 i hi).2.2]
      · rw [up53 (by omega), up53 (by omega), x4 x y (by omega)]
        exact oN x y r1 (by omega)
  · rw [if_neg y] at hr
    rw [← hr]
    refine ⟨G, ?_, g2, (f1.f.trans (FRf.n g3)).d⟩
    by_cases y2 : 8 < (wN B S (j + 1)).length
    · simp (disch := omega) only [c_X10_readsFeast, e_X10_readsFeast_0, e_X10_readsFeast_20, e_X10_readsFeast_62, e_X10_readsFeast_67, h2, a1, e8, e9, e10, hsub, g1, Option.bind_some, Option.toList_some, Option.toList_none, List.cons_append, List.nil_append, Option.map_some, cond_true, cond_false, Bool.not_true, Bool.not_false, Bool.true_and, Bool.and_true, Bool.false_and, Bool.and_false, Bool.true_or, Bool.or_true, Bool.false_or, Bool.or_false, Bool.not_not, decide_true, decide_false, Bool.decide_eq_true, Bool.decide_eq_false, qz_0, qz_1, qz_n, qz_n0, qz_n1, qz_t, qz_f, Nat.reduceAdd, q1000000, q0, q1, q2, q3, q4, q5, q6, q7, q8, q9, q10, q11, q12, q13, q14, q15, q16, q18, q19, q20, q21, q22, q23, q24, q25, q26, q27, q28, q29, q30, q31, q32, q38, q44, q45, q48, q57, q58, q59, q60, q63, q64, q97, q122, q126, q127, q128, q255, q256, q300, q580, q600, q1000, nI_add, q_lt_t, q_lt_f, q_eq_t, q_eq_f, q_clamp, q_in_t, q_in_f]
    · by_cases y1 : KT B S (j + 1) = 19
      · rw [y1] at e12
        have e12 : I1 52 12 = -nI 1 := e12
        match hfx : fx nm (wN B S (j + 1)) F 0 with
        | none => exact absurd ⟨y1, by omega, hfx⟩ y
        | some f =>
          have hfl := fx_lt F 0 f hfx
          rw [hfx] at hfh
          have hfh : zcall zZ nX10_feastHere [.ref 52] (hp I1 L) = some (some (.int (nI f)), hp I1 L) := hfh
          simp (disch := omega) only [c_X10_readsFeast, e_X10_readsFeast_0, e_X10_readsFeast_20, e_X10_readsFeast_59, e_X10_readsFeast_62, e_X10_readsFeast_67, h2, a1, e8, e9, e10, e12, hsub, hlt, hfh, g1, Option.bind_some, Option.toList_some, Option.toList_none, List.cons_append, List.nil_append, Option.map_some, cond_true, cond_false, Bool.not_true, Bool.not_false, Bool.true_and, Bool.and_true, Bool.false_and, Bool.and_false, Bool.true_or, Bool.or_true, Bool.false_or, Bool.or_false, Bool.not_not, decide_true, decide_false, Bool.decide_eq_true, Bool.decide_eq_false, qz_0, qz_1, qz_n, qz_n0, qz_n1, qz_t, qz_f, Nat.reduceAdd, q1000000, q0, q1, q2, q3, q4, q5, q6, q7, q8, q9, q10, q11, q12, q13, q14, q15, q16, q18, q19, q20, q21, q22, q23, q24, q25, q26, q27, q28, q29, q30, q31, q32, q38, q44, q45, q48, q57, q58, q59, q60, q63, q64, q97, q122, q126, q127, q128, q255, q256, q300, q580, q600, q1000, nI_add, q_lt_t, q_lt_f, q_eq_t, q_eq_f, q_clamp, q_in_t, q_in_f]
      · rw [show kI (KT B S (j + 1)) = nI (KT B S (j + 1)) from if_pos (by omega)] at e12
        simp (disch := omega) only [c_X10_readsFeast, e_X10_readsFeast_0, e_X10_readsFeast_20, e_X10_readsFeast_62, e_X10_readsFeast_67, h2, a1, e8, e9, e10, e12, hsub, g1, Option.bind_some, Option.toList_some, Option.toList_none, List.cons_append, List.nil_append, Option.map_some, cond_true, cond_false, Bool.not_true, Bool.not_false, Bool.true_and, Bool.and_true, Bool.false_and, Bool.and_false, Bool.true_or, Bool.or_true, Bool.false_or, Bool.or_false, Bool.not_not, decide_true, decide_false, Bool.decide_eq_true, Bool.decide_eq_false, qz_0, qz_1, qz_n, qz_n0, qz_n1, qz_t, qz_f, Nat.reduceAdd, q1000000, q0, q1, q2, q3, q4, q5, q6, q7, q8, q9, q10, q11, q12, q13, q14, q15, q16, q18, q19, q20, q21, q22, q23, q24, q25, q26, q27, q28, q29, q30, q31, q32, q38, q44, q45, q48, q57, q58, q59, q60, q63, q64, q97, q122, q126, q127, q128, q255, q256, q300, q580, q600, q1000, nI_add, q_lt_t, q_lt_f, q_eq_t, q_eq_f, q_clamp, q_in_t, q_in_f]
