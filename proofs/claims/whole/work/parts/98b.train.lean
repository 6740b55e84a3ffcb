/-! a train is read: reference -/
def VTr (I : zI) (L : zL) (B : Nat → Nat) (S T : Nat) (r : (Nat × Nat) ⊕ (Nat × Nat × Nat × Int32)) (x : Option (Option Value × zH)) : Prop := match r with
  | .inl (e, jf) => ∃ J, x = some (none, hp J L) ∧ FL J e (sT B S jf) ∧ FRd I J
  | .inr (j', r, m, V) => (∃ J c, x = some (none, hp J L) ∧ RF J B S j' ∧ J 52 13 = nI c ∧ J 53 3 = nI (T + 1) ∧ J 53 (26 + T) = nI r ∧ J 53 (32 + T) = nI m ∧ J 53 (38 + T) = V ∧ (∀ x y, (x ≠ 52 ∨ y < 8 ∨ 13 < y) → (x ≠ 53 ∨ (y ≠ 3 ∧ y ≠ 26 + T ∧ y ≠ 32 + T ∧ y ≠ 38 + T)) → J x y = I x y)) ∨ (KT B S j' ≤ 19 ∧ ∃ J, x = some (none, hp J L) ∧ FL J 1 (sT B S j') ∧ FRd I J)
theorem tr_o109 {I : zI} (L : zL) (h14 : I 52 14 = nI 1) (x1 : Int32) : zrun zZ kX10_readsTrain (109, [some (.ref 52), some (.int x1)], [], hp I L, 0, 0) = some (none, hp (zup I 53 3 (I 53 3 + nI 1)) L, 0, 0) := by
  simp (disch := omega) only [e_X10_readsTrain_109, e_X10_readsTrain_129, h14, Option.bind_some, Option.toList_some, Option.toList_none, List.cons_append, List.nil_append, Option.map_some, cond_true, cond_false, Bool.not_true, Bool.not_false, Bool.true_and, Bool.and_true, Bool.false_and, Bool.and_false, Bool.true_or, Bool.or_true, Bool.false_or, Bool.or_false, Bool.not_not, decide_true, decide_false, Bool.decide_eq_true, Bool.decide_eq_false, qz_0, qz_1, qz_n, qz_n0, qz_n1, qz_t, qz_f, Nat.reduceAdd, q1000000, q0, q1, q2, q3, q4, q5, q6, q7, q8, q9, q10, q11, q12, q13, q14, q15, q16, q18, q19, q20, q21, q22, q23, q24, q25, q26, q27, q28, q29, q30, q31, q32, q38, q44, q45, q48, q57, q58, q59, q60, q63, q64, q97, q122, q126, q127, q128, q255, q256, q300, q580, q600, q1000, nI_add, q_lt_t, q_lt_f, q_eq_t, q_eq_f, q_clamp, q_in_t, q_in_f]
theorem tr_o92 {I : zI} (L : zL) (h14 : I 52 14 = nI 1) (x1 : Int32) : zrun zZ kX10_readsTrain (92, [some (.ref 52), some (.int x1)], [], hp I L, 0, 0) = some (none, hp (zup I 53 3 (I 53 3 + nI 1)) L, 0, 0) := by
  simp (disch := omega) only [e_X10_readsTrain_92, tr_o109 L h14, h14, Option.bind_some, Option.toList_some, Option.toList_none, List.cons_append, List.nil_append, Option.map_some, cond_true, cond_false, Bool.not_true, Bool.not_false, Bool.true_and, Bool.and_true, Bool.false_and, Bool.and_false, Bool.true_or, Bool.or_true, Bool.false_or, Bool.or_false, Bool.not_not, decide_true, decide_false, Bool.decide_eq_true, Bool.decide_eq_false, qz_0, qz_1, qz_n, qz_n0, qz_n1, qz_t, qz_f, Nat.reduceAdd, q1000000, q0, q1, q2, q3, q4, q5, q6, q7, q8, q9, q10, q11, q12, q13, q14, q15, q16, q18, q19, q20, q21, q22, q23, q24, q25, q26, q27, q28, q29, q30, q31, q32, q38, q44, q45, q48, q57, q58, q59, q60, q63, q64, q97, q122, q126, q127, q128, q255, q256, q300, q580, q600, q1000, nI_add, q_lt_t, q_lt_f, q_eq_t, q_eq_f, q_clamp, q_in_t, q_in_f]
theorem tr_o68 {I : zI} (L : zL) (h14 : I 52 14 = nI 1) (x1 : Int32) : zrun zZ kX10_readsTrain (68, [some (.ref 52), some (.int x1)], [], hp I L, 0, 0) = some (none, hp (zup I 53 3 (I 53 3 + nI 1)) L, 0, 0) := by
  simp (disch := omega) only [e_X10_readsTrain_68, tr_o92 L h14, h14, Option.bind_some, Option.toList_some, Option.toList_none, List.cons_append, List.nil_append, Option.map_some, cond_true, cond_false, Bool.not_true, Bool.not_false, Bool.true_and, Bool.and_true, Bool.false_and, Bool.and_false, Bool.true_or, Bool.or_true, Bool.false_or, Bool.or_false, Bool.not_not, decide_true, decide_false, Bool.decide_eq_true, Bool.decide_eq_false, qz_0, qz_1, qz_n, qz_n0, qz_n1, qz_t, qz_f, Nat.reduceAdd, q1000000, q0, q1, q2, q3, q4, q5, q6, q7, q8, q9, q10, q11, q12, q13, q14, q15, q16, q18, q19, q20, q21, q22, q23, q24, q25, q26, q27, q28, q29, q30, q31, q32, q38, q44, q45, q48, q57, q58, q59, q60, q63, q64, q97, q122, q126, q127, q128, q255, q256, q300, q580, q600, q1000, nI_add, q_lt_t, q_lt_f, q_eq_t, q_eq_f, q_clamp, q_in_t, q_in_f]
theorem trv_w {I I7 : zI} {L : zL} {B : Nat → Nat} {S N w F T r m jw c : Nat} (hN : 1 ≤ N ∧ N ≤ 28) (hw : w < 7) (hF : F ≤ 2) (hT : T < 6) {nm : Nat → List Nat} (hK : NK F nm) {fd : Nat → Int32} (hB : BT I7 B S) (h : RF I7 B S jw) (h14 : I7 52 14 = nI 0) (h13 : I7 52 13 = nI c) (hD : DR I7 N w F nm fd) (h3 : I7 53 3 = nI T) (h4 : I7 53 (26 + T) = nI r) (h5 : I7 53 (32 + T) = nI m) (o17 : ∀ x y, (x ≠ 52 ∨ y < 8 ∨ 13 < y) → (x ≠ 53 ∨ (y ≠ 26 + T ∧ y ≠ 32 + T)) → I7 x y = I x y) : VTr I L B S T (trC r m (woR (KT B S) (vN B S) (fiT B S F nm) N w fd jw)) ((zrun zZ kX10_readsTrain (109, [some (.ref 52), some (.int (nI T))], [], hp I7 L, 0, 0)).map (fun r => (r.1, r.2.1))) := by
  have hv := s_readsWording (L := L) hN hw hF hK hB h h14 h13 hD
  have f7 : FRd I I7 := fun x y p1 p2 => by
    by_cases u : x = 52
    · exact o17 x y (by omega) (by omega)
    · exact o17 x y (by omega) (by omega)
  -- a fault is set in the wording
  have bad : ∀ (J : zI) e s (v : Int32), zcall zZ nX10_readsWording [.ref 52] (hp I7 L) = some (some (.int v), hp J L) → FL J e s → FRf I7 J → ∃ J', ((zrun zZ kX10_readsTrain (109, [some (.ref 52), some (.int (nI T))], [], hp I7 L, 0, 0)).map (fun r => (r.1, r.2.1))) = some (none, hp J' L) ∧ FL J' e s ∧ FRd I J' := fun J e s v g1 g2 g3 => by
    refine ⟨zup (zup J 53 (38 + T) v) 53 3 (zup J 53 (38 + T) v 53 3 + nI 1), ?_, g2.up.up, FRd.up (FRd.up (f7.trans g3.d))⟩
    simp (disch := omega) only [e_X10_readsTrain_109, e_X10_readsTrain_128, e_X10_readsTrain_129, h14, g1, Option.bind_some, Option.toList_some, Option.toList_none, List.cons_append, List.nil_append, Option.map_some, cond_true, cond_false, Bool.not_true, Bool.not_false, Bool.true_and, Bool.and_true, Bool.false_and, Bool.and_false, Bool.true_or, Bool.or_true, Bool.false_or, Bool.or_false, Bool.not_not, decide_true, decide_false, Bool.decide_eq_true, Bool.decide_eq_false, qz_0, qz_1, qz_n, qz_n0, qz_n1, qz_t, qz_f, Nat.reduceAdd, q1000000, q0, q1, q2, q3, q4, q5, q6, q7, q8, q9, q10, q11, q12, q13, q14, q15, q16, q18, q19, q20, q21, q22, q23, q24, q25, q26, q27, q28, q29, q30, q31, q32, q38, q44, q45, q48, q57, q58, q59, q60, q63, q64, q97, q122, q126, q127, q128, q255, q256, q300, q580, q600, q1000, nI_add, q_lt_t, q_lt_f, q_eq_t, q_eq_f, q_clamp, q_in_t, q_in_f]
  match hwr : woR (KT B S) (vN B S) (fiT B S F nm) N w fd jw, hv with
  | .inl (e, jf), ⟨J, v, x1, x2, x3⟩ => exact bad J _ _ v x1 x2 x3
  | .inr (j', V), .inr ⟨hq, J, v, x1, x2, x3⟩ => exact Or.inr ⟨hq, bad J _ _ v x1 x2 x3⟩
  | .inr (j', V), .inl ⟨J, x1, x2, x3, x4, x5⟩ =>
    have j3 : J 53 3 = nI T := (x5 _ _ (by omega)).trans h3
    refine Or.inl ⟨zup (zup J 53 (38 + T) V) 53 3 (nI (T + 1)), c + (j' - jw), ?_, RF.up (RF.up x3), ?_, zu_same _ _ _ _, ?_, ?_, ?_, fun x y p1 p2 => ?_⟩
    · simp (disch := omega) only [e_X10_readsTrain_109, e_X10_readsTrain_128, e_X10_readsTrain_129, h14, x1, zu_same, zu_cell, zu_at, j3, Option.bind_some, Option.toList_some, Option.toList_none, List.cons_append, List.nil_append, Option.map_some, cond_true, cond_false, Bool.not_true, Bool.not_false, Bool.true_and, Bool.and_true, Bool.false_and, Bool.and_false, Bool.true_or, Bool.or_true, Bool.false_or, Bool.or_false, Bool.not_not, decide_true, decide_false, Bool.decide_eq_true, Bool.decide_eq_false, qz_0, qz_1, qz_n, qz_n0, qz_n1, qz_t, qz_f, Nat.reduceAdd, q1000000, q0, q1, q2, q3, q4, q5, q6, q7, q8, q9, q10, q11, q12, q13, q14, q15, q16, q18, q19, q20, q21, q22, q23, q24, q25, q26, q27, q28, q29, q30, q31, q32, q38, q44, q45, q48, q57, q58, q59, q60, q63, q64, q97, q122, q126, q127, q128, q255, q256, q300, q580, q600, q1000, nI_add, q_lt_t, q_lt_f, q_eq_t, q_eq_f, q_clamp, q_in_t, q_in_f]
    · rw [zu_cell (by omega), zu_cell (by omega)]
      exact x4
    · rw [zu_at (by omega), zu_at (by omega), x5 _ _ (by omega)]
      exact h4
    · rw [zu_at (by omega), zu_at (by omega), x5 _ _ (by omega)]
      exact h5
    · rw [zu_at (by omega), zu_same]
    · rw [up53 (by omega), up53 (by omega), x5 x y (by omega)]
      exact o17 x y p1 (by omega)
/-- from the colon on -/
theorem trv_b {I I5 : zI} {L : zL} {B : Nat → Nat} {S N w F T r m jc c : Nat} (hN : 1 ≤ N ∧ N ≤ 28) (hw : w < 7) (hF : F ≤ 2) (hT : T < 6) {nm : Nat → List Nat} (hK : NK F nm) {fd : Nat → Int32} (hB : BT I5 B S) (h : RF I5 B S jc) (h14 : I5 52 14 = nI 0) (h13 : I5 52 13 = nI c) (hD : DR I5 N w F nm fd) (h3 : I5 53 3 = nI T) (h4 : I5 53 (26 + T) = nI r) (h5 : I5 53 (32 + T) = nI m) (o17 : ∀ x y, (x ≠ 52 ∨ y < 8 ∨ 13 < y) → (x ≠ 53 ∨ (y ≠ 26 + T ∧ y ≠ 32 + T)) → I5 x y = I x y) : VTr I L B S T (trB (KT B S) (vN B S) (fiT B S F nm) N w fd r m jc) ((zrun zZ kX10_readsTrain (92, [some (.ref 52), some (.int (nI T))], [], hp I5 L, 0, 0)).map (fun r => (r.1, r.2.1))) := by
  unfold trB
  have hsg := s_isSg L hB h (c := 58) (k := 22) (by omega)
  by_cases z : KT B S jc = 22
  · rw [if_pos z]
    rw [decide_eq_true z] at hsg
    obtain ⟨I7, a1, a2, a3, a4⟩ := s_need_y L hB h h14 h13
    have o : ∀ x y, (x ≠ 52 ∨ y < 8 ∨ 13 < y) → (x ≠ 53 ∨ (y ≠ 26 + T ∧ y ≠ 32 + T)) → I7 x y = I x y := fun x y p1 p2 => (a4 x y p1).trans (o17 x y p1 p2)
    have hw' := trv_w (I := I) (L := L) hN hw hF hT hK (hB.ff a4.f) a2 ((a4 _ _ (by omega)).trans h14) a3 (hD.fn a4) ((a4 _ _ (by omega)).trans h3) ((a4 _ _ (by omega)).trans h4) ((a4 _ _ (by omega)).trans h5) o
    refine Eq.mp ?_ hw'
    congr 1
    symm
    simp (disch := omega) only [e_X10_readsTrain_92, e_X10_readsTrain_106, h14, q1000000, q0, q1, q2, q3, q4, q5, q6, q7, q8, q9, q10, q11, q12, q13, q14, q15, q16, q18, q19, q20, q21, q22, q23, q24, q25, q26, q27, q28, q29, q30, q31, q32, q38, q44, q45, q48, q57, q58, q59, q60, q63, q64, q97, q122, q126, q127, q128, q255, q256, q300, q580, q600, q1000, hsg, a1, Option.bind_some, Option.toList_some, Option.toList_none, List.cons_append, List.nil_append, Option.map_some, cond_true, cond_false, Bool.not_true, Bool.not_false, Bool.true_and, Bool.and_true, Bool.false_and, Bool.and_false, Bool.true_or, Bool.or_true, Bool.false_or, Bool.or_false, Bool.not_not, decide_true, decide_false, Bool.decide_eq_true, Bool.decide_eq_false, qz_0, qz_1, qz_n, qz_n0, qz_n1, qz_t, qz_f, Nat.reduceAdd, q1000000, q0, q1, q2, q3, q4, q5, q6, q7, q8, q9, q10, q11, q12, q13, q14, q15, q16, q18, q19, q20, q21, q22, q23, q24, q25, q26, q27, q28, q29, q30, q31, q32, q38, q44, q45, q48, q57, q58, q59, q60, q63, q64, q97, q122, q126, q127, q128, q255, q256, q300, q580, q600, q1000, nI_add, q_lt_t, q_lt_f, q_eq_t, q_eq_f, q_clamp, q_in_t, q_in_f]
  · rw [if_neg z]
    rw [decide_eq_false z] at hsg
    obtain ⟨J, g1, g2, g3⟩ := s_need_n L h h14
    refine ⟨zup J 53 3 (J 53 3 + nI 1), ?_, g2.up, FRd.up (FRd.trans (fun x y p1 p2 => ?_) g3.d)⟩
    · simp (disch := omega) only [e_X10_readsTrain_92, e_X10_readsTrain_106, tr_o109 L g2.1, h14, q1000000, q0, q1, q2, q3, q4, q5, q6, q7, q8, q9, q10, q11, q12, q13, q14, q15, q16, q18, q19, q20, q21, q22, q23, q24, q25, q26, q27, q28, q29, q30, q31, q32, q38, q44, q45, q48, q57, q58, q59, q60, q63, q64, q97, q122, q126, q127, q128, q255, q256, q300, q580, q600, q1000, hsg, g1, Option.bind_some, Option.toList_some, Option.toList_none, List.cons_append, List.nil_append, Option.map_some, cond_true, cond_false, Bool.not_true, Bool.not_false, Bool.true_and, Bool.and_true, Bool.false_and, Bool.and_false, Bool.true_or, Bool.or_true, Bool.false_or, Bool.or_false, Bool.not_not, decide_true, decide_false, Bool.decide_eq_true, Bool.decide_eq_false, qz_0, qz_1, qz_n, qz_n0, qz_n1, qz_t, qz_f, Nat.reduceAdd, q1000000, q0, q1, q2, q3, q4, q5, q6, q7, q8, q9, q10, q11, q12, q13, q14, q15, q16, q18, q19, q20, q21, q22, q23, q24, q25, q26, q27, q28, q29, q30, q31, q32, q38, q44, q45, q48, q57, q58, q59, q60, q63, q64, q97, q122, q126, q127, q128, q255, q256, q300, q580, q600, q1000, nI_add, q_lt_t, q_lt_f, q_eq_t, q_eq_f, q_clamp, q_in_t, q_in_f]
    · by_cases u : x = 52
      · exact o17 x y (by omega) (by omega)
      · exact o17 x y (by omega) (by omega)
/-- from at on -/
theorem trv_a {I I3 : zI} {L : zL} {B : Nat → Nat} {S N w F T r ja c : Nat} (hN : 1 ≤ N ∧ N ≤ 28) (hw : w < 7) (hF : F ≤ 2) (hT : T < 6) {nm : Nat → List Nat} (hK : NK F nm) {fd : Nat → Int32} (hB : BT I3 B S) (h : RF I3 B S ja) (h14 : I3 52 14 = nI 0) (h13 : I3 52 13 = nI c) (hD : DR I3 N w F nm fd) (h3 : I3 53 3 = nI T) (h4 : I3 53 (26 + T) = nI r) (o17 : ∀ x y, (x ≠ 52 ∨ y < 8 ∨ 13 < y) → (x ≠ 53 ∨ y ≠ 26 + T) → I3 x y = I x y) (b : Bool) (hb : b = decide (KT B S ja = 5)) : VTr I L B S T (trA (KT B S) (vN B S) (fiT B S F nm) N w fd r ja) ((zrun zZ kX10_readsTrain (65, [some (.ref 52), some (.int (nI T))], [.int (zbo b), .ref 52], hp I3 L, 0, 0)).map (fun r => (r.1, r.2.1))) := by
  unfold trA
  by_cases z : KT B S ja = 5
  · rw [if_pos z]
    rw [decide_eq_true z] at hb
    subst hb
    obtain ⟨I4, a1, a2, a3, a4⟩ := s_need_y L hB h h14 h13
    have b14 : I4 52 14 = nI 0 := (a4 _ _ (by omega)).trans h14
    have o4 : ∀ x y, (x ≠ 52 ∨ y < 8 ∨ 13 < y) → (x ≠ 53 ∨ y ≠ 26 + T) → I4 x y = I x y := fun x y p1 p2 => (a4 x y p1).trans (o17 x y p1 p2)
    have f4 : FRd I I4 := fun x y p1 p2 => by
      by_cases u : x = 52
      · exact o4 x y (by omega) (by omega)
      · exact o4 x y (by omega) (by omega)
    rcases s_rd L (hB.ff a4.f) a2 b14 a3 (a := 0) (b := 1439) (by omega) (by omega) with ⟨e, s1, J, v, s2, s3, s4⟩ | ⟨s1, s2, J, s3, s4, s5, s6⟩
    · rw [s1]
      have g2 : FL (zup J 53 (32 + T) v) e (sT B S (ja + 1)) := s3.up
      refine ⟨zup (zup J 53 (32 + T) v) 53 3 (zup J 53 (32 + T) v 53 3 + nI 1), ?_, g2.up, FRd.up (FRd.up (f4.trans s4.d))⟩
      simp (disch := omega) only [e_X10_readsTrain_65, e_X10_readsTrain_68, e_X10_readsTrain_91, tr_o92 L g2.1, a1, b14, q1000000, q0, q1, q2, q3, q4, q5, q6, q7, q8, q9, q10, q11, q12, q13, q14, q15, q16, q18, q19, q20, q21, q22, q23, q24, q25, q26, q27, q28, q29, q30, q31, q32, q38, q44, q45, q48, q57, q58, q59, q60, q63, q64, q97, q122, q126, q127, q128, q255, q256, q300, q580, q600, q1000, show (1439 : Int32) = nI 1439 from rfl, s2, Option.bind_some, Option.toList_some, Option.toList_none, List.cons_append, List.nil_append, Option.map_some, cond_true, cond_false, Bool.not_true, Bool.not_false, Bool.true_and, Bool.and_true, Bool.false_and, Bool.and_false, Bool.true_or, Bool.or_true, Bool.false_or, Bool.or_false, Bool.not_not, decide_true, decide_false, Bool.decide_eq_true, Bool.decide_eq_false, qz_0, qz_1, qz_n, qz_n0, qz_n1, qz_t, qz_f, Nat.reduceAdd, q1000000, q0, q1, q2, q3, q4, q5, q6, q7, q8, q9, q10, q11, q12, q13, q14, q15, q16, q18, q19, q20, q21, q22, q23, q24, q25, q26, q27, q28, q29, q30, q31, q32, q38, q44, q45, q48, q57, q58, q59, q60, q63, q64, q97, q122, q126, q127, q128, q255, q256, q300, q580, q600, q1000, nI_add, q_lt_t, q_lt_f, q_eq_t, q_eq_f, q_clamp, q_in_t, q_in_f]
    · rw [s1]
      show VTr I L B S T (trB (KT B S) (vN B S) (fiT B S F nm) N w fd r (vN B S (ja + 1)) (ja + 1 + 1)) _
      obtain ⟨I5, hI5⟩ : ∃ I5, I5 = zup J 53 (32 + T) (nI (vN B S (ja + 1))) := ⟨_, rfl⟩
      have o5 : ∀ x y, (x ≠ 53 ∨ y ≠ 32 + T) → I5 x y = J x y := fun x y p => by rw [hI5]; exact up53 p
      have f5 : FRn I3 J := a4.trans s6
      have hD5 : DR I5 N w F nm fd := by
        have hDJ := hD.fn f5
        refine ⟨(o5 _ _ (by omega)).trans hDJ.1, (o5 _ _ (by omega)).trans hDJ.2.1, (o5 _ _ (by omega)).trans hDJ.2.2.1, fun f hf => ?_, fun f hf => (o5 _ _ (by omega)).trans (hDJ.2.2.2.2 f hf)⟩
        obtain ⟨n1, n2, n3⟩ := hDJ.2.2.2.1 f hf
        exact ⟨n1, (o5 _ _ (by omega)).trans n2, fun i hi => ⟨(n3 i hi).1, (o5 _ _ (by omega)).trans (n3 i hi).2⟩⟩
      have hw' := trv_b (I := I) (I5 := I5) (L := L) (jc := ja + 1 + 1) (r := r) (m := vN B S (ja + 1)) (c := c + 1 + 1) hN hw hF hT hK (by rw [hI5]; exact (hB.ff f5.f).up) (by rw [hI5]; exact RF.up s4) ((o5 _ _ (by omega)).trans ((f5 _ _ (by omega)).trans h14)) ((o5 _ _ (by omega)).trans s5) hD5 ((o5 _ _ (by omega)).trans ((f5 _ _ (by omega)).trans h3)) ((o5 _ _ (by omega)).trans ((f5 _ _ (by omega)).trans h4)) (by rw [hI5, zu_same]) (fun x y p1 p2 => (o5 x y (by omega)).trans ((f5 x y p1).trans (o17 x y p1 (by omega))))
      refine Eq.mp ?_ hw'
      congr 1
      symm
      simp (disch := omega) only [e_X10_readsTrain_65, e_X10_readsTrain_68, e_X10_readsTrain_91, a1, b14, q1000000, q0, q1, q2, q3, q4, q5, q6, q7, q8, q9, q10, q11, q12, q13, q14, q15, q16, q18, q19, q20, q21, q22, q23, q24, q25, q26, q27, q28, q29, q30, q31, q32, q38, q44, q45, q48, q57, q58, q59, q60, q63, q64, q97, q122, q126, q127, q128, q255, q256, q300, q580, q600, q1000, show (1439 : Int32) = nI 1439 from rfl, s3, ← hI5, Option.bind_some, Option.toList_some, Option.toList_none, List.cons_append, List.nil_append, Option.map_some, cond_true, cond_false, Bool.not_true, Bool.not_false, Bool.true_and, Bool.and_true, Bool.false_and, Bool.and_false, Bool.true_or, Bool.or_true, Bool.false_or, Bool.or_false, Bool.not_not, decide_true, decide_false, Bool.decide_eq_true, Bool.decide_eq_false, qz_0, qz_1, qz_n, qz_n0, qz_n1, qz_t, qz_f, Nat.reduceAdd, q1000000, q0, q1, q2, q3, q4, q5, q6, q7, q8, q9, q10, q11, q12, q13, q14, q15, q16, q18, q19, q20, q21, q22, q23, q24, q25, q26, q27, q28, q29, q30, q31, q32, q38, q44, q45, q48, q57, q58, q59, q60, q63, q64, q97, q122, q126, q127, q128, q255, q256, q300, q580, q600, q1000, nI_add, q_lt_t, q_lt_f, q_eq_t, q_eq_f, q_clamp, q_in_t, q_in_f]
  · rw [if_neg z]
    rw [decide_eq_false z] at hb
    subst hb
    obtain ⟨J, g1, g2, g3⟩ := s_need_n L h h14
    refine ⟨zup J 53 3 (J 53 3 + nI 1), ?_, g2.up, FRd.up (FRd.trans (fun x y p1 p2 => ?_) g3.d)⟩
    · simp (disch := omega) only [e_X10_readsTrain_65, tr_o68 L g2.1, g1, Option.bind_some, Option.toList_some, Option.toList_none, List.cons_append, List.nil_append, Option.map_some, cond_true, cond_false, Bool.not_true, Bool.not_false, Bool.true_and, Bool.and_true, Bool.false_and, Bool.and_false, Bool.true_or, Bool.or_true, Bool.false_or, Bool.or_false, Bool.not_not, decide_true, decide_false, Bool.decide_eq_true, Bool.decide_eq_false, qz_0, qz_1, qz_n, qz_n0, qz_n1, qz_t, qz_f, Nat.reduceAdd, q1000000, q0, q1, q2, q3, q4, q5, q6, q7, q8, q9, q10, q11, q12, q13, q14, q15, q16, q18, q19, q20, q21, q22, q23, q24, q25, q26, q27, q28, q29, q30, q31, q32, q38, q44, q45, q48, q57, q58, q59, q60, q63, q64, q97, q122, q126, q127, q128, q255, q256, q300, q580, q600, q1000, nI_add, q_lt_t, q_lt_f, q_eq_t, q_eq_f, q_clamp, q_in_t, q_in_f]
    · by_cases u : x = 52
      · exact o17 x y (by omega) (by omega)
      · exact o17 x y (by omega) (by omega)
theorem s_readsTrain {I : zI} {L : zL} {B : Nat → Nat} {S N w F T j c : Nat} (hN : 1 ≤ N ∧ N ≤ 28) (hw : w < 7) (hF : F ≤ 2) (hT : T ≤ 6) {nm : Nat → List Nat} (hK : NK F nm) {fd : Nat → Int32} (hB : BT I B S) (h : RF I B S j) (h14 : I 52 14 = nI 0) (h13 : I 52 13 = nI c) (hD : DR I N w F nm fd) (h3 : I 53 3 = nI T) : VTr I L B S T (trR (KT B S) (vN B S) (fiT B S F nm) N w fd T j) (zcall zZ nX10_readsTrain [.ref 52] (hp I L)) := by
  unfold trR
  by_cases zT : T = 6
  · rw [if_pos zT]
    obtain ⟨J, f1, f2, f3⟩ := s_flt L h h14 3
    refine ⟨J, ?_, f2, (FRf.n f3).d⟩
    simp (disch := omega) only [c_X10_readsTrain, e_X10_readsTrain_0, e_X10_readsTrain_16, h3, f1, Option.bind_some, Option.toList_some, Option.toList_none, List.cons_append, List.nil_append, Option.map_some, cond_true, cond_false, Bool.not_true, Bool.not_false, Bool.true_and, Bool.and_true, Bool.false_and, Bool.and_false, Bool.true_or, Bool.or_true, Bool.false_or, Bool.or_false, Bool.not_not, decide_true, decide_false, Bool.decide_eq_true, Bool.decide_eq_false, qz_0, qz_1, qz_n, qz_n0, qz_n1, qz_t, qz_f, Nat.reduceAdd, q1000000, q0, q1, q2, q3, q4, q5, q6, q7, q8, q9, q10, q11, q12, q13, q14, q15, q16, q18, q19, q20, q21, q22, q23, q24, q25, q26, q27, q28, q29, q30, q31, q32, q38, q44, q45, q48, q57, q58, q59, q60, q63, q64, q97, q122, q126, q127, q128, q255, q256, q300, q580, q600, q1000, nI_add, q_lt_t, q_lt_f, q_eq_t, q_eq_f, q_clamp, q_in_t, q_in_f]
  rw [if_neg zT]
  obtain ⟨I1, a1, a2, a3⟩ := s_nextJ L hB h
  have f1 : FRn I I1 := fun x y p => a3 x y (by omega)
  have b14 : I1 52 14 = nI 0 := (a3 _ _ (by omega)).trans h14
  have b13 : I1 52 13 = nI c := (a3 _ _ (by omega)).trans h13
  rcases s_rd L (hB.ff f1.f) a2 b14 b13 (a := 0) (b := 9) (by omega) (by omega) with ⟨e, s1, J, v, s2, s3, s4⟩ | ⟨s1, s2, J, s3, s4, s5, s6⟩
  · rw [s1]
    have g2 : FL (zup J 53 (26 + T) v) e (sT B S (j + 1)) := s3.up
    refine ⟨zup (zup J 53 (26 + T) v) 53 3 (zup J 53 (26 + T) v 53 3 + nI 1), ?_, g2.up, FRd.up (FRd.up (f1.f.trans s4).d)⟩
    simp (disch := omega) only [c_X10_readsTrain, e_X10_readsTrain_0, e_X10_readsTrain_28, e_X10_readsTrain_43, tr_o68 L g2.1, h3, a1, q1000000, q0, q1, q2, q3, q4, q5, q6, q7, q8, q9, q10, q11, q12, q13, q14, q15, q16, q18, q19, q20, q21, q22, q23, q24, q25, q26, q27, q28, q29, q30, q31, q32, q38, q44, q45, q48, q57, q58, q59, q60, q63, q64, q97, q122, q126, q127, q128, q255, q256, q300, q580, q600, q1000, s2, s3.1, Option.bind_some, Option.toList_some, Option.toList_none, List.cons_append, List.nil_append, Option.map_some, cond_true, cond_false, Bool.not_true, Bool.not_false, Bool.true_and, Bool.and_true, Bool.false_and, Bool.and_false, Bool.true_or, Bool.or_true, Bool.false_or, Bool.or_false, Bool.not_not, decide_true, decide_false, Bool.decide_eq_true, Bool.decide_eq_false, qz_0, qz_1, qz_n, qz_n0, qz_n1, qz_t, qz_f, Nat.reduceAdd, q1000000, q0, q1, q2, q3, q4, q5, q6, q7, q8, q9, q10, q11, q12, q13, q14, q15, q16, q18, q19, q20, q21, q22, q23, q24, q25, q26, q27, q28, q29, q30, q31, q32, q38, q44, q45, q48, q57, q58, q59, q60, q63, q64, q97, q122, q126, q127, q128, q255, q256, q300, q580, q600, q1000, nI_add, q_lt_t, q_lt_f, q_eq_t, q_eq_f, q_clamp, q_in_t, q_in_f]
  · rw [s1]
    show VTr I L B S T (trA (KT B S) (vN B S) (fiT B S F nm) N w fd (vN B S (j + 1)) (j + 1 + 1)) _
    obtain ⟨I3, hI3⟩ : ∃ I3, I3 = zup J 53 (26 + T) (nI (vN B S (j + 1))) := ⟨_, rfl⟩
    have o3 : ∀ x y, (x ≠ 53 ∨ y ≠ 26 + T) → I3 x y = J x y := fun x y p => by rw [hI3]; exact up53 p
    have f3 : FRn I J := f1.trans s6
    have hD3 : DR I3 N w F nm fd := by
      have hDJ := hD.fn f3
      refine ⟨(o3 _ _ (by omega)).trans hDJ.1, (o3 _ _ (by omega)).trans hDJ.2.1, (o3 _ _ (by omega)).trans hDJ.2.2.1, fun f hf => ?_, fun f hf => (o3 _ _ (by omega)).trans (hDJ.2.2.2.2 f hf)⟩
      obtain ⟨n1, n2, n3⟩ := hDJ.2.2.2.1 f hf
      exact ⟨n1, (o3 _ _ (by omega)).trans n2, fun i hi => ⟨(n3 i hi).1, (o3 _ _ (by omega)).trans (n3 i hi).2⟩⟩
    have c14 : J 52 14 = nI 0 := (f3 _ _ (by omega)).trans h14
    have e12 := s4.2.2.2.2
    have k5 := kI_eq (k := KT B S (j + 1 + 1)) (t := 5) (by omega)
    have hw' := trv_a (I := I) (I3 := I3) (L := L) (ja := j + 1 + 1) (r := vN B S (j + 1)) (c := c + 1) hN hw hF (by omega) hK (by rw [hI3]; exact (hB.ff f3.f).up) (by rw [hI3]; exact RF.up s4) ((o3 _ _ (by omega)).trans c14) ((o3 _ _ (by omega)).trans s5) hD3 ((o3 _ _ (by omega)).trans ((f3 _ _ (by omega)).trans h3)) (by rw [hI3, zu_same]) (fun x y p1 p2 => (o3 x y (by omega)).trans (f3 x y p1)) (decide (KT B S (j + 1 + 1) = 5)) rfl
    refine Eq.mp ?_ hw'
    congr 1
    symm
    by_cases z : KT B S (j + 1 + 1) = 5
    · rw [eq_true z] at k5
      rw [decide_eq_true z]
      simp (disch := omega) only [c_X10_readsTrain, e_X10_readsTrain_0, e_X10_readsTrain_28, e_X10_readsTrain_43, h3, a1, q1000000, q0, q1, q2, q3, q4, q5, q6, q7, q8, q9, q10, q11, q12, q13, q14, q15, q16, q18, q19, q20, q21, q22, q23, q24, q25, q26, q27, q28, q29, q30, q31, q32, q38, q44, q45, q48, q57, q58, q59, q60, q63, q64, q97, q122, q126, q127, q128, q255, q256, q300, q580, q600, q1000, s3, c14, e12, k5, ← hI3, Option.bind_some, Option.toList_some, Option.toList_none, List.cons_append, List.nil_append, Option.map_some, cond_true, cond_false, Bool.not_true, Bool.not_false, Bool.true_and, Bool.and_true, Bool.false_and, Bool.and_false, Bool.true_or, Bool.or_true, Bool.false_or, Bool.or_false, Bool.not_not, decide_true, decide_false, Bool.decide_eq_true, Bool.decide_eq_false, qz_0, qz_1, qz_n, qz_n0, qz_n1, qz_t, qz_f, Nat.reduceAdd, q1000000, q0, q1, q2, q3, q4, q5, q6, q7, q8, q9, q10, q11, q12, q13, q14, q15, q16, q18, q19, q20, q21, q22, q23, q24, q25, q26, q27, q28, q29, q30, q31, q32, q38, q44, q45, q48, q57, q58, q59, q60, q63, q64, q97, q122, q126, q127, q128, q255, q256, q300, q580, q600, q1000, nI_add, q_lt_t, q_lt_f, q_eq_t, q_eq_f, q_clamp, q_in_t, q_in_f]
    · rw [eq_false z] at k5
      rw [decide_eq_false z]
      simp (disch := omega) only [c_X10_readsTrain, e_X10_readsTrain_0, e_X10_readsTrain_28, e_X10_readsTrain_43, h3, a1, q1000000, q0, q1, q2, q3, q4, q5, q6, q7, q8, q9, q10, q11, q12, q13, q14, q15, q16, q18, q19, q20, q21, q22, q23, q24, q25, q26, q27, q28, q29, q30, q31, q32, q38, q44, q45, q48, q57, q58, q59, q60, q63, q64, q97, q122, q126, q127, q128, q255, q256, q300, q580, q600, q1000, s3, c14, e12, k5, ← hI3, Option.bind_some, Option.toList_some, Option.toList_none, List.cons_append, List.nil_append, Option.map_some, cond_true, cond_false, Bool.not_true, Bool.not_false, Bool.true_and, Bool.and_true, Bool.false_and, Bool.and_false, Bool.true_or, Bool.or_true, Bool.false_or, Bool.or_false, Bool.not_not, decide_true, decide_false, Bool.decide_eq_true, Bool.decide_eq_false, qz_0, qz_1, qz_n, qz_n0, qz_n1, qz_t, qz_f, Nat.reduceAdd, q1000000, q0, q1, q2, q3, q4, q5, q6, q7, q8, q9, q10, q11, q12, q13, q14, q15, q16, q18, q19, q20, q21, q22, q23, q24, q25, q26, q27, q28, q29, q30, q31, q32, q38, q44, q45, q48, q57, q58, q59, q60, q63, q64, q97, q122, q126, q127, q128, q255, q256, q300, q580, q600, q1000, nI_add, q_lt_t, q_lt_f, q_eq_t, q_eq_f, q_clamp, q_in_t, q_in_f]
