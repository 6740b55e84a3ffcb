/-! the first line of a desk: reference -/
def FRd (I J : zI) : Prop := ∀ x y, x ≠ 53 → (x ≠ 52 ∨ y < 8 ∨ 16 < y) → J x y = I x y
theorem FRf.d {I J : zI} (h : FRf I J) : FRd I J := fun x y _ p2 => h x y p2
theorem FRd.trans {I J K : zI} (h : FRd I J) (h2 : FRd J K) : FRd I K := fun x y p1 p2 => (h2 x y p1 p2).trans (h x y p1 p2)
theorem up53 {J : zI} {k : Nat} {v : Int32} {x y : Nat} (h : x ≠ 53 ∨ y ≠ k) : zup J 53 k v x y = J x y := by
  by_cases u : x = 53
  · rw [zu_at (by omega)]
  · rw [zu_cell u]
theorem FL.up {J : zI} {e s k : Nat} {v : Int32} (h : FL J e s) : FL (zup J 53 k v) e s := ⟨(zu_cell (by omega)).trans h.1, (zu_cell (by omega)).trans h.2.1, (zu_cell (by omega)).trans h.2.2⟩
theorem RF.up {J : zI} {B : Nat → Nat} {S j k : Nat} {v : Int32} (h : RF J B S j) : RF (zup J 53 k v) B S j := h.cg (fun y _ _ => zu_cell (by omega))
theorem BT.up {J : zI} {B : Nat → Nat} {S k : Nat} {v : Int32} (h : BT J B S) : BT (zup J 53 k v) B S := h.cg (zu_cell (by omega)) (fun b => zu_cell (by omega))
theorem FRd.up {I J : zI} {k : Nat} {v : Int32} (h : FRd I J) : FRd I (zup J 53 k v) := fun x y p1 p2 => by
  rw [zu_cell p1]
  exact h x y p1 p2
def VHd (I : zI) (L : zL) (B : Nat → Nat) (S : Nat) (r : (Nat × Nat) ⊕ (Nat × Nat × Nat)) (x : Option (Option Value × zH)) : Prop := match r with
  | .inl (e, jf) => ∃ J, x = some (none, hp J L) ∧ FL J e (sT B S jf) ∧ FRd I J
  | .inr (j', N, w) => ∃ J c, x = some (none, hp J L) ∧ RF J B S j' ∧ J 52 13 = nI c ∧ J 53 0 = nI N ∧ J 53 1 = nI w ∧ (∀ x y, (x ≠ 52 ∨ y < 8 ∨ 13 < y) → (x ≠ 53 ∨ 2 ≤ y) → J x y = I x y)
theorem hd_out84 {I : zI} (L : zL) (h14 : I 52 14 = nI 1) : zrun zZ kX10_readsDesk (84, [some (.ref 52)], [], hp I L, 0, 0) = some (none, hp I L, 0, 0) := by
  simp (disch := omega) only [e_X10_readsDesk_84, e_X10_readsDesk_101, h14, Option.bind_some, Option.toList_some, Option.toList_none, List.cons_append, List.nil_append, Option.map_some, cond_true, cond_false, Bool.not_true, Bool.not_false, Bool.true_and, Bool.and_true, Bool.false_and, Bool.and_false, Bool.true_or, Bool.or_true, Bool.false_or, Bool.or_false, Bool.not_not, decide_true, decide_false, Bool.decide_eq_true, Bool.decide_eq_false, qz_0, qz_1, qz_n, qz_n0, qz_n1, qz_t, qz_f, Nat.reduceAdd, q1000000, q0, q1, q2, q3, q4, q5, q6, q7, q8, q9, q10, q11, q12, q13, q14, q15, q16, q18, q19, q20, q21, q22, q23, q24, q25, q26, q27, q28, q29, q30, q31, q32, q38, q44, q45, q48, q57, q58, q59, q60, q63, q64, q97, q122, q126, q127, q128, q255, q256, q300, q580, q600, q1000, nI_add, q_lt_t, q_lt_f, q_eq_t, q_eq_f, q_clamp, q_in_t, q_in_f]
theorem hd_out60 {I : zI} (L : zL) (h14 : I 52 14 = nI 1) : zrun zZ kX10_readsDesk (60, [some (.ref 52)], [], hp I L, 0, 0) = some (none, hp I L, 0, 0) := by
  simp (disch := omega) only [e_X10_readsDesk_60, hd_out84 L h14, h14, Option.bind_some, Option.toList_some, Option.toList_none, List.cons_append, List.nil_append, Option.map_some, cond_true, cond_false, Bool.not_true, Bool.not_false, Bool.true_and, Bool.and_true, Bool.false_and, Bool.and_false, Bool.true_or, Bool.or_true, Bool.false_or, Bool.or_false, Bool.not_not, decide_true, decide_false, Bool.decide_eq_true, Bool.decide_eq_false, qz_0, qz_1, qz_n, qz_n0, qz_n1, qz_t, qz_f, Nat.reduceAdd, q1000000, q0, q1, q2, q3, q4, q5, q6, q7, q8, q9, q10, q11, q12, q13, q14, q15, q16, q18, q19, q20, q21, q22, q23, q24, q25, q26, q27, q28, q29, q30, q31, q32, q38, q44, q45, q48, q57, q58, q59, q60, q63, q64, q97, q122, q126, q127, q128, q255, q256, q300, q580, q600, q1000, nI_add, q_lt_t, q_lt_f, q_eq_t, q_eq_f, q_clamp, q_in_t, q_in_f]
theorem hd_out40 {I : zI} (L : zL) (h14 : I 52 14 = nI 1) : zrun zZ kX10_readsDesk (40, [some (.ref 52)], [], hp I L, 0, 0) = some (none, hp I L, 0, 0) := by
  simp (disch := omega) only [e_X10_readsDesk_40, hd_out60 L h14, h14, Option.bind_some, Option.toList_some, Option.toList_none, List.cons_append, List.nil_append, Option.map_some, cond_true, cond_false, Bool.not_true, Bool.not_false, Bool.true_and, Bool.and_true, Bool.false_and, Bool.and_false, Bool.true_or, Bool.or_true, Bool.false_or, Bool.or_false, Bool.not_not, decide_true, decide_false, Bool.decide_eq_true, Bool.decide_eq_false, qz_0, qz_1, qz_n, qz_n0, qz_n1, qz_t, qz_f, Nat.reduceAdd, q1000000, q0, q1, q2, q3, q4, q5, q6, q7, q8, q9, q10, q11, q12, q13, q14, q15, q16, q18, q19, q20, q21, q22, q23, q24, q25, q26, q27, q28, q29, q30, q31, q32, q38, q44, q45, q48, q57, q58, q59, q60, q63, q64, q97, q122, q126, q127, q128, q255, q256, q300, q580, q600, q1000, nI_add, q_lt_t, q_lt_f, q_eq_t, q_eq_f, q_clamp, q_in_t, q_in_f]
theorem s_readsDesk {I : zI} {L : zL} {B : Nat → Nat} {S j c : Nat} (hB : BT I B S) (h : RF I B S j) (h14 : I 52 14 = nI 0) (h13 : I 52 13 = nI c) : VHd I L B S (hdR (KT B S) (vN B S) j) (zcall zZ nX10_readsDesk [.ref 52] (hp I L)) := by
  obtain ⟨r, hr⟩ : ∃ r, hdR (KT B S) (vN B S) j = r := ⟨_, rfl⟩
  rw [hr]
  unfold hdR at hr
  have e12 := h.2.2.2.2
  have k0 := kI_eq (k := KT B S j) (t := 0) (by omega)
  by_cases z0 : KT B S j = 0
  · rw [if_pos z0] at hr
    rw [eq_true z0] at k0
    obtain ⟨I1, a1, a2, a3, a4⟩ := s_need_y L hB h h14 h13
    have b14 : I1 52 14 = nI 0 := (a4 _ _ (by omega)).trans h14
    have b12 := a2.2.2.2.2
    have k1 := kI_eq (k := KT B S (j + 1)) (t := 1) (by omega)
    by_cases z1 : KT B S (j + 1) = 1
    · rw [if_pos z1] at hr
      rw [eq_true z1] at k1
      obtain ⟨I2, c1, c2, c3, c4⟩ := s_need_y L (hB.ff a4.f) a2 b14 a3
      have f2 : FRn I I2 := a4.trans c4
      have c2 : RF I2 B S (j + 2) := c2
      have c14 : I2 52 14 = nI 0 := (f2 _ _ (by omega)).trans h14
      rcases s_rd L (hB.ff f2.f) c2 c14 c3 (a := 1) (b := 28) (by omega) (by omega) with ⟨e, s1, J, v, s2, s3, s4⟩ | ⟨s1, s2, J, s3, s4, s5, s6⟩
      · rw [s1] at hr
        rw [← hr]
        have s3' : FL (zup J 53 0 v) e (sT B S (j + 2)) := s3.up
        refine ⟨zup J 53 0 v, ?_, s3', (f2.f.trans s4).d.up⟩
        simp (disch := omega) only [c_X10_readsDesk, e_X10_readsDesk_0, e_X10_readsDesk_13, e_X10_readsDesk_16, e_X10_readsDesk_37, e_X10_readsDesk_40, e_X10_readsDesk_59, hd_out60 L s3'.1, e12, k0, a1, b14, b12, k1, c1, c14, q1000000, q0, q1, q2, q3, q4, q5, q6, q7, q8, q9, q10, q11, q12, q13, q14, q15, q16, q18, q19, q20, q21, q22, q23, q24, q25, q26, q27, q28, q29, q30, q31, q32, q38, q44, q45, q48, q57, q58, q59, q60, q63, q64, q97, q122, q126, q127, q128, q255, q256, q300, q580, q600, q1000, s2, Option.bind_some, Option.toList_some, Option.toList_none, List.cons_append, List.nil_append, Option.map_some, cond_true, cond_false, Bool.not_true, Bool.not_false, Bool.true_and, Bool.and_true, Bool.false_and, Bool.and_false, Bool.true_or, Bool.or_true, Bool.false_or, Bool.or_false, Bool.not_not, decide_true, decide_false, Bool.decide_eq_true, Bool.decide_eq_false, qz_0, qz_1, qz_n, qz_n0, qz_n1, qz_t, qz_f, Nat.reduceAdd, q1000000, q0, q1, q2, q3, q4, q5, q6, q7, q8, q9, q10, q11, q12, q13, q14, q15, q16, q18, q19, q20, q21, q22, q23, q24, q25, q26, q27, q28, q29, q30, q31, q32, q38, q44, q45, q48, q57, q58, q59, q60, q63, q64, q97, q122, q126, q127, q128, q255, q256, q300, q580, q600, q1000, nI_add, q_lt_t, q_lt_f, q_eq_t, q_eq_f, q_clamp, q_in_t, q_in_f]
      · rw [s1] at hr
        have hr : (if KT B S (j + 3) = 2 then (if isW (KT B S (j + 4)) = true then Sum.inr (j + 5, vN B S (j + 2), KT B S (j + 4) - 12) else Sum.inl (1, j + 4)) else Sum.inl (1, j + 3)) = r := hr
        obtain ⟨I3, hI3⟩ : ∃ I3, I3 = zup J 53 0 (nI (vN B S (j + 2))) := ⟨_, rfl⟩
        have f3 : FRn I J := f2.trans s6
        have o3 : ∀ x y, (x ≠ 53 ∨ y ≠ 0) → I3 x y = J x y := fun x y p => by rw [hI3]; exact up53 p
        have d1 : RF I3 B S (j + 3) := by
          rw [hI3]
          exact RF.up s4
        have d14 : I3 52 14 = nI 0 := ((o3 _ _ (by omega)).trans (f3 _ _ (by omega))).trans h14
        have d13 : I3 52 13 = nI (c + 1 + 1 + 1) := (o3 _ _ (by omega)).trans s5
        have d12 := d1.2.2.2.2
        have dB : BT I3 B S := by
          rw [hI3]
          exact (hB.ff f3.f).up
        have k3 := kI_eq (k := KT B S (j + 3)) (t := 2) (by omega)
        by_cases z3 : KT B S (j + 3) = 2
        · rw [if_pos z3] at hr
          rw [eq_true z3] at k3
          obtain ⟨I4, g1, g2, g3, g4⟩ := s_need_y L dB d1 d14 d13
          have g2 : RF I4 B S (j + 4) := g2
          have g14 : I4 52 14 = nI 0 := (g4 _ _ (by omega)).trans d14
          have g12 := g2.2.2.2.2
          have eW := s_Mwkd L g2
          by_cases z4 : isW (KT B S (j + 4)) = true
          · rw [if_pos z4] at hr
            rw [← hr]
            rw [z4] at eW
            have hw := isW_iff.mp z4
            rw [show kI (KT B S (j + 4)) = nI (KT B S (j + 4)) from if_pos (by omega)] at g12
            obtain ⟨I5, y1, y2, y3, y4⟩ := s_need_y L (dB.ff g4.f) g2 g14 g3
            have hs : nI (KT B S (j + 4)) - nI 12 = nI (KT B S (j + 4) - 12) := q_sub (by omega)
            refine ⟨zup I5 53 1 (nI (KT B S (j + 4) - 12)), _, ?_, RF.up y2, (zu_cell (by omega)).trans y3, ?_, zu_same _ _ _ _, fun x y p1 p2 => ?_⟩
            · simp (disch := omega) only [c_X10_readsDesk, e_X10_readsDesk_0, e_X10_readsDesk_13, e_X10_readsDesk_16, e_X10_readsDesk_37, e_X10_readsDesk_40, e_X10_readsDesk_59, e_X10_readsDesk_60, e_X10_readsDesk_81, e_X10_readsDesk_84, e_X10_readsDesk_100, e_X10_readsDesk_101, c_X10_readsWeekday, e_X10_readsWeekday_0, e_X10_readsWeekday_13, e_X10_readsWeekday_16, e12, k0, a1, b14, b12, k1, c1, c14, q1000000, q0, q1, q2, q3, q4, q5, q6, q7, q8, q9, q10, q11, q12, q13, q14, q15, q16, q18, q19, q20, q21, q22, q23, q24, q25, q26, q27, q28, q29, q30, q31, q32, q38, q44, q45, q48, q57, q58, q59, q60, q63, q64, q97, q122, q126, q127, q128, q255, q256, q300, q580, q600, q1000, s3, ← hI3, d14, d12, k3, g1, g14, g12, eW, hs, y1, Option.bind_some, Option.toList_some, Option.toList_none, List.cons_append, List.nil_append, Option.map_some, cond_true, cond_false, Bool.not_true, Bool.not_false, Bool.true_and, Bool.and_true, Bool.false_and, Bool.and_false, Bool.true_or, Bool.or_true, Bool.false_or, Bool.or_false, Bool.not_not, decide_true, decide_false, Bool.decide_eq_true, Bool.decide_eq_false, qz_0, qz_1, qz_n, qz_n0, qz_n1, qz_t, qz_f, Nat.reduceAdd, q1000000, q0, q1, q2, q3, q4, q5, q6, q7, q8, q9, q10, q11, q12, q13, q14, q15, q16, q18, q19, q20, q21, q22, q23, q24, q25, q26, q27, q28, q29, q30, q31, q32, q38, q44, q45, q48, q57, q58, q59, q60, q63, q64, q97, q122, q126, q127, q128, q255, q256, q300, q580, q600, q1000, nI_add, q_lt_t, q_lt_f, q_eq_t, q_eq_f, q_clamp, q_in_t, q_in_f]
            · rw [zu_at (by omega), y4 _ _ (by omega), g4 _ _ (by omega), hI3, zu_same]
            · rw [up53 (by omega), y4 _ _ (by omega), g4 _ _ (by omega), o3 _ _ (by omega)]
              exact f3 _ _ (by omega)
          · rw [if_neg z4] at hr
            rw [← hr]
            rw [show isW (KT B S (j + 4)) = false by simpa using z4] at eW
            obtain ⟨I5, y1, y2, y3⟩ := s_need_n L g2 g14
            have f5 : FRd I I5 := (f3.f.d.trans (fun x y p1 p2 => (g4 x y (by omega)).trans (o3 x y (by omega)))).trans y3.d
            refine ⟨zup I5 53 1 (kI (KT B S (j + 4)) - nI 12), ?_, y2.up, f5.up⟩
            simp (disch := omega) only [c_X10_readsDesk, e_X10_readsDesk_0, e_X10_readsDesk_13, e_X10_readsDesk_16, e_X10_readsDesk_37, e_X10_readsDesk_40, e_X10_readsDesk_59, e_X10_readsDesk_60, e_X10_readsDesk_81, e_X10_readsDesk_84, e_X10_readsDesk_100, e_X10_readsDesk_101, c_X10_readsWeekday, e_X10_readsWeekday_0, e_X10_readsWeekday_13, e_X10_readsWeekday_16, e12, k0, a1, b14, b12, k1, c1, c14, q1000000, q0, q1, q2, q3, q4, q5, q6, q7, q8, q9, q10, q11, q12, q13, q14, q15, q16, q18, q19, q20, q21, q22, q23, q24, q25, q26, q27, q28, q29, q30, q31, q32, q38, q44, q45, q48, q57, q58, q59, q60, q63, q64, q97, q122, q126, q127, q128, q255, q256, q300, q580, q600, q1000, s3, ← hI3, d14, d12, k3, g1, g14, g12, eW, y1, Option.bind_some, Option.toList_some, Option.toList_none, List.cons_append, List.nil_append, Option.map_some, cond_true, cond_false, Bool.not_true, Bool.not_false, Bool.true_and, Bool.and_true, Bool.false_and, Bool.and_false, Bool.true_or, Bool.or_true, Bool.false_or, Bool.or_false, Bool.not_not, decide_true, decide_false, Bool.decide_eq_true, Bool.decide_eq_false, qz_0, qz_1, qz_n, qz_n0, qz_n1, qz_t, qz_f, Nat.reduceAdd, q1000000, q0, q1, q2, q3, q4, q5, q6, q7, q8, q9, q10, q11, q12, q13, q14, q15, q16, q18, q19, q20, q21, q22, q23, q24, q25, q26, q27, q28, q29, q30, q31, q32, q38, q44, q45, q48, q57, q58, q59, q60, q63, q64, q97, q122, q126, q127, q128, q255, q256, q300, q580, q600, q1000, nI_add, q_lt_t, q_lt_f, q_eq_t, q_eq_f, q_clamp, q_in_t, q_in_f]
        · rw [if_neg z3] at hr
          rw [← hr]
          rw [eq_false z3] at k3
          obtain ⟨I4, y1, y2, y3⟩ := s_need_n L d1 d14
          have f4 : FRd I I4 := (f3.f.d.trans (fun x y p1 p2 => o3 x y (by omega))).trans y3.d
          refine ⟨I4, ?_, y2, f4⟩
          simp (disch := omega) only [c_X10_readsDesk, e_X10_readsDesk_0, e_X10_readsDesk_13, e_X10_readsDesk_16, e_X10_readsDesk_37, e_X10_readsDesk_40, e_X10_readsDesk_59, e_X10_readsDesk_60, e_X10_readsDesk_81, hd_out84 L y2.1, e12, k0, a1, b14, b12, k1, c1, c14, q1000000, q0, q1, q2, q3, q4, q5, q6, q7, q8, q9, q10, q11, q12, q13, q14, q15, q16, q18, q19, q20, q21, q22, q23, q24, q25, q26, q27, q28, q29, q30, q31, q32, q38, q44, q45, q48, q57, q58, q59, q60, q63, q64, q97, q122, q126, q127, q128, q255, q256, q300, q580, q600, q1000, s3, ← hI3, d14, d12, k3, y1, Option.bind_some, Option.toList_some, Option.toList_none, List.cons_append, List.nil_append, Option.map_some, cond_true, cond_false, Bool.not_true, Bool.not_false, Bool.true_and, Bool.and_true, Bool.false_and, Bool.and_false, Bool.true_or, Bool.or_true, Bool.false_or, Bool.or_false, Bool.not_not, decide_true, decide_false, Bool.decide_eq_true, Bool.decide_eq_false, qz_0, qz_1, qz_n, qz_n0, qz_n1, qz_t, qz_f, Nat.reduceAdd, q1000000, q0, q1, q2, q3, q4, q5, q6, q7, q8, q9, q10, q11, q12, q13, q14, q15, q16, q18, q19, q20, q21, q22, q23, q24, q25, q26, q27, q28, q29, q30, q31, q32, q38, q44, q45, q48, q57, q58, q59, q60, q63, q64, q97, q122, q126, q127, q128, q255, q256, q300, q580, q600, q1000, nI_add, q_lt_t, q_lt_f, q_eq_t, q_eq_f, q_clamp, q_in_t, q_in_f]
    · rw [if_neg z1] at hr
      rw [← hr]
      rw [eq_false z1] at k1
      obtain ⟨I2, y1, y2, y3⟩ := s_need_n L a2 b14
      refine ⟨I2, ?_, y2, (a4.f.trans y3).d⟩
      simp (disch := omega) only [c_X10_readsDesk, e_X10_readsDesk_0, e_X10_readsDesk_13, e_X10_readsDesk_16, e_X10_readsDesk_37, hd_out40 L y2.1, e12, k0, a1, b14, b12, k1, y1, Option.bind_some, Option.toList_some, Option.toList_none, List.cons_append, List.nil_append, Option.map_some, cond_true, cond_false, Bool.not_true, Bool.not_false, Bool.true_and, Bool.and_true, Bool.false_and, Bool.and_false, Bool.true_or, Bool.or_true, Bool.false_or, Bool.or_false, Bool.not_not, decide_true, decide_false, Bool.decide_eq_true, Bool.decide_eq_false, qz_0, qz_1, qz_n, qz_n0, qz_n1, qz_t, qz_f, Nat.reduceAdd, q1000000, q0, q1, q2, q3, q4, q5, q6, q7, q8, q9, q10, q11, q12, q13, q14, q15, q16, q18, q19, q20, q21, q22, q23, q24, q25, q26, q27, q28, q29, q30, q31, q32, q38, q44, q45, q48, q57, q58, q59, q60, q63, q64, q97, q122, q126, q127, q128, q255, q256, q300, q580, q600, q1000, nI_add, q_lt_t, q_lt_f, q_eq_t, q_eq_f, q_clamp, q_in_t, q_in_f]
  · rw [if_neg z0] at hr
    rw [← hr]
    rw [eq_false z0] at k0
    obtain ⟨I2, y1, y2, y3⟩ := s_need_n L h h14
    refine ⟨I2, ?_, y2, y3.d⟩
    simp (disch := omega) only [c_X10_readsDesk, e_X10_readsDesk_0, e_X10_readsDesk_13, e_X10_readsDesk_16, hd_out40 L y2.1, e12, k0, y1, y2.1, Option.bind_some, Option.toList_some, Option.toList_none, List.cons_append, List.nil_append, Option.map_some, cond_true, cond_false, Bool.not_true, Bool.not_false, Bool.true_and, Bool.and_true, Bool.false_and, Bool.and_false, Bool.true_or, Bool.or_true, Bool.false_or, Bool.or_false, Bool.not_not, decide_true, decide_false, Bool.decide_eq_true, Bool.decide_eq_false, qz_0, qz_1, qz_n, qz_n0, qz_n1, qz_t, qz_f, Nat.reduceAdd, q1000000, q0, q1, q2, q3, q4, q5, q6, q7, q8, q9, q10, q11, q12, q13, q14, q15, q16, q18, q19, q20, q21, q22, q23, q24, q25, q26, q27, q28, q29, q30, q31, q32, q38, q44, q45, q48, q57, q58, q59, q60, q63, q64, q97, q122, q126, q127, q128, q255, q256, q300, q580, q600, q1000, nI_add, q_lt_t, q_lt_f, q_eq_t, q_eq_f, q_clamp, q_in_t, q_in_f]
