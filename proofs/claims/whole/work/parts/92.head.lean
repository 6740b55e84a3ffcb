/-! the first line of a desk -/
theorem tk_y {I : zI} {L : zL} {B : Nat → Nat} {S n j : Nat} (hR : RD I L B S n) (hj : j ≤ n) (h9 : I 5 9 = nI j) {k : Nat} (hk : KT B S j = k) (h24 : k ≠ 24) : ∃ J, zcall zZ nX4_take [.ref 5, .int (nI k)] (hp I L) = some (some (.int (nI 1)), hp J L) ∧ RD J L B S n ∧ j + 1 ≤ n ∧ J 5 9 = nI (j + 1) ∧ (∀ x y, (x ≠ 5 ∨ y ≠ 9) → J x y = I x y) := by
  have hjn := hR.lt hj (by omega)
  have o : ∀ x y, (x ≠ 5 ∨ y ≠ 9) → zup I 5 9 (nI (j + 1)) x y = I x y := fun x y p => by
    by_cases u : x = 5
    · rw [zu_at (by omega)]
    · rw [zu_cell u]
  exact ⟨_, s_take_y hR hj h9 hk h24, hR.cg (o _ _ (by omega)) (fun b => o _ _ (by omega)) (fun b => o _ _ (by omega)) (fun _ => rfl), hjn, zu_same _ _ _ _, o⟩
theorem tk_s {I : zI} {L : zL} {B : Nat → Nat} {S n j : Nat} (hR : RD I L B S n) (hjn : j < n) (h9 : I 5 9 = nI j) : ∃ J, zcall zZ nX4_step [.ref 5] (hp I L) = some (none, hp J L) ∧ RD J L B S n ∧ J 5 9 = nI (j + 1) ∧ (∀ x y, (x ≠ 5 ∨ y ≠ 9) → J x y = I x y) := by
  have o : ∀ x y, (x ≠ 5 ∨ y ≠ 9) → zup I 5 9 (nI (j + 1)) x y = I x y := fun x y p => by
    by_cases u : x = 5
    · rw [zu_at (by omega)]
    · rw [zu_cell u]
  exact ⟨_, s_step hR hjn h9, hR.cg (o _ _ (by omega)) (fun b => o _ _ (by omega)) (fun b => o _ _ (by omega)) (fun _ => rfl), zu_same _ _ _ _, o⟩
/-- a line has failed: class -/
def LFl (I J : zI) (d e s : Nat) : Prop := J 5 0 = nI e ∧ J 5 1 = nI s ∧ ∀ x y, x ≠ 5 → (x < d ∨ x = d + 1 ∨ d + 6 < x) → J x y = I x y
theorem fl_L {I J : zI} (d e s : Nat) (h : ∀ x y, x ≠ 5 → (x < d ∨ x = d + 1 ∨ d + 6 < x) → J x y = I x y) : LFl I (fl J e s) d e s := by
  have := fl_ok (I := J) (J := J) e s (fun _ _ _ => rfl)
  exact ⟨this.1, this.2.1, fun x y p1 p2 => (this.2.2 x y (by omega)).trans (h x y p1 p2)⟩
def hdR (K v : Nat → Nat) (j : Nat) : (Nat × Nat) ⊕ (Nat × Nat × Nat) := if K j = 0 then (if K (j + 1) = 1 then (match nuR K v 1 28 (j + 2) with
  | .inl e => .inl e
  | .inr (_, N) => if K (j + 3) = 2 then (if isW (K (j + 4)) = true then .inr (j + 5, N, K (j + 4) - 12) else .inl (1, j + 4)) else .inl (1, j + 3)) else .inl (1, j + 1)) else .inl (1, j)
def HdC (I : zI) (L : zL) (B : Nat → Nat) (S n d : Nat) (r : (Nat × Nat) ⊕ (Nat × Nat × Nat)) (x : Option (Option Value × zH)) : Prop := match r with
  | .inl (e, jf) => ∃ J, x = some (some (.int (nI 0)), hp J L) ∧ LFl I J d e (sT B S jf)
  | .inr (j', N, w) => ∃ J, x = some (some (.int (nI 1)), hp J L) ∧ j' ≤ n ∧ (1 ≤ N ∧ N ≤ 28) ∧ w < 7 ∧ J 5 9 = nI j' ∧ (∀ Q, Q < 128 → J (d + 1) Q = pds N w Q) ∧ J d 6 = nI N ∧ J d 7 = nI w ∧ (∀ x y, x ≠ d + 1 → (x ≠ d ∨ (y ≠ 6 ∧ y ≠ 7)) → (x ≠ 5 ∨ y ≠ 9) → J x y = I x y)
theorem s_readHead {d : Nat} (hd : d = 11 ∨ d = 18) {I : zI} {L : zL} {B : Nat → Nat} {S n j : Nat} (hR : RD I L B S n) (hj : j ≤ n) (h9 : I 5 9 = nI j) (hz : I (d + 1) 0 = nI 0) : HdC I L B S n d (hdR (KT B S) (vN B S) j) (zcall zZ nX4_readHead [.ref 5, .ref d] (hp I L)) := by
  have h0 := hR.1
  obtain ⟨r, hr⟩ : ∃ r, hdR (KT B S) (vN B S) j = r := ⟨_, rfl⟩
  rw [hr]
  unfold hdR at hr
  by_cases z0 : KT B S j = 0
  · rw [if_pos z0] at hr
    obtain ⟨I1, a1, hR1, hj1, k1, o1⟩ := tk_y hR hj h9 z0 (by omega)
    by_cases z1 : KT B S (j + 1) = 1
    · rw [if_pos z1] at hr
      obtain ⟨I2, a2, hR2, hj2, k2, o2⟩ := tk_y hR1 hj1 k1 z1 (by omega)
      have o12 : ∀ x y, (x ≠ 5 ∨ y ≠ 9) → I2 x y = I x y := fun x y p => (o2 x y p).trans (o1 x y p)
      have k2 : I2 5 9 = nI (j + 2) := k2
      rcases s_see hR2 (show j + 2 ≤ n by omega) k2 (a := 1) (b := 28) (by omega) (by omega) with ⟨e, s1, s2⟩ | ⟨s1, s2, s3, s4, s5, s6, s7⟩
      · rw [s1] at hr
        rw [← hr]
        refine ⟨fl I2 e (sT B S (j + 2)), ?_, fl_L _ _ _ (fun x y p1 p2 => o12 x y (by omega))⟩
        simp (disch := omega) only [c_X4_readHead hd, e_X4_readHead_0 hd, e_X4_readHead_5 hd, e_X4_readHead_13 hd, e_X4_readHead_23 hd, e_X4_readHead_26 hd, q1000000, q0, q1, q2, q3, q4, q5, q6, q7, q8, q9, q10, q11, q12, q13, q14, q15, q16, q18, q19, q20, q21, q22, q23, q24, q25, q26, q27, q28, q29, q30, q31, q32, q38, q44, q45, q48, q57, q58, q59, q60, q63, q64, q97, q122, q126, q127, q128, q255, q256, q300, q580, q600, q1000, a1, a2, s2, Option.bind_some, Option.toList_some, Option.toList_none, List.cons_append, List.nil_append, Option.map_some, cond_true, cond_false, Bool.not_true, Bool.not_false, Bool.true_and, Bool.and_true, Bool.false_and, Bool.and_false, Bool.true_or, Bool.or_true, Bool.false_or, Bool.or_false, Bool.not_not, decide_true, decide_false, Bool.decide_eq_true, Bool.decide_eq_false, qz_0, qz_1, qz_n, qz_n0, qz_n1, qz_t, qz_f, Nat.reduceAdd, q1000000, q0, q1, q2, q3, q4, q5, q6, q7, q8, q9, q10, q11, q12, q13, q14, q15, q16, q18, q19, q20, q21, q22, q23, q24, q25, q26, q27, q28, q29, q30, q31, q32, q38, q44, q45, q48, q57, q58, q59, q60, q63, q64, q97, q122, q126, q127, q128, q255, q256, q300, q580, q600, q1000, nI_add, q_lt_t, q_lt_f, q_eq_t, q_eq_f, q_clamp, q_in_t, q_in_f]
      · rw [s1] at hr
        have hr : (if KT B S (j + 3) = 2 then (if isW (KT B S (j + 4)) = true then Sum.inr (j + 5, vN B S (j + 2), KT B S (j + 4) - 12) else Sum.inl (1, j + 4)) else Sum.inl (1, j + 3)) = r := hr
        obtain ⟨I3, a3, hR3, k3, o3⟩ := tk_s hR2 s5 k2
        have k3 : I3 5 9 = nI (j + 3) := k3
        have o13 : ∀ x y, (x ≠ 5 ∨ y ≠ 9) → I3 x y = I x y := fun x y p => (o3 x y p).trans (o12 x y p)
        by_cases z3 : KT B S (j + 3) = 2
        · rw [if_pos z3] at hr
          obtain ⟨I4, a4, hR4, hj4, k4, o4⟩ := tk_y hR3 (show j + 3 ≤ n by omega) k3 z3 (by omega)
          have k4 : I4 5 9 = nI (j + 4) := k4
          have o14 : ∀ x y, (x ≠ 5 ∨ y ≠ 9) → I4 x y = I x y := fun x y p => (o4 x y p).trans (o13 x y p)
          have eW := s_isW hR4 (show j + 4 ≤ n by omega) k4
          have e6 := hR4.k (show j + 4 ≤ n by omega)
          by_cases z4 : isW (KT B S (j + 4)) = true
          · rw [if_pos z4] at hr
            rw [z4] at eW
            have hw := isW_iff.mp z4
            have hjn := hR4.lt (show j + 4 ≤ n by omega) (by omega)
            obtain ⟨I5, p1, p2, p3, p4, p5⟩ := s_openPeriod hd (I := I4) (L := L) (N := vN B S (j + 2)) (w := KT B S (j + 4) - 12) (by omega) (by omega) ((o14 _ _ (by omega)).trans hz)
            have hR5 : RD I5 L B S n := hR4.cg (p5 _ _ (by omega) (by omega)) (fun b => p5 _ _ (by omega) (by omega)) (fun b => p5 _ _ (by omega) (by omega)) (fun _ => rfl)
            obtain ⟨I6, a6, hR6, k6, o6⟩ := tk_s hR5 hjn ((p5 _ _ (by omega) (by omega)).trans k4)
            have hs : nI (KT B S (j + 4)) - nI 12 = nI (KT B S (j + 4) - 12) := q_sub (by omega)
            rw [← hr]
            refine ⟨I6, ?_, by omega, by omega, by omega, k6, fun Q hQ => (o6 _ _ (by omega)).trans (p2 Q hQ), (o6 _ _ (by omega)).trans p3, (o6 _ _ (by omega)).trans p4, fun x y q1 q2 q3 => ((o6 x y q3).trans (p5 x y q1 q2)).trans (o14 x y q3)⟩
            simp (disch := omega) only [c_X4_readHead hd, e_X4_readHead_0 hd, e_X4_readHead_5 hd, e_X4_readHead_13 hd, e_X4_readHead_23 hd, e_X4_readHead_43 hd, e_X4_readHead_48 hd, e_X4_readHead_57 hd, e_X4_readHead_83 hd, e_X4_readHead_87 hd, q1000000, q0, q1, q2, q3, q4, q5, q6, q7, q8, q9, q10, q11, q12, q13, q14, q15, q16, q18, q19, q20, q21, q22, q23, q24, q25, q26, q27, q28, q29, q30, q31, q32, q38, q44, q45, q48, q57, q58, q59, q60, q63, q64, q97, q122, q126, q127, q128, q255, q256, q300, q580, q600, q1000, a1, a2, s7, k2, s6, lN_i, a3, a4, eW, k4, e6, hs, p1, a6, Option.bind_some, Option.toList_some, Option.toList_none, List.cons_append, List.nil_append, Option.map_some, cond_true, cond_false, Bool.not_true, Bool.not_false, Bool.true_and, Bool.and_true, Bool.false_and, Bool.and_false, Bool.true_or, Bool.or_true, Bool.false_or, Bool.or_false, Bool.not_not, decide_true, decide_false, Bool.decide_eq_true, Bool.decide_eq_false, qz_0, qz_1, qz_n, qz_n0, qz_n1, qz_t, qz_f, Nat.reduceAdd, q1000000, q0, q1, q2, q3, q4, q5, q6, q7, q8, q9, q10, q11, q12, q13, q14, q15, q16, q18, q19, q20, q21, q22, q23, q24, q25, q26, q27, q28, q29, q30, q31, q32, q38, q44, q45, q48, q57, q58, q59, q60, q63, q64, q97, q122, q126, q127, q128, q255, q256, q300, q580, q600, q1000, nI_add, q_lt_t, q_lt_f, q_eq_t, q_eq_f, q_clamp, q_in_t, q_in_f]
          · rw [if_neg z4] at hr
            rw [show isW (KT B S (j + 4)) = false by simpa using z4] at eW
            have hf := s_fail hR4 (show j + 4 ≤ n by omega) k4 1
            rw [← hr]
            refine ⟨fl I4 1 (sT B S (j + 4)), ?_, fl_L _ _ _ (fun x y p1 p2 => o14 x y (by omega))⟩
            simp (disch := omega) only [c_X4_readHead hd, e_X4_readHead_0 hd, e_X4_readHead_5 hd, e_X4_readHead_13 hd, e_X4_readHead_23 hd, e_X4_readHead_43 hd, e_X4_readHead_48 hd, e_X4_readHead_57 hd, e_X4_readHead_65 hd, q1000000, q0, q1, q2, q3, q4, q5, q6, q7, q8, q9, q10, q11, q12, q13, q14, q15, q16, q18, q19, q20, q21, q22, q23, q24, q25, q26, q27, q28, q29, q30, q31, q32, q38, q44, q45, q48, q57, q58, q59, q60, q63, q64, q97, q122, q126, q127, q128, q255, q256, q300, q580, q600, q1000, a1, a2, s7, k2, s6, lN_i, a3, a4, eW, hf, Option.bind_some, Option.toList_some, Option.toList_none, List.cons_append, List.nil_append, Option.map_some, cond_true, cond_false, Bool.not_true, Bool.not_false, Bool.true_and, Bool.and_true, Bool.false_and, Bool.and_false, Bool.true_or, Bool.or_true, Bool.false_or, Bool.or_false, Bool.not_not, decide_true, decide_false, Bool.decide_eq_true, Bool.decide_eq_false, qz_0, qz_1, qz_n, qz_n0, qz_n1, qz_t, qz_f, Nat.reduceAdd, q1000000, q0, q1, q2, q3, q4, q5, q6, q7, q8, q9, q10, q11, q12, q13, q14, q15, q16, q18, q19, q20, q21, q22, q23, q24, q25, q26, q27, q28, q29, q30, q31, q32, q38, q44, q45, q48, q57, q58, q59, q60, q63, q64, q97, q122, q126, q127, q128, q255, q256, q300, q580, q600, q1000, nI_add, q_lt_t, q_lt_f, q_eq_t, q_eq_f, q_clamp, q_in_t, q_in_f]
        · rw [if_neg z3] at hr
          have ht := s_take_n hR3 (show j + 3 ≤ n by omega) k3 z3 (by omega)
          rw [← hr]
          refine ⟨fl I3 1 (sT B S (j + 3)), ?_, fl_L _ _ _ (fun x y p1 p2 => o13 x y (by omega))⟩
          simp (disch := omega) only [c_X4_readHead hd, e_X4_readHead_0 hd, e_X4_readHead_5 hd, e_X4_readHead_13 hd, e_X4_readHead_23 hd, e_X4_readHead_43 hd, e_X4_readHead_48 hd, q1000000, q0, q1, q2, q3, q4, q5, q6, q7, q8, q9, q10, q11, q12, q13, q14, q15, q16, q18, q19, q20, q21, q22, q23, q24, q25, q26, q27, q28, q29, q30, q31, q32, q38, q44, q45, q48, q57, q58, q59, q60, q63, q64, q97, q122, q126, q127, q128, q255, q256, q300, q580, q600, q1000, a1, a2, s7, k2, s6, lN_i, a3, ht, Option.bind_some, Option.toList_some, Option.toList_none, List.cons_append, List.nil_append, Option.map_some, cond_true, cond_false, Bool.not_true, Bool.not_false, Bool.true_and, Bool.and_true, Bool.false_and, Bool.and_false, Bool.true_or, Bool.or_true, Bool.false_or, Bool.or_false, Bool.not_not, decide_true, decide_false, Bool.decide_eq_true, Bool.decide_eq_false, qz_0, qz_1, qz_n, qz_n0, qz_n1, qz_t, qz_f, Nat.reduceAdd, q1000000, q0, q1, q2, q3, q4, q5, q6, q7, q8, q9, q10, q11, q12, q13, q14, q15, q16, q18, q19, q20, q21, q22, q23, q24, q25, q26, q27, q28, q29, q30, q31, q32, q38, q44, q45, q48, q57, q58, q59, q60, q63, q64, q97, q122, q126, q127, q128, q255, q256, q300, q580, q600, q1000, nI_add, q_lt_t, q_lt_f, q_eq_t, q_eq_f, q_clamp, q_in_t, q_in_f]
    · rw [if_neg z1] at hr
      have ht := s_take_n hR1 hj1 k1 z1 (by omega)
      rw [← hr]
      refine ⟨fl I1 1 (sT B S (j + 1)), ?_, fl_L _ _ _ (fun x y p1 p2 => o1 x y (by omega))⟩
      simp (disch := omega) only [c_X4_readHead hd, e_X4_readHead_0 hd, e_X4_readHead_5 hd, e_X4_readHead_13 hd, e_X4_readHead_26 hd, q1000000, q0, q1, q2, q3, q4, q5, q6, q7, q8, q9, q10, q11, q12, q13, q14, q15, q16, q18, q19, q20, q21, q22, q23, q24, q25, q26, q27, q28, q29, q30, q31, q32, q38, q44, q45, q48, q57, q58, q59, q60, q63, q64, q97, q122, q126, q127, q128, q255, q256, q300, q580, q600, q1000, a1, ht, Option.bind_some, Option.toList_some, Option.toList_none, List.cons_append, List.nil_append, Option.map_some, cond_true, cond_false, Bool.not_true, Bool.not_false, Bool.true_and, Bool.and_true, Bool.false_and, Bool.and_false, Bool.true_or, Bool.or_true, Bool.false_or, Bool.or_false, Bool.not_not, decide_true, decide_false, Bool.decide_eq_true, Bool.decide_eq_false, qz_0, qz_1, qz_n, qz_n0, qz_n1, qz_t, qz_f, Nat.reduceAdd, q1000000, q0, q1, q2, q3, q4, q5, q6, q7, q8, q9, q10, q11, q12, q13, q14, q15, q16, q18, q19, q20, q21, q22, q23, q24, q25, q26, q27, q28, q29, q30, q31, q32, q38, q44, q45, q48, q57, q58, q59, q60, q63, q64, q97, q122, q126, q127, q128, q255, q256, q300, q580, q600, q1000, nI_add, q_lt_t, q_lt_f, q_eq_t, q_eq_f, q_clamp, q_in_t, q_in_f]
  · rw [if_neg z0] at hr
    have ht := s_take_n hR hj h9 z0 (by omega)
    rw [← hr]
    refine ⟨fl I 1 (sT B S j), ?_, fl_L _ _ _ (fun _ _ _ _ => rfl)⟩
    simp (disch := omega) only [c_X4_readHead hd, e_X4_readHead_0 hd, e_X4_readHead_5 hd, e_X4_readHead_26 hd, q1000000, q0, q1, q2, q3, q4, q5, q6, q7, q8, q9, q10, q11, q12, q13, q14, q15, q16, q18, q19, q20, q21, q22, q23, q24, q25, q26, q27, q28, q29, q30, q31, q32, q38, q44, q45, q48, q57, q58, q59, q60, q63, q64, q97, q122, q126, q127, q128, q255, q256, q300, q580, q600, q1000, ht, Option.bind_some, Option.toList_some, Option.toList_none, List.cons_append, List.nil_append, Option.map_some, cond_true, cond_false, Bool.not_true, Bool.not_false, Bool.true_and, Bool.and_true, Bool.false_and, Bool.and_false, Bool.true_or, Bool.or_true, Bool.false_or, Bool.or_false, Bool.not_not, decide_true, decide_false, Bool.decide_eq_true, Bool.decide_eq_false, qz_0, qz_1, qz_n, qz_n0, qz_n1, qz_t, qz_f, Nat.reduceAdd, q1000000, q0, q1, q2, q3, q4, q5, q6, q7, q8, q9, q10, q11, q12, q13, q14, q15, q16, q18, q19, q20, q21, q22, q23, q24, q25, q26, q27, q28, q29, q30, q31, q32, q38, q44, q45, q48, q57, q58, q59, q60, q63, q64, q97, q122, q126, q127, q128, q255, q256, q300, q580, q600, q1000, nI_add, q_lt_t, q_lt_f, q_eq_t, q_eq_f, q_clamp, q_in_t, q_in_f]
