/-! desk: class -/
def dk0 : DKT := ((0, 0, 0, 0, 0), fun _ => [], fun _ => nI 0, fun _ => nI 0, fun _ => nI 0, fun _ => nI 0)
theorem dk0_ok : PD dk0 := ⟨by omega, by omega, by omega, by omega, Or.inl ⟨rfl, rfl, rfl, rfl⟩, fun f hf => by omega, fun f hf => by omega, fun f hf => by omega, fun t ht => by omega⟩
theorem s_readDesk {d : Nat} (hd : d = 11 ∨ d = 18) {I : zI} {L : zL} {B : Nat → Nat} {S : Nat} (hS : SCI I B S) (hL : LX L) (hz : I (d + 1) 0 = nI 0) : ∃ I0 L0, (∀ x y, (x < 5 ∨ 7 < x) → (x < d ∨ d + 6 < x) → I0 x y = I x y) ∧ (∀ x y, x ≠ 8 → L0 x y = L x y) ∧ CdC I0 L0 B S d (dkF B S 10 0 dk0) (zcall zZ nX4_readDesk [.ref 5, .ref 3, .ref d] (hp I L)) := by
  obtain ⟨n, J, M, c1, hR, c3, c4, c5, c6, c7⟩ := s_scan hS hL
  obtain ⟨I0, hI0⟩ : ∃ I0, I0 = zup (zup (zup (zup (zup J d 6 (nI 0)) d 7 (nI 0)) d 8 (nI 0)) d 9 (nI 0)) d 10 (nI 0) := ⟨_, rfl⟩
  have o : ∀ x y, (x ≠ d ∨ y < 6 ∨ 10 < y) → I0 x y = J x y := fun x y p => by
    rw [hI0, upc (by omega), upc (by omega), upc (by omega), upc (by omega), upc (by omega)]
  have d6 : I0 d 6 = nI 0 := by rw [hI0, upc (by omega), upc (by omega), upc (by omega), upc (by omega), zu_same]
  have d7 : I0 d 7 = nI 0 := by rw [hI0, upc (by omega), upc (by omega), upc (by omega), zu_same]
  have d8 : I0 d 8 = nI 0 := by rw [hI0, upc (by omega), upc (by omega), zu_same]
  have d9 : I0 d 9 = nI 0 := by rw [hI0, upc (by omega), zu_same]
  have d10 : I0 d 10 = nI 0 := by rw [hI0, zu_same]
  have lp := cd_loop hd (B := B) (S := S) (n := n) 10 0 dk0 I0 M dk0_ok (hR.cg (o _ _ (by omega)) (fun b => o _ _ (by omega)) (fun b => o _ _ (by omega)) (fun _ => rfl)) (by omega) ((o _ _ (by omega)).trans c3) ((o _ _ (by omega)).trans c4) ((o _ _ (by omega)).trans c5) ⟨⟨d6, d7, d8, d9, d10⟩, fun q => absurd rfl q, fun f hf => by omega, fun f hf => by omega, fun t ht => by omega⟩ ((o _ _ (by omega)).trans ((c6 _ _ (by omega)).trans hz)) (by show 10 ≤ 10 + 0; omega)
  refine ⟨I0, M, fun x y p1 p2 => (o x y (by omega)).trans (c6 x y (by omega)), c7, ?_⟩
  generalize dkF B S 10 0 dk0 = r at lp ⊢
  refine Eq.mp ?_ lp
  congr 1
  symm
  show _ = (zrun zZ kX4_readDesk (11, [some (.ref 5), none, some (.ref d), some (.int (nI 0)), none], [], hp I0 M, 0, 0)).map (fun r => (r.1, r.2.1))
  simp (disch := omega) only [c_X4_readDesk hd, e_X4_readDesk_0 hd, e_X4_readDesk_5 hd, e_X4_readDesk_9 hd, c_X1_clear hd, e_X1_clear_0 hd, c1, q1000000, q0, q1, q2, q3, q4, q5, q6, q7, q8, q9, q10, q11, q12, q13, q14, q15, q16, q18, q19, q20, q21, q22, q23, q24, q25, q26, q27, q28, q29, q30, q31, q32, q38, q44, q45, q48, q57, q58, q59, q60, q63, q64, q97, q122, q126, q127, q128, q255, q256, q300, q580, q600, q1000, ← hI0, Option.bind_some, Option.toList_some, Option.toList_none, List.cons_append, List.nil_append, Option.map_some, cond_true, cond_false, Bool.not_true, Bool.not_false, Bool.true_and, Bool.and_true, Bool.false_and, Bool.and_false, Bool.true_or, Bool.or_true, Bool.false_or, Bool.or_false, Bool.not_not, decide_true, decide_false, Bool.decide_eq_true, Bool.decide_eq_false, qz_0, qz_1, qz_n, qz_n0, qz_n1, qz_t, qz_f, Nat.reduceAdd]
/-! desk: reference -/
theorem dm_loop {L : zL} : ∀ m k (I : zI), k + m = 44 → ∃ J, zrun zZ kX10_desk (2, [some (.ref 52), some (.int (nI k))], [], hp I L, 0, 0) = (zcall zZ nX10_begins [.ref 52] (hp J L)).bind (fun q => zrun zZ kX10_desk (37, [some (.ref 52), none], q.1.toList ++ [], q.2, 0, 0)) ∧ (∀ y, k ≤ y → y < 44 → J 54 y = I 53 y ∧ J 53 y = nI 0) ∧ (∀ x y, ((x ≠ 53 ∧ x ≠ 54) ∨ y < k ∨ 44 ≤ y) → J x y = I x y)
  | 0, k, I, h => by
    obtain rfl : k = 44 := h
    refine ⟨I, ?_, fun y h1 h2 => by omega, fun _ _ _ => rfl⟩
    rw [e_X10_desk_2]
    simp (disch := omega) only [Option.bind_some, Option.toList_some, Option.toList_none, List.cons_append, List.nil_append, Option.map_some, cond_true, cond_false, Bool.not_true, Bool.not_false, Bool.true_and, Bool.and_true, Bool.false_and, Bool.and_false, Bool.true_or, Bool.or_true, Bool.false_or, Bool.or_false, Bool.not_not, decide_true, decide_false, Bool.decide_eq_true, Bool.decide_eq_false, qz_0, qz_1, qz_n, qz_n0, qz_n1, qz_t, qz_f, Nat.reduceAdd, show (44 : Int32) = nI 44 from rfl, q1000000, q0, q1, q2, q3, q4, q5, q6, q7, q8, q9, q10, q11, q12, q13, q14, q15, q16, q18, q19, q20, q21, q22, q23, q24, q25, q26, q27, q28, q29, q30, q31, q32, q38, q44, q45, q48, q57, q58, q59, q60, q63, q64, q97, q122, q126, q127, q128, q255, q256, q300, q580, q600, q1000, nI_add, q_lt_t, q_lt_f, q_eq_t, q_eq_f, q_clamp, q_in_t, q_in_f]
  | m + 1, k, I, h => by
    obtain ⟨J, g1, g2, g3⟩ := dm_loop (L := L) m (k + 1) (zup (zup I 54 k (I 53 k)) 53 k (nI 0)) (by omega)
    refine ⟨J, ?_, fun y h1 h2 => ?_, fun x y p => ?_⟩
    · rw [← g1, e_X10_desk_2]
      simp (disch := omega) only [show (44 : Int32) = nI 44 from rfl, Option.bind_some, Option.toList_some, Option.toList_none, List.cons_append, List.nil_append, Option.map_some, cond_true, cond_false, Bool.not_true, Bool.not_false, Bool.true_and, Bool.and_true, Bool.false_and, Bool.and_false, Bool.true_or, Bool.or_true, Bool.false_or, Bool.or_false, Bool.not_not, decide_true, decide_false, Bool.decide_eq_true, Bool.decide_eq_false, qz_0, qz_1, qz_n, qz_n0, qz_n1, qz_t, qz_f, Nat.reduceAdd, q1000000, q0, q1, q2, q3, q4, q5, q6, q7, q8, q9, q10, q11, q12, q13, q14, q15, q16, q18, q19, q20, q21, q22, q23, q24, q25, q26, q27, q28, q29, q30, q31, q32, q38, q44, q45, q48, q57, q58, q59, q60, q63, q64, q97, q122, q126, q127, q128, q255, q256, q300, q580, q600, q1000, nI_add, q_lt_t, q_lt_f, q_eq_t, q_eq_f, q_clamp, q_in_t, q_in_f]
    · by_cases q : y = k
      · subst q
        rw [g3 _ _ (by omega), g3 _ _ (by omega), zu_cell (by omega), zu_same, zu_same]
        exact ⟨rfl, rfl⟩
      · obtain ⟨e1, e2⟩ := g2 y (by omega) h2
        rw [e1, e2, zu_at q, zu_cell (by omega)]
        exact ⟨rfl, rfl⟩
    · rw [g3 x y (by omega), upc (by omega), upc (by omega)]
theorem db_loop {L : zL} : ∀ m k (I : zI), k + m = 44 → ∃ J, zrun zZ kX10_desk (162, [some (.ref 52), some (.int (nI k))], [], hp I L, 0, 0) = some (some (.int (-nI 4)), hp J L, 0, 0) ∧ (∀ y, k ≤ y → y < 44 → J 53 y = I 54 y) ∧ (∀ x y, (x ≠ 53 ∨ y < k ∨ 44 ≤ y) → J x y = I x y)
  | 0, k, I, h => by
    obtain rfl : k = 44 := h
    refine ⟨I, ?_, fun y h1 h2 => by omega, fun _ _ _ => rfl⟩
    rw [e_X10_desk_162]
    simp (disch := omega) only [Option.bind_some, Option.toList_some, Option.toList_none, List.cons_append, List.nil_append, Option.map_some, cond_true, cond_false, Bool.not_true, Bool.not_false, Bool.true_and, Bool.and_true, Bool.false_and, Bool.and_false, Bool.true_or, Bool.or_true, Bool.false_or, Bool.or_false, Bool.not_not, decide_true, decide_false, Bool.decide_eq_true, Bool.decide_eq_false, qz_0, qz_1, qz_n, qz_n0, qz_n1, qz_t, qz_f, Nat.reduceAdd, show (44 : Int32) = nI 44 from rfl, q1000000, q0, q1, q2, q3, q4, q5, q6, q7, q8, q9, q10, q11, q12, q13, q14, q15, q16, q18, q19, q20, q21, q22, q23, q24, q25, q26, q27, q28, q29, q30, q31, q32, q38, q44, q45, q48, q57, q58, q59, q60, q63, q64, q97, q122, q126, q127, q128, q255, q256, q300, q580, q600, q1000, nI_add, q_lt_t, q_lt_f, q_eq_t, q_eq_f, q_clamp, q_in_t, q_in_f]
  | m + 1, k, I, h => by
    obtain ⟨J, g1, g2, g3⟩ := db_loop (L := L) m (k + 1) (zup I 53 k (I 54 k)) (by omega)
    refine ⟨J, ?_, fun y h1 h2 => ?_, fun x y p => ?_⟩
    · rw [← g1, e_X10_desk_162]
      simp (disch := omega) only [show (44 : Int32) = nI 44 from rfl, Option.bind_some, Option.toList_some, Option.toList_none, List.cons_append, List.nil_append, Option.map_some, cond_true, cond_false, Bool.not_true, Bool.not_false, Bool.true_and, Bool.and_true, Bool.false_and, Bool.and_false, Bool.true_or, Bool.or_true, Bool.false_or, Bool.or_false, Bool.not_not, decide_true, decide_false, Bool.decide_eq_true, Bool.decide_eq_false, qz_0, qz_1, qz_n, qz_n0, qz_n1, qz_t, qz_f, Nat.reduceAdd, q1000000, q0, q1, q2, q3, q4, q5, q6, q7, q8, q9, q10, q11, q12, q13, q14, q15, q16, q18, q19, q20, q21, q22, q23, q24, q25, q26, q27, q28, q29, q30, q31, q32, q38, q44, q45, q48, q57, q58, q59, q60, q63, q64, q97, q122, q126, q127, q128, q255, q256, q300, q580, q600, q1000, nI_add, q_lt_t, q_lt_f, q_eq_t, q_eq_f, q_clamp, q_in_t, q_in_f]
    · by_cases q : y = k
      · subst q
        rw [g3 _ _ (by omega), zu_same]
      · rw [g2 y (by omega) h2, zu_cell (by omega)]
    · rw [g3 x y (by omega), upc (by omega)]
def DmC (I : zI) (L : zL) (B : Nat → Nat) (S : Nat) (r : (Nat × Nat) ⊕ DKT) (x : Option (Option Value × zH)) : Prop := match r with
  | .inl (e, jf) => ∃ J, x = some (some (.int (-nI 4)), hp J L) ∧ J 52 5 = nI 0 ∧ J 52 6 = nI e ∧ J 52 7 = nI (sT B S jf) ∧ (∀ y, y < 44 → J 53 y = I 53 y) ∧ (∀ x y, x ≠ 53 → x ≠ 54 → (x ≠ 52 ∨ y < 5 ∨ 16 < y) → J x y = I x y)
  | .inr s => ∃ J, x = some (some (.int (nI s.1.2.2.2.2)), hp J L) ∧ J 52 5 = nI 0 ∧ J 52 6 = nI 0 ∧ J 52 7 = -nI 1 ∧ J 52 3 = nI 0 ∧ J 52 43 = nI 0 ∧ RDS J s ∧ PD s ∧ (∀ x y, x ≠ 53 → x ≠ 54 → (x ≠ 52 ∨ (y < 5 ∧ y ≠ 3) ∨ (16 < y ∧ y ≠ 43)) → J x y = I x y)
theorem s_deskM {I : zI} {L : zL} {B : Nat → Nat} {S : Nat} (hB : BT I B S) : DmC I L B S (dkF B S 10 0 dk0) (zcall zZ nX10_desk [.ref 52] (hp I L)) := by
  obtain ⟨I1, a1, a2, a3⟩ := dm_loop (L := L) 44 0 I (by omega)
  obtain ⟨I2, b1, b2, b3, b4, b5, b6, b7⟩ := s_begR L (hB.cg (J := I1) (a3 _ _ (by omega)) (fun b => a3 _ _ (by omega)))
  have e53 : ∀ y, y < 44 → I2 53 y = nI 0 := fun y hy => (b7 _ _ (by omega)).trans (a2 y (by omega) hy).2
  have lp := rd_loop (L := L) (B := B) (S := S) 10 0 dk0 0 I2 dk0_ok ((hB.cg (J := I1) (a3 _ _ (by omega)) (fun b => a3 _ _ (by omega))).ff b7) b2 b4 b3 b5 b6 ⟨⟨e53 0 (by omega), e53 1 (by omega), e53 2 (by omega), e53 3 (by omega), e53 4 (by omega)⟩, fun f hf => by omega, fun f hf => by omega, fun t ht => by omega⟩ (by show 10 ≤ 10 + 0; omega)
  have run : zcall zZ nX10_desk [.ref 52] (hp I L) = (zrun zZ kX10_desk (37, [some (.ref 52), none], [], hp I2 L, 0, 0)).map (fun r => (r.1, r.2.1)) := by
    simp (disch := omega) only [c_X10_desk, e_X10_desk_0, q1000000, q0, q1, q2, q3, q4, q5, q6, q7, q8, q9, q10, q11, q12, q13, q14, q15, q16, q18, q19, q20, q21, q22, q23, q24, q25, q26, q27, q28, q29, q30, q31, q32, q38, q44, q45, q48, q57, q58, q59, q60, q63, q64, q97, q122, q126, q127, q128, q255, q256, q300, q580, q600, q1000, a1, b1, Option.bind_some, Option.toList_some, Option.toList_none, List.cons_append, List.nil_append, Option.map_some, cond_true, cond_false, Bool.not_true, Bool.not_false, Bool.true_and, Bool.and_true, Bool.false_and, Bool.and_false, Bool.true_or, Bool.or_true, Bool.false_or, Bool.or_false, Bool.not_not, decide_true, decide_false, Bool.decide_eq_true, Bool.decide_eq_false, qz_0, qz_1, qz_n, qz_n0, qz_n1, qz_t, qz_f, Nat.reduceAdd]
  rw [run]
  have oI : ∀ x y, x ≠ 53 → x ≠ 54 → (x ≠ 52 ∨ y < 8 ∨ 16 < y) → I2 x y = I x y := fun x y p1 p2 p3 => (b7 x y p3).trans (a3 x y (by omega))
  have o54 : ∀ y, y < 44 → I2 54 y = I 53 y := fun y hy => (b7 _ _ (by omega)).trans (a2 y (by omega) hy).1
  generalize dkF B S 10 0 dk0 = r at lp ⊢
  match r, lp with
  | .inl (e, jf), ⟨J, x1, x2, x3⟩ =>
    obtain ⟨y1, y2, y3⟩ := x2
    obtain ⟨J1, hJ1⟩ : ∃ J1, J1 = zup (zup (zup J 52 5 (nI 0)) 52 6 (J 52 15)) 52 7 (J 52 16) := ⟨_, rfl⟩
    have o1 : ∀ x y, (x ≠ 52 ∨ y < 5 ∨ 7 < y) → J1 x y = J x y := fun x y p => by
      rw [hJ1, upc (by omega), upc (by omega), upc (by omega)]
    obtain ⟨J2, g1, g2, g3⟩ := db_loop (L := L) 44 0 J1 (by omega)
    refine ⟨J2, ?_, ?_, ?_, ?_, fun y hy => ?_, fun x y p1 p2 p3 => ?_⟩
    · rw [x1]
      simp (disch := omega) only [e_X10_desk_132, y1, zu_same, zu_cell, zu_at, q1000000, q0, q1, q2, q3, q4, q5, q6, q7, q8, q9, q10, q11, q12, q13, q14, q15, q16, q18, q19, q20, q21, q22, q23, q24, q25, q26, q27, q28, q29, q30, q31, q32, q38, q44, q45, q48, q57, q58, q59, q60, q63, q64, q97, q122, q126, q127, q128, q255, q256, q300, q580, q600, q1000, ← hJ1, g1, Option.bind_some, Option.toList_some, Option.toList_none, List.cons_append, List.nil_append, Option.map_some, cond_true, cond_false, Bool.not_true, Bool.not_false, Bool.true_and, Bool.and_true, Bool.false_and, Bool.and_false, Bool.true_or, Bool.or_true, Bool.false_or, Bool.or_false, Bool.not_not, decide_true, decide_false, Bool.decide_eq_true, Bool.decide_eq_false, qz_0, qz_1, qz_n, qz_n0, qz_n1, qz_t, qz_f, Nat.reduceAdd, q1000000, q0, q1, q2, q3, q4, q5, q6, q7, q8, q9, q10, q11, q12, q13, q14, q15, q16, q18, q19, q20, q21, q22, q23, q24, q25, q26, q27, q28, q29, q30, q31, q32, q38, q44, q45, q48, q57, q58, q59, q60, q63, q64, q97, q122, q126, q127, q128, q255, q256, q300, q580, q600, q1000, nI_add, q_lt_t, q_lt_f, q_eq_t, q_eq_f, q_clamp, q_in_t, q_in_f]
    · rw [g3 _ _ (by omega), hJ1, upc (by omega), upc (by omega), zu_same]
    · rw [g3 _ _ (by omega), hJ1, upc (by omega), zu_same]
      exact y2
    · rw [g3 _ _ (by omega), hJ1, zu_same]
      exact y3
    · rw [g2 y (by omega) hy, o1 _ _ (by omega), x3 _ _ (by omega) (by omega)]
      exact o54 y hy
    · rw [g3 x y (by omega), o1 x y (by omega), x3 x y p1 (by omega)]
      exact oI x y p1 p2 (by omega)
  | .inr ((N, w, F, T, ln), nm, fd, ro, mi, ru), ⟨J, x1, x2, x3, x4, x5, x6, x7⟩ =>
    obtain ⟨J1, hJ1⟩ : ∃ J1, J1 = zup (zup (zup (zup (zup J 52 5 (nI 0)) 52 6 (J 52 15)) 52 7 (J 52 16)) 52 3 (nI 0)) 52 43 (nI 0) := ⟨_, rfl⟩
    have o1 : ∀ x y, (x ≠ 52 ∨ (y ≠ 5 ∧ y ≠ 6 ∧ y ≠ 7 ∧ y ≠ 3 ∧ y ≠ 43)) → J1 x y = J x y := fun x y p => by
      rw [hJ1, upc (by omega), upc (by omega), upc (by omega), upc (by omega), upc (by omega)]
    have j4 : J 53 4 = nI ln := x5.1.2.2.2.2
    refine ⟨J1, ?_, ?_, ?_, ?_, ?_, ?_, x5.cg (fun y => o1 _ _ (by omega)), x6, fun x y p1 p2 p3 => ?_⟩
    · rw [x1]
      simp (disch := omega) only [e_X10_desk_132, x2, zu_same, zu_cell, zu_at, q1000000, q0, q1, q2, q3, q4, q5, q6, q7, q8, q9, q10, q11, q12, q13, q14, q15, q16, q18, q19, q20, q21, q22, q23, q24, q25, q26, q27, q28, q29, q30, q31, q32, q38, q44, q45, q48, q57, q58, q59, q60, q63, q64, q97, q122, q126, q127, q128, q255, q256, q300, q580, q600, q1000, ← hJ1, j4, Option.bind_some, Option.toList_some, Option.toList_none, List.cons_append, List.nil_append, Option.map_some, cond_true, cond_false, Bool.not_true, Bool.not_false, Bool.true_and, Bool.and_true, Bool.false_and, Bool.and_false, Bool.true_or, Bool.or_true, Bool.false_or, Bool.or_false, Bool.not_not, decide_true, decide_false, Bool.decide_eq_true, Bool.decide_eq_false, qz_0, qz_1, qz_n, qz_n0, qz_n1, qz_t, qz_f, Nat.reduceAdd, q1000000, q0, q1, q2, q3, q4, q5, q6, q7, q8, q9, q10, q11, q12, q13, q14, q15, q16, q18, q19, q20, q21, q22, q23, q24, q25, q26, q27, q28, q29, q30, q31, q32, q38, q44, q45, q48, q57, q58, q59, q60, q63, q64, q97, q122, q126, q127, q128, q255, q256, q300, q580, q600, q1000, nI_add, q_lt_t, q_lt_f, q_eq_t, q_eq_f, q_clamp, q_in_t, q_in_f]
    · rw [hJ1, upc (by omega), upc (by omega), upc (by omega), upc (by omega), zu_same]
    · rw [hJ1, upc (by omega), upc (by omega), upc (by omega), zu_same]
      exact x3
    · rw [hJ1, upc (by omega), upc (by omega), zu_same]
      exact x4
    · rw [hJ1, upc (by omega), zu_same]
    · rw [hJ1, zu_same]
    · rw [o1 x y (by omega), x7 x y p1 (by omega)]
      exact oI x y p1 p2 (by omega)
