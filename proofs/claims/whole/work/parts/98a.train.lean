/-! a train is read -/
def trC (r m : Nat) (o : (Nat × Nat) ⊕ (Nat × Int32)) : (Nat × Nat) ⊕ (Nat × Nat × Nat × Int32) := match o with
  | .inl e => .inl e
  | .inr (j', V) => .inr (j', r, m, V)
def trB (K v : Nat → Nat) (fi : Nat → Option Nat) (N w : Nat) (fd : Nat → Int32) (r m jc : Nat) : (Nat × Nat) ⊕ (Nat × Nat × Nat × Int32) := if K jc = 22 then trC r m (woR K v fi N w fd (jc + 1)) else .inl (1, jc)
def trA (K v : Nat → Nat) (fi : Nat → Option Nat) (N w : Nat) (fd : Nat → Int32) (r ja : Nat) : (Nat × Nat) ⊕ (Nat × Nat × Nat × Int32) := if K ja = 5 then (match nuR K v 0 1439 (ja + 1) with
  | .inl e => .inl e
  | .inr (jc, m) => trB K v fi N w fd r m jc) else .inl (1, ja)
def trR (K v : Nat → Nat) (fi : Nat → Option Nat) (N w : Nat) (fd : Nat → Int32) (T j : Nat) : (Nat × Nat) ⊕ (Nat × Nat × Nat × Int32) := if T = 6 then .inl (3, j) else match nuR K v 0 9 (j + 1) with
  | .inl e => .inl e
  | .inr (ja, r) => trA K v fi N w fd r ja
def TrC (I : zI) (L : zL) (B : Nat → Nat) (S n d T : Nat) (r : (Nat × Nat) ⊕ (Nat × Nat × Nat × Int32)) (x : Option (Option Value × zH)) : Prop := match r with
  | .inl (e, jf) => ∃ J, x = some (some (.int (nI 0)), hp J L) ∧ LFl I J d e (sT B S jf)
  | .inr (j', r, m, V) => ∃ J, x = some (some (.int (nI 1)), hp J L) ∧ j' ≤ n ∧ J 5 9 = nI j' ∧ J d 9 = nI (T + 1) ∧ J (d + 4) T = nI r ∧ J (d + 5) T = nI m ∧ J (d + 6) T = V ∧ (∀ x y, (x ≠ 5 ∨ y < 2 ∨ y = 8) → (x ≠ d ∨ y ≠ 9) → ((x ≠ d + 4 ∧ x ≠ d + 5 ∧ x ≠ d + 6) ∨ y ≠ T) → J x y = I x y)
theorem upc {J : zI} {a k : Nat} {v : Int32} {x y : Nat} (h : x ≠ a ∨ y ≠ k) : zup J a k v x y = J x y := by
  by_cases u : x = a
  · rw [zu_at (by omega)]
  · rw [zu_cell u]
theorem tr_w {d : Nat} (hd : d = 11 ∨ d = 18) {I I7 : zI} {L : zL} {B : Nat → Nat} {S n N w F T r m jw : Nat} (hN : 1 ≤ N ∧ N ≤ 28) (hF : F ≤ 2) (hT : T < 6) {nm : Nat → List Nat} {fd : Nat → Int32} (hD : DC I7 L d N w F nm fd) (hR : RD I7 L B S n) (hj : jw ≤ n) (hd9 : I7 d 9 = nI T) (h9 : I7 5 9 = nI jw) (h4 : I7 (d + 4) T = nI r) (h5 : I7 (d + 5) T = nI m) (o17 : ∀ x y, (x ≠ 5 ∨ y ≠ 9) → (x ≠ d + 4 ∨ y ≠ T) → (x ≠ d + 5 ∨ y ≠ T) → I7 x y = I x y) : TrC I L B S n d T (trC r m (woR (KT B S) (vN B S) (fiT B S F nm) N w fd jw)) ((zrun zZ kX4_readTrain (100, [some (.ref 5), some (.ref d), some (.int (nI T))], [.int (nI 1)], hp I7 L, 0, 0)).map (fun r => (r.1, r.2.1))) := by
  have hw := s_readWording hd hN hF hD hR hj h9
  match hwr : woR (KT B S) (vN B S) (fiT B S F nm) N w fd jw, hw with
  | .inl (e, jf), ⟨J, x1, x2, x3, x4⟩ =>
    refine ⟨J, ?_, x2, x3, fun x y p1 p2 => (x4 x y (by omega)).trans (o17 x y (by omega) (by omega) (by omega))⟩
    simp (disch := omega) only [e_X4_readTrain_100 hd, e_X4_readTrain_108 hd, e_X4_readTrain_111 hd, x1, Option.bind_some, Option.toList_some, Option.toList_none, List.cons_append, List.nil_append, Option.map_some, cond_true, cond_false, Bool.not_true, Bool.not_false, Bool.true_and, Bool.and_true, Bool.false_and, Bool.and_false, Bool.true_or, Bool.or_true, Bool.false_or, Bool.or_false, Bool.not_not, decide_true, decide_false, Bool.decide_eq_true, Bool.decide_eq_false, qz_0, qz_1, qz_n, qz_n0, qz_n1, qz_t, qz_f, Nat.reduceAdd, q1000000, q0, q1, q2, q3, q4, q5, q6, q7, q8, q9, q10, q11, q12, q13, q14, q15, q16, q18, q19, q20, q21, q22, q23, q24, q25, q26, q27, q28, q29, q30, q31, q32, q38, q44, q45, q48, q57, q58, q59, q60, q63, q64, q97, q122, q126, q127, q128, q255, q256, q300, q580, q600, q1000, nI_add, q_lt_t, q_lt_f, q_eq_t, q_eq_f, q_clamp, q_in_t, q_in_f]
  | .inr (j', V), ⟨J, x1, x2, x3, x4, x5, x6, x7⟩ =>
    have j9 : J d 9 = nI T := (x7 _ _ (by omega)).trans hd9
    refine ⟨zup (zup J (d + 6) T V) d 9 (nI (T + 1)), ?_, x3, ?_, zu_same _ _ _ _, ?_, ?_, ?_, fun x y p1 p2 p3 => ?_⟩
    · simp (disch := omega) only [e_X4_readTrain_100 hd, e_X4_readTrain_108 hd, x1, x5, j9, zu_same, zu_cell, zu_at, Option.bind_some, Option.toList_some, Option.toList_none, List.cons_append, List.nil_append, Option.map_some, cond_true, cond_false, Bool.not_true, Bool.not_false, Bool.true_and, Bool.and_true, Bool.false_and, Bool.and_false, Bool.true_or, Bool.or_true, Bool.false_or, Bool.or_false, Bool.not_not, decide_true, decide_false, Bool.decide_eq_true, Bool.decide_eq_false, qz_0, qz_1, qz_n, qz_n0, qz_n1, qz_t, qz_f, Nat.reduceAdd, q1000000, q0, q1, q2, q3, q4, q5, q6, q7, q8, q9, q10, q11, q12, q13, q14, q15, q16, q18, q19, q20, q21, q22, q23, q24, q25, q26, q27, q28, q29, q30, q31, q32, q38, q44, q45, q48, q57, q58, q59, q60, q63, q64, q97, q122, q126, q127, q128, q255, q256, q300, q580, q600, q1000, nI_add, q_lt_t, q_lt_f, q_eq_t, q_eq_f, q_clamp, q_in_t, q_in_f]
    · rw [zu_cell (by omega), zu_cell (by omega)]
      exact x4
    · rw [zu_cell (by omega), zu_cell (by omega), x7 _ _ (by omega)]
      exact h4
    · rw [zu_cell (by omega), zu_cell (by omega), x7 _ _ (by omega)]
      exact h5
    · rw [zu_cell (by omega), zu_same]
    · rw [upc (by omega), upc (by omega), x7 x y (by omega)]
      exact o17 x y (by omega) (by omega) (by omega)
/-- from the colon on -/
theorem trc_b {d : Nat} (hd : d = 11 ∨ d = 18) {I I6 : zI} {L : zL} {B : Nat → Nat} {S n N w F T r m jc : Nat} (hN : 1 ≤ N ∧ N ≤ 28) (hF : F ≤ 2) (hT : T < 6) {nm : Nat → List Nat} {fd : Nat → Int32} (hD : DC I6 L d N w F nm fd) (hR : RD I6 L B S n) (hj : jc ≤ n) (hd9 : I6 d 9 = nI T) (h9 : I6 5 9 = nI jc) (h4 : I6 (d + 4) T = nI r) (h5 : I6 (d + 5) T = nI m) (o16 : ∀ x y, (x ≠ 5 ∨ y ≠ 9) → (x ≠ d + 4 ∨ y ≠ T) → (x ≠ d + 5 ∨ y ≠ T) → I6 x y = I x y) : TrC I L B S n d T (trB (KT B S) (vN B S) (fiT B S F nm) N w fd r m jc) ((zrun zZ kX4_readTrain (94, [some (.ref 5), some (.ref d), some (.int (nI T))], [], hp I6 L, 0, 0)).map (fun r => (r.1, r.2.1))) := by
  unfold trB
  by_cases z : KT B S jc = 22
  · rw [if_pos z]
    obtain ⟨I7, a7, hR7, hj7, k7, o7⟩ := tk_y hR hj h9 z (by omega)
    have hw := tr_w hd (I := I) hN hF hT (hD.cg hd (fun x y p => o7 x y (by omega))) hR7 hj7 ((o7 _ _ (by omega)).trans hd9) k7 ((o7 _ _ (by omega)).trans h4) ((o7 _ _ (by omega)).trans h5) (fun x y p1 p2 p3 => (o7 x y p1).trans (o16 x y p1 p2 p3))
    refine Eq.mp ?_ hw
    congr 1
    symm
    simp (disch := omega) only [e_X4_readTrain_94 hd, q1000000, q0, q1, q2, q3, q4, q5, q6, q7, q8, q9, q10, q11, q12, q13, q14, q15, q16, q18, q19, q20, q21, q22, q23, q24, q25, q26, q27, q28, q29, q30, q31, q32, q38, q44, q45, q48, q57, q58, q59, q60, q63, q64, q97, q122, q126, q127, q128, q255, q256, q300, q580, q600, q1000, a7, Option.bind_some, Option.toList_some, Option.toList_none, List.cons_append, List.nil_append, Option.map_some, cond_true, cond_false, Bool.not_true, Bool.not_false, Bool.true_and, Bool.and_true, Bool.false_and, Bool.and_false, Bool.true_or, Bool.or_true, Bool.false_or, Bool.or_false, Bool.not_not, decide_true, decide_false, Bool.decide_eq_true, Bool.decide_eq_false, qz_0, qz_1, qz_n, qz_n0, qz_n1, qz_t, qz_f, Nat.reduceAdd]
  · rw [if_neg z]
    have ht := s_take_n hR hj h9 z (by omega)
    refine ⟨fl I6 1 (sT B S jc), ?_, fl_L _ _ _ (fun x y p1 p2 => o16 x y (by omega) (by omega) (by omega))⟩
    simp (disch := omega) only [e_X4_readTrain_94 hd, e_X4_readTrain_100 hd, e_X4_readTrain_111 hd, q1000000, q0, q1, q2, q3, q4, q5, q6, q7, q8, q9, q10, q11, q12, q13, q14, q15, q16, q18, q19, q20, q21, q22, q23, q24, q25, q26, q27, q28, q29, q30, q31, q32, q38, q44, q45, q48, q57, q58, q59, q60, q63, q64, q97, q122, q126, q127, q128, q255, q256, q300, q580, q600, q1000, ht, Option.bind_some, Option.toList_some, Option.toList_none, List.cons_append, List.nil_append, Option.map_some, cond_true, cond_false, Bool.not_true, Bool.not_false, Bool.true_and, Bool.and_true, Bool.false_and, Bool.and_false, Bool.true_or, Bool.or_true, Bool.false_or, Bool.or_false, Bool.not_not, decide_true, decide_false, Bool.decide_eq_true, Bool.decide_eq_false, qz_0, qz_1, qz_n, qz_n0, qz_n1, qz_t, qz_f, Nat.reduceAdd, q1000000, q0, q1, q2, q3, q4, q5, q6, q7, q8, q9, q10, q11, q12, q13, q14, q15, q16, q18, q19, q20, q21, q22, q23, q24, q25, q26, q27, q28, q29, q30, q31, q32, q38, q44, q45, q48, q57, q58, q59, q60, q63, q64, q97, q122, q126, q127, q128, q255, q256, q300, q580, q600, q1000, nI_add, q_lt_t, q_lt_f, q_eq_t, q_eq_f, q_clamp, q_in_t, q_in_f]
/-- from at on -/
theorem trc_a {d : Nat} (hd : d = 11 ∨ d = 18) {I I3 : zI} {L : zL} {B : Nat → Nat} {S n N w F T r ja : Nat} (hN : 1 ≤ N ∧ N ≤ 28) (hF : F ≤ 2) (hT : T < 6) {nm : Nat → List Nat} {fd : Nat → Int32} (hD : DC I3 L d N w F nm fd) (hR : RD I3 L B S n) (hj : ja ≤ n) (hd9 : I3 d 9 = nI T) (h9 : I3 5 9 = nI ja) (h4 : I3 (d + 4) T = nI r) (o13 : ∀ x y, (x ≠ 5 ∨ y ≠ 9) → (x ≠ d + 4 ∨ y ≠ T) → I3 x y = I x y) : TrC I L B S n d T (trA (KT B S) (vN B S) (fiT B S F nm) N w fd r ja) ((zrun zZ kX4_readTrain (53, [some (.ref 5), some (.ref d), some (.int (nI T))], [], hp I3 L, 0, 0)).map (fun r => (r.1, r.2.1))) := by
  have h0 := hR.1
  unfold trA
  by_cases z : KT B S ja = 5
  · rw [if_pos z]
    obtain ⟨I4, a4, hR4, hj4, k4, o4⟩ := tk_y hR hj h9 z (by omega)
    rcases s_see hR4 hj4 k4 (a := 0) (b := 1439) (by omega) (by omega) with ⟨e, t1, t2⟩ | ⟨t1, t2, t3, t4, t5, t6, t7⟩
    · rw [t1]
      refine ⟨fl I4 e (sT B S (ja + 1)), ?_, fl_L _ _ _ (fun x y p1 p2 => (o4 x y (by omega)).trans (o13 x y (by omega) (by omega)))⟩
      simp (disch := omega) only [e_X4_readTrain_53 hd, e_X4_readTrain_58 hd, e_X4_readTrain_69 hd, e_X4_readTrain_72 hd, q1000000, q0, q1, q2, q3, q4, q5, q6, q7, q8, q9, q10, q11, q12, q13, q14, q15, q16, q18, q19, q20, q21, q22, q23, q24, q25, q26, q27, q28, q29, q30, q31, q32, q38, q44, q45, q48, q57, q58, q59, q60, q63, q64, q97, q122, q126, q127, q128, q255, q256, q300, q580, q600, q1000, a4, show (1439 : Int32) = nI 1439 from rfl, t2, Option.bind_some, Option.toList_some, Option.toList_none, List.cons_append, List.nil_append, Option.map_some, cond_true, cond_false, Bool.not_true, Bool.not_false, Bool.true_and, Bool.and_true, Bool.false_and, Bool.and_false, Bool.true_or, Bool.or_true, Bool.false_or, Bool.or_false, Bool.not_not, decide_true, decide_false, Bool.decide_eq_true, Bool.decide_eq_false, qz_0, qz_1, qz_n, qz_n0, qz_n1, qz_t, qz_f, Nat.reduceAdd, q1000000, q0, q1, q2, q3, q4, q5, q6, q7, q8, q9, q10, q11, q12, q13, q14, q15, q16, q18, q19, q20, q21, q22, q23, q24, q25, q26, q27, q28, q29, q30, q31, q32, q38, q44, q45, q48, q57, q58, q59, q60, q63, q64, q97, q122, q126, q127, q128, q255, q256, q300, q580, q600, q1000, nI_add, q_lt_t, q_lt_f, q_eq_t, q_eq_f, q_clamp, q_in_t, q_in_f]
    · rw [t1]
      show TrC I L B S n d T (trB (KT B S) (vN B S) (fiT B S F nm) N w fd r (vN B S (ja + 1)) (ja + 1 + 1)) _
      obtain ⟨I5, hI5⟩ : ∃ I5, I5 = zup I4 (d + 5) T (nI (vN B S (ja + 1))) := ⟨_, rfl⟩
      have u5 : ∀ x y, (x ≠ d + 5 ∨ y ≠ T) → I5 x y = I4 x y := fun x y p => by rw [hI5]; exact upc p
      have hR5 : RD I5 L B S n := hR4.cg (u5 _ _ (by omega)) (fun b => u5 _ _ (by omega)) (fun b => u5 _ _ (by omega)) (fun _ => rfl)
      obtain ⟨I6, a6, hR6, k6, o6⟩ := tk_s hR5 t5 ((u5 _ _ (by omega)).trans k4)
      have o36 : ∀ x y, (x ≠ 5 ∨ y ≠ 9) → (x ≠ d + 5 ∨ y ≠ T) → I6 x y = I3 x y := fun x y p1 p2 => ((o6 x y p1).trans (u5 x y p2)).trans (o4 x y p1)
      have hD6 : DC I6 L d N w F nm fd := ⟨(o36 _ _ (by omega) (by omega)).trans hD.h6, (o36 _ _ (by omega) (by omega)).trans hD.h8, fun P hP => (o36 _ _ (by omega) (by omega)).trans (hD.pd P hP), hD.nm, fun f hf => (o36 _ _ (by omega) (by omega)).trans (hD.fd f hf)⟩
      have hw := trc_b hd (I := I) (r := r) (m := vN B S (ja + 1)) hN hF hT hD6 hR6 t5 ((o36 _ _ (by omega) (by omega)).trans hd9) k6 ((o36 _ _ (by omega) (by omega)).trans h4) (by rw [o6 _ _ (by omega), hI5, zu_same]) (fun x y p1 p2 p3 => (o36 x y p1 p3).trans (o13 x y p1 p2))
      refine Eq.mp ?_ hw
      congr 1
      symm
      simp (disch := omega) only [e_X4_readTrain_53 hd, e_X4_readTrain_58 hd, e_X4_readTrain_69 hd, q1000000, q0, q1, q2, q3, q4, q5, q6, q7, q8, q9, q10, q11, q12, q13, q14, q15, q16, q18, q19, q20, q21, q22, q23, q24, q25, q26, q27, q28, q29, q30, q31, q32, q38, q44, q45, q48, q57, q58, q59, q60, q63, q64, q97, q122, q126, q127, q128, q255, q256, q300, q580, q600, q1000, a4, show (1439 : Int32) = nI 1439 from rfl, t7, k4, t6, lN_i, ← hI5, a6, Option.bind_some, Option.toList_some, Option.toList_none, List.cons_append, List.nil_append, Option.map_some, cond_true, cond_false, Bool.not_true, Bool.not_false, Bool.true_and, Bool.and_true, Bool.false_and, Bool.and_false, Bool.true_or, Bool.or_true, Bool.false_or, Bool.or_false, Bool.not_not, decide_true, decide_false, Bool.decide_eq_true, Bool.decide_eq_false, qz_0, qz_1, qz_n, qz_n0, qz_n1, qz_t, qz_f, Nat.reduceAdd, q1000000, q0, q1, q2, q3, q4, q5, q6, q7, q8, q9, q10, q11, q12, q13, q14, q15, q16, q18, q19, q20, q21, q22, q23, q24, q25, q26, q27, q28, q29, q30, q31, q32, q38, q44, q45, q48, q57, q58, q59, q60, q63, q64, q97, q122, q126, q127, q128, q255, q256, q300, q580, q600, q1000, nI_add, q_lt_t, q_lt_f, q_eq_t, q_eq_f, q_clamp, q_in_t, q_in_f]
  · rw [if_neg z]
    have ht := s_take_n hR hj h9 z (by omega)
    refine ⟨fl I3 1 (sT B S ja), ?_, fl_L _ _ _ (fun x y p1 p2 => o13 x y (by omega) (by omega))⟩
    simp (disch := omega) only [e_X4_readTrain_53 hd, e_X4_readTrain_58 hd, e_X4_readTrain_72 hd, q1000000, q0, q1, q2, q3, q4, q5, q6, q7, q8, q9, q10, q11, q12, q13, q14, q15, q16, q18, q19, q20, q21, q22, q23, q24, q25, q26, q27, q28, q29, q30, q31, q32, q38, q44, q45, q48, q57, q58, q59, q60, q63, q64, q97, q122, q126, q127, q128, q255, q256, q300, q580, q600, q1000, ht, Option.bind_some, Option.toList_some, Option.toList_none, List.cons_append, List.nil_append, Option.map_some, cond_true, cond_false, Bool.not_true, Bool.not_false, Bool.true_and, Bool.and_true, Bool.false_and, Bool.and_false, Bool.true_or, Bool.or_true, Bool.false_or, Bool.or_false, Bool.not_not, decide_true, decide_false, Bool.decide_eq_true, Bool.decide_eq_false, qz_0, qz_1, qz_n, qz_n0, qz_n1, qz_t, qz_f, Nat.reduceAdd, q1000000, q0, q1, q2, q3, q4, q5, q6, q7, q8, q9, q10, q11, q12, q13, q14, q15, q16, q18, q19, q20, q21, q22, q23, q24, q25, q26, q27, q28, q29, q30, q31, q32, q38, q44, q45, q48, q57, q58, q59, q60, q63, q64, q97, q122, q126, q127, q128, q255, q256, q300, q580, q600, q1000, nI_add, q_lt_t, q_lt_f, q_eq_t, q_eq_f, q_clamp, q_in_t, q_in_f]
theorem s_readTrain {d : Nat} (hd : d = 11 ∨ d = 18) {I : zI} {L : zL} {B : Nat → Nat} {S n N w F T j : Nat} (hN : 1 ≤ N ∧ N ≤ 28) (hF : F ≤ 2) (hT : T ≤ 6) {nm : Nat → List Nat} {fd : Nat → Int32} (hD : DC I L d N w F nm fd) (hR : RD I L B S n) (hj : j < n) (hd9 : I d 9 = nI T) (h9 : I 5 9 = nI j) : TrC I L B S n d T (trR (KT B S) (vN B S) (fiT B S F nm) N w fd T j) (zcall zZ nX4_readTrain [.ref 5, .ref d] (hp I L)) := by
  have h0 := hR.1
  unfold trR
  by_cases zT : T = 6
  · rw [if_pos zT]
    have hf := s_fail hR (show j ≤ n by omega) h9 3
    refine ⟨fl I 3 (sT B S j), ?_, fl_L _ _ _ (fun _ _ _ _ => rfl)⟩
    simp (disch := omega) only [c_X4_readTrain hd, e_X4_readTrain_0 hd, e_X4_readTrain_16 hd, hd9, hf, Option.bind_some, Option.toList_some, Option.toList_none, List.cons_append, List.nil_append, Option.map_some, cond_true, cond_false, Bool.not_true, Bool.not_false, Bool.true_and, Bool.and_true, Bool.false_and, Bool.and_false, Bool.true_or, Bool.or_true, Bool.false_or, Bool.or_false, Bool.not_not, decide_true, decide_false, Bool.decide_eq_true, Bool.decide_eq_false, qz_0, qz_1, qz_n, qz_n0, qz_n1, qz_t, qz_f, Nat.reduceAdd, q1000000, q0, q1, q2, q3, q4, q5, q6, q7, q8, q9, q10, q11, q12, q13, q14, q15, q16, q18, q19, q20, q21, q22, q23, q24, q25, q26, q27, q28, q29, q30, q31, q32, q38, q44, q45, q48, q57, q58, q59, q60, q63, q64, q97, q122, q126, q127, q128, q255, q256, q300, q580, q600, q1000, nI_add, q_lt_t, q_lt_f, q_eq_t, q_eq_f, q_clamp, q_in_t, q_in_f]
  rw [if_neg zT]
  obtain ⟨I1, a1, hR1, k1, o1⟩ := tk_s hR hj h9
  rcases s_see hR1 (show j + 1 ≤ n by omega) k1 (a := 0) (b := 9) (by omega) (by omega) with ⟨e, s1, s2⟩ | ⟨s1, s2, s3, s4, s5, s6, s7⟩
  · rw [s1]
    refine ⟨fl I1 e (sT B S (j + 1)), ?_, fl_L _ _ _ (fun x y p1 p2 => o1 x y (by omega))⟩
    simp (disch := omega) only [c_X4_readTrain hd, e_X4_readTrain_0 hd, e_X4_readTrain_21 hd, e_X4_readTrain_28 hd, hd9, a1, q1000000, q0, q1, q2, q3, q4, q5, q6, q7, q8, q9, q10, q11, q12, q13, q14, q15, q16, q18, q19, q20, q21, q22, q23, q24, q25, q26, q27, q28, q29, q30, q31, q32, q38, q44, q45, q48, q57, q58, q59, q60, q63, q64, q97, q122, q126, q127, q128, q255, q256, q300, q580, q600, q1000, s2, Option.bind_some, Option.toList_some, Option.toList_none, List.cons_append, List.nil_append, Option.map_some, cond_true, cond_false, Bool.not_true, Bool.not_false, Bool.true_and, Bool.and_true, Bool.false_and, Bool.and_false, Bool.true_or, Bool.or_true, Bool.false_or, Bool.or_false, Bool.not_not, decide_true, decide_false, Bool.decide_eq_true, Bool.decide_eq_false, qz_0, qz_1, qz_n, qz_n0, qz_n1, qz_t, qz_f, Nat.reduceAdd, q1000000, q0, q1, q2, q3, q4, q5, q6, q7, q8, q9, q10, q11, q12, q13, q14, q15, q16, q18, q19, q20, q21, q22, q23, q24, q25, q26, q27, q28, q29, q30, q31, q32, q38, q44, q45, q48, q57, q58, q59, q60, q63, q64, q97, q122, q126, q127, q128, q255, q256, q300, q580, q600, q1000, nI_add, q_lt_t, q_lt_f, q_eq_t, q_eq_f, q_clamp, q_in_t, q_in_f]
  rw [s1]
  show TrC I L B S n d T (trA (KT B S) (vN B S) (fiT B S F nm) N w fd (vN B S (j + 1)) (j + 1 + 1)) _
  obtain ⟨I2, hI2⟩ : ∃ I2, I2 = zup I1 (d + 4) T (nI (vN B S (j + 1))) := ⟨_, rfl⟩
  have u2 : ∀ x y, (x ≠ d + 4 ∨ y ≠ T) → I2 x y = I1 x y := fun x y p => by rw [hI2]; exact upc p
  have hR2 : RD I2 L B S n := hR1.cg (u2 _ _ (by omega)) (fun b => u2 _ _ (by omega)) (fun b => u2 _ _ (by omega)) (fun _ => rfl)
  obtain ⟨I3, a3, hR3, k3, o3⟩ := tk_s hR2 s5 ((u2 _ _ (by omega)).trans k1)
  have o13 : ∀ x y, (x ≠ 5 ∨ y ≠ 9) → (x ≠ d + 4 ∨ y ≠ T) → I3 x y = I x y := fun x y p1 p2 => ((o3 x y p1).trans (u2 x y p2)).trans (o1 x y p1)
  have hD3 : DC I3 L d N w F nm fd := ⟨(o13 _ _ (by omega) (by omega)).trans hD.h6, (o13 _ _ (by omega) (by omega)).trans hD.h8, fun P hP => (o13 _ _ (by omega) (by omega)).trans (hD.pd P hP), hD.nm, fun f hf => (o13 _ _ (by omega) (by omega)).trans (hD.fd f hf)⟩
  have hw := trc_a hd (I := I) (r := vN B S (j + 1)) hN hF (by omega) hD3 hR3 s5 ((o13 _ _ (by omega) (by omega)).trans hd9) k3 (by rw [o3 _ _ (by omega), hI2, zu_same]) o13
  refine Eq.mp ?_ hw
  congr 1
  symm
  simp (disch := omega) only [c_X4_readTrain hd, e_X4_readTrain_0 hd, e_X4_readTrain_21 hd, e_X4_readTrain_28 hd, hd9, a1, q1000000, q0, q1, q2, q3, q4, q5, q6, q7, q8, q9, q10, q11, q12, q13, q14, q15, q16, q18, q19, q20, q21, q22, q23, q24, q25, q26, q27, q28, q29, q30, q31, q32, q38, q44, q45, q48, q57, q58, q59, q60, q63, q64, q97, q122, q126, q127, q128, q255, q256, q300, q580, q600, q1000, s7, k1, s6, lN_i, ← hI2, a3, Option.bind_some, Option.toList_some, Option.toList_none, List.cons_append, List.nil_append, Option.map_some, cond_true, cond_false, Bool.not_true, Bool.not_false, Bool.true_and, Bool.and_true, Bool.false_and, Bool.and_false, Bool.true_or, Bool.or_true, Bool.false_or, Bool.or_false, Bool.not_not, decide_true, decide_false, Bool.decide_eq_true, Bool.decide_eq_false, qz_0, qz_1, qz_n, qz_n0, qz_n1, qz_t, qz_f, Nat.reduceAdd, q1000000, q0, q1, q2, q3, q4, q5, q6, q7, q8, q9, q10, q11, q12, q13, q14, q15, q16, q18, q19, q20, q21, q22, q23, q24, q25, q26, q27, q28, q29, q30, q31, q32, q38, q44, q45, q48, q57, q58, q59, q60, q63, q64, q97, q122, q126, q127, q128, q255, q256, q300, q580, q600, q1000, nI_add, q_lt_t, q_lt_f, q_eq_t, q_eq_f, q_clamp, q_in_t, q_in_f]
