/-! exceptions and wordings: class -/
def WCl (I : zI) (L : zL) (B : Nat → Nat) (S n : Nat) (r : (Nat × Nat) ⊕ (Nat × Int32)) (x : Option (Option Value × zH)) : Prop := match r with
  | .inl (e, jf) => ∃ J, x = some (some (.int (nI 0)), hp J L) ∧ CFl I J e (sT B S jf)
  | .inr (j', M') => ∃ J, x = some (some (.int (nI 1)), hp J L) ∧ j' ≤ n ∧ J 5 9 = nI j' ∧ J 5 2 = M' ∧ (∀ x y, (x ≠ 5 ∨ (y ≠ 2 ∧ y ≠ 9 ∧ y ≠ 14)) → J x y = I x y)
theorem WCl.cg {I I' : zI} {L : zL} {B : Nat → Nat} {S n : Nat} {r : (Nat × Nat) ⊕ (Nat × Int32)} {x : Option (Option Value × zH)} (h : WCl I' L B S n r x) (hc : ∀ x y, (x ≠ 5 ∨ (y ≠ 2 ∧ y ≠ 9 ∧ y ≠ 14)) → I' x y = I x y) : WCl I L B S n r x := by
  match r, h with
  | .inl (e, jf), ⟨J, h1, h2, h3, h4⟩ => exact ⟨J, h1, h2, h3, fun x y p => (h4 x y p).trans (hc x y (by omega))⟩
  | .inr (j', P'), ⟨J, h1, h2, h3, h4, h5⟩ => exact ⟨J, h1, h2, h3, h4, fun x y p => (h5 x y p).trans (hc x y p)⟩
/-- what the class' reader asks of the desk -/
def DC (I : zI) (L : zL) (d N w F : Nat) (nm : Nat → List Nat) (fd : Nat → Int32) : Prop := I d 6 = nI N ∧ I d 8 = nI F ∧ (∀ P, P < 128 → I (d + 1) P = pds N w P) ∧ NMc L d F nm ∧ ∀ f, f < F → I (d + 3) f = fd f
theorem DC.h6 {I : zI} {L : zL} {d N w F : Nat} {nm : Nat → List Nat} {fd : Nat → Int32} (h : DC I L d N w F nm fd) : I d 6 = nI N := h.1
theorem DC.h8 {I : zI} {L : zL} {d N w F : Nat} {nm : Nat → List Nat} {fd : Nat → Int32} (h : DC I L d N w F nm fd) : I d 8 = nI F := h.2.1
theorem DC.pd {I : zI} {L : zL} {d N w F : Nat} {nm : Nat → List Nat} {fd : Nat → Int32} (h : DC I L d N w F nm fd) : ∀ P, P < 128 → I (d + 1) P = pds N w P := h.2.2.1
theorem DC.nm {I : zI} {L : zL} {d N w F : Nat} {nm : Nat → List Nat} {fd : Nat → Int32} (h : DC I L d N w F nm fd) : NMc L d F nm := h.2.2.2.1
theorem DC.fd {I : zI} {L : zL} {d N w F : Nat} {nm : Nat → List Nat} {fd : Nat → Int32} (h : DC I L d N w F nm fd) : ∀ f, f < F → I (d + 3) f = fd f := h.2.2.2.2
theorem DC.cg {I J : zI} {L : zL} {d N w F : Nat} {nm : Nat → List Nat} {fd : Nat → Int32} (h : DC I L d N w F nm fd) (hd : d = 11 ∨ d = 18) (hc : ∀ x y, x ≠ 5 → J x y = I x y) : DC J L d N w F nm fd := ⟨(hc _ _ (by omega)).trans h.h6, (hc _ _ (by omega)).trans h.h8, fun P hP => (hc _ _ (by omega)).trans (h.pd P hP), h.nm, fun f hf => (hc _ _ (by omega)).trans (h.fd f hf)⟩
theorem ex_al {d : Nat} (hd : d = 11 ∨ d = 18) {I : zI} {L : zL} {B : Nat → Nat} {S n N w F j : Nat} (hN : 1 ≤ N ∧ N ≤ 28) (hF : F ≤ 2) {nm : Nat → List Nat} {fd : Nat → Int32} (hD : DC I L d N w F nm fd) (hR : RD I L B S n) (hj : j ≤ n) (h9 : I 5 9 = nI j) {M : Int32} (h2 : I 5 2 = M) : WCl I L B S n (alR (KT B S) (vN B S) (fiT B S F nm) N fd j M) ((zrun zZ kX4_readExceptions (43, [some (.ref 5), some (.ref d)], [], hp I L, 0, 0)).map (fun r => (r.1, r.2.1))) := by
  have h0 := hR.1
  have e6 := hR.k hj
  have hk := KT_le B S j
  unfold alR
  by_cases z : KT B S j = 11
  · rw [if_pos z]
    rw [z] at e6
    have hjn := hR.lt hj (by omega)
    have hst := s_step hR hjn h9
    obtain ⟨I2, hI2⟩ : ∃ I2, I2 = zup I 5 9 (nI (j + 1)) := ⟨_, rfl⟩
    rw [← hI2] at hst
    have o2 : ∀ x y, (x ≠ 5 ∨ y ≠ 9) → I2 x y = I x y := fun x y p => by
      rw [hI2]
      by_cases u : x = 5
      · rw [zu_at (by omega)]
      · rw [zu_cell u]
    have hR2 : RD I2 L B S n := hR.cg (o2 _ _ (by omega)) (fun b => o2 _ _ (by omega)) (fun b => o2 _ _ (by omega)) (fun _ => rfl)
    have hD2 := hD.cg hd (fun x y p => o2 x y (by omega))
    have he := s_readEntries hd hN hF hD2.nm (fd := fd) hR2 (show j + 1 ≤ n by omega) hD2.h6 hD2.h8 hD2.fd (by rw [hI2, zu_same])
    match her : enF' (KT B S) (vN B S) (fiT B S F nm) N fd 31 (j + 1) 0 (nI 0) (nI 0) false, he with
    | .inl (e, jf), ⟨J, x1, x2, x3, x4⟩ =>
      refine ⟨J, ?_, x2, x3, fun x y p => (x4 x y p).trans (o2 x y (by omega))⟩
      simp (disch := omega) only [e_X4_readExceptions_43 hd, e_X4_readExceptions_61 hd, e_X4_readExceptions_66 hd, h9, e6, hst, x1, Option.bind_some, Option.toList_some, Option.toList_none, List.cons_append, List.nil_append, Option.map_some, cond_true, cond_false, Bool.not_true, Bool.not_false, Bool.true_and, Bool.and_true, Bool.false_and, Bool.and_false, Bool.true_or, Bool.or_true, Bool.false_or, Bool.or_false, Bool.not_not, decide_true, decide_false, Bool.decide_eq_true, Bool.decide_eq_false, qz_0, qz_1, qz_n, qz_n0, qz_n1, qz_t, qz_f, Nat.reduceAdd, q1000000, q0, q1, q2, q3, q4, q5, q6, q7, q8, q9, q10, q11, q12, q13, q14, q15, q16, q18, q19, q20, q21, q22, q23, q24, q25, q26, q27, q28, q29, q30, q31, q32, q38, q44, q45, q48, q57, q58, q59, q60, q63, q64, q97, q122, q126, q127, q128, q255, q256, q300, q580, q600, q1000, nI_add, q_lt_t, q_lt_f, q_eq_t, q_eq_f, q_clamp, q_in_t, q_in_f]
    | .inr (j', R), ⟨J, x1, x2, x3, x4, x5⟩ =>
      refine ⟨zup J 5 2 (M ||| R), ?_, x2, ?_, zu_same _ _ _ _, fun x y p => ?_⟩
      · have j2 : J 5 2 = M := ((x5 _ _ (by omega)).trans (o2 _ _ (by omega))).trans h2
        simp (disch := omega) only [e_X4_readExceptions_43 hd, e_X4_readExceptions_61 hd, e_X4_readExceptions_66 hd, e_X4_readExceptions_84 hd, h9, e6, hst, x1, j2, x4, Option.bind_some, Option.toList_some, Option.toList_none, List.cons_append, List.nil_append, Option.map_some, cond_true, cond_false, Bool.not_true, Bool.not_false, Bool.true_and, Bool.and_true, Bool.false_and, Bool.and_false, Bool.true_or, Bool.or_true, Bool.false_or, Bool.or_false, Bool.not_not, decide_true, decide_false, Bool.decide_eq_true, Bool.decide_eq_false, qz_0, qz_1, qz_n, qz_n0, qz_n1, qz_t, qz_f, Nat.reduceAdd, q1000000, q0, q1, q2, q3, q4, q5, q6, q7, q8, q9, q10, q11, q12, q13, q14, q15, q16, q18, q19, q20, q21, q22, q23, q24, q25, q26, q27, q28, q29, q30, q31, q32, q38, q44, q45, q48, q57, q58, q59, q60, q63, q64, q97, q122, q126, q127, q128, q255, q256, q300, q580, q600, q1000, nI_add, q_lt_t, q_lt_f, q_eq_t, q_eq_f, q_clamp, q_in_t, q_in_f]
      · rw [zu_at (by omega)]
        exact x3
      · have e1 : zup J 5 2 (M ||| R) x y = J x y := by
          by_cases u : x = 5
          · rw [zu_at (by omega)]
          · rw [zu_cell u]
        rw [e1]
        exact (x5 x y (by omega)).trans (o2 x y (by omega))
  · rw [if_neg z]
    refine ⟨I, ?_, hj, h9, h2, fun _ _ _ => rfl⟩
    simp (disch := omega) only [e_X4_readExceptions_43 hd, e_X4_readExceptions_84 hd, h9, e6, Option.bind_some, Option.toList_some, Option.toList_none, List.cons_append, List.nil_append, Option.map_some, cond_true, cond_false, Bool.not_true, Bool.not_false, Bool.true_and, Bool.and_true, Bool.false_and, Bool.and_false, Bool.true_or, Bool.or_true, Bool.false_or, Bool.or_false, Bool.not_not, decide_true, decide_false, Bool.decide_eq_true, Bool.decide_eq_false, qz_0, qz_1, qz_n, qz_n0, qz_n1, qz_t, qz_f, Nat.reduceAdd, q1000000, q0, q1, q2, q3, q4, q5, q6, q7, q8, q9, q10, q11, q12, q13, q14, q15, q16, q18, q19, q20, q21, q22, q23, q24, q25, q26, q27, q28, q29, q30, q31, q32, q38, q44, q45, q48, q57, q58, q59, q60, q63, q64, q97, q122, q126, q127, q128, q255, q256, q300, q580, q600, q1000, nI_add, q_lt_t, q_lt_f, q_eq_t, q_eq_f, q_clamp, q_in_t, q_in_f]
theorem s_readExceptions {d : Nat} (hd : d = 11 ∨ d = 18) {I : zI} {L : zL} {B : Nat → Nat} {S n N w F j : Nat} (hN : 1 ≤ N ∧ N ≤ 28) (hF : F ≤ 2) {nm : Nat → List Nat} {fd : Nat → Int32} (hD : DC I L d N w F nm fd) (hR : RD I L B S n) (hj : j ≤ n) (h9 : I 5 9 = nI j) {M : Int32} (h2 : I 5 2 = M) : WCl I L B S n (exR (KT B S) (vN B S) (fiT B S F nm) N fd j M) (zcall zZ nX4_readExceptions [.ref 5, .ref d] (hp I L)) := by
  have h0 := hR.1
  have e6 := hR.k hj
  have hk := KT_le B S j
  unfold exR noR
  by_cases z : KT B S j = 10
  · rw [if_pos z]
    rw [z] at e6
    have hjn := hR.lt hj (by omega)
    have hst := s_step hR hjn h9
    obtain ⟨I2, hI2⟩ : ∃ I2, I2 = zup I 5 9 (nI (j + 1)) := ⟨_, rfl⟩
    rw [← hI2] at hst
    have o2 : ∀ x y, (x ≠ 5 ∨ y ≠ 9) → I2 x y = I x y := fun x y p => by
      rw [hI2]
      by_cases u : x = 5
      · rw [zu_at (by omega)]
      · rw [zu_cell u]
    have hR2 : RD I2 L B S n := hR.cg (o2 _ _ (by omega)) (fun b => o2 _ _ (by omega)) (fun b => o2 _ _ (by omega)) (fun _ => rfl)
    have hD2 := hD.cg hd (fun x y p => o2 x y (by omega))
    have he := s_readEntries hd hN hF hD2.nm (fd := fd) hR2 (show j + 1 ≤ n by omega) hD2.h6 hD2.h8 hD2.fd (by rw [hI2, zu_same])
    match her : enF' (KT B S) (vN B S) (fiT B S F nm) N fd 31 (j + 1) 0 (nI 0) (nI 0) false, he with
    | .inl (e, jf), ⟨J, x1, x2, x3, x4⟩ =>
      refine ⟨J, ?_, x2, x3, fun x y p => (x4 x y p).trans (o2 x y (by omega))⟩
      simp (disch := omega) only [c_X4_readExceptions hd, e_X4_readExceptions_0 hd, e_X4_readExceptions_18 hd, e_X4_readExceptions_23 hd, h9, e6, hst, x1, Option.bind_some, Option.toList_some, Option.toList_none, List.cons_append, List.nil_append, Option.map_some, cond_true, cond_false, Bool.not_true, Bool.not_false, Bool.true_and, Bool.and_true, Bool.false_and, Bool.and_false, Bool.true_or, Bool.or_true, Bool.false_or, Bool.or_false, Bool.not_not, decide_true, decide_false, Bool.decide_eq_true, Bool.decide_eq_false, qz_0, qz_1, qz_n, qz_n0, qz_n1, qz_t, qz_f, Nat.reduceAdd, q1000000, q0, q1, q2, q3, q4, q5, q6, q7, q8, q9, q10, q11, q12, q13, q14, q15, q16, q18, q19, q20, q21, q22, q23, q24, q25, q26, q27, q28, q29, q30, q31, q32, q38, q44, q45, q48, q57, q58, q59, q60, q63, q64, q97, q122, q126, q127, q128, q255, q256, q300, q580, q600, q1000, nI_add, q_lt_t, q_lt_f, q_eq_t, q_eq_f, q_clamp, q_in_t, q_in_f]
    | .inr (j', R), ⟨J, x1, x2, x3, x4, x5⟩ =>
      obtain ⟨J2, hJ2⟩ : ∃ J2, J2 = zup J 5 2 (M &&& (R ^^^ -nI 1)) := ⟨_, rfl⟩
      have o3 : ∀ x y, (x ≠ 5 ∨ y ≠ 2) → J2 x y = J x y := fun x y p => by
        rw [hJ2]
        by_cases u : x = 5
        · rw [zu_at (by omega)]
        · rw [zu_cell u]
      have o4 : ∀ x y, (x ≠ 5 ∨ (y ≠ 2 ∧ y ≠ 9 ∧ y ≠ 14)) → J2 x y = I x y := fun x y p => ((o3 x y (by omega)).trans (x5 x y (by omega))).trans (o2 x y (by omega))
      have ha := ex_al hd hN hF (hD.cg hd (J := J2) (fun x y p => o4 x y (by omega))) (hR.cg (J := J2) (o4 _ _ (by omega)) (fun b => o4 _ _ (by omega)) (fun b => o4 _ _ (by omega)) (fun _ => rfl)) x2 ((o3 _ _ (by omega)).trans x3) (M := M &&& (R ^^^ -nI 1)) (by rw [hJ2, zu_same])
      have ha := ha.cg (I := I) o4
      have j2 : J 5 2 = M := ((x5 _ _ (by omega)).trans (o2 _ _ (by omega))).trans h2
      refine Eq.mp ?_ ha
      congr 1
      symm
      simp (disch := omega) only [c_X4_readExceptions hd, e_X4_readExceptions_0 hd, e_X4_readExceptions_18 hd, e_X4_readExceptions_23 hd, h9, e6, hst, x1, j2, x4, ← hJ2, Option.bind_some, Option.toList_some, Option.toList_none, List.cons_append, List.nil_append, Option.map_some, cond_true, cond_false, Bool.not_true, Bool.not_false, Bool.true_and, Bool.and_true, Bool.false_and, Bool.and_false, Bool.true_or, Bool.or_true, Bool.false_or, Bool.or_false, Bool.not_not, decide_true, decide_false, Bool.decide_eq_true, Bool.decide_eq_false, qz_0, qz_1, qz_n, qz_n0, qz_n1, qz_t, qz_f, Nat.reduceAdd, q1000000, q0, q1, q2, q3, q4, q5, q6, q7, q8, q9, q10, q11, q12, q13, q14, q15, q16, q18, q19, q20, q21, q22, q23, q24, q25, q26, q27, q28, q29, q30, q31, q32, q38, q44, q45, q48, q57, q58, q59, q60, q63, q64, q97, q122, q126, q127, q128, q255, q256, q300, q580, q600, q1000, nI_add, q_lt_t, q_lt_f, q_eq_t, q_eq_f, q_clamp, q_in_t, q_in_f]
  · rw [if_neg z]
    have ha := ex_al hd hN hF hD hR hj h9 h2
    refine Eq.mp ?_ ha
    congr 1
    symm
    simp (disch := omega) only [c_X4_readExceptions hd, e_X4_readExceptions_0 hd, h9, e6, Option.bind_some, Option.toList_some, Option.toList_none, List.cons_append, List.nil_append, Option.map_some, cond_true, cond_false, Bool.not_true, Bool.not_false, Bool.true_and, Bool.and_true, Bool.false_and, Bool.and_false, Bool.true_or, Bool.or_true, Bool.false_or, Bool.or_false, Bool.not_not, decide_true, decide_false, Bool.decide_eq_true, Bool.decide_eq_false, qz_0, qz_1, qz_n, qz_n0, qz_n1, qz_t, qz_f, Nat.reduceAdd, q1000000, q0, q1, q2, q3, q4, q5, q6, q7, q8, q9, q10, q11, q12, q13, q14, q15, q16, q18, q19, q20, q21, q22, q23, q24, q25, q26, q27, q28, q29, q30, q31, q32, q38, q44, q45, q48, q57, q58, q59, q60, q63, q64, q97, q122, q126, q127, q128, q255, q256, q300, q580, q600, q1000, nI_add, q_lt_t, q_lt_f, q_eq_t, q_eq_f, q_clamp, q_in_t, q_in_f]
/-- a wording, class -/
def WoC (I : zI) (L : zL) (B : Nat → Nat) (S n j : Nat) (r : (Nat × Nat) ⊕ (Nat × Int32)) (x : Option (Option Value × zH)) : Prop := match r with
  | .inl (e, jf) => ∃ J, x = some (some (.int (nI 0)), hp J L) ∧ CFl I J e (sT B S jf)
  | .inr (j', M') => ∃ J, x = some (some (.int (nI 1)), hp J L) ∧ j < j' ∧ j' ≤ n ∧ J 5 9 = nI j' ∧ J 5 2 = M' ∧ J 5 3 = nI (j' - j) ∧ (∀ x y, (x ≠ 5 ∨ (y ≠ 2 ∧ y ≠ 3 ∧ (y < 9 ∨ 14 < y))) → J x y = I x y)
theorem s_readWording {d : Nat} (hd : d = 11 ∨ d = 18) {I : zI} {L : zL} {B : Nat → Nat} {S n N w F j : Nat} (hN : 1 ≤ N ∧ N ≤ 28) (hF : F ≤ 2) {nm : Nat → List Nat} {fd : Nat → Int32} (hD : DC I L d N w F nm fd) (hR : RD I L B S n) (hj : j ≤ n) (h9 : I 5 9 = nI j) : WoC I L B S n j (woR (KT B S) (vN B S) (fiT B S F nm) N w fd j) (zcall zZ nX4_readWording [.ref 5, .ref d] (hp I L)) := by
  have h0 := hR.1
  have e6 := hR.k hj
  have hk := KT_le B S j
  obtain ⟨I1, hI1⟩ : ∃ I1, I1 = zup I 5 2 (nI 0) := ⟨_, rfl⟩
  have o1 : ∀ x y, (x ≠ 5 ∨ y ≠ 2) → I1 x y = I x y := fun x y p => by
    rw [hI1]
    by_cases u : x = 5
    · rw [zu_at (by omega)]
    · rw [zu_cell u]
  have hR1 : RD I1 L B S n := hR.cg (o1 _ _ (by omega)) (fun b => o1 _ _ (by omega)) (fun b => o1 _ _ (by omega)) (fun _ => rfl)
  have k9 : I1 5 9 = nI j := (o1 _ _ (by omega)).trans h9
  have k2 : I1 5 2 = nI 0 := by rw [hI1, zu_same]
  have hD1 := hD.cg hd (fun x y p => o1 x y (by omega))
  unfold woR
  by_cases z : KT B S j = 6
  · rw [if_pos z]
    rw [z] at e6
    have hjn := hR.lt hj (by omega)
    have hst := s_step hR1 hjn k9
    have hs1 : nI (j + 1) - nI j = nI (j + 1 - j) := q_sub (by omega)
    refine ⟨zup (zup I1 5 9 (nI (j + 1))) 5 3 (nI (j + 1 - j)), ?_, by omega, by omega, ?_, ?_, zu_same _ _ _ _, fun x y p => ?_⟩
    · simp (disch := omega) only [c_X4_readWording hd, e_X4_readWording_0 hd, e_X4_readWording_28 hd, e_X4_readWording_63 hd, h9, e6, q1000000, q0, q1, q2, q3, q4, q5, q6, q7, q8, q9, q10, q11, q12, q13, q14, q15, q16, q18, q19, q20, q21, q22, q23, q24, q25, q26, q27, q28, q29, q30, q31, q32, q38, q44, q45, q48, q57, q58, q59, q60, q63, q64, q97, q122, q126, q127, q128, q255, q256, q300, q580, q600, q1000, ← hI1, hst, zu_same, hs1, Option.bind_some, Option.toList_some, Option.toList_none, List.cons_append, List.nil_append, Option.map_some, cond_true, cond_false, Bool.not_true, Bool.not_false, Bool.true_and, Bool.and_true, Bool.false_and, Bool.and_false, Bool.true_or, Bool.or_true, Bool.false_or, Bool.or_false, Bool.not_not, decide_true, decide_false, Bool.decide_eq_true, Bool.decide_eq_false, qz_0, qz_1, qz_n, qz_n0, qz_n1, qz_t, qz_f, Nat.reduceAdd, q1000000, q0, q1, q2, q3, q4, q5, q6, q7, q8, q9, q10, q11, q12, q13, q14, q15, q16, q18, q19, q20, q21, q22, q23, q24, q25, q26, q27, q28, q29, q30, q31, q32, q38, q44, q45, q48, q57, q58, q59, q60, q63, q64, q97, q122, q126, q127, q128, q255, q256, q300, q580, q600, q1000, nI_add, q_lt_t, q_lt_f, q_eq_t, q_eq_f, q_clamp, q_in_t, q_in_f]
    · rw [zu_at (by omega), zu_same]
    · rw [zu_at (by omega), zu_at (by omega)]
      exact k2
    · refine Eq.trans ?_ (o1 x y (by omega))
      by_cases u : x = 5
      · rw [zu_at (by omega), zu_at (by omega)]
      · rw [zu_cell u, zu_cell u]
  · rw [if_neg z]
    have hs := s_readSpans hd hN hR1 hj hD1.h6 hD1.pd k9 k2
    -- the two ends
    have fin : ∀ (j1 j' : Nat) (M1 M' : Int32) (J J2 : zI), zcall zZ nX4_readSpans [.ref 5, .ref d] (hp I1 L) = some (some (.int (nI 1)), hp J L) → zcall zZ nX4_readExceptions [.ref 5, .ref d] (hp J L) = some (some (.int (nI 1)), hp J2 L) → j < j' → j' ≤ n → J2 5 9 = nI j' → J2 5 2 = M' → (∀ x y, (x ≠ 5 ∨ (y ≠ 2 ∧ y ≠ 3 ∧ (y < 9 ∨ 14 < y))) → J2 x y = I x y) → WoC I L B S n j (.inr (j', M')) (zcall zZ nX4_readWording [.ref 5, .ref d] (hp I L)) := fun j1 j' M1 M' J J2 a1 a2 a3 a4 a5 a6 a7 => by
      have hs1 : nI j' - nI j = nI (j' - j) := q_sub (by omega)
      refine ⟨zup J2 5 3 (nI (j' - j)), ?_, a3, a4, ?_, ?_, zu_same _ _ _ _, fun x y p => ?_⟩
      · simp (disch := omega) only [c_X4_readWording hd, e_X4_readWording_0 hd, e_X4_readWording_36 hd, e_X4_readWording_44 hd, e_X4_readWording_63 hd, h9, e6, q1000000, q0, q1, q2, q3, q4, q5, q6, q7, q8, q9, q10, q11, q12, q13, q14, q15, q16, q18, q19, q20, q21, q22, q23, q24, q25, q26, q27, q28, q29, q30, q31, q32, q38, q44, q45, q48, q57, q58, q59, q60, q63, q64, q97, q122, q126, q127, q128, q255, q256, q300, q580, q600, q1000, ← hI1, a1, a2, a5, hs1, Option.bind_some, Option.toList_some, Option.toList_none, List.cons_append, List.nil_append, Option.map_some, cond_true, cond_false, Bool.not_true, Bool.not_false, Bool.true_and, Bool.and_true, Bool.false_and, Bool.and_false, Bool.true_or, Bool.or_true, Bool.false_or, Bool.or_false, Bool.not_not, decide_true, decide_false, Bool.decide_eq_true, Bool.decide_eq_false, qz_0, qz_1, qz_n, qz_n0, qz_n1, qz_t, qz_f, Nat.reduceAdd, q1000000, q0, q1, q2, q3, q4, q5, q6, q7, q8, q9, q10, q11, q12, q13, q14, q15, q16, q18, q19, q20, q21, q22, q23, q24, q25, q26, q27, q28, q29, q30, q31, q32, q38, q44, q45, q48, q57, q58, q59, q60, q63, q64, q97, q122, q126, q127, q128, q255, q256, q300, q580, q600, q1000, nI_add, q_lt_t, q_lt_f, q_eq_t, q_eq_f, q_clamp, q_in_t, q_in_f]
      · rw [zu_at (by omega)]
        exact a5
      · rw [zu_at (by omega)]
        exact a6
      · refine Eq.trans ?_ (a7 x y (by omega))
        by_cases u : x = 5
        · rw [zu_at (by omega)]
        · rw [zu_cell u]
    by_cases y : woB (KT B S) j = true
    · rw [if_pos y]
      match hsr : spF (KT B S) (vN B S) N w (N + 1) j 0 true (nI 0), hs with
      | .inl (e, jf), ⟨J, x1, x2, x3, x4⟩ =>
        refine ⟨J, ?_, x2, x3, fun x y p => (x4 x y p).trans (o1 x y (by omega))⟩
        simp (disch := omega) only [c_X4_readWording hd, e_X4_readWording_0 hd, e_X4_readWording_36 hd, e_X4_readWording_47 hd, h9, e6, q1000000, q0, q1, q2, q3, q4, q5, q6, q7, q8, q9, q10, q11, q12, q13, q14, q15, q16, q18, q19, q20, q21, q22, q23, q24, q25, q26, q27, q28, q29, q30, q31, q32, q38, q44, q45, q48, q57, q58, q59, q60, q63, q64, q97, q122, q126, q127, q128, q255, q256, q300, q580, q600, q1000, ← hI1, x1, Option.bind_some, Option.toList_some, Option.toList_none, List.cons_append, List.nil_append, Option.map_some, cond_true, cond_false, Bool.not_true, Bool.not_false, Bool.true_and, Bool.and_true, Bool.false_and, Bool.and_false, Bool.true_or, Bool.or_true, Bool.false_or, Bool.or_false, Bool.not_not, decide_true, decide_false, Bool.decide_eq_true, Bool.decide_eq_false, qz_0, qz_1, qz_n, qz_n0, qz_n1, qz_t, qz_f, Nat.reduceAdd, q1000000, q0, q1, q2, q3, q4, q5, q6, q7, q8, q9, q10, q11, q12, q13, q14, q15, q16, q18, q19, q20, q21, q22, q23, q24, q25, q26, q27, q28, q29, q30, q31, q32, q38, q44, q45, q48, q57, q58, q59, q60, q63, q64, q97, q122, q126, q127, q128, q255, q256, q300, q580, q600, q1000, nI_add, q_lt_t, q_lt_f, q_eq_t, q_eq_f, q_clamp, q_in_t, q_in_f]
      | .inr (j1, M1), ⟨J, x1, x2, x3, x4, x5⟩ =>
        have o2 : ∀ x y, (x ≠ 5 ∨ (y ≠ 2 ∧ (y < 9 ∨ 13 < y))) → J x y = I x y := fun x y p => (x5 x y p).trans (o1 x y (by omega))
        have hx := s_readExceptions hd hN hF (hD.cg hd (J := J) (fun x y p => o2 x y (by omega))) (hR.cg (J := J) (o2 _ _ (by omega)) (fun b => o2 _ _ (by omega)) (fun b => o2 _ _ (by omega)) (fun _ => rfl)) x2 x3 x4
        show WoC I L B S n j (exR (KT B S) (vN B S) (fiT B S F nm) N fd j1 M1) _
        match hxr : exR (KT B S) (vN B S) (fiT B S F nm) N fd j1 M1, hx with
        | .inl (e, jf), ⟨J2, y1, y2, y3, y4⟩ =>
          refine ⟨J2, ?_, y2, y3, fun x y p => (y4 x y p).trans (o2 x y (by omega))⟩
          simp (disch := omega) only [c_X4_readWording hd, e_X4_readWording_0 hd, e_X4_readWording_36 hd, e_X4_readWording_44 hd, e_X4_readWording_47 hd, h9, e6, q1000000, q0, q1, q2, q3, q4, q5, q6, q7, q8, q9, q10, q11, q12, q13, q14, q15, q16, q18, q19, q20, q21, q22, q23, q24, q25, q26, q27, q28, q29, q30, q31, q32, q38, q44, q45, q48, q57, q58, q59, q60, q63, q64, q97, q122, q126, q127, q128, q255, q256, q300, q580, q600, q1000, ← hI1, x1, y1, Option.bind_some, Option.toList_some, Option.toList_none, List.cons_append, List.nil_append, Option.map_some, cond_true, cond_false, Bool.not_true, Bool.not_false, Bool.true_and, Bool.and_true, Bool.false_and, Bool.and_false, Bool.true_or, Bool.or_true, Bool.false_or, Bool.or_false, Bool.not_not, decide_true, decide_false, Bool.decide_eq_true, Bool.decide_eq_false, qz_0, qz_1, qz_n, qz_n0, qz_n1, qz_t, qz_f, Nat.reduceAdd, q1000000, q0, q1, q2, q3, q4, q5, q6, q7, q8, q9, q10, q11, q12, q13, q14, q15, q16, q18, q19, q20, q21, q22, q23, q24, q25, q26, q27, q28, q29, q30, q31, q32, q38, q44, q45, q48, q57, q58, q59, q60, q63, q64, q97, q122, q126, q127, q128, q255, q256, q300, q580, q600, q1000, nI_add, q_lt_t, q_lt_f, q_eq_t, q_eq_f, q_clamp, q_in_t, q_in_f]
        | .inr (j', M'), ⟨J2, y1, y2, y3, y4, y5⟩ =>
          exact fin j1 j' M1 M' J J2 x1 y1 (woR_gt y hsr hxr) y2 y3 y4 (fun x y p => (y5 x y (by omega)).trans (o2 x y (by omega)))
    · rw [if_neg y]
      unfold woB at y
      rw [Bool.or_eq_true, Bool.or_eq_true (decide (KT B S j = 10)), decide_eq_true_iff, decide_eq_true_iff] at y
      have es : spF (KT B S) (vN B S) N w (N + 1) j 0 true (nI 0) = .inr (j, nI 0) := by
        unfold spF
        rw [if_neg (fun q => y (Or.inl (by rw [Bool.true_and] at q; exact q)))]
      rw [es] at hs
      obtain ⟨J, x1, x2, x3, x4, x5⟩ := hs
      have o2 : ∀ x y, (x ≠ 5 ∨ (y ≠ 2 ∧ (y < 9 ∨ 13 < y))) → J x y = I x y := fun x y p => (x5 x y p).trans (o1 x y (by omega))
      have hRJ : RD J L B S n := hR.cg (J := J) (o2 _ _ (by omega)) (fun b => o2 _ _ (by omega)) (fun b => o2 _ _ (by omega)) (fun _ => rfl)
      have hx := s_readExceptions hd hN hF (hD.cg hd (J := J) (fun x y p => o2 x y (by omega))) hRJ x2 x3 x4
      have ex : exR (KT B S) (vN B S) (fiT B S F nm) N fd j (nI 0) = .inr (j, nI 0) := by
        unfold exR noR alR
        rw [if_neg (fun q => y (Or.inr (Or.inl q)))]
        show (if KT B S j = 11 then _ else _) = _
        rw [if_neg (fun q => y (Or.inr (Or.inr q)))]
      rw [ex] at hx
      obtain ⟨J2, y1, y2, y3, y4, y5⟩ := hx
      have hRJ2 : RD J2 L B S n := hRJ.cg (y5 _ _ (by omega)) (fun b => y5 _ _ (by omega)) (fun b => y5 _ _ (by omega)) (fun _ => rfl)
      have hf := s_fail hRJ2 y2 y3 1
      refine ⟨fl J2 1 (sT B S j), ?_, fl_ok _ _ (fun x y p => (y5 x y (by omega)).trans (o2 x y (by omega)))⟩
      simp (disch := omega) only [c_X4_readWording hd, e_X4_readWording_0 hd, e_X4_readWording_36 hd, e_X4_readWording_44 hd, e_X4_readWording_62 hd, h9, e6, q1000000, q0, q1, q2, q3, q4, q5, q6, q7, q8, q9, q10, q11, q12, q13, q14, q15, q16, q18, q19, q20, q21, q22, q23, q24, q25, q26, q27, q28, q29, q30, q31, q32, q38, q44, q45, q48, q57, q58, q59, q60, q63, q64, q97, q122, q126, q127, q128, q255, q256, q300, q580, q600, q1000, ← hI1, x1, y1, y3, hf, Option.bind_some, Option.toList_some, Option.toList_none, List.cons_append, List.nil_append, Option.map_some, cond_true, cond_false, Bool.not_true, Bool.not_false, Bool.true_and, Bool.and_true, Bool.false_and, Bool.and_false, Bool.true_or, Bool.or_true, Bool.false_or, Bool.or_false, Bool.not_not, decide_true, decide_false, Bool.decide_eq_true, Bool.decide_eq_false, qz_0, qz_1, qz_n, qz_n0, qz_n1, qz_t, qz_f, Nat.reduceAdd, q1000000, q0, q1, q2, q3, q4, q5, q6, q7, q8, q9, q10, q11, q12, q13, q14, q15, q16, q18, q19, q20, q21, q22, q23, q24, q25, q26, q27, q28, q29, q30, q31, q32, q38, q44, q45, q48, q57, q58, q59, q60, q63, q64, q97, q122, q126, q127, q128, q255, q256, q300, q580, q600, q1000, nI_add, q_lt_t, q_lt_f, q_eq_t, q_eq_f, q_clamp, q_in_t, q_in_f]
