/-! the reference solves -/
def crR (F i : Nat) : Nat → Nat → List (Nat × Nat)
  | 0, _ => []
  | r + 1, c => if cnB F i (c / 4, c % 4) = true then (c / 4, c % 4) :: crR F i r (c + 1) else crR F i r (c + 1)
theorem choice_loop {N w F : Nat} {T : Int32} {fd : Nat → Int32} (b : Bool) : ∀ r c (I : zI) (L : zL) (cs : List (Nat × Nat)), c + r = cond b 16 1 → MZ I N w F T fd → RB I L (chG N w F fd T false 0) cs g0 (0, 0) → ∃ I' L', zrun zZ kX10_solves (81, [some (.ref 52), none, some (.int (zbo b)), some (.int (nI c)), none, none], [], hp I L, 0, 0) = some (some (.int (I' 52 26)), hp I' L', 0, 0) ∧ RB I' L' (chG N w F fd T false 0) (cs ++ crR F (inN fd T F) r c) g0 (0, 0) ∧ MZ I' N w F T fd ∧ (∀ x y, x ≠ 57 → x ≠ 60 → x ≠ 61 → (x ≠ 52 ∨ y < 18 ∨ 30 ≤ y) → I' x y = I x y) ∧ (∀ x y, x ≠ 58 → (x ≠ 52 ∨ y ≠ 27) → L' x y = L x y)
  | 0, c, I, L, cs, h, hZ, hR => by
    refine ⟨I, L, ?_, by rw [show crR F (inN fd T F) 0 c = [] from rfl, List.append_nil]; exact hR, hZ, fun _ _ _ _ _ _ => rfl, fun _ _ _ _ => rfl⟩
    cases b
    · obtain rfl : c = 1 := h
      simp (disch := omega) only [e_X10_solves_81, e_X10_solves_92, Option.bind_some, Option.toList_some, Option.toList_none, List.cons_append, List.nil_append, Option.map_some, cond_true, cond_false, Bool.not_true, Bool.not_false, Bool.true_and, Bool.and_true, Bool.false_and, Bool.and_false, Bool.true_or, Bool.or_true, Bool.false_or, Bool.or_false, Bool.not_not, decide_true, decide_false, Bool.decide_eq_true, Bool.decide_eq_false, qz_0, qz_1, qz_n, qz_n0, qz_n1, qz_t, qz_f, Nat.reduceAdd, q1000000, q0, q1, q2, q3, q4, q5, q6, q7, q8, q9, q10, q11, q12, q13, q14, q15, q16, q18, q19, q20, q21, q22, q23, q24, q25, q26, q27, q28, q29, q30, q31, q32, q38, q44, q45, q48, q57, q58, q59, q60, q63, q64, q97, q122, q126, q127, q128, q255, q256, q300, q580, q600, q1000, nI_add, q_lt_t, q_lt_f, q_eq_t, q_eq_f, q_clamp, q_in_t, q_in_f]
    · obtain rfl : c = 16 := h
      simp (disch := omega) only [e_X10_solves_81, e_X10_solves_92, Option.bind_some, Option.toList_some, Option.toList_none, List.cons_append, List.nil_append, Option.map_some, cond_true, cond_false, Bool.not_true, Bool.not_false, Bool.true_and, Bool.and_true, Bool.false_and, Bool.and_false, Bool.true_or, Bool.or_true, Bool.false_or, Bool.or_false, Bool.not_not, decide_true, decide_false, Bool.decide_eq_true, Bool.decide_eq_false, qz_0, qz_1, qz_n, qz_n0, qz_n1, qz_t, qz_f, Nat.reduceAdd, q1000000, q0, q1, q2, q3, q4, q5, q6, q7, q8, q9, q10, q11, q12, q13, q14, q15, q16, q18, q19, q20, q21, q22, q23, q24, q25, q26, q27, q28, q29, q30, q31, q32, q38, q44, q45, q48, q57, q58, q59, q60, q63, q64, q97, q122, q126, q127, q128, q255, q256, q300, q580, q600, q1000, nI_add, q_lt_t, q_lt_f, q_eq_t, q_eq_f, q_clamp, q_in_t, q_in_f]
  | r + 1, c, I, L, cs, h, hZ, hR => by
    have hc16 : c < 16 := by cases b <;> simp only [cond_true, cond_false] at h <;> omega
    have hlt : c < cond b 16 1 := by omega
    have hd : nI c / nI 4 = nI (c / 4) := pk_div (by omega) (by decide) (by decide)
    have hr : c - c / 4 * 4 = c % 4 := by omega
    have hF := hZ.1.2.2
    -- the choice is put
    have hput : zrun zZ kX10_solves (81, [some (.ref 52), none, some (.int (zbo b)), some (.int (nI c)), none, none], [], hp I L, 0, 0) = zrun zZ kX10_solves (112, [some (.ref 52), none, some (.int (zbo b)), some (.int (nI c)), some (.int (nI 0)), none], [], hp (zup (zup I 52 18 (nI (c / 4))) 52 19 (nI (c % 4))) L, 0, 0) := by
      cases b <;> simp only [cond_true, cond_false] at hlt <;> simp (disch := omega) only [e_X10_solves_81, e_X10_solves_92, hd, q_mul, q_sub, hr, Option.bind_some, Option.toList_some, Option.toList_none, List.cons_append, List.nil_append, Option.map_some, cond_true, cond_false, Bool.not_true, Bool.not_false, Bool.true_and, Bool.and_true, Bool.false_and, Bool.and_false, Bool.true_or, Bool.or_true, Bool.false_or, Bool.or_false, Bool.not_not, decide_true, decide_false, Bool.decide_eq_true, Bool.decide_eq_false, qz_0, qz_1, qz_n, qz_n0, qz_n1, qz_t, qz_f, Nat.reduceAdd, q1000000, q0, q1, q2, q3, q4, q5, q6, q7, q8, q9, q10, q11, q12, q13, q14, q15, q16, q18, q19, q20, q21, q22, q23, q24, q25, q26, q27, q28, q29, q30, q31, q32, q38, q44, q45, q48, q57, q58, q59, q60, q63, q64, q97, q122, q126, q127, q128, q255, q256, q300, q580, q600, q1000, nI_add, q_lt_t, q_lt_f, q_eq_t, q_eq_f, q_clamp, q_in_t, q_in_f]
    have cg : ∀ x y, (x ≠ 52 ∨ (y ≠ 18 ∧ y ≠ 19)) → zup (zup I 52 18 (nI (c / 4))) 52 19 (nI (c % 4)) x y = I x y := fun x y p => by
      by_cases z : x = 52
      · rw [zu_at (by omega), zu_at (by omega)]
      · rw [zu_cell z, zu_cell z]
    have hZ1 : MZ (zup (zup I 52 18 (nI (c / 4))) 52 19 (nI (c % 4))) N w F T fd := hZ.cg (fun y => cg _ _ (by omega)) (cg _ _ (by omega)) (fun y => cg _ _ (by omega))
    have e18 : zup (zup I 52 18 (nI (c / 4))) 52 19 (nI (c % 4)) 52 18 = nI (c / 4) := by rw [zu_at (by omega), zu_same]
    have e19 : zup (zup I 52 18 (nI (c / 4))) 52 19 (nI (c % 4)) 52 19 = nI (c % 4) := zu_same _ _ _ _
    have hR1 : RB (zup (zup I 52 18 (nI (c / 4))) 52 19 (nI (c % 4))) L (chG N w F fd T false 0) cs g0 (c / 4, c % 4) := (hR.cg (fun y _ _ => cg _ _ (by omega)) rfl).start _
    have hn1 : nI c + nI 1 = nI (c + 1) := nI_add c 1
    cases hst : cnB F (inN fd T F) (c / 4, c % 4) with
    | true =>
      have hst' := hst
      unfold cnB at hst'
      rw [Bool.and_eq_true, Bool.and_eq_true, decide_eq_true_iff, decide_eq_true_iff] at hst'
      obtain ⟨J, M, m1, m2, m3, m4⟩ := mode_loop (x2 := zbo b) (x3 := nI c) hst'.1.1 hst'.1.2 hst 4 0 _ L (by omega) hZ1 e18 e19 hR1
      rw [mode_sum] at m2
      obtain ⟨I', L', g1, g2, g3, g4, g5⟩ := choice_loop b r (c + 1) J M (cs ++ [(c / 4, c % 4)]) (by omega) (hZ1.cg (fun y => m3 _ _ (by omega) (by omega) (by omega) (by omega)) (m3 _ _ (by omega) (by omega) (by omega) (by omega)) (fun y => m3 _ _ (by omega) (by omega) (by omega) (by omega))) (m2.next _)
      refine ⟨I', L', ?_, ?_, g3, fun x y p1 p2 p3 p4 => ?_, fun x y p1 p2 => ?_⟩
      · rw [hput, m1, e_X10_solves_262, q1, hn1, g1]
      · rw [show crR F (inN fd T F) (r + 1) c = (c / 4, c % 4) :: crR F (inN fd T F) r (c + 1) from if_pos hst]
        rw [List.append_assoc] at g2
        exact g2
      · rw [g4 x y p1 p2 p3 p4, m3 x y p1 p2 p3 (by omega), cg x y (by omega)]
      · rw [g5 x y p1 p2, m4 x y p1 p2]
    | false =>
      obtain ⟨I', L', g1, g2, g3, g4, g5⟩ := choice_loop b r (c + 1) _ L cs (by omega) hZ1 (hR1.start _)
      refine ⟨I', L', ?_, ?_, g3, fun x y p1 p2 p3 p4 => ?_, fun x y p1 p2 => g5 x y p1 p2⟩
      · have hs := s_stand (L := L) hZ1 e18 e19 (by omega) (by omega)
        rw [hst] at hs
        rw [hput, e_X10_solves_112]
        simp (disch := omega) only [e_X10_solves_122, e_X10_solves_262, hs, Option.bind_some, Option.toList_some, Option.toList_none, List.cons_append, List.nil_append, Option.map_some, cond_true, cond_false, Bool.not_true, Bool.not_false, Bool.true_and, Bool.and_true, Bool.false_and, Bool.and_false, Bool.true_or, Bool.or_true, Bool.false_or, Bool.or_false, Bool.not_not, decide_true, decide_false, Bool.decide_eq_true, Bool.decide_eq_false, qz_0, qz_1, qz_n, qz_n0, qz_n1, qz_t, qz_f, Nat.reduceAdd, q1000000, q0, q1, q2, q3, q4, q5, q6, q7, q8, q9, q10, q11, q12, q13, q14, q15, q16, q18, q19, q20, q21, q22, q23, q24, q25, q26, q27, q28, q29, q30, q31, q32, q38, q44, q45, q48, q57, q58, q59, q60, q63, q64, q97, q122, q126, q127, q128, q255, q256, q300, q580, q600, q1000, hn1, q_lt_t]
        exact g1
      · rw [show crR F (inN fd T F) (r + 1) c = crR F (inN fd T F) r (c + 1) from if_neg (by rw [hst]; decide)]
        exact g2
      · rw [g4 x y p1 p2 p3 p4, cg x y (by omega)]
/-- cells in which the reference solves -/
def cSol : Nat → Nat → Bool := fun a b => Nat.beq a 57 || Nat.beq a 60 || Nat.beq a 61 || Nat.beq a 62 || (Nat.beq a 52 && Nat.ble 17 b && Nat.blt b 30)
theorem s_solves {I : zI} {L : zL} {N w F : Nat} {T : Int32} {fd : Nat → Int32} (hb : N ≤ 28 ∧ w < 7 ∧ F ≤ 2) (hm : I 53 0 = nI N ∧ I 53 1 = nI w ∧ I 53 2 = nI F ∧ (∀ f, f < F → I 53 (6 + f) = fd f)) (hT : T ≠ nI 0) (b : Bool) : ∃ I' L', zcall zZ nX10_solves [.ref 52, .int T, .int (zbo b)] (hp I L) = some (some (.int (I' 52 26)), hp I' L') ∧ RB I' L' (chG N w F fd T false 0) (crR F (inN fd T F) (cond b 16 1) 0) g0 (0, 0) ∧ MZ I' N w F T fd ∧ (∀ x y, x ≠ 57 → x ≠ 60 → x ≠ 61 → x ≠ 62 → (x ≠ 52 ∨ y < 17 ∨ 30 ≤ y) → I' x y = I x y) ∧ (∀ x y, x ≠ 58 → (x ≠ 52 ∨ y ≠ 27) → L' x y = L x y) := by
  obtain ⟨J, b1, b2, b3, b4⟩ := s_begins (I := I) (L := L) T
  have cg : ∀ x y, (x ≠ 52 ∨ y < 26 ∨ 30 ≤ y) → zup (zup (zup J 52 26 (nI 1000)) 52 28 (nI 0)) 52 29 (nI 0) x y = J x y := fun x y p => by
    by_cases z : x = 52
    · rw [zu_at (by omega), zu_at (by omega), zu_at (by omega)]
    · rw [zu_cell z, zu_cell z, zu_cell z]
  have e53 : ∀ y, J 53 y = I 53 y := fun y => b4 _ _ (by omega) (by omega)
  have hZ : MZ J N w F T fd := ⟨hb, ⟨(e53 _).trans hm.1, (e53 _).trans hm.2.1, (e53 _).trans hm.2.2.1, fun f hf => (e53 _).trans (hm.2.2.2 f hf)⟩, b3, b2⟩
  have hZ1 : MZ (zup (zup (zup J 52 26 (nI 1000)) 52 28 (nI 0)) 52 29 (nI 0)) N w F T fd := hZ.cg (fun y => cg _ _ (by omega)) (cg _ _ (by omega)) (fun y => cg _ _ (by omega))
  obtain ⟨I', L', g1, g2, g3, g4, g5⟩ := choice_loop b (cond b 16 1) 0 _ (zup L 52 27 (lN 0)) [] (by omega) hZ1 (Or.inl ⟨rfl, by rw [zu_at (by omega), zu_at (by omega), zu_same], zu_same _ _ _ _⟩)
  refine ⟨I', L', ?_, g2, g3, fun x y p1 p2 p3 p4 p5 => ?_, fun x y p1 p2 => ?_⟩
  · have h0 : (T = nI 0) = False := eq_false hT
    simp (disch := omega) only [c_X10_solves, e_X10_solves_0, e_X10_solves_5, b1, h0, Option.bind_some, Option.toList_some, Option.toList_none, List.cons_append, List.nil_append, Option.map_some, cond_true, cond_false, Bool.not_true, Bool.not_false, Bool.true_and, Bool.and_true, Bool.false_and, Bool.and_false, Bool.true_or, Bool.or_true, Bool.false_or, Bool.or_false, Bool.not_not, decide_true, decide_false, Bool.decide_eq_true, Bool.decide_eq_false, qz_0, qz_1, qz_n, qz_n0, qz_n1, qz_t, qz_f, Nat.reduceAdd, q1000000, q0, q1, q2, q3, q4, q5, q6, q7, q8, q9, q10, q11, q12, q13, q14, q15, q16, q18, q19, q20, q21, q22, q23, q24, q25, q26, q27, q28, q29, q30, q31, q32, q38, q44, q45, q48, q57, q58, q59, q60, q63, q64, q97, q122, q126, q127, q128, q255, q256, q300, q580, q600, q1000, nI_add, q_lt_t, q_lt_f, q_eq_t, q_eq_f, q_clamp, q_in_t, q_in_f]
    rw [show (0 : Int64) = lN 0 from rfl, g1]
    rfl
  · rw [g4 x y p1 p2 p3 (by omega), cg x y (by omega), b4 x y p4 (by omega)]
  · rw [g5 x y p1 p2]
    by_cases z : x = 52
    · rw [zu_at (by omega)]
    · rw [zu_cell z]
/-! the two lists of choices give one best -/
theorem two_lists {G : Nat × Nat → GF} {p : Nat × Nat → Bool} {l : List (Nat × Nat)} {k n : Nat} (hM : MW (gsum G (l.filter p)) k n) (hd : ∀ x, x ∈ l → p x = false → ∃ y, y ∈ l.filter p ∧ ∀ e, G x e ≠ 0 → ∃ e', e' < e ∧ G y e' ≠ 0) : MW (gsum G l) k n ∧ l.find? (fun c => decide (G c k ≠ 0)) = (l.filter p).find? (fun c => decide (G c k ≠ 0)) := by
  have hz : ∀ x, x ∈ l → p x = false → ∀ e, e ≤ k → G x e = 0 := fun x hx hp e he => by
    by_cases q : G x e = 0
    · exact q
    · obtain ⟨y, hy, h2⟩ := hd x hx hp
      obtain ⟨e', h3, h4⟩ := h2 e q
      have := gsum_zero (F := G) _ (hM.2.2 e' (by omega)) y hy
      exact absurd this h4
  have hs : ∀ l' : List (Nat × Nat), (∀ x, x ∈ l' → p x = false → ∀ e, e ≤ k → G x e = 0) → (∀ e, e ≤ k → gsum G l' e = gsum G (l'.filter p) e) ∧ l'.find? (fun c => decide (G c k ≠ 0)) = (l'.filter p).find? (fun c => decide (G c k ≠ 0)) := by
    intro l'
    induction l' with
    | nil => exact fun _ => ⟨fun _ _ => rfl, rfl⟩
    | cons a l' ih =>
      intro h
      obtain ⟨i1, i2⟩ := ih (fun x hx => h x (List.mem_cons_of_mem _ hx))
      cases hp : p a with
      | true =>
        rw [List.filter_cons_of_pos hp]
        refine ⟨fun e he => ?_, ?_⟩
        · show G a e + gsum G l' e = G a e + gsum G (l'.filter p) e
          rw [i1 e he]
        · rw [List.find?_cons, List.find?_cons, i2]
      | false =>
        rw [List.filter_cons_of_neg (by rw [hp]; decide)]
        have ha := h a (List.mem_cons_self ..) hp
        refine ⟨fun e he => ?_, ?_⟩
        · show G a e + gsum G l' e = gsum G (l'.filter p) e
          rw [ha e he, Nat.zero_add, i1 e he]
        · rw [List.find?_cons_of_neg (by rw [ha k (Nat.le_refl k)]; decide), i2]
  obtain ⟨s1, s2⟩ := hs l hz
  refine ⟨⟨?_, hM.2.1, fun c hc => ?_⟩, s2⟩
  · rw [s1 k (Nat.le_refl k)]
    exact hM.1
  · rw [s1 c (by omega)]
    exact hM.2.2 c hc
theorem chC_fil : ∀ F, F < 3 → ∀ i, i < 2 ^ F → chC F i = (crR F i 16 0).filter (fun c => decide (c.1 &&& i = 0)) := by decide +kernel
theorem chC_one : ∀ F, F < 3 → ∀ i, i < 2 ^ F → crR F i 1 0 = [(0, 0)] := by decide +kernel
def dropB (F i : Nat) (c : Nat × Nat) : Bool := decide (c.1 &&& i = 0) || ((chC F i).contains (c.1 - (c.1 &&& i), c.2) && decide (pc2 (c.1 - (c.1 &&& i)) < pc2 c.1) && decide (0 < c.1) && ((c.1 - (c.1 &&& i)).testBit 0 == (c.1.testBit 0 && !i.testBit 0)) && ((c.1 - (c.1 &&& i)).testBit 1 == (c.1.testBit 1 && !i.testBit 1)))
theorem ch_dropB : ∀ F, F < 3 → ∀ i, i < 2 ^ F → (crR F i 16 0).all (dropB F i) = true := by decide +kernel
theorem ch_drop (F : Nat) (hF : F < 3) (i : Nat) (hi : i < 2 ^ F) (c : Nat × Nat) (hc : c ∈ crR F i 16 0) (hn : c.1 &&& i ≠ 0) : (c.1 - (c.1 &&& i), c.2) ∈ chC F i ∧ pc2 (c.1 - (c.1 &&& i)) < pc2 c.1 ∧ 0 < c.1 ∧ ∀ f, f < 2 → (c.1 - (c.1 &&& i)).testBit f = (c.1.testBit f && !i.testBit f) := by
  have h := List.all_eq_true.mp (ch_dropB F hF i hi) c hc
  unfold dropB at h
  rw [decide_eq_false hn, Bool.false_or, Bool.and_eq_true, Bool.and_eq_true, Bool.and_eq_true, Bool.and_eq_true] at h
  obtain ⟨⟨⟨⟨h1, h2⟩, h3⟩, h4⟩, h5⟩ := h
  refine ⟨List.contains_iff_mem.mp h1, of_decide_eq_true h2, of_decide_eq_true h3, fun f hf => ?_⟩
  have hf2 : f = 0 ∨ f = 1 := by omega
  rcases hf2 with rfl | rfl
  · exact beq_iff_eq.mp h4
  · exact beq_iff_eq.mp h5
theorem b_fdF (fd : Nat → Int32) (n x : Nat) : ∀ F, bt (fdF fd n F) x = true ↔ ∃ f, f < F ∧ n.testBit f = true ∧ bt (fd f) x = true
  | 0 => by
    constructor
    · intro h
      rw [show bt (fdF fd n 0) x = false from b_0 x] at h
      cases h
    · rintro ⟨f, h, _⟩
      omega
  | F + 1 => by
    have ih := b_fdF fd n x F
    rw [fdF_s]
    cases hb : n.testBit F with
    | false =>
      show bt (fdF fd n F) x = true ↔ _
      rw [ih]
      constructor
      · rintro ⟨f, h1, h2, h3⟩
        exact ⟨f, by omega, h2, h3⟩
      · rintro ⟨f, h1, h2, h3⟩
        have : f ≠ F := fun e => by rw [e, hb] at h2; cases h2
        exact ⟨f, by omega, h2, h3⟩
    | true =>
      show bt (fdF fd n F ||| fd F) x = true ↔ _
      rw [b_or, Bool.or_eq_true, ih]
      constructor
      · rintro (⟨f, h1, h2, h3⟩ | h)
        · exact ⟨f, by omega, h2, h3⟩
        · exact ⟨F, by omega, hb, h⟩
      · rintro ⟨f, h1, h2, h3⟩
        by_cases q : f = F
        · rw [q] at h3
          exact Or.inr h3
        · exact Or.inl ⟨f, by omega, h2, h3⟩
section DPW
variable (N : Nat) (wn : Nat → Bool) (cs cs' : Nat → Nat → Nat → Nat) (fo fm fo' fm' : Nat → Nat → Nat → Bool) (b : Bool)
theorem DOM_W (h0 : ∀ d i P, P ∈ pats → d + i < N → cs' d i P ≤ cs d i P ∧ (fo' d i P = true → fo d i P = true) ∧ (fm' d i P = true → fm d i P = true)) (nm am : Bool) : ∀ n k d, N - d ≤ n → DOM (VV N wn cs' fo' fm' b nm am k d) (VV N wn cs fo fm b nm am k d)
  | n, k, d, h => by
    by_cases hd : d < N
    · match n, h with
      | 0, h => omega
      | n + 1, h =>
        have ih := DOM_W h0 nm am n
        rw [VV_step N wn cs fo fm b hd, VV_step N wn cs' fo' fm' b hd]
        refine DOM_gadd ?_ ?_
        · cases (wn d && !am) with
          | true => exact DOM_g0 _
          | false => exact DOM_gs (Nat.le_refl _) (ih k (d + 1) (by omega))
        · cases (b && decide (k = 0)) with
          | true => exact DOM_g0 _
          | false =>
            refine DOM_gsum _ (fun i hi => DOM_gsum _ (fun P hP => ?_))
            have hi : i < N - d := List.mem_range.mp hi
            obtain ⟨q1, q2, q3⟩ := h0 d i P hP (by omega)
            cases hw : ((fo d i P && !nm) || (fm d i P && !am)) with
            | true => exact DOM_g0 _
            | false =>
              have : ((fo' d i P && !nm) || (fm' d i P && !am)) = false := by
                cases h1 : fo' d i P <;> cases h2 : fm' d i P <;> simp_all
              rw [this]
              exact DOM_gs q1 (ih _ _ (by omega))
    · rw [VV_end N wn cs fo fm b (by omega), VV_end N wn cs' fo' fm' b (by omega)]
      exact DOM_refl _
end DPW
/-- a feast inside the days behind not: without it there is a cheaper way -/
theorem ch_dear {N w F : Nat} {fd : Nat → Int32} {T : Int32} (hF : F ≤ 2) (bl : Bool) (k : Nat) {c : Nat × Nat} (hc : c ∈ crR F (inN fd T F) 16 0) (hi : c.1 &&& inN fd T F ≠ 0) {e : Nat} (he : chG N w F fd T bl k c e ≠ 0) : ∃ e', e' < e ∧ chG N w F fd T bl k (c.1 - (c.1 &&& inN fd T F), c.2) e' ≠ 0 := by
  obtain ⟨-, i2, i3⟩ := inN_ok fd T hF
  obtain ⟨d1, d2, d3, d4⟩ := ch_drop F (by omega) _ i2 c hc hi
  obtain ⟨n, hn⟩ : ∃ n, n = c.1 - (c.1 &&& inN fd T F) := ⟨_, rfl⟩
  rw [← hn] at d1 d2 d4 ⊢
  have hH : ∀ x, (bt (fdF fd n F) x = true → bt (fdF fd c.1 F) x = true) ∧ (bt T x = false → bt (fdF fd c.1 F) x = true → bt (fdF fd n F) x = true) := fun x => by
    rw [b_fdF, b_fdF]
    constructor
    · rintro ⟨f, h1, h2, h3⟩
      rw [d4 f (by omega), Bool.and_eq_true] at h2
      exact ⟨f, h1, h2.1, h3⟩
    · rintro hT ⟨f, h1, h2, h3⟩
      refine ⟨f, h1, ?_, h3⟩
      rw [d4 f (by omega), h2, Bool.true_and]
      cases hb : (inN fd T F).testBit f with
      | false => rfl
      | true =>
        rw [i3 f, decide_eq_true h1, Bool.true_and] at hb
        have hb : (fd f &&& (T ^^^ -nI 1)) = nI 0 := of_decide_eq_true hb
        have := congrArg (fun z => bt z x) hb
        have hx : x < 32 := by
          rcases Nat.lt_or_ge x 32 with q | q
          · exact q
          · rw [b_big q] at h3
            cases h3
        simp only [b_and, h3, b_cpl hx, hT, show bt (nI 0) x = false from b_0 x] at this
        cases this
  have hdom : ∀ m, DOM (VS N w T (fdF fd n F) (waS fd F T c.2) bl k 0 m) (VS N w T (fdF fd c.1 F) (waS fd F T c.2) bl k 0 m) := fun m => by
    refine DOM_W N _ _ _ _ _ _ _ bl (fun d i P hP hd => ?_) _ _ (N - 0) k 0 (Nat.le_refl _)
    have ho : ∀ x, outF w T (fdF fd n F) P x = outF w T (fdF fd c.1 F) P x := fun x => by
      obtain ⟨h1, h2⟩ := hH x
      unfold outF
      cases hT : bt T x with
      | true => rw [Bool.not_true, Bool.and_false, Bool.and_false]
      | false =>
        have : bt (fdF fd n F) x = bt (fdF fd c.1 F) x := by
          cases q1 : bt (fdF fd n F) x with
          | true => exact (h1 q1).symm
          | false =>
            cases q2 : bt (fdF fd c.1 F) x with
            | false => rfl
            | true => rw [h2 hT q2] at q1; cases q1
        rw [this]
    have hm : ∀ x, morF w (fdF fd n F) (waS fd F T c.2) P x = true → morF w (fdF fd c.1 F) (waS fd F T c.2) P x = true := fun x => by
      obtain ⟨h1, h2⟩ := hH x
      unfold morF
      cases bt (waS fd F T c.2) x <;> cases P.testBit ((w + x) % 7) <;> cases q1 : bt (fdF fd n F) x <;> cases q2 : bt (fdF fd c.1 F) x <;> simp_all
    have hoc : ocF w T (fdF fd n F) d i P = ocF w T (fdF fd c.1 F) d i P := cnt_congr _ (fun j _ => ho _)
    have hmc : mcF w (fdF fd n F) (waS fd F T c.2) d i P ≤ mcF w (fdF fd c.1 F) (waS fd F T c.2) d i P := cnt_mono _ (fun j _ => hm _)
    refine ⟨?_, ?_, ?_⟩
    · unfold csF
      omega
    · intro h
      have h := of_decide_eq_true h
      exact decide_eq_true (by omega)
    · intro h
      have h := of_decide_eq_true h
      exact decide_eq_true (by omega)
  rw [← mode_sum] at he
  have hq : ∀ (h : Nat → GF) j, gq h j e ≠ 0 → ∃ m, m < j ∧ h m e ≠ 0 := by
    intro h j
    induction j with
    | zero => exact fun z => absurd rfl z
    | succ j ih =>
      intro z
      have z : gq h j e + h j e ≠ 0 := z
      by_cases z2 : h j e = 0
      · obtain ⟨m, m1, m2⟩ := ih (by omega)
        exact ⟨m, by omega, m2⟩
      · exact ⟨j, by omega, z2⟩
  obtain ⟨m, m1, m2⟩ := hq _ 4 he
  have hblk : ¬ ((0 < c.1 ∧ m.testBit 0 = false) ∨ (0 < c.2 ∧ m.testBit 1 = false)) := fun z => by
    rw [md_no z] at m2
    exact absurd rfl m2
  rw [md_ok hblk] at m2
  obtain ⟨g1, g2⟩ := gs_ne m2
  obtain ⟨e', e1, e2⟩ := hdom m _ g2
  refine ⟨pc2 m + pc2 n + pc2 c.2 + e', by omega, ?_⟩
  rw [← mode_sum]
  have hblk2 : ¬ ((0 < n ∧ m.testBit 0 = false) ∨ (0 < c.2 ∧ m.testBit 1 = false)) := fun z => by
    rcases z with ⟨_, z⟩ | z
    · exact hblk (Or.inl ⟨d3, z⟩)
    · exact hblk (Or.inr z)
  have hne : mdF N w F fd T bl k (n, c.2) m (pc2 m + pc2 n + pc2 c.2 + e') ≠ 0 := by
    rw [md_ok hblk2]
    unfold gs
    rw [if_pos (by show pc2 m + pc2 n + pc2 c.2 ≤ _; omega)]
    show VS N w T (fdF fd n F) (waS fd F T c.2) bl k 0 m (pc2 m + pc2 n + pc2 c.2 + e' - (pc2 m + pc2 n + pc2 c.2)) ≠ 0
    rw [show pc2 m + pc2 n + pc2 c.2 + e' - (pc2 m + pc2 n + pc2 c.2) = e' by omega]
    exact e2
  have hge : ∀ (h : Nat → GF) x j, m < j → h m x ≠ 0 → gq h j x ≠ 0 := by
    intro h x j
    induction j with
    | zero => exact fun z => by omega
    | succ j ih =>
      intro z1 z2
      show gq h j x + h j x ≠ 0
      by_cases z3 : m = j
      · rw [← z3]
        omega
      · have := ih (by omega) z2
        omega
  exact hge _ _ 4 m1 hne
