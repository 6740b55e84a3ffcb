/-! the reference: patterns' costs, choices -/
def prR (P : Nat) : Nat → Nat
  | 0 => 0
  | w + 1 => if w < 7 ∧ P.testBit w = true then prR P w + 1 else 0
def prC (P : Nat) : Nat → Nat
  | 0 => 0
  | w + 1 => prC P w + (if 0 < prR P (w + 1) ∧ prR P (w + 1) < 4 then 1 else 0)
theorem prC_ok : ∀ P, P < 128 → P ≠ 127 → prC P 8 = pT P := by decide +kernel
theorem prR_le (P : Nat) : ∀ w, prR P w ≤ w
  | 0 => Nat.le_refl 0
  | w + 1 => by
    have := prR_le P w
    unfold prR
    split <;> omega
theorem prC_le (P : Nat) : ∀ w, prC P w ≤ w
  | 0 => Nat.le_refl 0
  | w + 1 => by
    have := prC_le P w
    unfold prC
    split <;> omega
theorem prR_s (P w : Nat) : prR P (w + 1) = if w < 7 ∧ P.testBit w = true then prR P w + 1 else 0 := rfl
theorem prC_s (P w : Nat) : prC P (w + 1) = prC P w + (if 0 < prR P (w + 1) ∧ prR P (w + 1) < 4 then 1 else 0) := rfl
theorem pcost_loop (h : zH) {P : Nat} (hP : P < 128) : ∀ r w x, w + r = 8 → (w < 8 → x = nI (prR P w)) → zrun zZ kX10_patternCost (14, [some (.int (nI P)), some (.int (nI (prC P w))), some (.int x), some (.int (nI w))], [], h, 0, 0) = some (some (.int (nI (prC P 8))), h, 0, 0)
  | 0, w, x, hw, hx => by
    obtain rfl : w = 8 := hw
    rw [e_X10_patternCost_14]
    simp (disch := omega) only [Option.bind_some, Option.toList_some, Option.toList_none, List.cons_append, List.nil_append, Option.map_some, cond_true, cond_false, Bool.not_true, Bool.not_false, Bool.true_and, Bool.and_true, Bool.false_and, Bool.and_false, Bool.true_or, Bool.or_true, Bool.false_or, Bool.or_false, Bool.not_not, decide_true, decide_false, Bool.decide_eq_true, Bool.decide_eq_false, qz_0, qz_1, qz_n, qz_n0, qz_n1, qz_t, qz_f, Nat.reduceAdd, q1000000, q0, q1, q2, q3, q4, q5, q6, q7, q8, q9, q10, q11, q12, q13, q14, q15, q16, q18, q19, q20, q21, q22, q23, q24, q25, q26, q27, q28, q29, q30, q31, q32, q38, q44, q45, q48, q57, q58, q59, q60, q63, q64, q97, q122, q126, q127, q128, q255, q256, q300, q580, q600, q1000, nI_add, q_lt_t, q_lt_f, q_eq_t, q_eq_f, q_clamp, q_in_t, q_in_f]
  | r + 1, w, x, hw, hx => by
    have hx := hx (by omega)
    subst hx
    have ih := pcost_loop h hP r (w + 1) (nI (prR P (w + 1))) (by omega) (fun _ => rfl)
    have l1 := prR_le P w
    have l2 := prC_le P w
    have eb : bt (nI P) w = P.testBit w := bt_nI (by omega) w
    rw [prC_s] at ih
    rw [e_X10_patternCost_14]
    by_cases q : w < 7
    · cases hb : P.testBit w with
      | true =>
        rw [hb] at eb
        have er : prR P (w + 1) = prR P w + 1 := if_pos ⟨q, hb⟩
        rw [er] at ih
        by_cases z : prR P w + 1 < 4
        · rw [if_pos ⟨by omega, z⟩] at ih
          simp (disch := omega) only [e_X10_patternCost_31, e_X10_patternCost_41, e_X10_patternCost_57, s_has', eb, Option.bind_some, Option.toList_some, Option.toList_none, List.cons_append, List.nil_append, Option.map_some, cond_true, cond_false, Bool.not_true, Bool.not_false, Bool.true_and, Bool.and_true, Bool.false_and, Bool.and_false, Bool.true_or, Bool.or_true, Bool.false_or, Bool.or_false, Bool.not_not, decide_true, decide_false, Bool.decide_eq_true, Bool.decide_eq_false, qz_0, qz_1, qz_n, qz_n0, qz_n1, qz_t, qz_f, Nat.reduceAdd, q1000000, q0, q1, q2, q3, q4, q5, q6, q7, q8, q9, q10, q11, q12, q13, q14, q15, q16, q18, q19, q20, q21, q22, q23, q24, q25, q26, q27, q28, q29, q30, q31, q32, q38, q44, q45, q48, q57, q58, q59, q60, q63, q64, q97, q122, q126, q127, q128, q255, q256, q300, q580, q600, q1000, nI_add, q_lt_t, q_lt_f, q_eq_t, q_eq_f, q_clamp, q_in_t, q_in_f]
          exact ih
        · rw [if_neg (fun e => z e.2)] at ih
          simp (disch := omega) only [e_X10_patternCost_31, e_X10_patternCost_41, e_X10_patternCost_56, e_X10_patternCost_57, s_has', eb, Option.bind_some, Option.toList_some, Option.toList_none, List.cons_append, List.nil_append, Option.map_some, cond_true, cond_false, Bool.not_true, Bool.not_false, Bool.true_and, Bool.and_true, Bool.false_and, Bool.and_false, Bool.true_or, Bool.or_true, Bool.false_or, Bool.or_false, Bool.not_not, decide_true, decide_false, Bool.decide_eq_true, Bool.decide_eq_false, qz_0, qz_1, qz_n, qz_n0, qz_n1, qz_t, qz_f, Nat.reduceAdd, q1000000, q0, q1, q2, q3, q4, q5, q6, q7, q8, q9, q10, q11, q12, q13, q14, q15, q16, q18, q19, q20, q21, q22, q23, q24, q25, q26, q27, q28, q29, q30, q31, q32, q38, q44, q45, q48, q57, q58, q59, q60, q63, q64, q97, q122, q126, q127, q128, q255, q256, q300, q580, q600, q1000, nI_add, q_lt_t, q_lt_f, q_eq_t, q_eq_f, q_clamp, q_in_t, q_in_f]
          exact ih
      | false =>
        rw [hb] at eb
        have er : prR P (w + 1) = 0 := if_neg (fun e => by rw [hb] at e; exact absurd e.2 (by decide))
        rw [er, if_neg (fun e => absurd e.1 (by decide))] at ih
        simp (disch := omega) only [e_X10_patternCost_31, e_X10_patternCost_40, e_X10_patternCost_41, e_X10_patternCost_56, e_X10_patternCost_57, s_has', eb, Option.bind_some, Option.toList_some, Option.toList_none, List.cons_append, List.nil_append, Option.map_some, cond_true, cond_false, Bool.not_true, Bool.not_false, Bool.true_and, Bool.and_true, Bool.false_and, Bool.and_false, Bool.true_or, Bool.or_true, Bool.false_or, Bool.or_false, Bool.not_not, decide_true, decide_false, Bool.decide_eq_true, Bool.decide_eq_false, qz_0, qz_1, qz_n, qz_n0, qz_n1, qz_t, qz_f, Nat.reduceAdd, q1000000, q0, q1, q2, q3, q4, q5, q6, q7, q8, q9, q10, q11, q12, q13, q14, q15, q16, q18, q19, q20, q21, q22, q23, q24, q25, q26, q27, q28, q29, q30, q31, q32, q38, q44, q45, q48, q57, q58, q59, q60, q63, q64, q97, q122, q126, q127, q128, q255, q256, q300, q580, q600, q1000, nI_add, q_lt_t, q_lt_f, q_eq_t, q_eq_f, q_clamp, q_in_t, q_in_f]
        exact ih
    · have er : prR P (w + 1) = 0 := if_neg (fun e => q e.1)
      rw [er, if_neg (fun e => absurd e.1 (by decide))] at ih
      simp (disch := omega) only [e_X10_patternCost_40, e_X10_patternCost_41, e_X10_patternCost_56, e_X10_patternCost_57, Option.bind_some, Option.toList_some, Option.toList_none, List.cons_append, List.nil_append, Option.map_some, cond_true, cond_false, Bool.not_true, Bool.not_false, Bool.true_and, Bool.and_true, Bool.false_and, Bool.and_false, Bool.true_or, Bool.or_true, Bool.false_or, Bool.or_false, Bool.not_not, decide_true, decide_false, Bool.decide_eq_true, Bool.decide_eq_false, qz_0, qz_1, qz_n, qz_n0, qz_n1, qz_t, qz_f, Nat.reduceAdd, q1000000, q0, q1, q2, q3, q4, q5, q6, q7, q8, q9, q10, q11, q12, q13, q14, q15, q16, q18, q19, q20, q21, q22, q23, q24, q25, q26, q27, q28, q29, q30, q31, q32, q38, q44, q45, q48, q57, q58, q59, q60, q63, q64, q97, q122, q126, q127, q128, q255, q256, q300, q580, q600, q1000, nI_add, q_lt_t, q_lt_f, q_eq_t, q_eq_f, q_clamp, q_in_t, q_in_f]
      exact ih
theorem s_pcost (h : zH) {P : Nat} (hP : P < 128) : zcall zZ nX10_patternCost [.int (nI P)] h = some (some (.int (nI (pT P))), h) := by
  by_cases q : P = 127
  · subst q
    simp (disch := omega) only [c_X10_patternCost, e_X10_patternCost_0, Option.bind_some, Option.toList_some, Option.toList_none, List.cons_append, List.nil_append, Option.map_some, cond_true, cond_false, Bool.not_true, Bool.not_false, Bool.true_and, Bool.and_true, Bool.false_and, Bool.and_false, Bool.true_or, Bool.or_true, Bool.false_or, Bool.or_false, Bool.not_not, decide_true, decide_false, Bool.decide_eq_true, Bool.decide_eq_false, qz_0, qz_1, qz_n, qz_n0, qz_n1, qz_t, qz_f, Nat.reduceAdd, q1000000, q0, q1, q2, q3, q4, q5, q6, q7, q8, q9, q10, q11, q12, q13, q14, q15, q16, q18, q19, q20, q21, q22, q23, q24, q25, q26, q27, q28, q29, q30, q31, q32, q38, q44, q45, q48, q57, q58, q59, q60, q63, q64, q97, q122, q126, q127, q128, q255, q256, q300, q580, q600, q1000, nI_add, q_lt_t, q_lt_f, q_eq_t, q_eq_f, q_clamp, q_in_t, q_in_f]
    rfl
  · have h1 := pcost_loop h hP 8 0 (nI 0) (by omega) (fun _ => rfl)
    rw [prC_ok P hP q, show prC P 0 = 0 from rfl] at h1
    simp (disch := omega) only [c_X10_patternCost, e_X10_patternCost_0, Option.bind_some, Option.toList_some, Option.toList_none, List.cons_append, List.nil_append, Option.map_some, cond_true, cond_false, Bool.not_true, Bool.not_false, Bool.true_and, Bool.and_true, Bool.false_and, Bool.and_false, Bool.true_or, Bool.or_true, Bool.false_or, Bool.or_false, Bool.not_not, decide_true, decide_false, Bool.decide_eq_true, Bool.decide_eq_false, qz_0, qz_1, qz_n, qz_n0, qz_n1, qz_t, qz_f, Nat.reduceAdd, q1000000, q0, q1, q2, q3, q4, q5, q6, q7, q8, q9, q10, q11, q12, q13, q14, q15, q16, q18, q19, q20, q21, q22, q23, q24, q25, q26, q27, q28, q29, q30, q31, q32, q38, q44, q45, q48, q57, q58, q59, q60, q63, q64, q97, q122, q126, q127, q128, q255, q256, q300, q580, q600, q1000, nI_add, q_lt_t, q_lt_f, q_eq_t, q_eq_f, q_clamp, q_in_t, q_in_f, h1]
theorem begins_loop {L : zL} : ∀ r P (I : zI), P + r = 128 → 1 ≤ P → (∀ Q, 1 ≤ Q → Q < P → I 62 Q = nI (pT Q)) → ∃ J, zrun zZ kX10_begins_ (7, [some (.ref 52), none, some (.int (nI P))], [], hp I L, 0, 0) = some (none, hp J L, 0, 0) ∧ (∀ Q, 1 ≤ Q → Q < 128 → J 62 Q = nI (pT Q)) ∧ (∀ x y, x ≠ 62 → J x y = I x y)
  | 0, P, I, h, h1, h0 => by
    obtain rfl : P = 128 := h
    refine ⟨I, ?_, h0, fun _ _ _ => rfl⟩
    rw [e_X10_begins__7]
    simp (disch := omega) only [Option.bind_some, Option.toList_some, Option.toList_none, List.cons_append, List.nil_append, Option.map_some, cond_true, cond_false, Bool.not_true, Bool.not_false, Bool.true_and, Bool.and_true, Bool.false_and, Bool.and_false, Bool.true_or, Bool.or_true, Bool.false_or, Bool.or_false, Bool.not_not, decide_true, decide_false, Bool.decide_eq_true, Bool.decide_eq_false, qz_0, qz_1, qz_n, qz_n0, qz_n1, qz_t, qz_f, Nat.reduceAdd, q1000000, q0, q1, q2, q3, q4, q5, q6, q7, q8, q9, q10, q11, q12, q13, q14, q15, q16, q18, q19, q20, q21, q22, q23, q24, q25, q26, q27, q28, q29, q30, q31, q32, q38, q44, q45, q48, q57, q58, q59, q60, q63, q64, q97, q122, q126, q127, q128, q255, q256, q300, q580, q600, q1000, nI_add, q_lt_t, q_lt_f, q_eq_t, q_eq_f, q_clamp, q_in_t, q_in_f]
  | r + 1, P, I, h, h1, h0 => by
    obtain ⟨J, g1, g2, g3⟩ := begins_loop (L := L) r (P + 1) (zup I 62 P (nI (pT P))) (by omega) (by omega) (fun Q p1 p2 => by
      by_cases q : Q = P
      · rw [q, zu_same]
      · rw [zu_at q]
        exact h0 Q p1 (by omega))
    refine ⟨J, ?_, g2, fun x y hx => by rw [g3 x y hx, zu_cell hx]⟩
    rw [e_X10_begins__7]
    simp (disch := omega) only [e_X10_begins__23, s_pcost, Option.bind_some, Option.toList_some, Option.toList_none, List.cons_append, List.nil_append, Option.map_some, cond_true, cond_false, Bool.not_true, Bool.not_false, Bool.true_and, Bool.and_true, Bool.false_and, Bool.and_false, Bool.true_or, Bool.or_true, Bool.false_or, Bool.or_false, Bool.not_not, decide_true, decide_false, Bool.decide_eq_true, Bool.decide_eq_false, qz_0, qz_1, qz_n, qz_n0, qz_n1, qz_t, qz_f, Nat.reduceAdd, q1000000, q0, q1, q2, q3, q4, q5, q6, q7, q8, q9, q10, q11, q12, q13, q14, q15, q16, q18, q19, q20, q21, q22, q23, q24, q25, q26, q27, q28, q29, q30, q31, q32, q38, q44, q45, q48, q57, q58, q59, q60, q63, q64, q97, q122, q126, q127, q128, q255, q256, q300, q580, q600, q1000, nI_add, q_lt_t, q_lt_f, q_eq_t, q_eq_f, q_clamp, q_in_t, q_in_f]
    exact g1
theorem s_begins {I : zI} {L : zL} (T : Int32) : ∃ J, zcall zZ nX10_begins_ [.ref 52, .int T] (hp I L) = some (none, hp J L) ∧ (∀ Q, 1 ≤ Q → Q < 128 → J 62 Q = nI (pT Q)) ∧ J 52 17 = T ∧ (∀ x y, x ≠ 62 → (x ≠ 52 ∨ y ≠ 17) → J x y = I x y) := by
  obtain ⟨J, g1, g2, g3⟩ := begins_loop (L := L) 127 1 (zup I 52 17 T) (by omega) (by omega) (fun Q p1 p2 => by omega)
  refine ⟨J, ?_, g2, by rw [g3 52 17 (by omega), zu_same], fun x y p1 p2 => ?_⟩
  · simp (disch := omega) only [c_X10_begins_, e_X10_begins__0, Option.bind_some, Option.toList_some, Option.toList_none, List.cons_append, List.nil_append, Option.map_some, cond_true, cond_false, Bool.not_true, Bool.not_false, Bool.true_and, Bool.and_true, Bool.false_and, Bool.and_false, Bool.true_or, Bool.or_true, Bool.false_or, Bool.or_false, Bool.not_not, decide_true, decide_false, Bool.decide_eq_true, Bool.decide_eq_false, qz_0, qz_1, qz_n, qz_n0, qz_n1, qz_t, qz_f, Nat.reduceAdd, q1000000, q0, q1, q2, q3, q4, q5, q6, q7, q8, q9, q10, q11, q12, q13, q14, q15, q16, q18, q19, q20, q21, q22, q23, q24, q25, q26, q27, q28, q29, q30, q31, q32, q38, q44, q45, q48, q57, q58, q59, q60, q63, q64, q97, q122, q126, q127, q128, q255, q256, q300, q580, q600, q1000, nI_add, q_lt_t, q_lt_f, q_eq_t, q_eq_f, q_clamp, q_in_t, q_in_f, g1]
  · rw [g3 x y p1]
    by_cases z : x = 52
    · rw [zu_at (by omega)]
    · rw [zu_cell z]
/-- may a choice stand -/
def cnB (F i : Nat) (c : Nat × Nat) : Bool := decide (c.1 < 2 ^ F) && decide (c.2 < 2 ^ F) && decide (c.2 &&& i = c.2)
/-- the state without a choice -/
def MZ (I : zI) (N w F : Nat) (T : Int32) (fd : Nat → Int32) : Prop := (N ≤ 28 ∧ w < 7 ∧ F ≤ 2) ∧ (I 53 0 = nI N ∧ I 53 1 = nI w ∧ I 53 2 = nI F ∧ (∀ f, f < F → I 53 (6 + f) = fd f)) ∧ I 52 17 = T ∧ (∀ P, 1 ≤ P → P < 128 → I 62 P = nI (pT P))
theorem MZ.cg {I J : zI} {N w F : Nat} {T : Int32} {fd : Nat → Int32} (h : MZ I N w F T fd) (h1 : ∀ y, J 53 y = I 53 y) (h2 : J 52 17 = I 52 17) (h3 : ∀ y, J 62 y = I 62 y) : MZ J N w F T fd := by
  obtain ⟨a, ⟨b1, b2, b3, b4⟩, c1, d⟩ := h
  exact ⟨a, ⟨(h1 _).trans b1, (h1 _).trans b2, (h1 _).trans b3, fun f hf => (h1 _).trans (b4 f hf)⟩, h2.trans c1, fun P p q => (h3 P).trans (d P p q)⟩
theorem MZ.ms {I : zI} {N w F : Nat} {T : Int32} {fd : Nat → Int32} (h : MZ I N w F T fd) {nf af : Nat} (h1 : I 52 18 = nI nf) (h2 : I 52 19 = nI af) (hn : nf < 2 ^ F) (ha : af < 2 ^ F) : MS I N w F T fd nf af := by
  obtain ⟨⟨a1, a2, a3⟩, b, c1, d⟩ := h
  exact ⟨⟨a1, a2, a3, hn, ha⟩, b, ⟨c1, h1, h2⟩, d⟩
theorem fd_inside {fd : Nat → Int32} {T : Int32} {F a : Nat} (hF : F ≤ 2) (ha : a < 2 ^ F) : (fdF fd a F &&& (T ^^^ -nI 1) = nI 0) ↔ a &&& inN fd T F = a := by
  obtain ⟨-, i2, i3⟩ := inN_ok fd T hF
  have hand : ∀ x y : Int32, ((x ||| y) &&& (T ^^^ -nI 1) = nI 0) ↔ ((x &&& (T ^^^ -nI 1)) = nI 0 ∧ (y &&& (T ^^^ -nI 1)) = nI 0) := fun x y => by
    constructor
    · intro h
      constructor
      · apply b_ext
        intro i hi
        have := congrArg (fun z => bt z i) h
        simp only [b_and, b_or, show bt (nI 0) i = false from b_0 i] at this
        rw [b_and, show bt (nI 0) i = false from b_0 i]
        cases h1 : bt x i <;> cases h2 : bt (T ^^^ -nI 1) i <;> simp_all
      · apply b_ext
        intro i hi
        have := congrArg (fun z => bt z i) h
        simp only [b_and, b_or, show bt (nI 0) i = false from b_0 i] at this
        rw [b_and, show bt (nI 0) i = false from b_0 i]
        cases h1 : bt y i <;> cases h2 : bt (T ^^^ -nI 1) i <;> simp_all
    · rintro ⟨h1, h2⟩
      apply b_ext
      intro i hi
      have e1 := congrArg (fun z => bt z i) h1
      have e2 := congrArg (fun z => bt z i) h2
      simp only [b_and, show bt (nI 0) i = false from b_0 i] at e1 e2
      rw [b_and, b_or, show bt (nI 0) i = false from b_0 i]
      cases h3 : bt x i <;> cases h4 : bt y i <;> cases h5 : bt (T ^^^ -nI 1) i <;> simp_all
  have hz : (nI 0 &&& (T ^^^ -nI 1)) = nI 0 := b_ext fun i hi => by rw [b_and, show bt (nI 0) i = false from b_0 i, Bool.false_and]
  have hins : ∀ f, insF fd T f = true ↔ (fd f &&& (T ^^^ -nI 1)) = nI 0 := fun f => decide_eq_true_iff
  have gen : ∀ F', F' ≤ F → ((fdF fd a F' &&& (T ^^^ -nI 1) = nI 0) ↔ ∀ f, f < F' → a.testBit f = true → (inN fd T F).testBit f = true) := by
    intro F'
    induction F' with
    | zero =>
      intro _
      exact ⟨fun _ f hf => by omega, fun _ => hz⟩
    | succ F' ih =>
      intro hF'
      have ih := ih (by omega)
      have i3' := i3 F'
      rw [decide_eq_true (show F' < F by omega), Bool.true_and] at i3'
      rw [fdF_s]
      cases hb : a.testBit F' with
      | false =>
        show (fdF fd a F' &&& (T ^^^ -nI 1) = nI 0) ↔ _
        rw [ih]
        constructor
        · intro h f hf hab
          by_cases q : f = F'
          · rw [q, hb] at hab
            cases hab
          · exact h f (by omega) hab
        · intro h f hf hab
          exact h f (by omega) hab
      | true =>
        show ((fdF fd a F' ||| fd F') &&& (T ^^^ -nI 1) = nI 0) ↔ _
        rw [hand, ih, ← hins F', ← i3']
        constructor
        · rintro ⟨h1, h2⟩ f hf hab
          by_cases q : f = F'
          · rw [q]
            exact h2
          · exact h1 f (by omega) hab
        · intro h
          exact ⟨fun f hf hab => h f (by omega) hab, h F' (by omega) hb⟩
  rw [gen F (Nat.le_refl F)]
  constructor
  · intro h
    apply Nat.eq_of_testBit_eq
    intro f
    rw [Nat.testBit_and]
    cases hb : a.testBit f with
    | false => rfl
    | true =>
      rcases Nat.lt_or_ge f F with q | q
      · rw [h f q hb]
        rfl
      · have : 2 ^ F ≤ 2 ^ f := Nat.pow_le_pow_right (by decide) q
        rw [Nat.testBit_lt_two_pow (show a < 2 ^ f by omega)] at hb
        cases hb
  · intro h f hf hb
    have := congrArg (fun z => z.testBit f) h
    simp only [Nat.testBit_and, hb, Bool.true_and] at this
    exact this
theorem s_stand {I : zI} {L : zL} {N w F : Nat} {T : Int32} {fd : Nat → Int32} (hZ : MZ I N w F T fd) {nf af : Nat} (h18 : I 52 18 = nI nf) (h19 : I 52 19 = nI af) (hn : nf < 4) (ha : af < 4) : zcall zZ nX10_canStand [.ref 52] (hp I L) = some (some (.int (zbo (cnB F (inN fd T F) (nf, af)))), hp I L) := by
  obtain ⟨⟨hN, hw, hF⟩, ⟨h0, h1, h2, hfd⟩, h17, h62⟩ := hZ
  have ef := s_feastDays (I := I) (L := L) ha
  have hp4 := pow_F hF
  unfold cnB
  by_cases z1 : nf < 2 ^ F
  · by_cases z2 : af < 2 ^ F
    · rw [rfd_fd hF z2 hfd] at ef
      have hi := fd_inside (fd := fd) (T := T) hF z2
      by_cases z3 : af &&& inN fd T F = af
      · have z4 := hi.mpr z3
        simp (disch := omega) only [c_X10_canStand, e_X10_canStand_0, e_X10_canStand_8, e_X10_canStand_52, e_X10_canStand_53, h19, h18, h17, h2, ef, q_shl1, z1, z2, z3, z4, Option.bind_some, Option.toList_some, Option.toList_none, List.cons_append, List.nil_append, Option.map_some, cond_true, cond_false, Bool.not_true, Bool.not_false, Bool.true_and, Bool.and_true, Bool.false_and, Bool.and_false, Bool.true_or, Bool.or_true, Bool.false_or, Bool.or_false, Bool.not_not, decide_true, decide_false, Bool.decide_eq_true, Bool.decide_eq_false, qz_0, qz_1, qz_n, qz_n0, qz_n1, qz_t, qz_f, Nat.reduceAdd, q1000000, q0, q1, q2, q3, q4, q5, q6, q7, q8, q9, q10, q11, q12, q13, q14, q15, q16, q18, q19, q20, q21, q22, q23, q24, q25, q26, q27, q28, q29, q30, q31, q32, q38, q44, q45, q48, q57, q58, q59, q60, q63, q64, q97, q122, q126, q127, q128, q255, q256, q300, q580, q600, q1000, nI_add, q_lt_t, q_lt_f, q_eq_t, q_eq_f, q_clamp, q_in_t, q_in_f]
      · have z4 : ¬ _ := fun e => z3 (hi.mp e)
        simp (disch := omega) only [c_X10_canStand, e_X10_canStand_0, e_X10_canStand_8, e_X10_canStand_52, e_X10_canStand_53, h19, h18, h17, h2, ef, q_shl1, z1, z2, z3, z4, Option.bind_some, Option.toList_some, Option.toList_none, List.cons_append, List.nil_append, Option.map_some, cond_true, cond_false, Bool.not_true, Bool.not_false, Bool.true_and, Bool.and_true, Bool.false_and, Bool.and_false, Bool.true_or, Bool.or_true, Bool.false_or, Bool.or_false, Bool.not_not, decide_true, decide_false, Bool.decide_eq_true, Bool.decide_eq_false, qz_0, qz_1, qz_n, qz_n0, qz_n1, qz_t, qz_f, Nat.reduceAdd, q1000000, q0, q1, q2, q3, q4, q5, q6, q7, q8, q9, q10, q11, q12, q13, q14, q15, q16, q18, q19, q20, q21, q22, q23, q24, q25, q26, q27, q28, q29, q30, q31, q32, q38, q44, q45, q48, q57, q58, q59, q60, q63, q64, q97, q122, q126, q127, q128, q255, q256, q300, q580, q600, q1000, nI_add, q_lt_t, q_lt_f, q_eq_t, q_eq_f, q_clamp, q_in_t, q_in_f]
    · by_cases z4 : rfd I af &&& (T ^^^ -nI 1) = nI 0
      · simp (disch := omega) only [c_X10_canStand, e_X10_canStand_0, e_X10_canStand_8, e_X10_canStand_52, e_X10_canStand_53, h19, h18, h17, h2, ef, q_shl1, z1, z2, z4, Option.bind_some, Option.toList_some, Option.toList_none, List.cons_append, List.nil_append, Option.map_some, cond_true, cond_false, Bool.not_true, Bool.not_false, Bool.true_and, Bool.and_true, Bool.false_and, Bool.and_false, Bool.true_or, Bool.or_true, Bool.false_or, Bool.or_false, Bool.not_not, decide_true, decide_false, Bool.decide_eq_true, Bool.decide_eq_false, qz_0, qz_1, qz_n, qz_n0, qz_n1, qz_t, qz_f, Nat.reduceAdd, q1000000, q0, q1, q2, q3, q4, q5, q6, q7, q8, q9, q10, q11, q12, q13, q14, q15, q16, q18, q19, q20, q21, q22, q23, q24, q25, q26, q27, q28, q29, q30, q31, q32, q38, q44, q45, q48, q57, q58, q59, q60, q63, q64, q97, q122, q126, q127, q128, q255, q256, q300, q580, q600, q1000, nI_add, q_lt_t, q_lt_f, q_eq_t, q_eq_f, q_clamp, q_in_t, q_in_f]
      · simp (disch := omega) only [c_X10_canStand, e_X10_canStand_0, e_X10_canStand_8, e_X10_canStand_52, e_X10_canStand_53, h19, h18, h17, h2, ef, q_shl1, z1, z2, z4, Option.bind_some, Option.toList_some, Option.toList_none, List.cons_append, List.nil_append, Option.map_some, cond_true, cond_false, Bool.not_true, Bool.not_false, Bool.true_and, Bool.and_true, Bool.false_and, Bool.and_false, Bool.true_or, Bool.or_true, Bool.false_or, Bool.or_false, Bool.not_not, decide_true, decide_false, Bool.decide_eq_true, Bool.decide_eq_false, qz_0, qz_1, qz_n, qz_n0, qz_n1, qz_t, qz_f, Nat.reduceAdd, q1000000, q0, q1, q2, q3, q4, q5, q6, q7, q8, q9, q10, q11, q12, q13, q14, q15, q16, q18, q19, q20, q21, q22, q23, q24, q25, q26, q27, q28, q29, q30, q31, q32, q38, q44, q45, q48, q57, q58, q59, q60, q63, q64, q97, q122, q126, q127, q128, q255, q256, q300, q580, q600, q1000, nI_add, q_lt_t, q_lt_f, q_eq_t, q_eq_f, q_clamp, q_in_t, q_in_f]
  · by_cases z4 : rfd I af &&& (T ^^^ -nI 1) = nI 0
    · simp (disch := omega) only [c_X10_canStand, e_X10_canStand_0, e_X10_canStand_8, e_X10_canStand_52, e_X10_canStand_53, h19, h18, h17, h2, ef, q_shl1, z1, z4, Option.bind_some, Option.toList_some, Option.toList_none, List.cons_append, List.nil_append, Option.map_some, cond_true, cond_false, Bool.not_true, Bool.not_false, Bool.true_and, Bool.and_true, Bool.false_and, Bool.and_false, Bool.true_or, Bool.or_true, Bool.false_or, Bool.or_false, Bool.not_not, decide_true, decide_false, Bool.decide_eq_true, Bool.decide_eq_false, qz_0, qz_1, qz_n, qz_n0, qz_n1, qz_t, qz_f, Nat.reduceAdd, q1000000, q0, q1, q2, q3, q4, q5, q6, q7, q8, q9, q10, q11, q12, q13, q14, q15, q16, q18, q19, q20, q21, q22, q23, q24, q25, q26, q27, q28, q29, q30, q31, q32, q38, q44, q45, q48, q57, q58, q59, q60, q63, q64, q97, q122, q126, q127, q128, q255, q256, q300, q580, q600, q1000, nI_add, q_lt_t, q_lt_f, q_eq_t, q_eq_f, q_clamp, q_in_t, q_in_f]
    · simp (disch := omega) only [c_X10_canStand, e_X10_canStand_0, e_X10_canStand_8, e_X10_canStand_52, e_X10_canStand_53, h19, h18, h17, h2, ef, q_shl1, z1, z4, Option.bind_some, Option.toList_some, Option.toList_none, List.cons_append, List.nil_append, Option.map_some, cond_true, cond_false, Bool.not_true, Bool.not_false, Bool.true_and, Bool.and_true, Bool.false_and, Bool.and_false, Bool.true_or, Bool.or_true, Bool.false_or, Bool.or_false, Bool.not_not, decide_true, decide_false, Bool.decide_eq_true, Bool.decide_eq_false, qz_0, qz_1, qz_n, qz_n0, qz_n1, qz_t, qz_f, Nat.reduceAdd, q1000000, q0, q1, q2, q3, q4, q5, q6, q7, q8, q9, q10, q11, q12, q13, q14, q15, q16, q18, q19, q20, q21, q22, q23, q24, q25, q26, q27, q28, q29, q30, q31, q32, q38, q44, q45, q48, q57, q58, q59, q60, q63, q64, q97, q122, q126, q127, q128, q255, q256, q300, q580, q600, q1000, nI_add, q_lt_t, q_lt_f, q_eq_t, q_eq_f, q_clamp, q_in_t, q_in_f]
