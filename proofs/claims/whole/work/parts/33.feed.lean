theorem p_merges {I : zI} {L : zL} {N w F T ln A S : Nat} (E : EV I L N w F T ln A S) : PAIR cAct nX9_merges nX10_merges [] I L (fun I2 L2 => ∃ A', EV I2 L2 N w F T ln A' S) := by
  have E' := E
  obtain ⟨D, hTP, ⟨a1, a2, a3, a4⟩, hF, hT⟩ := E'
  have hb := D.b
  by_cases h0 : N = 0
  · have hl : ln = 0 := by omega
    exact ⟨.int (-2), I, L, I, L, by simp (disch := omega) only [c_X9_merges, e_X9_merges_0, D.x.1, h0, Option.bind_some, Option.toList_some, Option.toList_none, List.cons_append, List.nil_append, Option.map_some, cond_true, cond_false, Bool.not_true, Bool.not_false, Bool.true_and, Bool.and_true, Bool.false_and, Bool.and_false, Bool.true_or, Bool.or_true, Bool.false_or, Bool.or_false, Bool.not_not, decide_true, decide_false, Bool.decide_eq_true, Bool.decide_eq_false, qz_0, qz_1, qz_n, qz_n0, qz_n1, qz_t, qz_f, Nat.reduceAdd, q0, q1, q2, q3, q4, q5, q6, q7, q8, q9, q10, q11, q12, q13, q14, q15, q16, q18, q19, q20, q21, q22, q23, q24, q25, q26, q27, q28, q29, q30, q31, q32, q38, q44, q45, q48, q57, q58, q59, q60, q63, q64, q97, q122, q126, q127, q128, q255, q256, q300, q580, q600, q1000, nI_add, q_lt_t, q_lt_f, q_eq_t, q_eq_f, q_clamp, q_in_t, q_in_f], by simp (disch := omega) only [c_X10_merges, e_X10_merges_0, D.m.2.2.2.2, hl, Option.bind_some, Option.toList_some, Option.toList_none, List.cons_append, List.nil_append, Option.map_some, cond_true, cond_false, Bool.not_true, Bool.not_false, Bool.true_and, Bool.and_true, Bool.false_and, Bool.and_false, Bool.true_or, Bool.or_true, Bool.false_or, Bool.or_false, Bool.not_not, decide_true, decide_false, Bool.decide_eq_true, Bool.decide_eq_false, qz_0, qz_1, qz_n, qz_n0, qz_n1, qz_t, qz_f, Nat.reduceAdd, q0, q1, q2, q3, q4, q5, q6, q7, q8, q9, q10, q11, q12, q13, q14, q15, q16, q18, q19, q20, q21, q22, q23, q24, q25, q26, q27, q28, q29, q30, q31, q32, q38, q44, q45, q48, q57, q58, q59, q60, q63, q64, q97, q122, q126, q127, q128, q255, q256, q300, q580, q600, q1000, nI_add, q_lt_t, q_lt_f, q_eq_t, q_eq_f, q_clamp, q_in_t, q_in_f], fr_refl _ _, rfl, A, E⟩
  have hl : ln ≠ 0 := by omega
  by_cases hA : A = 20
  · exact ⟨.int (-5), I, L, I, L, by simp (disch := omega) only [c_X9_merges, e_X9_merges_0, D.x.1, a2, hA, Option.bind_some, Option.toList_some, Option.toList_none, List.cons_append, List.nil_append, Option.map_some, cond_true, cond_false, Bool.not_true, Bool.not_false, Bool.true_and, Bool.and_true, Bool.false_and, Bool.and_false, Bool.true_or, Bool.or_true, Bool.false_or, Bool.or_false, Bool.not_not, decide_true, decide_false, Bool.decide_eq_true, Bool.decide_eq_false, qz_0, qz_1, qz_n, qz_n0, qz_n1, qz_t, qz_f, Nat.reduceAdd, q0, q1, q2, q3, q4, q5, q6, q7, q8, q9, q10, q11, q12, q13, q14, q15, q16, q18, q19, q20, q21, q22, q23, q24, q25, q26, q27, q28, q29, q30, q31, q32, q38, q44, q45, q48, q57, q58, q59, q60, q63, q64, q97, q122, q126, q127, q128, q255, q256, q300, q580, q600, q1000, nI_add, q_lt_t, q_lt_f, q_eq_t, q_eq_f, q_clamp, q_in_t, q_in_f], by simp (disch := omega) only [c_X10_merges, e_X10_merges_0, D.m.2.2.2.2, a3, hA, Option.bind_some, Option.toList_some, Option.toList_none, List.cons_append, List.nil_append, Option.map_some, cond_true, cond_false, Bool.not_true, Bool.not_false, Bool.true_and, Bool.and_true, Bool.false_and, Bool.and_false, Bool.true_or, Bool.or_true, Bool.false_or, Bool.or_false, Bool.not_not, decide_true, decide_false, Bool.decide_eq_true, Bool.decide_eq_false, qz_0, qz_1, qz_n, qz_n0, qz_n1, qz_t, qz_f, Nat.reduceAdd, q0, q1, q2, q3, q4, q5, q6, q7, q8, q9, q10, q11, q12, q13, q14, q15, q16, q18, q19, q20, q21, q22, q23, q24, q25, q26, q27, q28, q29, q30, q31, q32, q38, q44, q45, q48, q57, q58, q59, q60, q63, q64, q97, q122, q126, q127, q128, q255, q256, q300, q580, q600, q1000, nI_add, q_lt_t, q_lt_f, q_eq_t, q_eq_f, q_clamp, q_in_t, q_in_f], fr_refl _ _, rfl, A, E⟩
  obtain ⟨J, n1, n2, n3, n4⟩ := both_note E (by omega)
  have DJ : DK J L N w F T ln := D.cg (fun a b h => n4 a b (by omega) (by omega)) (fun _ => rfl)
  obtain ⟨J1, x1, x2, x3, x4⟩ := mergesX_loop DJ T 0 J (by omega) (Or.inr trivial) (fun _ _ _ => rfl) (fun t ht => by omega) (fun _ _ => rfl)
  obtain ⟨J2, k1, k2, k3, k4⟩ := s_keeps (J := J1) (L := L) (A := A) (by omega) (by rw [x2 52 3 (by omega), n4 52 3 (by omega) (by omega)]; exact a3)
  have e53 : ∀ b, J2 53 b = J 53 b := fun b => (k4 53 b (by omega) (by omega)).trans (x2 53 b (by omega))
  obtain ⟨J3, m1, m2, m3⟩ := mergesM_loop (L := L) (A := A) DJ (by omega) T J2 (Nat.le_refl T) (fun b _ => e53 b) k3 (fun t ht => by rw [k2 t (by omega), x2 53 _ (by omega), DJ.tr ht]) (fun u hu => by
    have := ld_le J u
    rw [e53, DJ.tr hu, if_neg (by omega)])
  rw [Nat.sub_self] at m1
  have ko : ∀ x y, x ≠ 17 → x ≠ 10 → x ≠ 55 → (x ≠ 9 ∨ y ≠ 1) → (x ≠ 53 ∨ y < 38) → (x ≠ 52 ∨ y ≠ 3) → J3 x y = I x y := fun x y p1 p2 p3 p4 p5 p6 => by
    rw [m3 x y p5, k4 x y (by omega) p6, x2 x y p1, n4 x y (by omega) p4]
  refine ⟨.int (nI (cnt (fun t => !decide (mgF J T t = J 17 t)) T)), J1, L, J3, L, ?_, ?_, ?_, rfl, A + 1, ?_, ?_, ?_, ?_, ?_⟩
  · rw [show cnt (fun t => !decide (mgF J T t = J 17 t)) 0 = 0 from rfl] at x1
    simp (disch := omega) only [c_X9_merges, e_X9_merges_0, e_X9_merges_39, D.x.1, a2, n1, Option.bind_some, Option.toList_some, Option.toList_none, List.cons_append, List.nil_append, Option.map_some, cond_true, cond_false, Bool.not_true, Bool.not_false, Bool.true_and, Bool.and_true, Bool.false_and, Bool.and_false, Bool.true_or, Bool.or_true, Bool.false_or, Bool.or_false, Bool.not_not, decide_true, decide_false, Bool.decide_eq_true, Bool.decide_eq_false, qz_0, qz_1, qz_n, qz_n0, qz_n1, qz_t, qz_f, Nat.reduceAdd, q0, q1, q2, q3, q4, q5, q6, q7, q8, q9, q10, q11, q12, q13, q14, q15, q16, q18, q19, q20, q21, q22, q23, q24, q25, q26, q27, q28, q29, q30, q31, q32, q38, q44, q45, q48, q57, q58, q59, q60, q63, q64, q97, q122, q126, q127, q128, q255, q256, q300, q580, q600, q1000, nI_add, q_lt_t, q_lt_f, q_eq_t, q_eq_f, q_clamp, q_in_t, q_in_f, x1]
  · have q4 : J1 53 4 = nI ln := by rw [x2 53 4 (by omega)]; exact DJ.m.2.2.2.2
    have q3 : J1 52 3 = nI A := by rw [x2 52 3 (by omega), n4 52 3 (by omega) (by omega)]; exact a3
    have qT : J2 53 3 = nI T := (e53 3).trans DJ.m.2.2.2.1
    simp (disch := omega) only [c_X10_merges, e_X10_merges_0, e_X10_merges_28, q4, q3, k1, qT, Option.bind_some, Option.toList_some, Option.toList_none, List.cons_append, List.nil_append, Option.map_some, cond_true, cond_false, Bool.not_true, Bool.not_false, Bool.true_and, Bool.and_true, Bool.false_and, Bool.and_false, Bool.true_or, Bool.or_true, Bool.false_or, Bool.or_false, Bool.not_not, decide_true, decide_false, Bool.decide_eq_true, Bool.decide_eq_false, qz_0, qz_1, qz_n, qz_n0, qz_n1, qz_t, qz_f, Nat.reduceAdd, q0, q1, q2, q3, q4, q5, q6, q7, q8, q9, q10, q11, q12, q13, q14, q15, q16, q18, q19, q20, q21, q22, q23, q24, q25, q26, q27, q28, q29, q30, q31, q32, q38, q44, q45, q48, q57, q58, q59, q60, q63, q64, q97, q122, q126, q127, q128, q255, q256, q300, q580, q600, q1000, q_eq_f, m1]
  · intro x y h
    have := cAct_f h
    exact ko x y (by omega) (by omega) (by omega) (by omega) (by omega) (by omega)
  · refine D.run (fun t ht => ?_) (fun x y h1 h2 => ko x y (by omega) (by omega) (by omega) (by omega) (by omega) (by omega)) (fun b h => ko 53 b (by omega) (by omega) (by omega) (by omega) (by omega) (by omega))
    rw [m2 t ht, m3 17 t (by omega), k4 17 t (by omega) (by omega), x3 t ht]
    exact ⟨rfl, mgF_sub (fun t ht => DJ.ts ht) t⟩
  · exact hTP.cg (ko _ _ (by omega) (by omega) (by omega) (by omega) (by omega) (by omega)) (ko _ _ (by omega) (by omega) (by omega) (by omega) (by omega) (by omega)) (fun b => ko _ _ (by omega) (by omega) (by omega) (by omega) (by omega) (by omega)) (fun b => ko _ _ (by omega) (by omega) (by omega) (by omega) (by omega) (by omega))
  · refine ⟨by omega, ?_, ?_, fun i t hi ht => ?_⟩
    · rw [m3 9 1 (by omega), k4 9 1 (by omega) (by omega), x2 9 1 (by omega)]
      exact n2
    · rw [m3 52 3 (by omega)]
      exact k3
    · rw [m3 55 _ (by omega), m3 10 _ (by omega), k4 10 _ (by omega) (by omega), x2 10 _ (by omega)]
      by_cases z : i = A
      · subst z
        rw [k2 t (by omega), n3 t (by omega), x2 53 _ (by omega), DJ.tr ht, n4 17 t (by omega) (by omega)]
        exact ⟨rfl, D.ts ht⟩
      · rw [k4 55 _ (by omega) (by omega), x2 55 _ (by omega), n4 55 _ (by omega) (by omega), n4 10 _ (by omega) (by omega)]
        exact a4 i t (by omega) ht
  · exact hF.cg (fun b => ko _ _ (by omega) (by omega) (by omega) (by omega) (by omega) (by omega)) (ko _ _ (by omega) (by omega) (by omega) (by omega) (by omega) (by omega)) (ko _ _ (by omega) (by omega) (by omega) (by omega) (by omega) (by omega))
  · exact hT.cg (fun b => ko _ _ (by omega) (by omega) (by omega) (by omega) (by omega) (by omega)) (fun b hb => ko _ _ (by omega) (by omega) (by omega) (by omega) (by omega) (by omega))
/-! feed -/
theorem sby_of {y : Int32} {c : Nat} (hc : c < 256) (h : ∀ i, i < 8 → bt y i = c.testBit i) : y.toInt8.toInt32 = sby c := by
  unfold sby
  congr 1
  apply Int8.toBitVec_inj.mp
  rw [Int32.toBitVec_toInt8, Int32.toBitVec_toInt8]
  apply BitVec.eq_of_getLsbD_eq
  intro i hi
  rw [BitVec.getLsbD_signExtend, BitVec.getLsbD_signExtend, if_pos (by omega), if_pos (by omega)]
  congr 1
  show bt y i = bt (nI c) i
  rw [h i hi, bt_nI (by omega)]
theorem byt_lt (x : Int32) (q : Nat) : byt x q < 256 := Nat.mod_lt _ (by decide)
theorem byt_bit (x : Int32) {q i : Nat} (hi : i < 8) : (byt x q).testBit i = bt x (24 - 8 * q + i) := by
  unfold byt
  rw [show (256 : Nat) = 2 ^ 8 from rfl, Nat.testBit_mod_two_pow, decide_eq_true hi, Bool.true_and, Nat.testBit_div_two_pow, Nat.add_comm i, bt_tb]
theorem b_shrN (n : Nat) (hn : n < 32) (x : Int32) {i : Nat} (hi : n + i < 32) : bt (x >>> (nI n &&& nI 31)) i = bt x (n + i) := by
  have := b_sshr n hn x (show i < 32 by omega)
  rw [if_pos hi] at this
  exact this
theorem nar_byte (x : Int32) {q : Nat} (hq : q < 4) : vp_nar .byte (x >>> (nI (24 - 8 * q) &&& nI 31)).toInt8.toInt32 = sby (byt x q) := by
  rw [vp_nar_byte, Int8.toInt8_toInt32]
  refine sby_of (byt_lt x q) (fun i hi => ?_)
  rw [b_shrN _ (by omega) x (by omega), byt_bit x hi]
theorem add_loop {L : zL} (x : Int32) {S : Nat} (hS : S + 4 ≤ 600) : ∀ m k (J : zI), k + m = 4 → J 3 1 = nI (S + k) → ∃ J', zrun zZ kX6_add (3, [some (.ref 3), some (.int x), some (.int (nI (8 * m) - nI 8))], [], hp J L, 0, 0) = some (none, hp J' L, 0, 0) ∧ J' 3 1 = nI (S + 4) ∧ (∀ q, k ≤ q → q < 4 → J' 4 (S + q) = sby (byt x q)) ∧ (∀ a b, (a ≠ 4 ∨ b < S + k) → (a ≠ 3 ∨ b ≠ 1) → J' a b = J a b)
  | 0, k, J, h, h1 => by
    obtain rfl : k = 4 := h
    refine ⟨J, ?_, h1, fun q g1 g2 => by omega, fun _ _ _ _ => rfl⟩
    have e : (nI (8 * 0) - nI 8 < nI 0) = True := eq_true (pk_sneg (a := 0) (b := 8) (by decide) (by decide))
    rw [e_X6_add_3]
    simp (disch := omega) only [e_X6_add_46, q0, q1, q2, q3, q4, q5, q6, q7, q8, q9, q10, q11, q12, q13, q14, q15, q16, q18, q19, q20, q21, q22, q23, q24, q25, q26, q27, q28, q29, q30, q31, q32, q38, q44, q45, q48, q57, q58, q59, q60, q63, q64, q97, q122, q126, q127, q128, q255, q256, q300, q580, q600, q1000, e, Option.bind_some, Option.toList_some, Option.toList_none, List.cons_append, List.nil_append, Option.map_some, cond_true, cond_false, Bool.not_true, Bool.not_false, Bool.true_and, Bool.and_true, Bool.false_and, Bool.and_false, Bool.true_or, Bool.or_true, Bool.false_or, Bool.or_false, Bool.not_not, decide_true, decide_false, Bool.decide_eq_true, Bool.decide_eq_false, qz_0, qz_1, qz_n, qz_n0, qz_n1, qz_t, qz_f, Nat.reduceAdd]
  | m + 1, k, J, h, h1 => by
    have e : nI (8 * (m + 1)) - nI 8 = nI (24 - 8 * k) := by
      rw [pk_sub (by omega)]
      congr 1
      omega
    obtain ⟨J', g1, g2, g3, g4⟩ := add_loop (L := L) x hS m (k + 1) (zup (zup J 4 (S + k) (sby (byt x k))) 3 1 (nI (S + k + 1))) (by omega) (by rw [zu_same]; rfl)
    refine ⟨J', ?_, g2, fun q p1 p2 => ?_, fun a b p1 p2 => ?_⟩
    · rw [e, e_X6_add_3]
      have e2 : nI (24 - 8 * k) + -nI 8 = nI (8 * m) - nI 8 := by
        rw [← Int32.sub_eq_add_neg]
        congr 2
        omega
      simp (disch := omega) only [h1, nar_byte, Option.bind_some, Option.toList_some, Option.toList_none, List.cons_append, List.nil_append, Option.map_some, cond_true, cond_false, Bool.not_true, Bool.not_false, Bool.true_and, Bool.and_true, Bool.false_and, Bool.and_false, Bool.true_or, Bool.or_true, Bool.false_or, Bool.or_false, Bool.not_not, decide_true, decide_false, Bool.decide_eq_true, Bool.decide_eq_false, qz_0, qz_1, qz_n, qz_n0, qz_n1, qz_t, qz_f, Nat.reduceAdd, q0, q1, q2, q3, q4, q5, q6, q7, q8, q9, q10, q11, q12, q13, q14, q15, q16, q18, q19, q20, q21, q22, q23, q24, q25, q26, q27, q28, q29, q30, q31, q32, q38, q44, q45, q48, q57, q58, q59, q60, q63, q64, q97, q122, q126, q127, q128, q255, q256, q300, q580, q600, q1000, nI_add, q_lt_t, q_lt_f, q_eq_t, q_eq_f, q_clamp, q_in_t, q_in_f, e2]
      exact g1
    · rcases Nat.lt_or_ge k q with z | z
      · exact g3 q (by omega) p2
      · obtain rfl : q = k := by omega
        rw [g4 4 (S + q) (by omega) (by omega), zu_cell (by omega), zu_same]
    · rw [g4 a b (by omega) p2]
      by_cases z : a = 3
      · rw [zu_at (by omega), zu_cell (by omega)]
      · rw [zu_cell z]
        by_cases z2 : a = 4
        · rw [zu_at (by omega)]
        · rw [zu_cell z2]
theorem s_add {J : zI} {L : zL} (x : Int32) {S : Nat} (hS : S + 4 ≤ 600) (h1 : J 3 1 = nI S) : ∃ J', zcall zZ nX6_add [.ref 3, .int x] (hp J L) = some (none, hp J' L) ∧ J' 3 1 = nI (S + 4) ∧ (∀ q, q < 4 → J' 4 (S + q) = sby (byt x q)) ∧ (∀ a b, (a ≠ 4 ∨ b < S) → (a ≠ 3 ∨ b ≠ 1) → J' a b = J a b) := by
  obtain ⟨J', g1, g2, g3, g4⟩ := add_loop (L := L) x hS 4 0 J (by omega) h1
  refine ⟨J', ?_, g2, fun q hq => g3 q (by omega) hq, fun a b p1 p2 => g4 a b (by omega) p2⟩
  rw [show nI (8 * 4) - nI 8 = (24 : Int32) from rfl] at g1
  rw [c_X6_add, e_X6_add_0, g1]
  rfl
/-- the five numbers of a feed -/
def fiv (x1 x2 x3 x4 x5 : Int32) : Nat → Int32
  | 0 => x1
  | 1 => x2
  | 2 => x3
  | 3 => x4
  | _ => x5
theorem s_feedX {I : zI} {L : zL} {S : Nat} (hS : S + 20 ≤ 600) (h1 : I 3 1 = nI S) (x1 x2 x3 x4 x5 : Int32) : ∃ J, zcall zZ nX9_feed [.ref 0, .int x1, .int x2, .int x3, .int x4, .int x5] (hp I L) = some (some (.int (nI (S + 20))), hp J L) ∧ J 3 1 = nI (S + 20) ∧ (∀ i, i < 20 → J 4 (S + i) = sby (byt (fiv x1 x2 x3 x4 x5 (i / 4)) (i % 4))) ∧ (∀ a b, (a ≠ 4 ∨ b < S) → (a ≠ 3 ∨ b ≠ 1) → J a b = I a b) := by
  obtain ⟨J1, a1, b1, c1, d1⟩ := s_add (L := L) x1 (by omega) h1
  obtain ⟨J2, a2, b2, c2, d2⟩ := s_add (L := L) x2 (S := S + 4) (by omega) b1
  obtain ⟨J3, a3, b3, c3, d3⟩ := s_add (L := L) x3 (S := S + 4 + 4) (by omega) b2
  obtain ⟨J4, a4, b4, c4, d4⟩ := s_add (L := L) x4 (S := S + 4 + 4 + 4) (by omega) b3
  obtain ⟨J5, a5, b5, c5, d5⟩ := s_add (L := L) x5 (S := S + 4 + 4 + 4 + 4) (by omega) b4
  refine ⟨J5, ?_, ?_, fun i hi => ?_, fun a b p1 p2 => ?_⟩
  · simp (disch := omega) only [c_X9_feed, e_X9_feed_0, e_X9_feed_26, e_X9_feed_34, e_X9_feed_42, e_X9_feed_51, e_X9_feed_60, h1, a1, a2, a3, a4, a5, b5, Option.bind_some, Option.toList_some, Option.toList_none, List.cons_append, List.nil_append, Option.map_some, cond_true, cond_false, Bool.not_true, Bool.not_false, Bool.true_and, Bool.and_true, Bool.false_and, Bool.and_false, Bool.true_or, Bool.or_true, Bool.false_or, Bool.or_false, Bool.not_not, decide_true, decide_false, Bool.decide_eq_true, Bool.decide_eq_false, qz_0, qz_1, qz_n, qz_n0, qz_n1, qz_t, qz_f, Nat.reduceAdd, q0, q1, q2, q3, q4, q5, q6, q7, q8, q9, q10, q11, q12, q13, q14, q15, q16, q18, q19, q20, q21, q22, q23, q24, q25, q26, q27, q28, q29, q30, q31, q32, q38, q44, q45, q48, q57, q58, q59, q60, q63, q64, q97, q122, q126, q127, q128, q255, q256, q300, q580, q600, q1000, nI_add, q_lt_t, q_lt_f, q_eq_t, q_eq_f, q_clamp, q_in_t, q_in_f]
  · rw [b5]
  · have hq : i % 4 < 4 := Nat.mod_lt _ (by decide)
    obtain ⟨q, hq4, r, e⟩ : ∃ q, i / 4 = q ∧ ∃ r, i % 4 = r := ⟨_, rfl, _, rfl⟩
    have hi2 : i = 4 * q + r := by omega
    rw [hq4, e]
    have hr : r < 4 := by omega
    have hq5 : q = 0 ∨ q = 1 ∨ q = 2 ∨ q = 3 ∨ q = 4 := by omega
    rcases hq5 with rfl | rfl | rfl | rfl | rfl
    · rw [d5 4 _ (by omega) (by omega), d4 4 _ (by omega) (by omega), d3 4 _ (by omega) (by omega), d2 4 _ (by omega) (by omega), show S + i = S + r by omega, c1 r hr]
      rfl
    · rw [d5 4 _ (by omega) (by omega), d4 4 _ (by omega) (by omega), d3 4 _ (by omega) (by omega), show S + i = S + 4 + r by omega, c2 r hr]
      rfl
    · rw [d5 4 _ (by omega) (by omega), d4 4 _ (by omega) (by omega), show S + i = S + 4 + 4 + r by omega, c3 r hr]
      rfl
    · rw [d5 4 _ (by omega) (by omega), show S + i = S + 4 + 4 + 4 + r by omega, c4 r hr]
      rfl
    · rw [show S + i = S + 4 + 4 + 4 + 4 + r by omega, c5 r hr]
      rfl
  · rw [d5 a b (by omega) p2, d4 a b (by omega) p2, d3 a b (by omega) p2, d2 a b (by omega) p2, d1 a b p1 p2]
/-- the heap behind the reference's feed: one cell more -/
def hp5 (I : zI) (L : zL) : zH := (zSH ++ [.inr (0, 5)], I, zfil L 68 0, zfil zRR 68 none)
theorem feedM_loop {L : zL} {S : Nat} (hS : S + 20 ≤ 600) (X : Nat → Int32) : ∀ m k (J : zI), k + m = 20 → J 52 5 = nI S → (∀ j, j < 5 → J 68 j = X j) → ∃ J', zrun zZ kX10_feed (42, [some (.ref 52), none, none, none, none, none, some (.ref 68), some (.int (nI k))], [], (zSH ++ [.inr (0, 5)], J, L, zfil zRR 68 none), 1, 5) = some (some (.int (nI (S + 20))), (zSH ++ [.inr (0, 5)], J', L, zfil zRR 68 none), 1, 5) ∧ J' 52 5 = nI (S + 20) ∧ (∀ i, k ≤ i → i < 20 → J' 56 (S + i) = nI (byt (X (i / 4)) (i % 4))) ∧ (∀ a b, (a ≠ 56 ∨ b < S + k) → (a ≠ 52 ∨ b ≠ 5) → J' a b = J a b)
  | 0, k, J, h, h1, h2 => by
    obtain rfl : k = 20 := h
    refine ⟨zup J 52 5 (nI (S + 20)), ?_, zu_same _ _ _ _, fun i g1 g2 => by omega, fun a b p1 p2 => ?_⟩
    · rw [e_X10_feed_42]
      simp (disch := omega) only [h1, Option.bind_some, Option.toList_some, Option.toList_none, List.cons_append, List.nil_append, Option.map_some, cond_true, cond_false, Bool.not_true, Bool.not_false, Bool.true_and, Bool.and_true, Bool.false_and, Bool.and_false, Bool.true_or, Bool.or_true, Bool.false_or, Bool.or_false, Bool.not_not, decide_true, decide_false, Bool.decide_eq_true, Bool.decide_eq_false, qz_0, qz_1, qz_n, qz_n0, qz_n1, qz_t, qz_f, Nat.reduceAdd, q0, q1, q2, q3, q4, q5, q6, q7, q8, q9, q10, q11, q12, q13, q14, q15, q16, q18, q19, q20, q21, q22, q23, q24, q25, q26, q27, q28, q29, q30, q31, q32, q38, q44, q45, q48, q57, q58, q59, q60, q63, q64, q97, q122, q126, q127, q128, q255, q256, q300, q580, q600, q1000, nI_add, q_lt_t, q_lt_f, q_eq_t, q_eq_f, q_clamp, q_in_t, q_in_f]
    · by_cases z : a = 52
      · rw [zu_at (by omega)]
      · rw [zu_cell z]
  | m + 1, k, J, h, h1, h2 => by
    have hd : nI k / nI 4 = nI (k / 4) := pk_div (by omega) (by decide) (by decide)
    have hr : k - k / 4 * 4 = k % 4 := by omega
    have hx : zushr (X (k / 4)) (nI (24 - 8 * (k % 4))) &&& nI 255 = nI (byt (X (k / 4)) (k % 4)) := by
      have hn := (X (k / 4)).toBitVec.isLt
      have e : zushr (X (k / 4)) (nI (24 - 8 * (k % 4))) = nI ((X (k / 4)).toBitVec.toNat / 2 ^ (24 - 8 * (k % 4))) := by
        obtain ⟨n, hn, e⟩ := wb_of32 (X (k / 4))
        rw [e, zushr_nI hn _ (24 - 8 * (k % 4)) (s_u _ (by omega)), nI_bv hn]
      rw [e, pk_andN (Nat.lt_of_le_of_lt (Nat.div_le_self _ _) hn) 8 (by decide +kernel)]
      rfl
    obtain ⟨J', g1, g2, g3, g4⟩ := feedM_loop (L := L) hS X m (k + 1) (zup J 56 (S + k) (nI (byt (X (k / 4)) (k % 4)))) (by omega) (by rw [zu_cell (by omega)]; exact h1) (fun j hj => by rw [zu_cell (by omega)]; exact h2 j hj)
    refine ⟨J', ?_, g2, fun i p1 p2 => ?_, fun a b p1 p2 => ?_⟩
    · rw [e_X10_feed_42]
      simp (disch := omega) only [e_X10_feed_86, h1, hd, hr, q_mul, q_sub, h2 (k / 4) (by omega), hx, Option.bind_some, Option.toList_some, Option.toList_none, List.cons_append, List.nil_append, Option.map_some, cond_true, cond_false, Bool.not_true, Bool.not_false, Bool.true_and, Bool.and_true, Bool.false_and, Bool.and_false, Bool.true_or, Bool.or_true, Bool.false_or, Bool.or_false, Bool.not_not, decide_true, decide_false, Bool.decide_eq_true, Bool.decide_eq_false, qz_0, qz_1, qz_n, qz_n0, qz_n1, qz_t, qz_f, Nat.reduceAdd, q0, q1, q2, q3, q4, q5, q6, q7, q8, q9, q10, q11, q12, q13, q14, q15, q16, q18, q19, q20, q21, q22, q23, q24, q25, q26, q27, q28, q29, q30, q31, q32, q38, q44, q45, q48, q57, q58, q59, q60, q63, q64, q97, q122, q126, q127, q128, q255, q256, q300, q580, q600, q1000, nI_add, q_lt_t, q_lt_f, q_eq_t, q_eq_f, q_clamp, q_in_t, q_in_f]
      exact g1
    · rcases Nat.lt_or_ge k i with z | z
      · exact g3 i (by omega) p2
      · obtain rfl : i = k := by omega
        rw [g4 56 (S + i) (by omega) (by omega), zu_same]
    · rw [g4 a b (by omega) p2]
      by_cases z : a = 56
      · rw [zu_at (by omega)]
      · rw [zu_cell z]
theorem zf_same {α : Type} (f : Nat → Nat → α) (k : Nat) (v : α) (b : Nat) : zfil f k v k b = v := by
  unfold zfil
  rw [Nat.beq_refl]
  rfl
theorem zf_cell {α : Type} {f : Nat → Nat → α} {k : Nat} {v : α} {a b : Nat} (h : a ≠ k) : zfil f k v a b = f a b := by
  unfold zfil
  rw [zbeq_f h]
  rfl
theorem s_feedM {I : zI} {L : zL} {S : Nat} (hS : S + 20 ≤ 600) (h1 : I 52 5 = nI S) (x1 x2 x3 x4 x5 : Int32) : ∃ J, zcall zZ nX10_feed [.ref 52, .int x1, .int x2, .int x3, .int x4, .int x5] (hp I L) = some (some (.int (nI (S + 20))), hp5 J L) ∧ J 52 5 = nI (S + 20) ∧ (∀ i, i < 20 → J 56 (S + i) = nI (byt (fiv x1 x2 x3 x4 x5 (i / 4)) (i % 4))) ∧ (∀ a b, a ≠ 68 → (a ≠ 56 ∨ b < S) → (a ≠ 52 ∨ b ≠ 5) → J a b = I a b) := by
  obtain ⟨J, g1, g2, g3, g4⟩ := feedM_loop (L := zfil L 68 0) hS (fiv x1 x2 x3 x4 x5) 20 0 (zup (zup (zup (zup (zup (zfil I 68 (nI 0)) 68 0 x1) 68 1 x2) 68 2 x3) 68 3 x4) 68 4 x5) (by omega) (by simp (disch := omega) only [zu_same, zu_cell, zu_at, zf_cell, h1]) (fun j hj => by
    have hj5 : j = 0 ∨ j = 1 ∨ j = 2 ∨ j = 3 ∨ j = 4 := by omega
    rcases hj5 with rfl | rfl | rfl | rfl | rfl <;> simp (disch := omega) only [zu_same, zu_cell, zu_at, fiv])
  refine ⟨J, ?_, g2, fun i hi => g3 i (by omega) hi, fun a b p0 p1 p2 => ?_⟩
  · rw [c_X10_feed, e_X10_feed_0, h1]
    simp (disch := omega) only [e_X10_feed_39, Option.bind_some, Option.toList_some, Option.toList_none, List.cons_append, List.nil_append, Option.map_some, cond_true, cond_false, Bool.not_true, Bool.not_false, Bool.true_and, Bool.and_true, Bool.false_and, Bool.and_false, Bool.true_or, Bool.or_true, Bool.false_or, Bool.or_false, Bool.not_not, decide_true, decide_false, Bool.decide_eq_true, Bool.decide_eq_false, qz_0, qz_1, qz_n, qz_n0, qz_n1, qz_t, qz_f, Nat.reduceAdd, q0, q1, q2, q3, q4, q5, q6, q7, q8, q9, q10, q11, q12, q13, q14, q15, q16, q18, q19, q20, q21, q22, q23, q24, q25, q26, q27, q28, q29, q30, q31, q32, q38, q44, q45, q48, q57, q58, q59, q60, q63, q64, q97, q122, q126, q127, q128, q255, q256, q300, q580, q600, q1000, nI_add, q_lt_t, q_lt_f, q_eq_t, q_eq_f, q_clamp, q_in_t, q_in_f, g1]
    rfl
  · rw [g4 a b (by omega) p2]
    simp (disch := omega) only [zu_same, zu_cell, zu_at, zf_cell]
theorem p_feed {I : zI} {L : zL} {N w F T ln A S : Nat} (E : EV I L N w F T ln A S) (x1 x2 x3 x4 x5 : Int32) : (∃ J J2, zcall zZ nX9_feed [.ref 0, .int x1, .int x2, .int x3, .int x4, .int x5] (hp I L) = some (some (.int (nI (S + 20))), hp J L) ∧ zcall zZ nX10_feed [.ref 52, .int x1, .int x2, .int x3, .int x4, .int x5] (hp J L) = some (some (.int (nI (S + 20))), hp5 J2 L) ∧ EV J2 L N w F T ln A (S + 20) ∧ (∀ a b, a ≠ 68 → a ≠ 3 → a ≠ 4 → a ≠ 56 → (a ≠ 52 ∨ b ≠ 5) → J2 a b = I a b)) ∨ SAME nX9_feed nX10_feed [.int x1, .int x2, .int x3, .int x4, .int x5] I L := by
  obtain ⟨D, ⟨s1, s2, s3, s4⟩, hA, hF, hT⟩ := E
  by_cases hS : S + 20 ≤ 600
  · left
    obtain ⟨J, a1, a2, a3, a4⟩ := s_feedX (L := L) hS s2 x1 x2 x3 x4 x5
    obtain ⟨J2, b1, b2, b3, b4⟩ := s_feedM (L := L) hS ((a4 52 5 (by omega) (by omega)).trans s3) x1 x2 x3 x4 x5
    have ko : ∀ a b, a ≠ 68 → a ≠ 3 → a ≠ 4 → a ≠ 56 → (a ≠ 52 ∨ b ≠ 5) → J2 a b = I a b := fun a b p1 p2 p3 p4 p5 => (b4 a b p1 (by omega) p5).trans (a4 a b (by omega) (by omega))
    refine ⟨J, J2, a1, b1, ⟨?_, ?_, ?_, ?_, ?_⟩, ko⟩
    · exact D.cg (fun a b h => ko a b (by omega) (by omega) (by omega) (by omega) (by omega)) (fun _ => rfl)
    · refine ⟨hS, (b4 3 1 (by omega) (by omega) (by omega)).trans a2, b2, fun i hi => ?_⟩
      rcases Nat.lt_or_ge i S with z | z
      · rw [b4 56 i (by omega) (by omega) (by omega), b4 4 i (by omega) (by omega) (by omega), a4 56 i (by omega) (by omega), a4 4 i (by omega) (by omega)]
        exact s4 i z
      · obtain ⟨k, rfl⟩ : ∃ k, i = S + k := ⟨i - S, by omega⟩
        refine ⟨_, byt_lt _ _, b3 k (by omega), ?_⟩
        rw [b4 4 _ (by omega) (by omega) (by omega)]
        exact a3 k (by omega)
    · exact hA.cg (ko _ _ (by omega) (by omega) (by omega) (by omega) (by omega)) (ko _ _ (by omega) (by omega) (by omega) (by omega) (by omega)) (fun b => ko _ _ (by omega) (by omega) (by omega) (by omega) (by omega)) (fun b => ko _ _ (by omega) (by omega) (by omega) (by omega) (by omega))
    · exact hF.cg (fun b => ko _ _ (by omega) (by omega) (by omega) (by omega) (by omega)) (ko _ _ (by omega) (by omega) (by omega) (by omega) (by omega)) (ko _ _ (by omega) (by omega) (by omega) (by omega) (by omega))
    · exact hT.cg (fun b => ko _ _ (by omega) (by omega) (by omega) (by omega) (by omega)) (fun b hb => ko _ _ (by omega) (by omega) (by omega) (by omega) (by omega))
  · right
    refine ⟨.int (-1), ?_, ?_⟩
    · simp (disch := omega) only [c_X9_feed, e_X9_feed_0, s2, Option.bind_some, Option.toList_some, Option.toList_none, List.cons_append, List.nil_append, Option.map_some, cond_true, cond_false, Bool.not_true, Bool.not_false, Bool.true_and, Bool.and_true, Bool.false_and, Bool.and_false, Bool.true_or, Bool.or_true, Bool.false_or, Bool.or_false, Bool.not_not, decide_true, decide_false, Bool.decide_eq_true, Bool.decide_eq_false, qz_0, qz_1, qz_n, qz_n0, qz_n1, qz_t, qz_f, Nat.reduceAdd, q0, q1, q2, q3, q4, q5, q6, q7, q8, q9, q10, q11, q12, q13, q14, q15, q16, q18, q19, q20, q21, q22, q23, q24, q25, q26, q27, q28, q29, q30, q31, q32, q38, q44, q45, q48, q57, q58, q59, q60, q63, q64, q97, q122, q126, q127, q128, q255, q256, q300, q580, q600, q1000, nI_add, q_lt_t, q_lt_f, q_eq_t, q_eq_f, q_clamp, q_in_t, q_in_f]
    · rw [c_X10_feed, e_X10_feed_0, s3]
      simp (disch := omega) only [Option.bind_some, Option.toList_some, Option.toList_none, List.cons_append, List.nil_append, Option.map_some, cond_true, cond_false, Bool.not_true, Bool.not_false, Bool.true_and, Bool.and_true, Bool.false_and, Bool.and_false, Bool.true_or, Bool.or_true, Bool.false_or, Bool.or_false, Bool.not_not, decide_true, decide_false, Bool.decide_eq_true, Bool.decide_eq_false, qz_0, qz_1, qz_n, qz_n0, qz_n1, qz_t, qz_f, Nat.reduceAdd, q0, q1, q2, q3, q4, q5, q6, q7, q8, q9, q10, q11, q12, q13, q14, q15, q16, q18, q19, q20, q21, q22, q23, q24, q25, q26, q27, q28, q29, q30, q31, q32, q38, q44, q45, q48, q57, q58, q59, q60, q63, q64, q97, q122, q126, q127, q128, q255, q256, q300, q580, q600, q1000, nI_add, q_lt_t, q_lt_f, q_eq_t, q_eq_f, q_clamp, q_in_t, q_in_f]
