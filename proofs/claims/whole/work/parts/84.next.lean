/-! next() -/
theorem mn_n {a b : Nat} (ha : a < 2000000) (hb : b < 2000000) : (if nI b < nI a then nI b else nI a) = nI (min a b) := by
  by_cases h : b < a
  · rw [if_pos (nI_lt h (by omega)), Nat.min_eq_right (by omega)]
  · rw [if_neg (nI_nlt (by omega) (by omega)), Nat.min_eq_left (by omega)]
def RT (J : zI) (B : Nat → Nat) (S p : Nat) : Prop := J 52 9 = nI (tS B S p) ∧ J 52 8 = nI (tE B S p) ∧ (tS B S p = S → J 52 10 = nI 0 ∧ J 52 11 = nI 0 ∧ J 52 12 = -nI 1) ∧ (tS B S p < S → J 52 10 = nI (tyK (kb (B (tS B S p)))) ∧ J 52 11 = nI (if kb (B (tS B S p)) = 20 then numR B (tE B S p - tS B S p) (tS B S p) 0 else 0) ∧ J 52 12 = if kb (B (tS B S p)) = 19 then kxI (kx (let' B (tS B S p) (tE B S p)) 19 0) else -nI 1)
theorem BT.cu {I J : zI} {B : Nat → Nat} {S : Nat} (h : BT I B S) (h1 : ∀ x y, (x ≠ 52 ∨ y < 8 ∨ 12 < y) → J x y = I x y) : BT J B S := h.cg (h1 _ _ (by omega)) (fun b => h1 _ _ (by omega))
theorem nx_skip {B : Nat → Nat} {S : Nat} {L : zL} : ∀ m p (I : zI), p + m = S → BT I B S → I 52 8 = nI p → ∃ J, zrun zZ kX10_next (0, [some (.ref 52)], [], hp I L, 0, 0) = zrun zZ kX10_next (0, [some (.ref 52)], [], hp J L, 0, 0) ∧ J 52 8 = nI (skp B m p) ∧ (∀ x y, (x ≠ 52 ∨ y ≠ 8) → J x y = I x y)
  | 0, p, I, h, hB, h8 => ⟨I, rfl, h8, fun _ _ _ => rfl⟩
  | m + 1, p, I, h, hB, h8 => by
    have hS := hB.1
    unfold skp
    by_cases z : kb (B p) = 26
    · rw [if_pos z]
      obtain ⟨J, g1, g2, g3⟩ := nx_skip (L := L) m (p + 1) (zup I 52 8 (nI (p + 1))) (by omega) (hB.cg (zu_at (by omega)) (fun b => zu_cell (by omega))) (zu_same _ _ _ _)
      refine ⟨J, ?_, g2, fun x y q => ?_⟩
      · rw [← g1, e_X10_next_0]
        have a1 := s_isAt L hB h8 (by omega) (a := 32) (b := 32) (by omega) (by omega)
        have a2 := s_isAt L hB h8 (by omega) (a := 10) (b := 10) (by omega) (by omega)
        rw [decide_eq_true (show p < S by omega), Bool.true_and] at a1 a2
        rcases kb_blk.mp z with y | y
        · rw [y] at a1 a2
          have a1 : zcall zZ nX10_isAt [.ref 52, .int (nI 32), .int (nI 32)] (hp I L) = some (some (.int (nI 0)), hp I L) := a1
          have a2 : zcall zZ nX10_isAt [.ref 52, .int (nI 10), .int (nI 10)] (hp I L) = some (some (.int (nI 1)), hp I L) := a2
          simp (disch := omega) only [e_X10_next_8, e_X10_next_19, e_X10_next_22, a1, a2, h8, Option.bind_some, Option.toList_some, Option.toList_none, List.cons_append, List.nil_append, Option.map_some, cond_true, cond_false, Bool.not_true, Bool.not_false, Bool.true_and, Bool.and_true, Bool.false_and, Bool.and_false, Bool.true_or, Bool.or_true, Bool.false_or, Bool.or_false, Bool.not_not, decide_true, decide_false, Bool.decide_eq_true, Bool.decide_eq_false, qz_0, qz_1, qz_n, qz_n0, qz_n1, qz_t, qz_f, Nat.reduceAdd, q1000000, q0, q1, q2, q3, q4, q5, q6, q7, q8, q9, q10, q11, q12, q13, q14, q15, q16, q18, q19, q20, q21, q22, q23, q24, q25, q26, q27, q28, q29, q30, q31, q32, q38, q44, q45, q48, q57, q58, q59, q60, q63, q64, q97, q122, q126, q127, q128, q255, q256, q300, q580, q600, q1000, nI_add, q_lt_t, q_lt_f, q_eq_t, q_eq_f, q_clamp, q_in_t, q_in_f]
        · rw [y] at a1
          have a1 : zcall zZ nX10_isAt [.ref 52, .int (nI 32), .int (nI 32)] (hp I L) = some (some (.int (nI 1)), hp I L) := a1
          simp (disch := omega) only [e_X10_next_8, e_X10_next_22, a1, h8, Option.bind_some, Option.toList_some, Option.toList_none, List.cons_append, List.nil_append, Option.map_some, cond_true, cond_false, Bool.not_true, Bool.not_false, Bool.true_and, Bool.and_true, Bool.false_and, Bool.and_false, Bool.true_or, Bool.or_true, Bool.false_or, Bool.or_false, Bool.not_not, decide_true, decide_false, Bool.decide_eq_true, Bool.decide_eq_false, qz_0, qz_1, qz_n, qz_n0, qz_n1, qz_t, qz_f, Nat.reduceAdd, q1000000, q0, q1, q2, q3, q4, q5, q6, q7, q8, q9, q10, q11, q12, q13, q14, q15, q16, q18, q19, q20, q21, q22, q23, q24, q25, q26, q27, q28, q29, q30, q31, q32, q38, q44, q45, q48, q57, q58, q59, q60, q63, q64, q97, q122, q126, q127, q128, q255, q256, q300, q580, q600, q1000, nI_add, q_lt_t, q_lt_f, q_eq_t, q_eq_f, q_clamp, q_in_t, q_in_f]
      · rw [g3 x y q]
        by_cases u : x = 52
        · rw [zu_at (by omega)]
        · rw [zu_cell u]
    · rw [if_neg z]
      exact ⟨I, rfl, h8, fun _ _ _ => rfl⟩
theorem nx_word {B : Nat → Nat} {S : Nat} {L : zL} : ∀ m p (I : zI), p + m = S → BT I B S → I 52 8 = nI p → ∃ J, zrun zZ kX10_next (88, [some (.ref 52)], [], hp I L, 0, 0) = ((zcall zZ nX10_wordHere [.ref 52] (hp J L)).bind (fun q => zrun zZ kX10_next (117, [none], q.1.toList ++ [.ref 52], q.2, 0, 0))) ∧ J 52 8 = nI (rnk B 19 m p) ∧ (∀ x y, (x ≠ 52 ∨ y ≠ 8) → J x y = I x y)
  | 0, p, I, h, hB, h8 => by
    have a1 := s_isAt L hB h8 (by omega) (a := 97) (b := 122) (by omega) (by omega)
    rw [decide_eq_false (show ¬ p < S by omega), Bool.false_and] at a1
    refine ⟨I, ?_, h8, fun _ _ _ => rfl⟩
    rw [e_X10_next_88]
    simp (disch := omega) only [e_X10_next_96, a1, Option.bind_some, Option.toList_some, Option.toList_none, List.cons_append, List.nil_append, Option.map_some, cond_true, cond_false, Bool.not_true, Bool.not_false, Bool.true_and, Bool.and_true, Bool.false_and, Bool.and_false, Bool.true_or, Bool.or_true, Bool.false_or, Bool.or_false, Bool.not_not, decide_true, decide_false, Bool.decide_eq_true, Bool.decide_eq_false, qz_0, qz_1, qz_n, qz_n0, qz_n1, qz_t, qz_f, Nat.reduceAdd, q1000000, q0, q1, q2, q3, q4, q5, q6, q7, q8, q9, q10, q11, q12, q13, q14, q15, q16, q18, q19, q20, q21, q22, q23, q24, q25, q26, q27, q28, q29, q30, q31, q32, q38, q44, q45, q48, q57, q58, q59, q60, q63, q64, q97, q122, q126, q127, q128, q255, q256, q300, q580, q600, q1000, nI_add, q_lt_t, q_lt_f, q_eq_t, q_eq_f, q_clamp, q_in_t, q_in_f]
  | m + 1, p, I, h, hB, h8 => by
    have hS := hB.1
    have a1 := s_isAt L hB h8 (by omega) (a := 97) (b := 122) (by omega) (by omega)
    rw [decide_eq_true (show p < S by omega), Bool.true_and] at a1
    unfold rnk
    by_cases z : kb (B p) = 19
    · obtain ⟨y1, y2⟩ := kb_let.mp z
      rw [decide_eq_true y1, decide_eq_true y2] at a1
      rw [if_pos z]
      obtain ⟨J, g1, g2, g3⟩ := nx_word (L := L) m (p + 1) (zup I 52 8 (nI (p + 1))) (by omega) (hB.cg (zu_at (by omega)) (fun b => zu_cell (by omega))) (zu_same _ _ _ _)
      refine ⟨J, ?_, g2, fun x y q => ?_⟩
      · rw [← g1, e_X10_next_88]
        simp (disch := omega) only [e_X10_next_96, a1, h8, Option.bind_some, Option.toList_some, Option.toList_none, List.cons_append, List.nil_append, Option.map_some, cond_true, cond_false, Bool.not_true, Bool.not_false, Bool.true_and, Bool.and_true, Bool.false_and, Bool.and_false, Bool.true_or, Bool.or_true, Bool.false_or, Bool.or_false, Bool.not_not, decide_true, decide_false, Bool.decide_eq_true, Bool.decide_eq_false, qz_0, qz_1, qz_n, qz_n0, qz_n1, qz_t, qz_f, Nat.reduceAdd, q1000000, q0, q1, q2, q3, q4, q5, q6, q7, q8, q9, q10, q11, q12, q13, q14, q15, q16, q18, q19, q20, q21, q22, q23, q24, q25, q26, q27, q28, q29, q30, q31, q32, q38, q44, q45, q48, q57, q58, q59, q60, q63, q64, q97, q122, q126, q127, q128, q255, q256, q300, q580, q600, q1000, nI_add, q_lt_t, q_lt_f, q_eq_t, q_eq_f, q_clamp, q_in_t, q_in_f]
      · rw [g3 x y q]
        by_cases u : x = 52
        · rw [zu_at (by omega)]
        · rw [zu_cell u]
    · have y : (decide (97 ≤ B p) && decide (B p ≤ 122)) = false := by
        cases q : (decide (97 ≤ B p) && decide (B p ≤ 122)) with
        | false => rfl
        | true =>
          rw [Bool.and_eq_true, decide_eq_true_iff, decide_eq_true_iff] at q
          exact absurd (kb_let.mpr q) z
      rw [y] at a1
      rw [if_neg z]
      refine ⟨I, ?_, h8, fun _ _ _ => rfl⟩
      rw [e_X10_next_88]
      simp (disch := omega) only [e_X10_next_96, a1, Option.bind_some, Option.toList_some, Option.toList_none, List.cons_append, List.nil_append, Option.map_some, cond_true, cond_false, Bool.not_true, Bool.not_false, Bool.true_and, Bool.and_true, Bool.false_and, Bool.and_false, Bool.true_or, Bool.or_true, Bool.false_or, Bool.or_false, Bool.not_not, decide_true, decide_false, Bool.decide_eq_true, Bool.decide_eq_false, qz_0, qz_1, qz_n, qz_n0, qz_n1, qz_t, qz_f, Nat.reduceAdd, q1000000, q0, q1, q2, q3, q4, q5, q6, q7, q8, q9, q10, q11, q12, q13, q14, q15, q16, q18, q19, q20, q21, q22, q23, q24, q25, q26, q27, q28, q29, q30, q31, q32, q38, q44, q45, q48, q57, q58, q59, q60, q63, q64, q97, q122, q126, q127, q128, q255, q256, q300, q580, q600, q1000, nI_add, q_lt_t, q_lt_f, q_eq_t, q_eq_f, q_clamp, q_in_t, q_in_f]
theorem nx_num {B : Nat → Nat} {S : Nat} {L : zL} : ∀ m p v (I : zI), p + m = S → v ≤ 99999 → BT I B S → I 52 8 = nI p → I 52 11 = nI v → ∃ J, zrun zZ kX10_next (139, [some (.ref 52)], [], hp I L, 0, 0) = some (none, hp J L, 0, 0) ∧ J 52 8 = nI (rnk B 20 m p) ∧ J 52 11 = nI (numR B (rnk B 20 m p - p) p v) ∧ (∀ x y, (x ≠ 52 ∨ (y ≠ 8 ∧ y ≠ 11)) → J x y = I x y)
  | 0, p, v, I, h, hv, hB, h8, h11 => by
    have a1 := s_isAt L hB h8 (by omega) (a := 48) (b := 57) (by omega) (by omega)
    rw [decide_eq_false (show ¬ p < S by omega), Bool.false_and] at a1
    refine ⟨I, ?_, h8, ?_, fun _ _ _ => rfl⟩
    · rw [e_X10_next_139]
      simp (disch := omega) only [e_X10_next_147, e_X10_next_244, a1, Option.bind_some, Option.toList_some, Option.toList_none, List.cons_append, List.nil_append, Option.map_some, cond_true, cond_false, Bool.not_true, Bool.not_false, Bool.true_and, Bool.and_true, Bool.false_and, Bool.and_false, Bool.true_or, Bool.or_true, Bool.false_or, Bool.or_false, Bool.not_not, decide_true, decide_false, Bool.decide_eq_true, Bool.decide_eq_false, qz_0, qz_1, qz_n, qz_n0, qz_n1, qz_t, qz_f, Nat.reduceAdd, q1000000, q0, q1, q2, q3, q4, q5, q6, q7, q8, q9, q10, q11, q12, q13, q14, q15, q16, q18, q19, q20, q21, q22, q23, q24, q25, q26, q27, q28, q29, q30, q31, q32, q38, q44, q45, q48, q57, q58, q59, q60, q63, q64, q97, q122, q126, q127, q128, q255, q256, q300, q580, q600, q1000, nI_add, q_lt_t, q_lt_f, q_eq_t, q_eq_f, q_clamp, q_in_t, q_in_f]
    · show I 52 11 = nI (numR B (p - p) p v)
      rw [Nat.sub_self]
      exact h11
  | m + 1, p, v, I, h, hv, hB, h8, h11 => by
    have hS := hB.1
    have a1 := s_isAt L hB h8 (by omega) (a := 48) (b := 57) (by omega) (by omega)
    rw [decide_eq_true (show p < S by omega), Bool.true_and] at a1
    unfold rnk
    by_cases z : kb (B p) = 20
    · obtain ⟨y1, y2⟩ := kb_dig.mp z
      rw [decide_eq_true y1, decide_eq_true y2] at a1
      rw [if_pos z]
      have b4 := (hB.2.2.2 p (by omega)).2.1
      have hr := rnk_le B 20 m (p + 1)
      obtain ⟨J, g1, g2, g3, g4⟩ := nx_num (L := L) m (p + 1) (min 99999 (10 * v + B p - 48)) (zup (zup I 52 11 (nI (min 99999 (10 * v + B p - 48)))) 52 8 (nI (p + 1))) (by omega) (by omega) (hB.cg (by rw [zu_at (by omega), zu_at (by omega)]) (fun b => by rw [zu_cell (by omega), zu_cell (by omega)])) (zu_same _ _ _ _) (by rw [zu_at (by omega), zu_same])
      refine ⟨J, ?_, g2, ?_, fun x y q => ?_⟩
      · have hmin : ∀ h : zH, zcall zZ nJ9_min_7cf53 [.int (nI 99999), .int (nI (10 * v + B p - 48))] h = some (some (.int (nI (min 99999 (10 * v + B p - 48)))), h) := fun h => by rw [j_min, mn_n (by omega) (by omega)]
        rw [← g1, e_X10_next_139]
        simp (disch := omega) only [e_X10_next_147, e_X10_next_176, a1, h8, h11, b4, q_mul, q_sub, show (99999 : Int32) = nI 99999 from rfl, hmin, zu_same, zu_cell, zu_at, Option.bind_some, Option.toList_some, Option.toList_none, List.cons_append, List.nil_append, Option.map_some, cond_true, cond_false, Bool.not_true, Bool.not_false, Bool.true_and, Bool.and_true, Bool.false_and, Bool.and_false, Bool.true_or, Bool.or_true, Bool.false_or, Bool.or_false, Bool.not_not, decide_true, decide_false, Bool.decide_eq_true, Bool.decide_eq_false, qz_0, qz_1, qz_n, qz_n0, qz_n1, qz_t, qz_f, Nat.reduceAdd, q1000000, q0, q1, q2, q3, q4, q5, q6, q7, q8, q9, q10, q11, q12, q13, q14, q15, q16, q18, q19, q20, q21, q22, q23, q24, q25, q26, q27, q28, q29, q30, q31, q32, q38, q44, q45, q48, q57, q58, q59, q60, q63, q64, q97, q122, q126, q127, q128, q255, q256, q300, q580, q600, q1000, nI_add, q_lt_t, q_lt_f, q_eq_t, q_eq_f, q_clamp, q_in_t, q_in_f]
      · rw [g3, show rnk B 20 m (p + 1) - p = (rnk B 20 m (p + 1) - (p + 1)) + 1 by omega]
        rfl
      · rw [g4 x y q]
        by_cases u : x = 52
        · rw [zu_at (by omega), zu_at (by omega)]
        · rw [zu_cell u, zu_cell u]
    · have y : (decide (48 ≤ B p) && decide (B p ≤ 57)) = false := by
        cases q : (decide (48 ≤ B p) && decide (B p ≤ 57)) with
        | false => rfl
        | true =>
          rw [Bool.and_eq_true, decide_eq_true_iff, decide_eq_true_iff] at q
          exact absurd (kb_dig.mpr q) z
      rw [y] at a1
      rw [if_neg z]
      refine ⟨I, ?_, h8, ?_, fun _ _ _ => rfl⟩
      · rw [e_X10_next_139]
        simp (disch := omega) only [e_X10_next_147, e_X10_next_244, a1, Option.bind_some, Option.toList_some, Option.toList_none, List.cons_append, List.nil_append, Option.map_some, cond_true, cond_false, Bool.not_true, Bool.not_false, Bool.true_and, Bool.and_true, Bool.false_and, Bool.and_false, Bool.true_or, Bool.or_true, Bool.false_or, Bool.or_false, Bool.not_not, decide_true, decide_false, Bool.decide_eq_true, Bool.decide_eq_false, qz_0, qz_1, qz_n, qz_n0, qz_n1, qz_t, qz_f, Nat.reduceAdd, q1000000, q0, q1, q2, q3, q4, q5, q6, q7, q8, q9, q10, q11, q12, q13, q14, q15, q16, q18, q19, q20, q21, q22, q23, q24, q25, q26, q27, q28, q29, q30, q31, q32, q38, q44, q45, q48, q57, q58, q59, q60, q63, q64, q97, q122, q126, q127, q128, q255, q256, q300, q580, q600, q1000, nI_add, q_lt_t, q_lt_f, q_eq_t, q_eq_f, q_clamp, q_in_t, q_in_f]
      · rw [Nat.sub_self]
        exact h11
