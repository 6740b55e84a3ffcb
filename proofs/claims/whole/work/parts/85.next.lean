theorem at_no {I : zI} {B : Nat → Nat} {S : Nat} {L : zL} (hB : BT I B S) {p : Nat} (hp8 : I 52 8 = nI p) (hpS : p ≤ S) {a b : Nat} (ha : a < 300) (hb : b < 300) (h : p < S → ¬ (a ≤ B p ∧ B p ≤ b)) : zcall zZ nX10_isAt [.ref 52, .int (nI a), .int (nI b)] (hp I L) = some (some (.int (nI 0)), hp I L) := by
  rw [s_isAt L hB hp8 hpS ha hb]
  by_cases z : p < S
  · have y : (decide (a ≤ B p) && decide (B p ≤ b)) = false := by
      cases q : (decide (a ≤ B p) && decide (B p ≤ b)) with
      | false => rfl
      | true =>
        rw [Bool.and_eq_true, decide_eq_true_iff, decide_eq_true_iff] at q
        exact absurd q (h z)
    rw [y, Bool.and_false]
    rfl
  · rw [decide_eq_false z]
    rfl
theorem at_yes {I : zI} {B : Nat → Nat} {S : Nat} {L : zL} (hB : BT I B S) {p : Nat} (hp8 : I 52 8 = nI p) (hpS : p < S) {a b : Nat} (ha : a < 300) (hb : b < 300) (h : a ≤ B p ∧ B p ≤ b) : zcall zZ nX10_isAt [.ref 52, .int (nI a), .int (nI b)] (hp I L) = some (some (.int (nI 1)), hp I L) := by
  rw [s_isAt L hB hp8 (by omega) ha hb, decide_eq_true hpS, decide_eq_true h.1, decide_eq_true h.2]
  rfl
theorem s_next {I : zI} {B : Nat → Nat} {S p : Nat} (L : zL) (hB : BT I B S) (h8 : I 52 8 = nI p) (hpS : p ≤ S) : ∃ J, zcall zZ nX10_next [.ref 52] (hp I L) = some (none, hp J L) ∧ RT J B S p ∧ (∀ x y, (x ≠ 52 ∨ y < 8 ∨ 12 < y) → J x y = I x y) := by
  have hS := hB.1
  obtain ⟨J0, g1, g2, g3⟩ := nx_skip (L := L) (S - p) p I (by omega) hB h8
  have g2 : J0 52 8 = nI (tS B S p) := g2
  obtain ⟨l1, l2⟩ := tS_le B hpS
  have hB0 : BT J0 B S := hB.cu (fun x y q => g3 x y (by omega))
  have hnb : tS B S p < S → kb (B (tS B S p)) ≠ 26 := fun h => skp_end B (S - p) p (by
    have h : skp B (S - p) p < S := h
    omega)
  obtain ⟨s, hs⟩ : ∃ s, s = tS B S p := ⟨_, rfl⟩
  unfold RT
  rw [← hs] at g2 l1 l2 hnb ⊢
  have a1 := at_no (L := L) hB0 g2 l2 (a := 32) (b := 32) (by omega) (by omega) (fun h q => hnb h (kb_blk.mpr (by omega)))
  have a2 := at_no (L := L) hB0 g2 l2 (a := 10) (b := 10) (by omega) (by omega) (fun h q => hnb h (kb_blk.mpr (by omega)))
  obtain ⟨J1, hJ1⟩ : ∃ J1, J1 = zup (zup (zup J0 52 9 (nI s)) 52 11 (nI 0)) 52 12 (-nI 1) := ⟨_, rfl⟩
  have o1 : ∀ x y, (x ≠ 52 ∨ (y ≠ 9 ∧ y ≠ 11 ∧ y ≠ 12)) → J1 x y = J0 x y := fun x y q => by
    rw [hJ1]
    by_cases u : x = 52
    · rw [zu_at (by omega), zu_at (by omega), zu_at (by omega)]
    · rw [zu_cell u, zu_cell u, zu_cell u]
  have v9 : J1 52 9 = nI s := by rw [hJ1, zu_at (by omega), zu_at (by omega), zu_same]
  have v11 : J1 52 11 = nI 0 := by rw [hJ1, zu_at (by omega), zu_same]
  have v12 : J1 52 12 = -nI 1 := by rw [hJ1, zu_same]
  have oI : ∀ x y, (x ≠ 52 ∨ y < 8 ∨ 12 < y) → J1 x y = I x y := fun x y q => (o1 x y (by omega)).trans (g3 x y (by omega))
  have start : s = S ∨ (s < S ∧ zcall zZ nX10_next [.ref 52] (hp I L) = (zrun zZ kX10_next (72, [some (.ref 52)], [], hp J1 L, 0, 0)).map (fun r => (r.1, r.2.1))) := by
    by_cases z : s = S
    · exact Or.inl z
    · refine Or.inr ⟨by omega, ?_⟩
      rw [c_X10_next, g1, e_X10_next_0]
      simp (disch := omega) only [e_X10_next_8, e_X10_next_19, a1, a2, g2, hB0.2.2.1, ← hJ1, Option.bind_some, Option.toList_some, Option.toList_none, List.cons_append, List.nil_append, Option.map_some, cond_true, cond_false, Bool.not_true, Bool.not_false, Bool.true_and, Bool.and_true, Bool.false_and, Bool.and_false, Bool.true_or, Bool.or_true, Bool.false_or, Bool.or_false, Bool.not_not, decide_true, decide_false, Bool.decide_eq_true, Bool.decide_eq_false, qz_0, qz_1, qz_n, qz_n0, qz_n1, qz_t, qz_f, Nat.reduceAdd, q1000000, q0, q1, q2, q3, q4, q5, q6, q7, q8, q9, q10, q11, q12, q13, q14, q15, q16, q18, q19, q20, q21, q22, q23, q24, q25, q26, q27, q28, q29, q30, q31, q32, q38, q44, q45, q48, q57, q58, q59, q60, q63, q64, q97, q122, q126, q127, q128, q255, q256, q300, q580, q600, q1000, nI_add, q_lt_t, q_lt_f, q_eq_t, q_eq_f, q_clamp, q_in_t, q_in_f]
  rcases start with z | ⟨z, start⟩
  · have eE : tE B S p = S := by
      unfold tE
      rw [← hs, if_pos z]
    refine ⟨zup J1 52 10 (nI 0), ?_, ⟨?_, ?_, fun _ => ⟨?_, ?_, ?_⟩, fun q => by omega⟩, fun x y q => ?_⟩
    · rw [c_X10_next, g1, e_X10_next_0]
      rw [z] at g2 hJ1
      simp (disch := omega) only [e_X10_next_8, e_X10_next_19, e_X10_next_244, a1, a2, g2, hB0.2.2.1, ← hJ1, Option.bind_some, Option.toList_some, Option.toList_none, List.cons_append, List.nil_append, Option.map_some, cond_true, cond_false, Bool.not_true, Bool.not_false, Bool.true_and, Bool.and_true, Bool.false_and, Bool.and_false, Bool.true_or, Bool.or_true, Bool.false_or, Bool.or_false, Bool.not_not, decide_true, decide_false, Bool.decide_eq_true, Bool.decide_eq_false, qz_0, qz_1, qz_n, qz_n0, qz_n1, qz_t, qz_f, Nat.reduceAdd, q1000000, q0, q1, q2, q3, q4, q5, q6, q7, q8, q9, q10, q11, q12, q13, q14, q15, q16, q18, q19, q20, q21, q22, q23, q24, q25, q26, q27, q28, q29, q30, q31, q32, q38, q44, q45, q48, q57, q58, q59, q60, q63, q64, q97, q122, q126, q127, q128, q255, q256, q300, q580, q600, q1000, nI_add, q_lt_t, q_lt_f, q_eq_t, q_eq_f, q_clamp, q_in_t, q_in_f]
    · rw [zu_at (by omega)]
      exact v9
    · rw [zu_at (by omega), o1 _ _ (by omega), g2, eE, z]
    · rw [zu_same]
    · rw [zu_at (by omega)]
      exact v11
    · rw [zu_at (by omega)]
      exact v12
    · by_cases u : x = 52
      · rw [zu_at (by omega), oI x y q]
      · rw [zu_cell u, oI x y q]
  · have hsn : ¬ s = S := by omega
    have hB1 : BT J1 B S := hB.cu oI
    have v8 : J1 52 8 = nI s := (o1 _ _ (by omega)).trans g2
    by_cases k19 : kb (B s) = 19
    · have eE : tE B S p = rnk B 19 (S - s) s := by
        unfold tE
        rw [← hs, if_neg hsn, if_pos (Or.inl k19), k19]
      have hr := rnk_le B 19 (S - s) s
      have c1 := at_yes (L := L) hB1 v8 z (a := 97) (b := 122) (by omega) (by omega) (kb_let.mp k19)
      obtain ⟨J2, w1, w2, w3⟩ := nx_word (L := L) (S - s) s (zup J1 52 10 (nI 1)) (by omega) (hB1.cg (zu_at (by omega)) (fun b => zu_cell (by omega))) (by rw [zu_at (by omega)]; exact v8)
      have o2 : ∀ x y, (x ≠ 52 ∨ (y ≠ 8 ∧ y ≠ 10)) → J2 x y = J1 x y := fun x y q => by
        rw [w3 x y (by omega)]
        by_cases u : x = 52
        · rw [zu_at (by omega)]
        · rw [zu_cell u]
      have hB2 : BT J2 B S := hB.cu (fun x y q => (o2 x y (by omega)).trans (oI x y q))
      have hw := s_wordHere L hB2 ((o2 _ _ (by omega)).trans v9) w2 (by omega) (by omega)
      rw [← eE] at w2 hw
      refine ⟨zup J2 52 12 (kxI (kx (let' B s (tE B S p)) 19 0)), ?_, ⟨?_, ?_, fun q => by omega, fun _ => ⟨?_, ?_, ?_⟩⟩, fun x y q => ?_⟩
      · rw [start, e_X10_next_72]
        simp (disch := omega) only [e_X10_next_80, e_X10_next_117, e_X10_next_244, c1, w1, hw, Option.bind_some, Option.toList_some, Option.toList_none, List.cons_append, List.nil_append, Option.map_some, cond_true, cond_false, Bool.not_true, Bool.not_false, Bool.true_and, Bool.and_true, Bool.false_and, Bool.and_false, Bool.true_or, Bool.or_true, Bool.false_or, Bool.or_false, Bool.not_not, decide_true, decide_false, Bool.decide_eq_true, Bool.decide_eq_false, qz_0, qz_1, qz_n, qz_n0, qz_n1, qz_t, qz_f, Nat.reduceAdd, q1000000, q0, q1, q2, q3, q4, q5, q6, q7, q8, q9, q10, q11, q12, q13, q14, q15, q16, q18, q19, q20, q21, q22, q23, q24, q25, q26, q27, q28, q29, q30, q31, q32, q38, q44, q45, q48, q57, q58, q59, q60, q63, q64, q97, q122, q126, q127, q128, q255, q256, q300, q580, q600, q1000, nI_add, q_lt_t, q_lt_f, q_eq_t, q_eq_f, q_clamp, q_in_t, q_in_f]
      · rw [zu_at (by omega), o2 _ _ (by omega)]
        exact v9
      · rw [zu_at (by omega)]
        exact w2
      · rw [zu_at (by omega), w3 _ _ (by omega), zu_same, k19]
        rfl
      · rw [zu_at (by omega), o2 _ _ (by omega), if_neg (by omega)]
        exact v11
      · rw [zu_same, if_pos k19]
      · by_cases u : x = 52
        · rw [zu_at (by omega), o2 x y (by omega), oI x y q]
        · rw [zu_cell u, o2 x y (by omega), oI x y q]
    · have c1 := at_no (L := L) hB1 v8 l2 (a := 97) (b := 122) (by omega) (by omega) (fun _ q => k19 (kb_let.mpr q))
      by_cases k20 : kb (B s) = 20
      · have eE : tE B S p = rnk B 20 (S - s) s := by
          unfold tE
          rw [← hs, if_neg hsn, if_pos (Or.inr k20), k20]
        have hr := rnk_le B 20 (S - s) s
        have c2 := at_yes (L := L) hB1 v8 z (a := 48) (b := 57) (by omega) (by omega) (kb_dig.mp k20)
        obtain ⟨J2, w1, w2, w2', w3⟩ := nx_num (L := L) (S - s) s 0 (zup J1 52 10 (nI 2)) (by omega) (by omega) (hB1.cg (zu_at (by omega)) (fun b => zu_cell (by omega))) (by rw [zu_at (by omega)]; exact v8) (by rw [zu_at (by omega)]; exact v11)
        have o2 : ∀ x y, (x ≠ 52 ∨ (y ≠ 8 ∧ y ≠ 10 ∧ y ≠ 11)) → J2 x y = J1 x y := fun x y q => by
          rw [w3 x y (by omega)]
          by_cases u : x = 52
          · rw [zu_at (by omega)]
          · rw [zu_cell u]
        refine ⟨J2, ?_, ⟨?_, ?_, fun q => by omega, fun _ => ⟨?_, ?_, ?_⟩⟩, fun x y q => ?_⟩
        · rw [start, e_X10_next_72]
          simp (disch := omega) only [e_X10_next_80, e_X10_next_131, c1, c2, w1, Option.bind_some, Option.toList_some, Option.toList_none, List.cons_append, List.nil_append, Option.map_some, cond_true, cond_false, Bool.not_true, Bool.not_false, Bool.true_and, Bool.and_true, Bool.false_and, Bool.and_false, Bool.true_or, Bool.or_true, Bool.false_or, Bool.or_false, Bool.not_not, decide_true, decide_false, Bool.decide_eq_true, Bool.decide_eq_false, qz_0, qz_1, qz_n, qz_n0, qz_n1, qz_t, qz_f, Nat.reduceAdd, q1000000, q0, q1, q2, q3, q4, q5, q6, q7, q8, q9, q10, q11, q12, q13, q14, q15, q16, q18, q19, q20, q21, q22, q23, q24, q25, q26, q27, q28, q29, q30, q31, q32, q38, q44, q45, q48, q57, q58, q59, q60, q63, q64, q97, q122, q126, q127, q128, q255, q256, q300, q580, q600, q1000, nI_add, q_lt_t, q_lt_f, q_eq_t, q_eq_f, q_clamp, q_in_t, q_in_f]
        · rw [o2 _ _ (by omega)]
          exact v9
        · rw [eE]
          exact w2
        · rw [w3 _ _ (by omega), zu_same, k20]
          rfl
        · rw [if_pos k20, eE]
          exact w2'
        · rw [o2 _ _ (by omega), if_neg k19]
          exact v12
        · rw [o2 x y (by omega), oI x y q]
      · have eE : tE B S p = s + 1 := by
          unfold tE
          rw [← hs, if_neg hsn, if_neg (by omega)]
        have c2 := at_no (L := L) hB1 v8 l2 (a := 48) (b := 57) (by omega) (by omega) (fun _ q => k20 (kb_dig.mpr q))
        have ka := kb_all (B s)
        have hk26 := hnb z
        have fin : ∀ ty : Nat, tyK (kb (B s)) = ty → zrun zZ kX10_next (72, [some (.ref 52)], [], hp J1 L, 0, 0) = some (none, hp (zup (zup J1 52 10 (nI ty)) 52 8 (nI (s + 1))) L, 0, 0) → ∃ J, zcall zZ nX10_next [.ref 52] (hp I L) = some (none, hp J L) ∧ (J 52 9 = nI s ∧ J 52 8 = nI (tE B S p) ∧ (s = S → J 52 10 = nI 0 ∧ J 52 11 = nI 0 ∧ J 52 12 = -nI 1) ∧ (s < S → J 52 10 = nI (tyK (kb (B s))) ∧ J 52 11 = nI (if kb (B s) = 20 then numR B (tE B S p - s) s 0 else 0) ∧ J 52 12 = if kb (B s) = 19 then kxI (kx (let' B s (tE B S p)) 19 0) else -nI 1)) ∧ (∀ x y, (x ≠ 52 ∨ y < 8 ∨ 12 < y) → J x y = I x y) := fun ty hty hrun => by
          refine ⟨zup (zup J1 52 10 (nI ty)) 52 8 (nI (s + 1)), ?_, ⟨?_, ?_, fun q => by omega, fun _ => ⟨?_, ?_, ?_⟩⟩, fun x y q => ?_⟩
          · rw [start, hrun]
            rfl
          · rw [zu_at (by omega), zu_at (by omega)]
            exact v9
          · rw [zu_same, eE]
          · rw [zu_at (by omega), zu_same, hty]
          · rw [zu_at (by omega), zu_at (by omega), if_neg k20]
            exact v11
          · rw [zu_at (by omega), zu_at (by omega), if_neg k19]
            exact v12
          · by_cases u : x = 52
            · rw [zu_at (by omega), zu_at (by omega), oI x y q]
            · rw [zu_cell u, zu_cell u, oI x y q]
        by_cases k21 : B s = 59
        · have d1 := at_yes (L := L) hB1 v8 z (a := 59) (b := 59) (by omega) (by omega) (by omega)
          refine fin 3 (by rw [kb_21.mpr k21]; rfl) ?_
          rw [e_X10_next_72]
          simp (disch := omega) only [e_X10_next_80, e_X10_next_131, e_X10_next_201, e_X10_next_226, e_X10_next_231, e_X10_next_244, c1, c2, d1, v8, zu_same, zu_cell, zu_at, Option.bind_some, Option.toList_some, Option.toList_none, List.cons_append, List.nil_append, Option.map_some, cond_true, cond_false, Bool.not_true, Bool.not_false, Bool.true_and, Bool.and_true, Bool.false_and, Bool.and_false, Bool.true_or, Bool.or_true, Bool.false_or, Bool.or_false, Bool.not_not, decide_true, decide_false, Bool.decide_eq_true, Bool.decide_eq_false, qz_0, qz_1, qz_n, qz_n0, qz_n1, qz_t, qz_f, Nat.reduceAdd, q1000000, q0, q1, q2, q3, q4, q5, q6, q7, q8, q9, q10, q11, q12, q13, q14, q15, q16, q18, q19, q20, q21, q22, q23, q24, q25, q26, q27, q28, q29, q30, q31, q32, q38, q44, q45, q48, q57, q58, q59, q60, q63, q64, q97, q122, q126, q127, q128, q255, q256, q300, q580, q600, q1000, nI_add, q_lt_t, q_lt_f, q_eq_t, q_eq_f, q_clamp, q_in_t, q_in_f]
        · have d1 := at_no (L := L) hB1 v8 l2 (a := 59) (b := 59) (by omega) (by omega) (fun _ q => by omega)
          by_cases k22 : B s = 58
          · have d2 := at_yes (L := L) hB1 v8 z (a := 58) (b := 58) (by omega) (by omega) (by omega)
            refine fin 3 (by rw [kb_22.mpr k22]; rfl) ?_
            rw [e_X10_next_72]
            simp (disch := omega) only [e_X10_next_80, e_X10_next_131, e_X10_next_201, e_X10_next_212, e_X10_next_226, e_X10_next_231, e_X10_next_244, c1, c2, d1, d2, v8, zu_same, zu_cell, zu_at, Option.bind_some, Option.toList_some, Option.toList_none, List.cons_append, List.nil_append, Option.map_some, cond_true, cond_false, Bool.not_true, Bool.not_false, Bool.true_and, Bool.and_true, Bool.false_and, Bool.and_false, Bool.true_or, Bool.or_true, Bool.false_or, Bool.or_false, Bool.not_not, decide_true, decide_false, Bool.decide_eq_true, Bool.decide_eq_false, qz_0, qz_1, qz_n, qz_n0, qz_n1, qz_t, qz_f, Nat.reduceAdd, q1000000, q0, q1, q2, q3, q4, q5, q6, q7, q8, q9, q10, q11, q12, q13, q14, q15, q16, q18, q19, q20, q21, q22, q23, q24, q25, q26, q27, q28, q29, q30, q31, q32, q38, q44, q45, q48, q57, q58, q59, q60, q63, q64, q97, q122, q126, q127, q128, q255, q256, q300, q580, q600, q1000, nI_add, q_lt_t, q_lt_f, q_eq_t, q_eq_f, q_clamp, q_in_t, q_in_f]
          · have d2 := at_no (L := L) hB1 v8 l2 (a := 58) (b := 58) (by omega) (by omega) (fun _ q => by omega)
            by_cases k23 : B s = 45
            · have d3 := at_yes (L := L) hB1 v8 z (a := 45) (b := 45) (by omega) (by omega) (by omega)
              refine fin 3 (by rw [kb_23.mpr k23]; rfl) ?_
              rw [e_X10_next_72]
              simp (disch := omega) only [e_X10_next_80, e_X10_next_131, e_X10_next_201, e_X10_next_212, e_X10_next_223, e_X10_next_226, e_X10_next_231, e_X10_next_244, c1, c2, d1, d2, d3, v8, zu_same, zu_cell, zu_at, Option.bind_some, Option.toList_some, Option.toList_none, List.cons_append, List.nil_append, Option.map_some, cond_true, cond_false, Bool.not_true, Bool.not_false, Bool.true_and, Bool.and_true, Bool.false_and, Bool.and_false, Bool.true_or, Bool.or_true, Bool.false_or, Bool.or_false, Bool.not_not, decide_true, decide_false, Bool.decide_eq_true, Bool.decide_eq_false, qz_0, qz_1, qz_n, qz_n0, qz_n1, qz_t, qz_f, Nat.reduceAdd, q1000000, q0, q1, q2, q3, q4, q5, q6, q7, q8, q9, q10, q11, q12, q13, q14, q15, q16, q18, q19, q20, q21, q22, q23, q24, q25, q26, q27, q28, q29, q30, q31, q32, q38, q44, q45, q48, q57, q58, q59, q60, q63, q64, q97, q122, q126, q127, q128, q255, q256, q300, q580, q600, q1000, nI_add, q_lt_t, q_lt_f, q_eq_t, q_eq_f, q_clamp, q_in_t, q_in_f]
            · have d3 := at_no (L := L) hB1 v8 l2 (a := 45) (b := 45) (by omega) (by omega) (fun _ q => by omega)
              have n21 : kb (B s) ≠ 21 := fun q => k21 (kb_21.mp q)
              have n22 : kb (B s) ≠ 22 := fun q => k22 (kb_22.mp q)
              have n23 : kb (B s) ≠ 23 := fun q => k23 (kb_23.mp q)
              refine fin 4 (by rw [show kb (B s) = 25 by omega]; rfl) ?_
              rw [e_X10_next_72]
              simp (disch := omega) only [e_X10_next_80, e_X10_next_131, e_X10_next_201, e_X10_next_212, e_X10_next_223, e_X10_next_231, e_X10_next_244, c1, c2, d1, d2, d3, v8, zu_same, zu_cell, zu_at, Option.bind_some, Option.toList_some, Option.toList_none, List.cons_append, List.nil_append, Option.map_some, cond_true, cond_false, Bool.not_true, Bool.not_false, Bool.true_and, Bool.and_true, Bool.false_and, Bool.and_false, Bool.true_or, Bool.or_true, Bool.false_or, Bool.or_false, Bool.not_not, decide_true, decide_false, Bool.decide_eq_true, Bool.decide_eq_false, qz_0, qz_1, qz_n, qz_n0, qz_n1, qz_t, qz_f, Nat.reduceAdd, q1000000, q0, q1, q2, q3, q4, q5, q6, q7, q8, q9, q10, q11, q12, q13, q14, q15, q16, q18, q19, q20, q21, q22, q23, q24, q25, q26, q27, q28, q29, q30, q31, q32, q38, q44, q45, q48, q57, q58, q59, q60, q63, q64, q97, q122, q126, q127, q128, q255, q256, q300, q580, q600, q1000, nI_add, q_lt_t, q_lt_f, q_eq_t, q_eq_f, q_clamp, q_in_t, q_in_f]
