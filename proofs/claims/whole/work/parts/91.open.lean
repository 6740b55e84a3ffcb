/-! the period is opened -/
theorem lw_spec : ∀ P, P < 128 → P ≠ 0 → lwb P < 7 ∧ P &&& (P - 1) < P ∧ ∀ i, i < 7 → P.testBit i = ((P &&& (P - 1)).testBit i || decide (i = lwb P)) := by decide +kernel
theorem op_step {N w P : Nat} (hN : N ≤ 28) (hw : w < 7) (hP : P < 128) (h0 : P ≠ 0) : pds N w P = pds N w (P &&& (P - 1)) ||| dset (fun i => decide (i % 7 = (lwb P + 7 - w) % 7)) N := by
  obtain ⟨h1, h2, h3⟩ := lw_spec P hP h0
  refine b_ext fun i hi => ?_
  rw [b_or, b_pds hN, b_pds hN, b_dset _ N (by omega), h3 _ (Nat.mod_lt _ (by decide))]
  have e : decide ((w + i) % 7 = lwb P) = decide (i % 7 = (lwb P + 7 - w) % 7) := decide_eq_decide.mpr (by omega)
  rw [e]
  cases decide (i < N) with
  | false => rfl
  | true => rw [Bool.true_and, Bool.true_and, Bool.true_and]
theorem op_bit {N s x : Nat} (hN : N ≤ 28) (hx : x < N) (hs : x % 7 = s) : dset (fun i => decide (i % 7 = s) && decide (i < x)) N ||| (nI 1 <<< (nI x &&& nI 31)) = dset (fun i => decide (i % 7 = s) && decide (i < x + 7)) N := by
  refine b_ext fun i hi => ?_
  rw [b_or, b_dset _ N (by omega), b_dset _ N (by omega), b_one (by omega) hi]
  by_cases z : i = x
  · subst z
    rw [decide_eq_true hx, decide_eq_true hs, decide_eq_true (rfl : i = i), decide_eq_true (show i < i + 7 by omega), Bool.or_true]
    rfl
  · rw [decide_eq_false z, Bool.or_false]
    by_cases y : i % 7 = s
    · rw [decide_eq_true y, show decide (i < x) = decide (i < x + 7) from decide_eq_decide.mpr (by omega)]
    · rw [decide_eq_false y, Bool.false_and, Bool.false_and]
theorem op_in {d : Nat} (hd : d = 11 ∨ d = 18) {I : zI} {L : zL} {N P s : Nat} (hN : N ≤ 28) (hP : P < 128) (h6 : I d 6 = nI N) (X : Int32) : ∀ m x, x % 7 = s → N ≤ x + 7 * m → x ≤ 100 → zrun zZ kX1_openPeriod (52, [some (.ref d), none, none, some (.int (nI P)), none, some (.int (X ||| dset (fun i => decide (i % 7 = s) && decide (i < x)) N)), some (.int (nI x))], [], hp I L, 0, 0) = zrun zZ kX1_openPeriod (12, [some (.ref d), none, none, some (.int (nI (P + 1))), none, none, none], [], hp (zup I (d + 1) P (X ||| dset (fun i => decide (i % 7 = s)) N)) L, 0, 0) := fun m => by
  have fin : ∀ x, x % 7 = s → N ≤ x → x ≤ 100 → zrun zZ kX1_openPeriod (52, [some (.ref d), none, none, some (.int (nI P)), none, some (.int (X ||| dset (fun i => decide (i % 7 = s) && decide (i < x)) N)), some (.int (nI x))], [], hp I L, 0, 0) = zrun zZ kX1_openPeriod (12, [some (.ref d), none, none, some (.int (nI (P + 1))), none, none, none], [], hp (zup I (d + 1) P (X ||| dset (fun i => decide (i % 7 = s)) N)) L, 0, 0) := fun x hx hxN hx1 => by
    have e : dset (fun i => decide (i % 7 = s) && decide (i < x)) N = dset (fun i => decide (i % 7 = s)) N := dset_congr N (fun i hi => by rw [decide_eq_true (show i < x by omega), Bool.and_true])
    rw [e_X1_openPeriod_52 hd, e]
    simp (disch := omega) only [h6, Option.bind_some, Option.toList_some, Option.toList_none, List.cons_append, List.nil_append, Option.map_some, cond_true, cond_false, Bool.not_true, Bool.not_false, Bool.true_and, Bool.and_true, Bool.false_and, Bool.and_false, Bool.true_or, Bool.or_true, Bool.false_or, Bool.or_false, Bool.not_not, decide_true, decide_false, Bool.decide_eq_true, Bool.decide_eq_false, qz_0, qz_1, qz_n, qz_n0, qz_n1, qz_t, qz_f, Nat.reduceAdd, q1000000, q0, q1, q2, q3, q4, q5, q6, q7, q8, q9, q10, q11, q12, q13, q14, q15, q16, q18, q19, q20, q21, q22, q23, q24, q25, q26, q27, q28, q29, q30, q31, q32, q38, q44, q45, q48, q57, q58, q59, q60, q63, q64, q97, q122, q126, q127, q128, q255, q256, q300, q580, q600, q1000, nI_add, q_lt_t, q_lt_f, q_eq_t, q_eq_f, q_clamp, q_in_t, q_in_f]
  induction m with
  | zero => exact fun x hx hxN hx1 => fin x hx (by omega) hx1
  | succ m ih =>
    intro x hx hxN hx1
    by_cases z : N ≤ x
    · exact fin x hx z hx1
    · have := ih (x + 7) (by omega) (by omega) (by omega)
      rw [← op_bit hN (by omega) hx, ← Int32.or_assoc] at this
      rw [e_X1_openPeriod_52 hd]
      simp (disch := omega) only [h6, Option.bind_some, Option.toList_some, Option.toList_none, List.cons_append, List.nil_append, Option.map_some, cond_true, cond_false, Bool.not_true, Bool.not_false, Bool.true_and, Bool.and_true, Bool.false_and, Bool.and_false, Bool.true_or, Bool.or_true, Bool.false_or, Bool.or_false, Bool.not_not, decide_true, decide_false, Bool.decide_eq_true, Bool.decide_eq_false, qz_0, qz_1, qz_n, qz_n0, qz_n1, qz_t, qz_f, Nat.reduceAdd, q1000000, q0, q1, q2, q3, q4, q5, q6, q7, q8, q9, q10, q11, q12, q13, q14, q15, q16, q18, q19, q20, q21, q22, q23, q24, q25, q26, q27, q28, q29, q30, q31, q32, q38, q44, q45, q48, q57, q58, q59, q60, q63, q64, q97, q122, q126, q127, q128, q255, q256, q300, q580, q600, q1000, nI_add, q_lt_t, q_lt_f, q_eq_t, q_eq_f, q_clamp, q_in_t, q_in_f]
      exact this
theorem op_out {d : Nat} (hd : d = 11 ∨ d = 18) {L : zL} {N w : Nat} (hN : N ≤ 28) (hw : w < 7) : ∀ m P (I : zI), P + m = 128 → 0 < P → I d 6 = nI N → I d 7 = nI w → (∀ Q, Q < P → I (d + 1) Q = pds N w Q) → ∃ J, zrun zZ kX1_openPeriod (12, [some (.ref d), none, none, some (.int (nI P)), none, none, none], [], hp I L, 0, 0) = some (none, hp J L, 0, 0) ∧ (∀ Q, Q < 128 → J (d + 1) Q = pds N w Q) ∧ (∀ x y, x ≠ d + 1 → J x y = I x y)
  | 0, P, I, h, h0, h6, h7, hq => by
    obtain rfl : P = 128 := h
    refine ⟨I, ?_, hq, fun _ _ _ => rfl⟩
    rw [e_X1_openPeriod_12 hd]
    simp (disch := omega) only [Option.bind_some, Option.toList_some, Option.toList_none, List.cons_append, List.nil_append, Option.map_some, cond_true, cond_false, Bool.not_true, Bool.not_false, Bool.true_and, Bool.and_true, Bool.false_and, Bool.and_false, Bool.true_or, Bool.or_true, Bool.false_or, Bool.or_false, Bool.not_not, decide_true, decide_false, Bool.decide_eq_true, Bool.decide_eq_false, qz_0, qz_1, qz_n, qz_n0, qz_n1, qz_t, qz_f, Nat.reduceAdd, q1000000, q0, q1, q2, q3, q4, q5, q6, q7, q8, q9, q10, q11, q12, q13, q14, q15, q16, q18, q19, q20, q21, q22, q23, q24, q25, q26, q27, q28, q29, q30, q31, q32, q38, q44, q45, q48, q57, q58, q59, q60, q63, q64, q97, q122, q126, q127, q128, q255, q256, q300, q580, q600, q1000, nI_add, q_lt_t, q_lt_f, q_eq_t, q_eq_f, q_clamp, q_in_t, q_in_f]
  | m + 1, P, I, h, h0, h6, h7, hq => by
    obtain ⟨l1, l2, -⟩ := lw_spec P (by omega) (by omega)
    have hz := j_ntz7 (hp I L) (s := P) (by omega) (by omega)
    have e := op_step (N := N) hN hw (show P < 128 by omega) (by omega)
    have hin := op_in hd (I := I) (L := L) (P := P) (s := (lwb P + 7 - w) % 7) hN (by omega) h6 (pds N w (P &&& (P - 1))) 5 ((lwb P + 7 - w) % 7) (Nat.mod_mod _ _) (by omega) (by omega)
    have e0 : dset (fun i => decide (i % 7 = (lwb P + 7 - w) % 7) && decide (i < (lwb P + 7 - w) % 7)) N = nI 0 := by
      refine b_ext fun i hi => ?_
      rw [b_dset _ N (by omega), show bt (nI 0) i = false from b_0 i]
      by_cases z : i % 7 = (lwb P + 7 - w) % 7
      · rw [decide_eq_false (show ¬ i < (lwb P + 7 - w) % 7 by omega), Bool.and_false, Bool.and_false]
      · rw [decide_eq_false z, Bool.false_and, Bool.and_false]
    rw [e0, show pds N w (P &&& (P - 1)) ||| nI 0 = pds N w (P &&& (P - 1)) from Int32.or_zero, ← e] at hin
    obtain ⟨J, g1, g2, g3⟩ := op_out hd (L := L) hN hw m (P + 1) (zup I (d + 1) P (pds N w P)) (by omega) (by omega) (by rw [zu_cell (by omega)]; exact h6) (by rw [zu_cell (by omega)]; exact h7) (fun Q hQ => by
      by_cases z : Q = P
      · rw [z, zu_same]
      · rw [zu_at z]
        exact hq Q (by omega))
    refine ⟨J, ?_, g2, fun x y p => by rw [g3 x y p, zu_cell p]⟩
    rw [e_X1_openPeriod_12 hd]
    have hs1 : nI (lwb P + 7) - nI w = nI (lwb P + 7 - w) := q_sub (by omega)
    have hs2 : nI P - nI 1 = nI (P - 1) := q_sub (by omega)
    have hR := q_rem (a := lwb P + 7 - w) (d := 7) (by omega) (by omega) (by omega)
    have hQ := hq (P &&& (P - 1)) l2
    simp (disch := omega) only [e_X1_openPeriod_23 hd, hz, h7, q1000000, q0, q1, q2, q3, q4, q5, q6, q7, q8, q9, q10, q11, q12, q13, q14, q15, q16, q18, q19, q20, q21, q22, q23, q24, q25, q26, q27, q28, q29, q30, q31, q32, q38, q44, q45, q48, q57, q58, q59, q60, q63, q64, q97, q122, q126, q127, q128, q255, q256, q300, q580, q600, q1000, nI_add, hs1, hs2, hR, nx_and, hQ, hin, Option.bind_some, Option.toList_some, Option.toList_none, List.cons_append, List.nil_append, Option.map_some, cond_true, cond_false, Bool.not_true, Bool.not_false, Bool.true_and, Bool.and_true, Bool.false_and, Bool.and_false, Bool.true_or, Bool.or_true, Bool.false_or, Bool.or_false, Bool.not_not, decide_true, decide_false, Bool.decide_eq_true, Bool.decide_eq_false, qz_0, qz_1, qz_n, qz_n0, qz_n1, qz_t, qz_f, Nat.reduceAdd, q1000000, q0, q1, q2, q3, q4, q5, q6, q7, q8, q9, q10, q11, q12, q13, q14, q15, q16, q18, q19, q20, q21, q22, q23, q24, q25, q26, q27, q28, q29, q30, q31, q32, q38, q44, q45, q48, q57, q58, q59, q60, q63, q64, q97, q122, q126, q127, q128, q255, q256, q300, q580, q600, q1000, nI_add, q_lt_t, q_lt_f, q_eq_t, q_eq_f, q_clamp, q_in_t, q_in_f]
    exact g1
theorem s_openPeriod {d : Nat} (hd : d = 11 ∨ d = 18) {I : zI} {L : zL} {N w : Nat} (hN : N ≤ 28) (hw : w < 7) (h0 : I (d + 1) 0 = nI 0) : ∃ J, zcall zZ nX1_openPeriod [.ref d, .int (nI N), .int (nI w)] (hp I L) = some (none, hp J L) ∧ (∀ Q, Q < 128 → J (d + 1) Q = pds N w Q) ∧ J d 6 = nI N ∧ J d 7 = nI w ∧ (∀ x y, x ≠ d + 1 → (x ≠ d ∨ (y ≠ 6 ∧ y ≠ 7)) → J x y = I x y) := by
  have k6 : zup (zup I d 6 (nI N)) d 7 (nI w) d 6 = nI N := by rw [zu_at (by omega), zu_same]
  obtain ⟨J, g1, g2, g3⟩ := op_out hd (L := L) hN hw 127 1 (zup (zup I d 6 (nI N)) d 7 (nI w)) (by omega) (by omega) k6 (zu_same _ _ _ _) (fun Q hQ => by
    obtain rfl : Q = 0 := by omega
    rw [zu_cell (by omega), zu_cell (by omega), h0]
    refine b_ext fun i hi => ?_
    rw [b_pds hN, Nat.zero_testBit, Bool.and_false]
    exact b_0 i)
  refine ⟨J, ?_, g2, (g3 _ _ (by omega)).trans k6, (g3 _ _ (by omega)).trans (zu_same _ _ _ _), fun x y p1 p2 => ?_⟩
  · simp (disch := omega) only [c_X1_openPeriod hd, e_X1_openPeriod_0 hd, q1000000, q0, q1, q2, q3, q4, q5, q6, q7, q8, q9, q10, q11, q12, q13, q14, q15, q16, q18, q19, q20, q21, q22, q23, q24, q25, q26, q27, q28, q29, q30, q31, q32, q38, q44, q45, q48, q57, q58, q59, q60, q63, q64, q97, q122, q126, q127, q128, q255, q256, q300, q580, q600, q1000, g1, Option.bind_some, Option.toList_some, Option.toList_none, List.cons_append, List.nil_append, Option.map_some, cond_true, cond_false, Bool.not_true, Bool.not_false, Bool.true_and, Bool.and_true, Bool.false_and, Bool.and_false, Bool.true_or, Bool.or_true, Bool.false_or, Bool.or_false, Bool.not_not, decide_true, decide_false, Bool.decide_eq_true, Bool.decide_eq_false, qz_0, qz_1, qz_n, qz_n0, qz_n1, qz_t, qz_f, Nat.reduceAdd]
  · rw [g3 x y p1]
    by_cases u : x = d
    · rw [zu_at (by omega), zu_at (by omega)]
    · rw [zu_cell u, zu_cell u]
