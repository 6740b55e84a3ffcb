/-! all tokens -/
def kd0 (B : Nat → Nat) (S j : Nat) : Nat := if sT B S j = S then 24 else kb (B (sT B S j))
theorem sT_bnd {B : Nat → Nat} {S j : Nat} (h : sT B S j < S) (h2 : sT B S (j + 1) < S) (e : sT B S (j + 1) = ps B S (j + 1)) (q : kb (B (sT B S j)) = kb (B (sT B S (j + 1)))) : kb (B (sT B S j)) ≠ 19 ∧ kb (B (sT B S j)) ≠ 20 := by
  have hE : ps B S (j + 1) = if sT B S j = S then S else if kb (B (sT B S j)) = 19 ∨ kb (B (sT B S j)) = 20 then rnk B (kb (B (sT B S j))) (S - sT B S j) (sT B S j) else sT B S j + 1 := rfl
  rw [if_neg (by omega)] at hE
  by_cases z : kb (B (sT B S j)) = 19 ∨ kb (B (sT B S j)) = 20
  · rw [if_pos z] at hE
    have := rnk_end B (kb (B (sT B S j))) (S - sT B S j) (sT B S j) (by omega)
    rw [← hE, ← e] at this
    exact absurd q.symm this
  · omega
theorem sc_all {B : Nat → Nat} {S : Nat} : ∀ m j x (I : zI) (L : zL), S - ps B S j ≤ m → j ≤ ps B S j → SCI I B S → x < 100 → I 5 8 = nI j - nI 1 → (sT B S j < S → sT B S j = ps B S j → x = kb (B (sT B S j)) → x ≠ 19 ∧ x ≠ 20) → (∀ i, i < j → sT B S i < S ∧ I 6 i = nI (kd0 B S i) ∧ I 7 i = nI (sT B S i) ∧ L 8 i = tV B (sT B S i) (ps B S (i + 1)) (kb (B (sT B S i)))) → ∃ n J M, zrun zZ kX4_scan (25, [some (.ref 5), some (.ref 3), some (.int (nI x)), some (.int (nI (ps B S j))), none, none], [], hp I L, 0, 0) = zrun zZ kX4_scan (111, [some (.ref 5), none, none, some (.int (nI 0)), none, none], [], hp J M, 0, 0) ∧ n ≤ S ∧ sT B S n = S ∧ J 5 8 = nI n ∧ (∀ i, i < n → sT B S i < S ∧ L 8 i = L 8 i ∧ M 8 i = tV B (sT B S i) (ps B S (i + 1)) (kb (B (sT B S i)))) ∧ (∀ i, i ≤ n → J 6 i = nI (kd0 B S i) ∧ J 7 i = nI (sT B S i)) ∧ (∀ a b, (a < 5 ∨ (a = 5 ∧ b ≠ 8) ∨ 7 < a) → J a b = I a b) ∧ (∀ a b, a ≠ 8 → M a b = L a b)
  | m, j, x, I, L, hm, hj, hB, hx, h8, hb, hA => by
    obtain ⟨b1, b2, b3⟩ := id hB
    have hps := ps_le B S j
    obtain ⟨l1, l2⟩ := sT_le B S j
    by_cases z : sT B S j = S
    · have hsk := sc_skip (L := L) hB (S - ps B S j) (ps B S j) x (by omega)
      have e0 : skp B (S - ps B S j) (ps B S j) = S := z
      rw [e0] at hsk
      have hopen := s_open (L := L) (show j ≤ 600 by omega) h8 (nI 24) (nI S)
      refine ⟨j, zup (zup (zup I 5 8 (nI j)) 6 j (nI 24)) 7 j (nI S), zup L 8 j 0, ?_, by omega, z, ?_, fun i hi => ⟨(hA i hi).1, rfl, ?_⟩, fun i hi => ?_, fun a b p => ?_, fun a b p => zu_cell p⟩
      · rw [hsk, e_X4_scan_25]
        simp (disch := omega) only [e_X4_scan_109, b2, hopen, Option.bind_some, Option.toList_some, Option.toList_none, List.cons_append, List.nil_append, Option.map_some, cond_true, cond_false, Bool.not_true, Bool.not_false, Bool.true_and, Bool.and_true, Bool.false_and, Bool.and_false, Bool.true_or, Bool.or_true, Bool.false_or, Bool.or_false, Bool.not_not, decide_true, decide_false, Bool.decide_eq_true, Bool.decide_eq_false, qz_0, qz_1, qz_n, qz_n0, qz_n1, qz_t, qz_f, Nat.reduceAdd, q1000000, q0, q1, q2, q3, q4, q5, q6, q7, q8, q9, q10, q11, q12, q13, q14, q15, q16, q18, q19, q20, q21, q22, q23, q24, q25, q26, q27, q28, q29, q30, q31, q32, q38, q44, q45, q48, q57, q58, q59, q60, q63, q64, q97, q122, q126, q127, q128, q255, q256, q300, q580, q600, q1000, nI_add, q_lt_t, q_lt_f, q_eq_t, q_eq_f, q_clamp, q_in_t, q_in_f]
      · rw [zu_cell (by omega), zu_cell (by omega), zu_same]
      · rw [zu_at (by omega)]
        exact (hA i hi).2.2.2
      · by_cases u : i = j
        · subst u
          rw [zu_cell (by omega), zu_same, zu_same, z]
          unfold kd0
          rw [if_pos z]
          exact ⟨rfl, rfl⟩
        · rw [zu_cell (by omega), zu_at u, zu_cell (by omega), zu_at u, zu_cell (by omega), zu_cell (by omega)]
          exact ⟨(hA i (by omega)).2.1, (hA i (by omega)).2.2.1⟩
      · rcases p with p | ⟨rfl, p⟩ | p
        · rw [zu_cell (by omega), zu_cell (by omega), zu_cell (by omega)]
        · rw [zu_cell (by omega), zu_cell (by omega), zu_at p]
        · rw [zu_cell (by omega), zu_cell (by omega), zu_cell (by omega)]
    · have hs : sT B S j < S := by omega
      have hp1 := ps_s B S j hs
      match m, hm with
      | 0, hm => omega
      | m + 1, hm =>
        obtain ⟨M0, t1, t2, t3⟩ := sc_tok (L := L) hB (show j ≤ 600 by omega) hx h8 hs (hb hs)
        have hk100 : kb (B (sT B S j)) < 100 := by
          have := kb_all (B (sT B S j))
          omega
        obtain ⟨n, J, M, g1, g2, g3, g4, g5, g6, g7, g8⟩ := sc_all m (j + 1) (kb (B (sT B S j))) (zup (zup (zup I 5 8 (nI j)) 6 j (nI (kb (B (sT B S j))))) 7 j (nI (sT B S j))) M0 (by omega) (by omega) (hB.cg (by rw [zu_cell (by omega), zu_cell (by omega), zu_cell (by omega)]) (fun b => by rw [zu_cell (by omega), zu_cell (by omega), zu_cell (by omega)])) hk100 (by
          rw [zu_cell (by omega), zu_cell (by omega), zu_same, pk_sub (by omega), Nat.add_sub_cancel]) (fun y1 y2 y3 => sT_bnd hs y1 y2 y3) (fun i hi => by
          by_cases u : i = j
          · subst u
            rw [zu_cell (by omega), zu_same, zu_same]
            refine ⟨hs, ?_, rfl, t2⟩
            unfold kd0
            rw [if_neg z]
          · rw [zu_cell (by omega), zu_at u, zu_cell (by omega), zu_at u, zu_cell (by omega), zu_cell (by omega), t3 _ _ (Or.inr u)]
            exact hA i (by omega))
        refine ⟨n, J, M, t1.trans g1, g2, g3, g4, fun i hi => ⟨(g5 i hi).1, rfl, (g5 i hi).2.2⟩, g6, fun a b p => ?_, fun a b p => (g8 a b p).trans (t3 a b (Or.inl p))⟩
        rw [g7 a b p]
        rcases p with p | ⟨rfl, p⟩ | p
        · rw [zu_cell (by omega), zu_cell (by omega), zu_cell (by omega)]
        · rw [zu_cell (by omega), zu_cell (by omega), zu_at p]
        · rw [zu_cell (by omega), zu_cell (by omega), zu_cell (by omega)]
/-! words of the lexicon get their kind -/
theorem wv_eq {k : Nat} (hk : k < 19) {ws : List Nat} (hx : ∀ x, x ∈ ws → 0 < x ∧ x < 128) : lN (wcode (kw k)) = wv ws ↔ kw k = ws := by
  obtain ⟨-, k1, -⟩ := kw_ok k hk
  obtain ⟨a1, a2⟩ := wcode_lt (kw k).length (kw k) rfl (kw_x hk)
  have hb : wcode (kw k) < 2 ^ 63 := by
    rcases Nat.eq_zero_or_pos (kw k).length with q | q
    · rw [q] at a1
      omega
    · have := (a2 q).1
      have : 2 ^ (8 * (kw k).length - 1) ≤ 2 ^ 63 := Nat.pow_le_pow_right (by decide) (by omega)
      omega
  unfold wv
  by_cases h : ws.length ≤ 8
  · rw [if_pos h]
    obtain ⟨c1, c2⟩ := wcode_lt ws.length ws rfl hx
    have hc : wcode ws < 2 ^ 63 := by
      rcases Nat.eq_zero_or_pos ws.length with q | q
      · rw [q] at c1
        omega
      · have := (c2 q).1
        have : 2 ^ (8 * ws.length - 1) ≤ 2 ^ 63 := Nat.pow_le_pow_right (by decide) (by omega)
        omega
    rw [pk_lEQ hb hc]
    constructor
    · intro e
      rw [← (wl_wcode 8 (kw k) k1 (kw_x hk)).1, e, (wl_wcode 8 ws h hx).1]
    · intro e
      rw [e]
  · rw [if_neg h]
    constructor
    · intro e
      have : ¬ lN (wcode (kw k)) < 0 := fun q => by
        have := Int64.lt_iff_toInt_lt.mp q
        rw [pk_lT hb] at this
        have e0 : (0 : Int64).toInt = 0 := rfl
        omega
      rw [e] at this
      exact absurd (show (-1 : Int64) < 0 by decide) this
    · intro e
      rw [e] at k1
      omega
theorem ko_loop {I : zI} {L : zL} (hL : LX L) {ws : List Nat} (hx : ∀ x, x ∈ ws → 0 < x ∧ x < 128) : ∀ m k, k + m = 19 → zrun zZ kX3_kindOf (2, [some (.ref 1), some (.long (wv ws)), none, some (.int (nI k))], [], hp I L, 0, 0) = some (some (.int (nI (kx ws m k))), hp I L, 0, 0)
  | 0, k, h => by
    rw [e_X3_kindOf_2]
    simp (disch := omega) only [Option.bind_some, Option.toList_some, Option.toList_none, List.cons_append, List.nil_append, Option.map_some, cond_true, cond_false, Bool.not_true, Bool.not_false, Bool.true_and, Bool.and_true, Bool.false_and, Bool.and_false, Bool.true_or, Bool.or_true, Bool.false_or, Bool.or_false, Bool.not_not, decide_true, decide_false, Bool.decide_eq_true, Bool.decide_eq_false, qz_0, qz_1, qz_n, qz_n0, qz_n1, qz_t, qz_f, Nat.reduceAdd, q1000000, q0, q1, q2, q3, q4, q5, q6, q7, q8, q9, q10, q11, q12, q13, q14, q15, q16, q18, q19, q20, q21, q22, q23, q24, q25, q26, q27, q28, q29, q30, q31, q32, q38, q44, q45, q48, q57, q58, q59, q60, q63, q64, q97, q122, q126, q127, q128, q255, q256, q300, q580, q600, q1000, nI_add, q_lt_t, q_lt_f, q_eq_t, q_eq_f, q_clamp, q_in_t, q_in_f]
    rfl
  | m + 1, k, h => by
    rw [e_X3_kindOf_2]
    unfold kx
    have hc : (lg_cmp (lN (wcode (kw k))) (wv ws) = nI 0) = (kw k = ws) := propext ((lg_cmp_eq _ _).trans (wv_eq (by omega) hx))
    by_cases z : kw k = ws
    · rw [if_pos z]
      rw [eq_true z] at hc
      simp (disch := omega) only [hL k (by omega), hc, Option.bind_some, Option.toList_some, Option.toList_none, List.cons_append, List.nil_append, Option.map_some, cond_true, cond_false, Bool.not_true, Bool.not_false, Bool.true_and, Bool.and_true, Bool.false_and, Bool.and_false, Bool.true_or, Bool.or_true, Bool.false_or, Bool.or_false, Bool.not_not, decide_true, decide_false, Bool.decide_eq_true, Bool.decide_eq_false, qz_0, qz_1, qz_n, qz_n0, qz_n1, qz_t, qz_f, Nat.reduceAdd, q1000000, q0, q1, q2, q3, q4, q5, q6, q7, q8, q9, q10, q11, q12, q13, q14, q15, q16, q18, q19, q20, q21, q22, q23, q24, q25, q26, q27, q28, q29, q30, q31, q32, q38, q44, q45, q48, q57, q58, q59, q60, q63, q64, q97, q122, q126, q127, q128, q255, q256, q300, q580, q600, q1000, nI_add, q_lt_t, q_lt_f, q_eq_t, q_eq_f, q_clamp, q_in_t, q_in_f]
    · rw [if_neg z, ← ko_loop hL hx m (k + 1) (by omega)]
      simp (disch := omega) only [hL k (by omega), hc, z, Option.bind_some, Option.toList_some, Option.toList_none, List.cons_append, List.nil_append, Option.map_some, cond_true, cond_false, Bool.not_true, Bool.not_false, Bool.true_and, Bool.and_true, Bool.false_and, Bool.and_false, Bool.true_or, Bool.or_true, Bool.false_or, Bool.or_false, Bool.not_not, decide_true, decide_false, Bool.decide_eq_true, Bool.decide_eq_false, qz_0, qz_1, qz_n, qz_n0, qz_n1, qz_t, qz_f, Nat.reduceAdd, q1000000, q0, q1, q2, q3, q4, q5, q6, q7, q8, q9, q10, q11, q12, q13, q14, q15, q16, q18, q19, q20, q21, q22, q23, q24, q25, q26, q27, q28, q29, q30, q31, q32, q38, q44, q45, q48, q57, q58, q59, q60, q63, q64, q97, q122, q126, q127, q128, q255, q256, q300, q580, q600, q1000, nI_add, q_lt_t, q_lt_f, q_eq_t, q_eq_f, q_clamp, q_in_t, q_in_f]
theorem s_kindOf {I : zI} {L : zL} (hL : LX L) {ws : List Nat} (hx : ∀ x, x ∈ ws → 0 < x ∧ x < 128) : zcall zZ nX3_kindOf [.ref 1, .long (wv ws)] (hp I L) = some (some (.int (nI (kx ws 19 0))), hp I L) := by
  have := ko_loop (I := I) hL hx 19 0 (by omega)
  simp (disch := omega) only [c_X3_kindOf, e_X3_kindOf_0, q1000000, q0, q1, q2, q3, q4, q5, q6, q7, q8, q9, q10, q11, q12, q13, q14, q15, q16, q18, q19, q20, q21, q22, q23, q24, q25, q26, q27, q28, q29, q30, q31, q32, q38, q44, q45, q48, q57, q58, q59, q60, q63, q64, q97, q122, q126, q127, q128, q255, q256, q300, q580, q600, q1000, this, Option.bind_some, Option.toList_some, Option.toList_none, List.cons_append, List.nil_append, Option.map_some, cond_true, cond_false, Bool.not_true, Bool.not_false, Bool.true_and, Bool.and_true, Bool.false_and, Bool.and_false, Bool.true_or, Bool.or_true, Bool.false_or, Bool.or_false, Bool.not_not, decide_true, decide_false, Bool.decide_eq_true, Bool.decide_eq_false, qz_0, qz_1, qz_n, qz_n0, qz_n1, qz_t, qz_f, Nat.reduceAdd]
