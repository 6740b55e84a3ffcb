theorem rg_28 {fr to : Nat} (h : fr ≤ to) (h2 : to < 28) : 2 ^ fr ≤ 2 ^ (to + 1) ∧ 2 ^ (to + 1) ≤ 268435456 := ⟨Nat.pow_le_pow_right (by decide) (by omega), Nat.le_trans (Nat.pow_le_pow_right (by decide) (show to + 1 ≤ 28 by omega)) (by decide)⟩
theorem toR_fr {K v : Nat → Nat} {N fr j j2 fr' to : Nat} {mo : Bool} (h : toR K v N fr j = .inr (j2, fr', to, mo)) : fr' = fr := by
  unfold toR at h
  by_cases z : K j = 9
  · rw [if_pos z] at h
    cases hn : nuR K v fr (N - 1) (j + 1) with
    | inl f =>
      rw [hn] at h
      cases h
    | inr q =>
      rw [hn] at h
      cases h
      rfl
  · rw [if_neg z] at h
    cases h
    rfl
theorem boR_ge {K v : Nat → Nat} {N a j j2 fr to : Nat} {mo : Bool} (h : boR K v N a j = .inr (j2, fr, to, mo)) : a ≤ fr := by
  unfold boR at h
  by_cases z : K j = 8
  · rw [if_pos z] at h
    cases hn : nuR K v a (N - 1) (j + 1) with
    | inl f =>
      rw [hn] at h
      cases h
    | inr q =>
      rw [hn] at h
      have e := toR_fr h
      unfold nuR at hn
      by_cases y : K (j + 1) = 20
      · rw [if_pos y] at hn
        by_cases x : v (j + 1) < a ∨ N - 1 < v (j + 1)
        · rw [if_pos x] at hn
          cases hn
        · rw [if_neg x] at hn
          cases hn
          omega
      · rw [if_neg y] at hn
        cases hn
  · rw [if_neg z] at h
    by_cases y : 0 < a
    · rw [if_pos y] at h
      cases h
    · omega
theorem cs_loop {d : Nat} (hd : d = 11 ∨ d = 18) {L : zL} {B : Nat → Nat} {S n N w : Nat} (hN : 1 ≤ N ∧ N ≤ 28) : ∀ m j a c mo M (I : zI), RD I L B S n → j ≤ n → I d 6 = nI N → (∀ P, P < 128 → I (d + 1) P = pds N w P) → I 5 9 = nI j → I 5 13 = zbo mo → I 5 2 = M → (mo = true → N + 1 ≤ m + a ∧ a ≤ N ∧ c ≤ a ∧ I 5 12 = nI a - nI 1) → c ≤ 100 → SpC I L B S n (spF (KT B S) (vN B S) N w m j a mo M) ((zrun zZ kX4_readSpans (12, [some (.ref 5), some (.ref d), some (.int (nI c)), none], [], hp I L, 0, 0)).map (fun r => (r.1, r.2.1)))
  | m, j, a, c, mo, M, I, hR, hj, h6, hpd, h9, h13, h2, hmo, hc100 => by
    have h0 := hR.1
    have stop : ∀ r, (zrun zZ kX4_readSpans (12, [some (.ref 5), some (.ref d), some (.int (nI c)), none], [], hp I L, 0, 0)) = some (some (.int (nI 1)), hp I L, 0, 0) → r = .inr (j, M) → SpC I L B S n r ((zrun zZ kX4_readSpans (12, [some (.ref 5), some (.ref d), some (.int (nI c)), none], [], hp I L, 0, 0)).map (fun r => (r.1, r.2.1))) := fun r e1 e2 => by
      rw [e1, e2]
      exact ⟨I, rfl, hj, h9, h2, fun _ _ _ => rfl⟩
    cases mo with
    | false =>
      refine stop _ ?_ ?_
      · rw [e_X4_readSpans_12 hd]
        by_cases z : N < c
        · simp (disch := omega) only [e_X4_readSpans_107 hd, h6, Option.bind_some, Option.toList_some, Option.toList_none, List.cons_append, List.nil_append, Option.map_some, cond_true, cond_false, Bool.not_true, Bool.not_false, Bool.true_and, Bool.and_true, Bool.false_and, Bool.and_false, Bool.true_or, Bool.or_true, Bool.false_or, Bool.or_false, Bool.not_not, decide_true, decide_false, Bool.decide_eq_true, Bool.decide_eq_false, qz_0, qz_1, qz_n, qz_n0, qz_n1, qz_t, qz_f, Nat.reduceAdd, q1000000, q0, q1, q2, q3, q4, q5, q6, q7, q8, q9, q10, q11, q12, q13, q14, q15, q16, q18, q19, q20, q21, q22, q23, q24, q25, q26, q27, q28, q29, q30, q31, q32, q38, q44, q45, q48, q57, q58, q59, q60, q63, q64, q97, q122, q126, q127, q128, q255, q256, q300, q580, q600, q1000, nI_add, q_lt_t, q_lt_f, q_eq_t, q_eq_f, q_clamp, q_in_t, q_in_f]
        · simp (disch := omega) only [e_X4_readSpans_107 hd, h6, h13, Option.bind_some, Option.toList_some, Option.toList_none, List.cons_append, List.nil_append, Option.map_some, cond_true, cond_false, Bool.not_true, Bool.not_false, Bool.true_and, Bool.and_true, Bool.false_and, Bool.and_false, Bool.true_or, Bool.or_true, Bool.false_or, Bool.or_false, Bool.not_not, decide_true, decide_false, Bool.decide_eq_true, Bool.decide_eq_false, qz_0, qz_1, qz_n, qz_n0, qz_n1, qz_t, qz_f, Nat.reduceAdd, q1000000, q0, q1, q2, q3, q4, q5, q6, q7, q8, q9, q10, q11, q12, q13, q14, q15, q16, q18, q19, q20, q21, q22, q23, q24, q25, q26, q27, q28, q29, q30, q31, q32, q38, q44, q45, q48, q57, q58, q59, q60, q63, q64, q97, q122, q126, q127, q128, q255, q256, q300, q580, q600, q1000, nI_add, q_lt_t, q_lt_f, q_eq_t, q_eq_f, q_clamp, q_in_t, q_in_f]
      · cases m with
        | zero => rfl
        | succ m => rfl
    | true =>
      obtain ⟨b1, b2, b3, h12⟩ := hmo rfl
      have eW := s_isW hR hj h9
      have e6 := hR.k hj
      have hk := KT_le B S j
      match m, b1 with
      | 0, b1 => omega
      | m + 1, b1 =>
        by_cases g : (isW (KT B S j) || decide (KT B S j = 7)) = true
        · have start : zrun zZ kX4_readSpans (12, [some (.ref 5), some (.ref d), some (.int (nI c)), none], [], hp I L, 0, 0) = ((zcall zZ nX4_readPattern [.ref 5] (hp I L)).bind (fun q => zrun zZ kX4_readSpans (52, [some (.ref 5), some (.ref d), some (.int (nI c)), none], q.1.toList ++ [], q.2, 0, 0))) := by
            rw [e_X4_readSpans_12 hd]
            cases w1 : isW (KT B S j) with
            | true =>
              rw [w1] at eW
              simp (disch := omega) only [e_X4_readSpans_31 hd, e_X4_readSpans_48 hd, h6, h13, eW, Option.bind_some, Option.toList_some, Option.toList_none, List.cons_append, List.nil_append, Option.map_some, cond_true, cond_false, Bool.not_true, Bool.not_false, Bool.true_and, Bool.and_true, Bool.false_and, Bool.and_false, Bool.true_or, Bool.or_true, Bool.false_or, Bool.or_false, Bool.not_not, decide_true, decide_false, Bool.decide_eq_true, Bool.decide_eq_false, qz_0, qz_1, qz_n, qz_n0, qz_n1, qz_t, qz_f, Nat.reduceAdd, q1000000, q0, q1, q2, q3, q4, q5, q6, q7, q8, q9, q10, q11, q12, q13, q14, q15, q16, q18, q19, q20, q21, q22, q23, q24, q25, q26, q27, q28, q29, q30, q31, q32, q38, q44, q45, q48, q57, q58, q59, q60, q63, q64, q97, q122, q126, q127, q128, q255, q256, q300, q580, q600, q1000, nI_add, q_lt_t, q_lt_f, q_eq_t, q_eq_f, q_clamp, q_in_t, q_in_f]
            | false =>
              rw [w1] at eW g
              rw [Bool.false_or, decide_eq_true_iff] at g
              rw [g] at e6
              simp (disch := omega) only [e_X4_readSpans_31 hd, e_X4_readSpans_48 hd, h6, h13, eW, h9, e6, Option.bind_some, Option.toList_some, Option.toList_none, List.cons_append, List.nil_append, Option.map_some, cond_true, cond_false, Bool.not_true, Bool.not_false, Bool.true_and, Bool.and_true, Bool.false_and, Bool.and_false, Bool.true_or, Bool.or_true, Bool.false_or, Bool.or_false, Bool.not_not, decide_true, decide_false, Bool.decide_eq_true, Bool.decide_eq_false, qz_0, qz_1, qz_n, qz_n0, qz_n1, qz_t, qz_f, Nat.reduceAdd, q1000000, q0, q1, q2, q3, q4, q5, q6, q7, q8, q9, q10, q11, q12, q13, q14, q15, q16, q18, q19, q20, q21, q22, q23, q24, q25, q26, q27, q28, q29, q30, q31, q32, q38, q44, q45, q48, q57, q58, q59, q60, q63, q64, q97, q122, q126, q127, q128, q255, q256, q300, q580, q600, q1000, nI_add, q_lt_t, q_lt_f, q_eq_t, q_eq_f, q_clamp, q_in_t, q_in_f]
          have hp1 := s_readPattern hR hj h9
          unfold spF
          rw [Bool.true_and, if_pos g, start]
          match hpr : patR (KT B S) j, hp1 with
          | .inl (e, jf), ⟨J, x1, x2⟩ =>
            refine ⟨J, ?_, x2⟩
            simp (disch := omega) only [x1, e_X4_readSpans_52 hd, e_X4_readSpans_63 hd, Option.bind_some, Option.toList_some, Option.toList_none, List.cons_append, List.nil_append, Option.map_some, cond_true, cond_false, Bool.not_true, Bool.not_false, Bool.true_and, Bool.and_true, Bool.false_and, Bool.and_false, Bool.true_or, Bool.or_true, Bool.false_or, Bool.or_false, Bool.not_not, decide_true, decide_false, Bool.decide_eq_true, Bool.decide_eq_false, qz_0, qz_1, qz_n, qz_n0, qz_n1, qz_t, qz_f, Nat.reduceAdd, q1000000, q0, q1, q2, q3, q4, q5, q6, q7, q8, q9, q10, q11, q12, q13, q14, q15, q16, q18, q19, q20, q21, q22, q23, q24, q25, q26, q27, q28, q29, q30, q31, q32, q38, q44, q45, q48, q57, q58, q59, q60, q63, q64, q97, q122, q126, q127, q128, q255, q256, q300, q580, q600, q1000, nI_add, q_lt_t, q_lt_f, q_eq_t, q_eq_f, q_clamp, q_in_t, q_in_f]
          | .inr (j1, P), ⟨J, x1, x2, x3, x4, x5, x6⟩ =>
            have hR1 : RD J L B S n := hR.cg (x6 _ _ (by omega)) (fun b => x6 _ _ (by omega)) (fun b => x6 _ _ (by omega)) (fun _ => rfl)
            have hbo := s_readBounds hd hR1 x2 x4 ((x6 _ _ (by omega)).trans h6) hN b2 ((x6 _ _ (by omega)).trans h12)
            match hbr : boR (KT B S) (vN B S) N a j1, hbo with
            | .inl (e, jf), ⟨J2, y1, y2, y3, y4⟩ =>
              show SpC I L B S n (match boR (KT B S) (vN B S) N a j1 with
                | .inl f => .inl f
                | .inr (j2, fr, to, mo') => spF (KT B S) (vN B S) N w m j2 (to + 1) mo' (M ||| (nI (2 ^ (to + 1) - 2 ^ fr) &&& pds N w P))) _
              rw [hbr]
              refine ⟨J2, ?_, y2, y3, fun x y p => (y4 x y p).trans (x6 x y (by omega))⟩
              simp (disch := omega) only [x1, y1, e_X4_readSpans_52 hd, e_X4_readSpans_60 hd, e_X4_readSpans_63 hd, Option.bind_some, Option.toList_some, Option.toList_none, List.cons_append, List.nil_append, Option.map_some, cond_true, cond_false, Bool.not_true, Bool.not_false, Bool.true_and, Bool.and_true, Bool.false_and, Bool.and_false, Bool.true_or, Bool.or_true, Bool.false_or, Bool.or_false, Bool.not_not, decide_true, decide_false, Bool.decide_eq_true, Bool.decide_eq_false, qz_0, qz_1, qz_n, qz_n0, qz_n1, qz_t, qz_f, Nat.reduceAdd, q1000000, q0, q1, q2, q3, q4, q5, q6, q7, q8, q9, q10, q11, q12, q13, q14, q15, q16, q18, q19, q20, q21, q22, q23, q24, q25, q26, q27, q28, q29, q30, q31, q32, q38, q44, q45, q48, q57, q58, q59, q60, q63, q64, q97, q122, q126, q127, q128, q255, q256, q300, q580, q600, q1000, nI_add, q_lt_t, q_lt_f, q_eq_t, q_eq_f, q_clamp, q_in_t, q_in_f]
            | .inr (j2, fr, to, mo'), ⟨J2, y1, y2, y3, y4, y5, y6, y7, y8, y9⟩ =>
              obtain ⟨p1, p2⟩ := rg_28 y3 (show to < 28 by omega)
              have o : ∀ x y, (x ≠ 5 ∨ (y < 9 ∨ 13 < y)) → J2 x y = I x y := fun x y p => (y9 x y (by omega)).trans (x6 x y (by omega))
              have v10 : J2 5 10 = nI P := (y9 _ _ (by omega)).trans x5
              have v2 : J2 5 2 = M := (o _ _ (by omega)).trans h2
              have vp : J2 (d + 1) P = pds N w P := (o _ _ (by omega)).trans (hpd P x3)
              obtain ⟨J3, hJ3⟩ : ∃ J3, J3 = zup J2 5 2 (M ||| (nI (2 ^ (to + 1) - 2 ^ fr) &&& pds N w P)) := ⟨_, rfl⟩
              have o3 : ∀ x y, (x ≠ 5 ∨ y ≠ 2) → J3 x y = J2 x y := fun x y p => by
                rw [hJ3]
                by_cases u : x = 5
                · rw [zu_at (by omega)]
                · rw [zu_cell u]
              have hRJ : RD J3 L B S n := hR.cg ((o3 _ _ (by omega)).trans (o _ _ (by omega))) (fun b => (o3 _ _ (by omega)).trans (o _ _ (by omega))) (fun b => (o3 _ _ (by omega)).trans (o _ _ (by omega))) (fun _ => rfl)
              have ih := cs_loop hd (w := w) hN m j2 (to + 1) (c + 1) mo' (M ||| (nI (2 ^ (to + 1) - 2 ^ fr) &&& pds N w P)) J3 hRJ y2 (((o3 _ _ (by omega)).trans (o _ _ (by omega))).trans h6) (fun P' hP' => ((o3 _ _ (by omega)).trans (o _ _ (by omega))).trans (hpd P' hP')) ((o3 _ _ (by omega)).trans y5) ((o3 _ _ (by omega)).trans y8) (by rw [hJ3, zu_same]) (fun _ => by
                have hat : a ≤ to := Nat.le_trans (boR_ge hbr) y3
                refine ⟨by omega, by omega, by omega, ?_⟩
                rw [o3 _ _ (by omega), y7, pk_sub (by omega), Nat.add_sub_cancel]) (by omega)
              have ih := ih.cg (I := I) (fun x y p => (o3 x y (by omega)).trans (o x y (by omega)))
              show SpC I L B S n (match boR (KT B S) (vN B S) N a j1 with
                | .inl f => .inl f
                | .inr (j2, fr, to, mo') => spF (KT B S) (vN B S) N w m j2 (to + 1) mo' (M ||| (nI (2 ^ (to + 1) - 2 ^ fr) &&& pds N w P))) _
              rw [hbr]
              refine Eq.mp ?_ ih
              congr 1
              symm
              simp (disch := omega) only [x1, y1, e_X4_readSpans_52 hd, e_X4_readSpans_60 hd, e_X4_readSpans_101 hd, v10, v2, vp, y6, y7, q_shl1, q_sub, ← hJ3, Option.bind_some, Option.toList_some, Option.toList_none, List.cons_append, List.nil_append, Option.map_some, cond_true, cond_false, Bool.not_true, Bool.not_false, Bool.true_and, Bool.and_true, Bool.false_and, Bool.and_false, Bool.true_or, Bool.or_true, Bool.false_or, Bool.or_false, Bool.not_not, decide_true, decide_false, Bool.decide_eq_true, Bool.decide_eq_false, qz_0, qz_1, qz_n, qz_n0, qz_n1, qz_t, qz_f, Nat.reduceAdd, q1000000, q0, q1, q2, q3, q4, q5, q6, q7, q8, q9, q10, q11, q12, q13, q14, q15, q16, q18, q19, q20, q21, q22, q23, q24, q25, q26, q27, q28, q29, q30, q31, q32, q38, q44, q45, q48, q57, q58, q59, q60, q63, q64, q97, q122, q126, q127, q128, q255, q256, q300, q580, q600, q1000, nI_add, q_lt_t, q_lt_f, q_eq_t, q_eq_f, q_clamp, q_in_t, q_in_f]
        · refine stop _ ?_ ?_
          · have g1 : isW (KT B S j) = false := by
              cases q : isW (KT B S j) with
              | false => rfl
              | true => rw [q] at g; exact absurd rfl g
            have g2 : KT B S j ≠ 7 := fun q => by
              rw [decide_eq_true q, Bool.or_true] at g
              exact absurd rfl g
            rw [g1] at eW
            rw [e_X4_readSpans_12 hd]
            simp (disch := omega) only [e_X4_readSpans_31 hd, e_X4_readSpans_107 hd, h6, h13, eW, h9, e6, Option.bind_some, Option.toList_some, Option.toList_none, List.cons_append, List.nil_append, Option.map_some, cond_true, cond_false, Bool.not_true, Bool.not_false, Bool.true_and, Bool.and_true, Bool.false_and, Bool.and_false, Bool.true_or, Bool.or_true, Bool.false_or, Bool.or_false, Bool.not_not, decide_true, decide_false, Bool.decide_eq_true, Bool.decide_eq_false, qz_0, qz_1, qz_n, qz_n0, qz_n1, qz_t, qz_f, Nat.reduceAdd, q1000000, q0, q1, q2, q3, q4, q5, q6, q7, q8, q9, q10, q11, q12, q13, q14, q15, q16, q18, q19, q20, q21, q22, q23, q24, q25, q26, q27, q28, q29, q30, q31, q32, q38, q44, q45, q48, q57, q58, q59, q60, q63, q64, q97, q122, q126, q127, q128, q255, q256, q300, q580, q600, q1000, nI_add, q_lt_t, q_lt_f, q_eq_t, q_eq_f, q_clamp, q_in_t, q_in_f]
          · unfold spF
            rw [Bool.true_and, if_neg g]
