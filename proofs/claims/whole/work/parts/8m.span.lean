def VSp (I : zI) (L : zL) (B : Nat → Nat) (S c j : Nat) (r : (Nat × Nat) ⊕ (Nat × Int32)) (x : Option (Option Value × zH)) : Prop := match r with
  | .inl (e, jf) => ∃ J v, x = some (some (.int v), hp J L) ∧ FL J e (sT B S jf) ∧ FRf I J
  | .inr (j', M') => (∃ J, x = some (some (.int M'), hp J L) ∧ j ≤ j' ∧ RF J B S j' ∧ J 52 13 = nI (c + (j' - j)) ∧ FRn I J) ∨ ((isW (KT B S j') || decide (KT B S j' = 7)) = true ∧ ∃ J v, x = some (some (.int v), hp J L) ∧ FL J 1 (sT B S j') ∧ FRf I J)
theorem VSp.cg {I I' : zI} {L : zL} {B : Nat → Nat} {S c j k : Nat} {r : (Nat × Nat) ⊕ (Nat × Int32)} {x : Option (Option Value × zH)} (h : VSp I' L B S (c + k) (j + k) r x) (hc : FRn I I') : VSp I L B S c j r x := by
  match r, h with
  | .inl (e, jf), ⟨J, v, h1, h2, h3⟩ => exact ⟨J, v, h1, h2, hc.f.trans h3⟩
  | .inr (j', P'), .inl ⟨J, h1, h2, h3, h4, h5⟩ => exact Or.inl ⟨J, h1, by omega, h3, by rw [h4]; congr 1; omega, hc.trans h5⟩
  | .inr (j', P'), .inr ⟨h0, J, v, h1, h2, h3⟩ => exact Or.inr ⟨h0, J, v, h1, h2, hc.f.trans h3⟩
theorem patF_lt {K : Nat → Nat} : ∀ m j x P j' P', P < 128 → patF K m j x P = .inr (j', P') → P' < 128
  | 0, j, x, P, j', P', hP, h => by
    cases h
    exact hP
  | m + 1, j, x, P, j', P', hP, h => by
    unfold patF at h
    by_cases w1 : isW (K j) = true
    · obtain ⟨y1, y2⟩ := isW_iff.mp w1
      rw [if_pos w1] at h
      by_cases d1 : K j - 12 < x
      · rw [if_pos d1] at h
        cases h
      · rw [if_neg d1] at h
        by_cases s1 : K (j + 1) = 23
        · rw [if_pos s1] at h
          by_cases w2 : isW (K (j + 2)) = true
          · obtain ⟨z1, z2⟩ := isW_iff.mp w2
            rw [if_pos w2] at h
            by_cases d2 : K j - 12 < K (j + 2) - 12
            · rw [if_pos d2] at h
              exact patF_lt m _ _ _ j' P' (or_128 hP (rgP_lt (K j - 12) (by omega) (K (j + 2) - 12) (by omega)).1) h
            · rw [if_neg d2] at h
              cases h
          · rw [if_neg w2] at h
            cases h
        · rw [if_neg s1] at h
          exact patF_lt m _ _ _ j' P' (or_128 hP (rgP_lt (K j - 12) (by omega) (K j - 12) (by omega)).1) h
    · rw [if_neg w1] at h
      cases h
      exact hP
theorem patR_lt {K : Nat → Nat} {j j' P' : Nat} (h : patR K j = .inr (j', P')) : P' < 128 := by
  unfold patR at h
  by_cases z : K j = 7
  · rw [if_pos z] at h
    cases h
    omega
  · rw [if_neg z] at h
    exact patF_lt 8 j 0 0 j' P' (by omega) h
theorem rs_bo {J : zI} {L : zL} {B : Nat → Nat} {S N w j c P a : Nat} (hB : BT J B S) (h : RF J B S j) (h14 : J 52 14 = nI 0) (h13 : J 52 13 = nI c) (h0 : J 53 0 = nI N) (h1 : J 53 1 = nI w) (hN : 1 ≤ N ∧ N ≤ 28) (hw : w < 7) (hP : P < 128) (ha : a ≤ N) (M : Int32) : ToM J L B S N w c j M P (boR (KT B S) (vN B S) N a j) (zrun zZ kX10_readsSpans (48, [some (.ref 52), some (.int M), some (.int (nI a - nI 1)), none, none, none, none, none], [.int (nI P)], hp J L, 0, 0)) := by
  have e12 := h.2.2.2.2
  have hk8 := kI_eq (k := KT B S j) (t := 8) (by omega)
  have ea := jm_1 a
  have hl := jm_le (a := a) (d := 0) (by omega) (by omega)
  have hsub : nI N - nI 1 = nI (N - 1) := q_sub (by omega)
  rw [e_X10_readsSpans_48]
  unfold boR
  by_cases z : KT B S j = 8
  · rw [if_pos z]
    rw [eq_true z] at hk8
    obtain ⟨J1, n1, n2, n3, n4⟩ := s_need_y L hB h h14 h13
    have hB1 := hB.ff n4.f
    have j14 : J1 52 14 = nI 0 := (n4 _ _ (by omega)).trans h14
    have j0 : J1 53 0 = nI N := (n4 _ _ (by omega)).trans h0
    have to108 : ∀ (x : Option (Option Value × zH × Nat × Nat)), x = (zrun zZ kX10_readsSpans (87, [some (.ref 52), some (.int M), some (.int (nI a - nI 1)), some (.int (nI P)), some (.int (nI 0)), some (.int (nI (N - 1))), none, none], [], hp J L, 0, 0)) → x = ((zcall zZ nX10_reads [.ref 52, .int (nI a), .int (nI (N - 1))] (hp J1 L)).bind (fun q => zrun zZ kX10_readsSpans (123, [some (.ref 52), some (.int M), none, some (.int (nI P)), none, some (.int (nI (N - 1))), none, none], q.1.toList ++ [], q.2, 0, 0))) := fun x hx => by
      rw [hx]
      simp (disch := omega) only [e_X10_readsSpans_87, e_X10_readsSpans_108, h14, e12, hk8, n1, q1000000, q0, q1, q2, q3, q4, q5, q6, q7, q8, q9, q10, q11, q12, q13, q14, q15, q16, q18, q19, q20, q21, q22, q23, q24, q25, q26, q27, q28, q29, q30, q31, q32, q38, q44, q45, q48, q57, q58, q59, q60, q63, q64, q97, q122, q126, q127, q128, q255, q256, q300, q580, q600, q1000, ea, j0, hsub, Option.bind_some, Option.toList_some, Option.toList_none, List.cons_append, List.nil_append, Option.map_some, cond_true, cond_false, Bool.not_true, Bool.not_false, Bool.true_and, Bool.and_true, Bool.false_and, Bool.and_false, Bool.true_or, Bool.or_true, Bool.false_or, Bool.or_false, Bool.not_not, decide_true, decide_false, Bool.decide_eq_true, Bool.decide_eq_false, qz_0, qz_1, qz_n, qz_n0, qz_n1, qz_t, qz_f, Nat.reduceAdd, q_eq_t, q_eq_f]
    have st : (cond (!decide ((J 52 14) = (0 : Int32))) (zrun zZ kX10_readsSpans (87, [some (.ref 52), some (.int M), some (.int (nI a - nI 1)), some (.int (nI P)), some (.int 0), some (.int ((J 53 0) - 1)), none, none], [], hp J L, 0, 0)) (cond (decide ((nI a - nI 1) < (0 : Int32))) (zrun zZ kX10_readsSpans (87, [some (.ref 52), some (.int M), some (.int (nI a - nI 1)), some (.int (nI P)), some (.int 0), some (.int ((J 53 0) - 1)), none, none], [], hp J L, 0, 0)) (cond (decide ((J 52 12) = (8 : Int32))) (zrun zZ kX10_readsSpans (87, [some (.ref 52), some (.int M), some (.int (nI a - nI 1)), some (.int (nI P)), some (.int 0), some (.int ((J 53 0) - 1)), none, none], [], hp J L, 0, 0)) ((zcall zZ nX10_faults [.ref 52, .int (1 : Int32)] (hp J L)).bind (fun q => zrun zZ kX10_readsSpans (87, [some (.ref 52), some (.int M), some (.int (nI a - nI 1)), some (.int (nI P)), some (.int 0), some (.int ((J 53 0) - 1)), none, none], q.1.toList ++ [], q.2, 0, 0)))))) = (zrun zZ kX10_readsSpans (87, [some (.ref 52), some (.int M), some (.int (nI a - nI 1)), some (.int (nI P)), some (.int (nI 0)), some (.int (nI (N - 1))), none, none], [], hp J L, 0, 0)) := by
      by_cases y : a ≤ 0
      · rw [eq_true y] at hl
        simp (disch := omega) only [h14, h0, hl, q1000000, q0, q1, q2, q3, q4, q5, q6, q7, q8, q9, q10, q11, q12, q13, q14, q15, q16, q18, q19, q20, q21, q22, q23, q24, q25, q26, q27, q28, q29, q30, q31, q32, q38, q44, q45, q48, q57, q58, q59, q60, q63, q64, q97, q122, q126, q127, q128, q255, q256, q300, q580, q600, q1000, hsub, Option.bind_some, Option.toList_some, Option.toList_none, List.cons_append, List.nil_append, Option.map_some, cond_true, cond_false, Bool.not_true, Bool.not_false, Bool.true_and, Bool.and_true, Bool.false_and, Bool.and_false, Bool.true_or, Bool.or_true, Bool.false_or, Bool.or_false, Bool.not_not, decide_true, decide_false, Bool.decide_eq_true, Bool.decide_eq_false, qz_0, qz_1, qz_n, qz_n0, qz_n1, qz_t, qz_f, Nat.reduceAdd, q_eq_t, q_eq_f]
      · rw [eq_false y] at hl
        simp (disch := omega) only [h14, h0, hl, e12, hk8, q1000000, q0, q1, q2, q3, q4, q5, q6, q7, q8, q9, q10, q11, q12, q13, q14, q15, q16, q18, q19, q20, q21, q22, q23, q24, q25, q26, q27, q28, q29, q30, q31, q32, q38, q44, q45, q48, q57, q58, q59, q60, q63, q64, q97, q122, q126, q127, q128, q255, q256, q300, q580, q600, q1000, hsub, Option.bind_some, Option.toList_some, Option.toList_none, List.cons_append, List.nil_append, Option.map_some, cond_true, cond_false, Bool.not_true, Bool.not_false, Bool.true_and, Bool.and_true, Bool.false_and, Bool.and_false, Bool.true_or, Bool.or_true, Bool.false_or, Bool.or_false, Bool.not_not, decide_true, decide_false, Bool.decide_eq_true, Bool.decide_eq_false, qz_0, qz_1, qz_n, qz_n0, qz_n1, qz_t, qz_f, Nat.reduceAdd, q_eq_t, q_eq_f]
    rw [to108 _ st]
    rcases s_rd L hB1 n2 j14 n3 (a := a) (b := N - 1) (by omega) (by omega) with ⟨e, u1, J2, r, u2, u3, u4⟩ | ⟨u1, ⟨u2, u3⟩, J2, u4, u5, u6, u7⟩
    · rw [u1, u2]
      refine ⟨J2, M, ?_, u3, n4.f.trans u4⟩
      simp (disch := omega) only [e_X10_readsSpans_123, sp_out125 L u3.1, Option.bind_some, Option.toList_some, Option.toList_none, List.cons_append, List.nil_append, Option.map_some, cond_true, cond_false, Bool.not_true, Bool.not_false, Bool.true_and, Bool.and_true, Bool.false_and, Bool.and_false, Bool.true_or, Bool.or_true, Bool.false_or, Bool.or_false, Bool.not_not, decide_true, decide_false, Bool.decide_eq_true, Bool.decide_eq_false, qz_0, qz_1, qz_n, qz_n0, qz_n1, qz_t, qz_f, Nat.reduceAdd]
    · rw [u1, u4]
      have k14 : J2 52 14 = nI 0 := (u7 _ _ (by omega)).trans j14
      have k0 : J2 53 0 = nI N := (u7 _ _ (by omega)).trans j0
      have kw' : J2 53 1 = nI w := ((u7 _ _ (by omega)).trans (n4 _ _ (by omega))).trans h1
      have ht := rs_to (L := L) (c := c + 1 + 1) (fr := vN B S (j + 1)) (hB1.ff u7.f) u5 k14 u6 k0 kw' hN hw hP (by omega) M
      simp (disch := omega) only [e_X10_readsSpans_123, Option.bind_some, Option.toList_some, Option.toList_none, List.cons_append, List.nil_append, Option.map_some, cond_true, cond_false, Bool.not_true, Bool.not_false, Bool.true_and, Bool.and_true, Bool.false_and, Bool.and_false, Bool.true_or, Bool.or_true, Bool.false_or, Bool.or_false, Bool.not_not, decide_true, decide_false, Bool.decide_eq_true, Bool.decide_eq_false, qz_0, qz_1, qz_n, qz_n0, qz_n1, qz_t, qz_f, Nat.reduceAdd]
      show ToM J L B S N w c j M P (toR (KT B S) (vN B S) N (vN B S (j + 1)) (j + 1 + 1)) _
      match htr : toR (KT B S) (vN B S) N (vN B S (j + 1)) (j + 1 + 1), ht with
      | .inl (e, jf), ⟨J3, v, y1, y2, y3⟩ => exact ⟨J3, v, y1, y2, (n4.trans u7).f.trans y3⟩
      | .inr (j2, fr, to, mo), ⟨J3, y1, y2, y3, y4, y5, y6, y7⟩ => exact ⟨J3, y1, by omega, y3, y4, y5, by rw [y6]; congr 1; omega, (n4.trans u7).trans y7⟩
  · rw [if_neg z]
    rw [eq_false z] at hk8
    by_cases y : 0 < a
    · rw [if_pos y]
      rw [eq_false (show ¬ a ≤ 0 by omega)] at hl
      obtain ⟨J1, f1, f2, f3⟩ := s_flt L h h14 1
      refine ⟨J1, M, ?_, f2, FRf.n f3⟩
      simp (disch := omega) only [h14, h0, hl, e12, hk8, f1, sp_out87 L f2.1, q1000000, q0, q1, q2, q3, q4, q5, q6, q7, q8, q9, q10, q11, q12, q13, q14, q15, q16, q18, q19, q20, q21, q22, q23, q24, q25, q26, q27, q28, q29, q30, q31, q32, q38, q44, q45, q48, q57, q58, q59, q60, q63, q64, q97, q122, q126, q127, q128, q255, q256, q300, q580, q600, q1000, Option.bind_some, Option.toList_some, Option.toList_none, List.cons_append, List.nil_append, Option.map_some, cond_true, cond_false, Bool.not_true, Bool.not_false, Bool.true_and, Bool.and_true, Bool.false_and, Bool.and_false, Bool.true_or, Bool.or_true, Bool.false_or, Bool.or_false, Bool.not_not, decide_true, decide_false, Bool.decide_eq_true, Bool.decide_eq_false, qz_0, qz_1, qz_n, qz_n0, qz_n1, qz_t, qz_f, Nat.reduceAdd, q_eq_t, q_eq_f]
    · rw [if_neg y]
      rw [eq_true (show a ≤ 0 by omega)] at hl
      have ht := rs_to (L := L) (c := c) (fr := 0) hB h h14 h13 h0 h1 hN hw hP (by omega) M
      refine Eq.mp ?_ ht
      congr 1
      symm
      simp (disch := omega) only [e_X10_readsSpans_87, h14, h0, hl, e12, hk8, q1000000, q0, q1, q2, q3, q4, q5, q6, q7, q8, q9, q10, q11, q12, q13, q14, q15, q16, q18, q19, q20, q21, q22, q23, q24, q25, q26, q27, q28, q29, q30, q31, q32, q38, q44, q45, q48, q57, q58, q59, q60, q63, q64, q97, q122, q126, q127, q128, q255, q256, q300, q580, q600, q1000, hsub, Option.bind_some, Option.toList_some, Option.toList_none, List.cons_append, List.nil_append, Option.map_some, cond_true, cond_false, Bool.not_true, Bool.not_false, Bool.true_and, Bool.and_true, Bool.false_and, Bool.and_false, Bool.true_or, Bool.or_true, Bool.false_or, Bool.or_false, Bool.not_not, decide_true, decide_false, Bool.decide_eq_true, Bool.decide_eq_false, qz_0, qz_1, qz_n, qz_n0, qz_n1, qz_t, qz_f, Nat.reduceAdd, q_eq_t, q_eq_f]
theorem rs_loop {L : zL} {B : Nat → Nat} {S N w : Nat} (hN : 1 ≤ N ∧ N ≤ 28) (hw : w < 7) : ∀ m j a c mo M (I : zI), BT I B S → RF I B S j → I 52 14 = nI 0 → I 52 13 = nI c → I 53 0 = nI N → I 53 1 = nI w → (mo = true → N + 1 ≤ m + a ∧ a ≤ N) → VSp I L B S c j (spF (KT B S) (vN B S) N w m j a mo M) ((zrun zZ kX10_readsSpans (4, [some (.ref 52), some (.int M), some (.int (lstI N a mo)), none, none, none, none, none], [], hp I L, 0, 0)).map (fun r => (r.1, r.2.1)))
  | m, j, a, c, mo, M, I, hB, h, h14, h13, h0, h1, hmo => by
    have e12 := h.2.2.2.2
    have eW := s_Mwkd L h
    have hk7 := kI_eq (k := KT B S j) (t := 7) (by omega)
    rw [e_X10_readsSpans_4]
    by_cases g : (isW (KT B S j) || decide (KT B S j = 7)) = true
    · have start : ∀ x2 : Int32, (cond (!decide ((I 52 14) = (0 : Int32))) (zrun zZ kX10_readsSpans (242, [none, some (.int M), none, none, none, none, none, none], [], (hp I L), 0, 0)) (cond (decide ((I 52 12) = (7 : Int32))) (zrun zZ kX10_readsSpans (27, [some (.ref 52), some (.int M), some (.int x2), none, none, none, none, none], [], (hp I L), 0, 0)) ((zcall zZ nX10_isWeekday [.ref 52] (hp I L)).bind (fun q => zrun zZ kX10_readsSpans (24, [some (.ref 52), some (.int M), some (.int x2), none, none, none, none, none], q.1.toList ++ [], q.2, 0, 0))))) = zrun zZ kX10_readsSpans (27, [some (.ref 52), some (.int M), some (.int x2), none, none, none, none, none], [], hp I L, 0, 0) := fun x2 => by
        by_cases y : KT B S j = 7
        · rw [eq_true y] at hk7
          simp (disch := omega) only [h14, e12, hk7, Option.bind_some, Option.toList_some, Option.toList_none, List.cons_append, List.nil_append, Option.map_some, cond_true, cond_false, Bool.not_true, Bool.not_false, Bool.true_and, Bool.and_true, Bool.false_and, Bool.and_false, Bool.true_or, Bool.or_true, Bool.false_or, Bool.or_false, Bool.not_not, decide_true, decide_false, Bool.decide_eq_true, Bool.decide_eq_false, qz_0, qz_1, qz_n, qz_n0, qz_n1, qz_t, qz_f, Nat.reduceAdd, q1000000, q0, q1, q2, q3, q4, q5, q6, q7, q8, q9, q10, q11, q12, q13, q14, q15, q16, q18, q19, q20, q21, q22, q23, q24, q25, q26, q27, q28, q29, q30, q31, q32, q38, q44, q45, q48, q57, q58, q59, q60, q63, q64, q97, q122, q126, q127, q128, q255, q256, q300, q580, q600, q1000, nI_add, q_lt_t, q_lt_f, q_eq_t, q_eq_f, q_clamp, q_in_t, q_in_f]
        · rw [eq_false y] at hk7
          rw [decide_eq_false y, Bool.or_false] at g
          rw [g] at eW
          simp (disch := omega) only [e_X10_readsSpans_24, h14, e12, hk7, eW, Option.bind_some, Option.toList_some, Option.toList_none, List.cons_append, List.nil_append, Option.map_some, cond_true, cond_false, Bool.not_true, Bool.not_false, Bool.true_and, Bool.and_true, Bool.false_and, Bool.and_false, Bool.true_or, Bool.or_true, Bool.false_or, Bool.or_false, Bool.not_not, decide_true, decide_false, Bool.decide_eq_true, Bool.decide_eq_false, qz_0, qz_1, qz_n, qz_n0, qz_n1, qz_t, qz_f, Nat.reduceAdd, q1000000, q0, q1, q2, q3, q4, q5, q6, q7, q8, q9, q10, q11, q12, q13, q14, q15, q16, q18, q19, q20, q21, q22, q23, q24, q25, q26, q27, q28, q29, q30, q31, q32, q38, q44, q45, q48, q57, q58, q59, q60, q63, q64, q97, q122, q126, q127, q128, q255, q256, q300, q580, q600, q1000, nI_add, q_lt_t, q_lt_f, q_eq_t, q_eq_f, q_clamp, q_in_t, q_in_f]
      rw [start, e_X10_readsSpans_27]
      cases mo with
      | false =>
        have es : spF (KT B S) (vN B S) N w m j a false M = .inr (j, M) := by
          cases m with
          | zero => rfl
          | succ m => rfl
        rw [es]
        obtain ⟨J, f1, f2, f3⟩ := s_flt L h h14 1
        refine Or.inr ⟨g, J, nI 0, ?_, f2, FRf.n f3⟩
        have el : lstI N a false = nI N := rfl
        simp (disch := omega) only [e_X10_readsSpans_42, el, h0, f1, Option.bind_some, Option.toList_some, Option.toList_none, List.cons_append, List.nil_append, Option.map_some, cond_true, cond_false, Bool.not_true, Bool.not_false, Bool.true_and, Bool.and_true, Bool.false_and, Bool.and_false, Bool.true_or, Bool.or_true, Bool.false_or, Bool.or_false, Bool.not_not, decide_true, decide_false, Bool.decide_eq_true, Bool.decide_eq_false, qz_0, qz_1, qz_n, qz_n0, qz_n1, qz_t, qz_f, Nat.reduceAdd, q1000000, q0, q1, q2, q3, q4, q5, q6, q7, q8, q9, q10, q11, q12, q13, q14, q15, q16, q18, q19, q20, q21, q22, q23, q24, q25, q26, q27, q28, q29, q30, q31, q32, q38, q44, q45, q48, q57, q58, q59, q60, q63, q64, q97, q122, q126, q127, q128, q255, q256, q300, q580, q600, q1000, nI_add, q_lt_t, q_lt_f, q_eq_t, q_eq_f, q_clamp, q_in_t, q_in_f]
      | true =>
        obtain ⟨b1, b2⟩ := hmo rfl
        have el : lstI N a true = nI a - nI 1 := rfl
        have hne : (nI a - nI 1 = nI N) = False := eq_false (fun q => by
          have hl := jm_le (a := a) (d := N) (by omega) (by omega)
          rw [q, eq_true b2, q_lt (by omega) (by omega)] at hl
          exact absurd (of_eq_true hl) (Nat.lt_irrefl N))
        have ea := jm_1 a
        match m, b1 with
        | 0, b1 => omega
        | m + 1, b1 =>
          have hp1 := s_readsPattern (L := L) hB h h14 h13
          unfold spF
          rw [Bool.true_and, if_pos g]
          match hpr : patR (KT B S) j, hp1 with
          | .inl (e, jf), ⟨J, v, x1, x2, x3⟩ =>
            refine ⟨J, M, ?_, x2, x3⟩
            simp (disch := omega) only [e_X10_readsSpans_48, el, h0, hne, x1, x2.1, sp_out87 L x2.1, Option.bind_some, Option.toList_some, Option.toList_none, List.cons_append, List.nil_append, Option.map_some, cond_true, cond_false, Bool.not_true, Bool.not_false, Bool.true_and, Bool.and_true, Bool.false_and, Bool.and_false, Bool.true_or, Bool.or_true, Bool.false_or, Bool.or_false, Bool.not_not, decide_true, decide_false, Bool.decide_eq_true, Bool.decide_eq_false, qz_0, qz_1, qz_n, qz_n0, qz_n1, qz_t, qz_f, Nat.reduceAdd, q1000000, q0, q1, q2, q3, q4, q5, q6, q7, q8, q9, q10, q11, q12, q13, q14, q15, q16, q18, q19, q20, q21, q22, q23, q24, q25, q26, q27, q28, q29, q30, q31, q32, q38, q44, q45, q48, q57, q58, q59, q60, q63, q64, q97, q122, q126, q127, q128, q255, q256, q300, q580, q600, q1000, q_eq_t, q_eq_f]
          | .inr (j1, P), ⟨J, x1, x2, x3, x4, x5⟩ =>
            have hBJ := hB.ff x5.f
            have j14 : J 52 14 = nI 0 := (x5 _ _ (by omega)).trans h14
            have j0 : J 53 0 = nI N := (x5 _ _ (by omega)).trans h0
            have jw : J 53 1 = nI w := (x5 _ _ (by omega)).trans h1
            have f12 := x3.2.2.2.2
            have hk8 := kI_eq (k := KT B S j1) (t := 8) (by omega)
            have hP : P < 128 := patR_lt hpr
            -- what comes behind the pattern
            have key := rs_bo (L := L) hBJ x3 j14 x4 j0 jw hN hw hP b2 M
            show VSp I L B S c j (match boR (KT B S) (vN B S) N a j1 with
              | .inl f => .inl f
              | .inr (j2, fr, to, mo') => spF (KT B S) (vN B S) N w m j2 (to + 1) mo' (M ||| (nI (2 ^ (to + 1) - 2 ^ fr) &&& pds N w P))) _
            have st48 : (cond (!decide (lstI N a true = (I 53 0))) ((zcall zZ nX10_readsPattern [.ref 52] (hp I L)).bind (fun q => zrun zZ kX10_readsSpans (48, [some (.ref 52), some (.int M), some (.int (lstI N a true)), none, none, none, none, none], q.1.toList ++ [], q.2, 0, 0))) ((zcall zZ nX10_faults [.ref 52, .int (1 : Int32)] (hp I L)).bind (fun q => zrun zZ kX10_readsSpans (42, [none, none, none, none, none, none, none, none], q.1.toList ++ [], q.2, 0, 0)))) = zrun zZ kX10_readsSpans (48, [some (.ref 52), some (.int M), some (.int (nI a - nI 1)), none, none, none, none, none], [.int (nI P)], hp J L, 0, 0) := by
              simp (disch := omega) only [el, h0, hne, x1, Option.bind_some, Option.toList_some, Option.toList_none, List.cons_append, List.nil_append, Option.map_some, cond_true, cond_false, Bool.not_true, Bool.not_false, Bool.true_and, Bool.and_true, Bool.false_and, Bool.and_false, Bool.true_or, Bool.or_true, Bool.false_or, Bool.or_false, Bool.not_not, decide_true, decide_false, Bool.decide_eq_true, Bool.decide_eq_false, qz_0, qz_1, qz_n, qz_n0, qz_n1, qz_t, qz_f, Nat.reduceAdd, q1000000, q0, q1, q2, q3, q4, q5, q6, q7, q8, q9, q10, q11, q12, q13, q14, q15, q16, q18, q19, q20, q21, q22, q23, q24, q25, q26, q27, q28, q29, q30, q31, q32, q38, q44, q45, q48, q57, q58, q59, q60, q63, q64, q97, q122, q126, q127, q128, q255, q256, q300, q580, q600, q1000, nI_add, q_lt_t, q_lt_f, q_eq_t, q_eq_f, q_clamp, q_in_t, q_in_f]
            rw [st48]
            match hbr : boR (KT B S) (vN B S) N a j1, key with
            | .inl (e, jf), ⟨J2, v, y1, y2, y3⟩ =>
              refine ⟨J2, v, ?_, y2, x5.f.trans y3⟩
              rw [y1]
              rfl
            | .inr (j2, fr, to, mo'), ⟨J2, y1, y2, y3, y4, y5, y6, y7⟩ =>
              rw [y1]
              have hat : a ≤ to := Nat.le_trans (boR_ge hbr) y3
              have ih := rs_loop hN hw (L := L) m j2 (to + 1) (c + (j2 - j)) mo' (M ||| (nI (2 ^ (to + 1) - 2 ^ fr) &&& pds N w P)) J2 (hBJ.ff y7.f) y5 ((y7 _ _ (by omega)).trans j14) (by rw [y6]; congr 1; omega) ((y7 _ _ (by omega)).trans j0) ((y7 _ _ (by omega)).trans jw) (fun _ => by omega)
              have e1 : j2 = j + (j2 - j) := by omega
              refine VSp.cg (k := j2 - j) (I' := J2) ?_ (x5.trans y7)
              rw [← e1]
              exact ih
    · have g1 : isW (KT B S j) = false := by
        cases q : isW (KT B S j) with
        | false => rfl
        | true => rw [q] at g; exact absurd rfl g
      have g2 : KT B S j ≠ 7 := fun q => by
        rw [decide_eq_true q, Bool.or_true] at g
        exact absurd rfl g
      have es : spF (KT B S) (vN B S) N w m j a mo M = .inr (j, M) := by
        cases m with
        | zero => rfl
        | succ m =>
          unfold spF
          rw [if_neg (fun q => g (by
            rw [Bool.and_eq_true] at q
            exact q.2))]
      rw [es]
      rw [g1] at eW
      rw [eq_false g2] at hk7
      refine Or.inl ⟨I, ?_, Nat.le_refl j, h, by rw [Nat.sub_self]; exact h13, fun _ _ _ => rfl⟩
      simp (disch := omega) only [e_X10_readsSpans_24, e_X10_readsSpans_242, h14, e12, hk7, eW, Option.bind_some, Option.toList_some, Option.toList_none, List.cons_append, List.nil_append, Option.map_some, cond_true, cond_false, Bool.not_true, Bool.not_false, Bool.true_and, Bool.and_true, Bool.false_and, Bool.and_false, Bool.true_or, Bool.or_true, Bool.false_or, Bool.or_false, Bool.not_not, decide_true, decide_false, Bool.decide_eq_true, Bool.decide_eq_false, qz_0, qz_1, qz_n, qz_n0, qz_n1, qz_t, qz_f, Nat.reduceAdd, q1000000, q0, q1, q2, q3, q4, q5, q6, q7, q8, q9, q10, q11, q12, q13, q14, q15, q16, q18, q19, q20, q21, q22, q23, q24, q25, q26, q27, q28, q29, q30, q31, q32, q38, q44, q45, q48, q57, q58, q59, q60, q63, q64, q97, q122, q126, q127, q128, q255, q256, q300, q580, q600, q1000, nI_add, q_lt_t, q_lt_f, q_eq_t, q_eq_f, q_clamp, q_in_t, q_in_f]
