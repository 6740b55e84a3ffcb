def WL (a b c : Nat) (I : zI) (p : Nat) (l : List (Nat × Nat × Nat)) : Prop := ∀ j, j < l.length → I a (p + j) = nI (l.getD j (0, 0, 0)).1 ∧ I b (p + j) = nI (l.getD j (0, 0, 0)).2.1 ∧ I c (p + j) = nI (l.getD j (0, 0, 0)).2.2
theorem WL_cons {a b c : Nat} {I : zI} {p : Nat} {q : Nat × Nat × Nat} {l : List (Nat × Nat × Nat)} (h1 : I a p = nI q.1 ∧ I b p = nI q.2.1 ∧ I c p = nI q.2.2) (h : WL a b c I (p + 1) l) : WL a b c I p (q :: l) := by
  intro j hj
  cases j with
  | zero => exact h1
  | succ j =>
    rw [List.length_cons] at hj
    have := h j (by omega)
    rw [show p + (j + 1) = p + 1 + j by omega]
    exact this
theorem inS_cons (w : Nat) (H : Int32) (d e P : Nat) (l : List (Nat × Nat × Nat)) (x : Nat) : inS w H ((d, e, P) :: l) x = ((decide (d ≤ x) && decide (x ≤ e) && P.testBit ((w + x) % 7) && !bt H x) || inS w H l x) := by
  unfold inS
  rw [List.any_cons]
theorem trace_loop {L : zL} {N w : Nat} {T H W : Int32} {st : Nat} (hsW : sub N W) (hsT : sub N T) : ∀ n d s p q (I : zI), N - d ≤ n → d ≤ N → p ≤ d → q ≤ d → s < 4 → s &&& st = st → FS I N w T H W st → RW0 I N w T H W st → I 26 8 = nI p → ∃ J l, zrun zZ kX2_trace (20, [some (.ref 25), some (.ref 38), some (.int (nI s)), some (.int (nI d)), some (.int (nI q)), none, none], [], hp I L, 0, 0) = some (none, hp J L, 0, 0) ∧ PL N w T H W n d s l ∧ J 26 8 = nI (p + l.length) ∧ WL 27 28 29 J p l ∧ (∀ x, x < 32 → bt (J 26 10) x = (bt (I 26 10) x || (inS w H l x && !bt T x))) ∧ (∀ x, x < 32 → bt (J 26 12) x = (bt (I 26 12) x || (decide (d ≤ x) && bt W x && !inS w H l x))) ∧ (∀ x y, (x < 26 ∨ (x = 26 ∧ y ≠ 8 ∧ y ≠ 10 ∧ y ≠ 12) ∨ 29 < x ∨ (26 < x ∧ y < p)) → J x y = I x y)
  | n, d, s, p, q, I, hn, hdN, hpd, hqd, hs, hst, hFS, hR, hp8 => by
    obtain ⟨⟨hN28, hw7, hst4, hWT⟩, ⟨h6, h7, h12, -⟩, h8, h9, h10, h11⟩ := id hFS
    by_cases hd : d < N
    · match n, hn with
      | 0, hn => omega
      | n + 1, hn =>
        have e1 := s_sbd (L := L) h10 (d := d) (s := s) (by omega)
        have e2 := s_tod (L := L) h10 (d := d) (s := s) (by omega) hs
        have hsb := sbd_lt (W := W) (d := d) hs
        have hok := sbd_ok (W := W) (d := d) hs hst4 hst
        have ec := hR (d + 1) (by omega) (sbdF W d s) hsb hok
        have ed := hR d (by omega) s hs hst
        have l1 := kU_le (w := w) (T := T) (H := H) (W := W) hN28 (d + 1) (sbdF W d s)
        have l2 := kU_le (w := w) (T := T) (H := H) (W := W) hN28 d s
        have l3 := tod_le W d s
        by_cases hb : baOK N w T H W d s
        · have hb' : todF W d s + kU N w T H W (d + 1) (sbdF W d s) = kU N w T H W d s := hb
          obtain ⟨J, l, g1, g2, g3, g4, g5, g6, g7⟩ := trace_loop hsW hsT n (d + 1) (sbdF W d s) p (q + 1) (zup I 26 12 (I 26 12 ||| (W &&& (nI 1 <<< (nI d &&& nI 31))))) (by omega) (by omega) (by omega) (by omega) hsb hok (by
            obtain ⟨z1, ⟨y1, y2, y3, y4⟩, x1, x2, x3, x4⟩ := hFS
            exact ⟨z1, ⟨(zu_cell (by omega)).trans y1, (zu_cell (by omega)).trans y2, fun P hP => (zu_cell (by omega)).trans (y3 P hP), y4.cg (fun b => zu_cell (by omega)) (fun b => zu_cell (by omega)) (fun b => zu_cell (by omega))⟩, (zu_cell (by omega)).trans x1, (zu_cell (by omega)).trans x2, (zu_cell (by omega)).trans x3, (zu_cell (by omega)).trans x4⟩) (fun d' p1 s' p2 p3 => (zu_cell (by omega)).trans (hR d' p1 s' p2 p3)) (by rw [zu_at (by omega)]; exact hp8)
          refine ⟨J, l, ?_, Or.inr (Or.inl ⟨hd, hb, g2⟩), g3, g4, fun x hx => by rw [g5 x hx, zu_at (by omega)], fun x hx => ?_, fun x y pp => by
            rw [g7 x y pp]
            by_cases z : x = 26
            · rw [zu_at (by omega)]
            · rw [zu_cell z]⟩
          · refine Eq.trans ?_ g1
            rw [e_X2_trace_20]
            simp (disch := omega) only [e_X2_trace_44, e_X2_trace_52, e_X2_trace_97, e_X2_trace_153, h6, e1, e2, q_mul, ec, ed, hb', h10, Option.bind_some, Option.toList_some, Option.toList_none, List.cons_append, List.nil_append, Option.map_some, cond_true, cond_false, Bool.not_true, Bool.not_false, Bool.true_and, Bool.and_true, Bool.false_and, Bool.and_false, Bool.true_or, Bool.or_true, Bool.false_or, Bool.or_false, Bool.not_not, decide_true, decide_false, Bool.decide_eq_true, Bool.decide_eq_false, qz_0, qz_1, qz_n, qz_n0, qz_n1, qz_t, qz_f, Nat.reduceAdd, q1000000, q0, q1, q2, q3, q4, q5, q6, q7, q8, q9, q10, q11, q12, q13, q14, q15, q16, q18, q19, q20, q21, q22, q23, q24, q25, q26, q27, q28, q29, q30, q31, q32, q38, q44, q45, q48, q57, q58, q59, q60, q63, q64, q97, q122, q126, q127, q128, q255, q256, q300, q580, q600, q1000, nI_add, q_lt_t, q_lt_f, q_eq_t, q_eq_f, q_clamp, q_in_t, q_in_f]
          · rw [g6 x hx, zu_same, b_or, b_and, b_one (by omega) hx]
            by_cases z : x = d
            · subst z
              rw [inS_low g2 (show x < x + 1 by omega), decide_eq_true rfl, decide_eq_true (Nat.le_refl x), decide_eq_false (show ¬ x + 1 ≤ x by omega)]
              simp
            · rw [decide_eq_false z]
              by_cases z2 : d ≤ x
              · rw [decide_eq_true z2, decide_eq_true (show d + 1 ≤ x by omega)]
                simp
              · rw [decide_eq_false z2, decide_eq_false (show ¬ d + 1 ≤ x by omega)]
                simp
        · have hb' : ¬ todF W d s + kU N w T H W (d + 1) (sbdF W d s) = kU N w T H W d s := hb
          obtain ⟨i, P, x8, x9, t1, t2, t3, t4⟩ := ts_last (L := L) hFS hR hs hst hp8 (by omega) (kU_some hd hb') (N - d) 0 (by omega) (fun i' P' h _ _ => by omega)
          have hdi := t1.1
          have ht4 := tdF_lt w T H W d i P
          have hst2 := or_lt4 s hs _ ht4
          have hok2 := ok_or s hs _ ht4 st hst4 hst
          have cg : ∀ x y, (x < 26 ∨ (x = 26 ∧ y ≠ 8 ∧ y ≠ 10 ∧ y ≠ 12) ∨ 29 < x ∨ (26 < x ∧ y < p)) → tkI I p d i P x8 x9 x y = I x y := fun x y pp => by
            unfold tkI
            by_cases z : x = 26
            · subst z
              rw [zu_at (by omega), zu_at (by omega), zu_at (by omega), zu_cell (by omega), zu_cell (by omega), zu_cell (by omega)]
            · rw [zu_cell z, zu_cell z, zu_cell z]
              by_cases z27 : x = 27
              · rw [zu_cell (by omega), zu_cell (by omega), zu_at (by omega)]
              · by_cases z28 : x = 28
                · rw [zu_cell (by omega), zu_at (by omega), zu_cell (by omega)]
                · by_cases z29 : x = 29
                  · rw [zu_at (by omega), zu_cell (by omega), zu_cell (by omega)]
                  · rw [zu_cell z29, zu_cell z28, zu_cell z27]
          have k8 : tkI I p d i P x8 x9 26 8 = nI (p + 1) := by
            unfold tkI
            rw [zu_at (by omega), zu_at (by omega), zu_same]
          have k10 : tkI I p d i P x8 x9 26 10 = (I 26 10 ||| x8) := by
            unfold tkI
            rw [zu_at (by omega), zu_same]
          have k12 : tkI I p d i P x8 x9 26 12 = (I 26 12 ||| x9) := by
            unfold tkI
            rw [zu_same]
          have k27 : tkI I p d i P x8 x9 27 p = nI d ∧ tkI I p d i P x8 x9 28 p = nI (d + i) ∧ tkI I p d i P x8 x9 29 p = nI P := by
            unfold tkI
            refine ⟨?_, ?_, ?_⟩
            · rw [zu_cell (by omega), zu_cell (by omega), zu_cell (by omega), zu_cell (by omega), zu_cell (by omega), zu_same]
            · rw [zu_cell (by omega), zu_cell (by omega), zu_cell (by omega), zu_cell (by omega), zu_same]
            · rw [zu_cell (by omega), zu_cell (by omega), zu_cell (by omega), zu_same]
          obtain ⟨J, l, g1, g2, g3, g4, g5, g6, g7⟩ := trace_loop hsW hsT n (d + i + 1) (s ||| tdF w T H W d i P) (p + 1) (q + 1) (tkI I p d i P x8 x9) (by omega) (by omega) (by omega) (by omega) hst2 hok2 (by
            obtain ⟨z1, ⟨y1, y2, y3, y4⟩, u1, u2, u3, u4⟩ := hFS
            exact ⟨z1, ⟨(cg _ _ (by omega)).trans y1, (cg _ _ (by omega)).trans y2, fun P hP => (cg _ _ (by omega)).trans (y3 P hP), y4.cg (fun b => cg _ _ (by omega)) (fun b => cg _ _ (by omega)) (fun b => cg _ _ (by omega))⟩, (cg _ _ (by omega)).trans u1, (cg _ _ (by omega)).trans u2, (cg _ _ (by omega)).trans u3, (cg _ _ (by omega)).trans u4⟩) (fun d' p1 s' p2 p3 => (cg _ _ (by omega)).trans (hR d' p1 s' p2 p3)) k8
          refine ⟨J, (d, d + i, P) :: l, ?_, Or.inr (Or.inr ⟨hd, hb, i, P, l, t1, rfl, g2⟩), ?_, WL_cons ?_ g4, fun x hx => ?_, fun x hx => ?_, fun x y pp => ?_⟩
          · refine Eq.trans ?_ g1
            have hcall : zcall zZ nX2_traceSpan [.ref 25, .int (nI d), .int (nI s)] (hp I L) = some (some (.int (nI (s ||| tdF w T H W d i P))), hp (tkI I p d i P x8 x9) L) := by
              rw [Nat.add_zero] at t4
              simp (disch := omega) only [c_X2_traceSpan, e_X2_traceSpan_0, t4, Option.bind_some, Option.toList_some, Option.toList_none, List.cons_append, List.nil_append, Option.map_some, cond_true, cond_false, Bool.not_true, Bool.not_false, Bool.true_and, Bool.and_true, Bool.false_and, Bool.and_false, Bool.true_or, Bool.or_true, Bool.false_or, Bool.or_false, Bool.not_not, decide_true, decide_false, Bool.decide_eq_true, Bool.decide_eq_false, qz_0, qz_1, qz_n, qz_n0, qz_n1, qz_t, qz_f, Nat.reduceAdd]
            have k6 : tkI I p d i P x8 x9 11 6 = nI N := (cg _ _ (by omega)).trans h6
            rw [e_X2_trace_20]
            simp (disch := omega) only [e_X2_trace_44, e_X2_trace_52, e_X2_trace_112, e_X2_trace_152, e_X2_trace_153, h6, e1, e2, q_mul, ec, ed, hcall, k8, q_sub, Nat.add_sub_cancel, k27.2.1, Option.bind_some, Option.toList_some, Option.toList_none, List.cons_append, List.nil_append, Option.map_some, cond_true, cond_false, Bool.not_true, Bool.not_false, Bool.true_and, Bool.and_true, Bool.false_and, Bool.and_false, Bool.true_or, Bool.or_true, Bool.false_or, Bool.or_false, Bool.not_not, decide_true, decide_false, Bool.decide_eq_true, Bool.decide_eq_false, qz_0, qz_1, qz_n, qz_n0, qz_n1, qz_t, qz_f, Nat.reduceAdd, q1000000, q0, q1, q2, q3, q4, q5, q6, q7, q8, q9, q10, q11, q12, q13, q14, q15, q16, q18, q19, q20, q21, q22, q23, q24, q25, q26, q27, q28, q29, q30, q31, q32, q38, q44, q45, q48, q57, q58, q59, q60, q63, q64, q97, q122, q126, q127, q128, q255, q256, q300, q580, q600, q1000, nI_add, q_lt_t, q_lt_f, q_eq_t, q_eq_f, q_clamp, q_in_t, q_in_f]
          · rw [g3, List.length_cons]
            congr 1
            omega
          · rw [g7 27 p (by omega), g7 28 p (by omega), g7 29 p (by omega)]
            exact k27
          · rw [g5 x hx, k10, b_or, t2 x hx, inS_cons]
            unfold outF
            by_cases z1 : d ≤ x
            · by_cases z2 : x ≤ d + i
              · rw [decide_eq_true z1, decide_eq_true z2, decide_eq_true (show x < d + (i + 1) by omega)]
                cases bt (I 26 10) x <;> cases P.testBit ((w + x) % 7) <;> cases bt H x <;> cases bt T x <;> cases inS w H l x <;> rfl
              · rw [decide_eq_false z2, decide_eq_false (show ¬ x < d + (i + 1) by omega)]
                simp
            · rw [decide_eq_false z1]
              simp
          · rw [g6 x hx, k12, b_or, t3 x hx, inS_cons]
            unfold morF
            by_cases z1 : d ≤ x
            · by_cases z2 : x ≤ d + i
              · rw [inS_low g2 (show x < d + i + 1 by omega), decide_eq_true z1, decide_eq_true z2, decide_eq_true (show x < d + (i + 1) by omega), decide_eq_false (show ¬ d + i + 1 ≤ x by omega)]
                cases bt (I 26 12) x <;> cases P.testBit ((w + x) % 7) <;> cases bt H x <;> cases bt W x <;> rfl
              · rw [decide_eq_true z1, decide_eq_false z2, decide_eq_false (show ¬ x < d + (i + 1) by omega), decide_eq_true (show d + i + 1 ≤ x by omega)]
                simp
            · rw [decide_eq_false z1, decide_eq_false (show ¬ d + i + 1 ≤ x by omega)]
              simp
          · rw [g7 x y (by omega), cg x y pp]
    · obtain rfl : d = N := by omega
      refine ⟨I, [], ?_, ?_, hp8, (fun j hj => absurd hj (Nat.not_lt_zero j)), fun x hx => ?_, fun x hx => ?_, fun _ _ _ => rfl⟩
      · rw [e_X2_trace_20]
        by_cases z : q < 28
        · simp (disch := omega) only [e_X2_trace_159, h6, Option.bind_some, Option.toList_some, Option.toList_none, List.cons_append, List.nil_append, Option.map_some, cond_true, cond_false, Bool.not_true, Bool.not_false, Bool.true_and, Bool.and_true, Bool.false_and, Bool.and_false, Bool.true_or, Bool.or_true, Bool.false_or, Bool.or_false, Bool.not_not, decide_true, decide_false, Bool.decide_eq_true, Bool.decide_eq_false, qz_0, qz_1, qz_n, qz_n0, qz_n1, qz_t, qz_f, Nat.reduceAdd, q1000000, q0, q1, q2, q3, q4, q5, q6, q7, q8, q9, q10, q11, q12, q13, q14, q15, q16, q18, q19, q20, q21, q22, q23, q24, q25, q26, q27, q28, q29, q30, q31, q32, q38, q44, q45, q48, q57, q58, q59, q60, q63, q64, q97, q122, q126, q127, q128, q255, q256, q300, q580, q600, q1000, nI_add, q_lt_t, q_lt_f, q_eq_t, q_eq_f, q_clamp, q_in_t, q_in_f]
        · simp (disch := omega) only [e_X2_trace_159, h6, Option.bind_some, Option.toList_some, Option.toList_none, List.cons_append, List.nil_append, Option.map_some, cond_true, cond_false, Bool.not_true, Bool.not_false, Bool.true_and, Bool.and_true, Bool.false_and, Bool.and_false, Bool.true_or, Bool.or_true, Bool.false_or, Bool.or_false, Bool.not_not, decide_true, decide_false, Bool.decide_eq_true, Bool.decide_eq_false, qz_0, qz_1, qz_n, qz_n0, qz_n1, qz_t, qz_f, Nat.reduceAdd, q1000000, q0, q1, q2, q3, q4, q5, q6, q7, q8, q9, q10, q11, q12, q13, q14, q15, q16, q18, q19, q20, q21, q22, q23, q24, q25, q26, q27, q28, q29, q30, q31, q32, q38, q44, q45, q48, q57, q58, q59, q60, q63, q64, q97, q122, q126, q127, q128, q255, q256, q300, q580, q600, q1000, nI_add, q_lt_t, q_lt_f, q_eq_t, q_eq_f, q_clamp, q_in_t, q_in_f]
      · cases n with
        | zero => exact ⟨Nat.le_refl _, rfl⟩
        | succ n => exact Or.inl ⟨Nat.le_refl _, rfl⟩
      · simp [inS]
      · by_cases z : d ≤ x
        · rw [hsW x z]
          simp
        · rw [decide_eq_false z]
          simp
theorem s_trace {I : zI} {L : zL} {N w : Nat} {T H W : Int32} {st : Nat} (hsW : sub N W) (hsT : sub N T) (hFS : FS I N w T H W st) (hR : RW0 I N w T H W st) (hp8 : I 26 8 = nI 0) (hp10 : I 26 10 = nI 0) (hp12 : I 26 12 = nI 0) : ∃ J l, zcall zZ nX2_trace [.ref 25] (hp I L) = some (none, hp J L) ∧ PL N w T H W N 0 st l ∧ J 26 8 = nI l.length ∧ WL 27 28 29 J 0 l ∧ (∀ x, x < 32 → bt (J 26 10) x = (inS w H l x && !bt T x)) ∧ (∀ x, x < 32 → bt (J 26 12) x = (bt W x && !inS w H l x)) ∧ (∀ x y, (x < 26 ∨ (x = 26 ∧ y ≠ 8 ∧ y ≠ 10 ∧ y ≠ 12) ∨ 29 < x) → J x y = I x y) := by
  have hst4 := hFS.1.2.2.1
  obtain ⟨J, l, g1, g2, g3, g4, g5, g6, g7⟩ := trace_loop (L := L) hsW hsT N 0 st 0 0 I (by omega) (by omega) (by omega) (by omega) hst4 (sup_self st hst4) hFS hR hp8
  refine ⟨J, l, ?_, g2, by rw [g3, Nat.zero_add], g4, fun x hx => ?_, fun x hx => ?_, fun x y p => g7 x y (by omega)⟩
  · simp (disch := omega) only [c_X2_trace, e_X2_trace_0, hFS.2.2.2.2.2, Option.bind_some, Option.toList_some, Option.toList_none, List.cons_append, List.nil_append, Option.map_some, cond_true, cond_false, Bool.not_true, Bool.not_false, Bool.true_and, Bool.and_true, Bool.false_and, Bool.and_false, Bool.true_or, Bool.or_true, Bool.false_or, Bool.or_false, Bool.not_not, decide_true, decide_false, Bool.decide_eq_true, Bool.decide_eq_false, qz_0, qz_1, qz_n, qz_n0, qz_n1, qz_t, qz_f, Nat.reduceAdd, q1000000, q0, q1, q2, q3, q4, q5, q6, q7, q8, q9, q10, q11, q12, q13, q14, q15, q16, q18, q19, q20, q21, q22, q23, q24, q25, q26, q27, q28, q29, q30, q31, q32, q38, q44, q45, q48, q57, q58, q59, q60, q63, q64, q97, q122, q126, q127, q128, q255, q256, q300, q580, q600, q1000, nI_add, q_lt_t, q_lt_f, q_eq_t, q_eq_f, q_clamp, q_in_t, q_in_f, g1]
  · rw [g5 x hx, hp10, show bt (nI 0) x = false from b_0 x, Bool.false_or]
  · rw [g6 x hx, hp12, show bt (nI 0) x = false from b_0 x, Bool.false_or, decide_eq_true (Nat.zero_le x), Bool.true_and]
