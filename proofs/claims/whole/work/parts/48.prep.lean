/-! the row of no span at all -/
abbrev hA (a : Nat) : Prop := a = 37 ∨ a = 40 ∨ a = 43 ∨ a = 46 ∨ a = 49
theorem bare_loopn {a d st : Nat} (ha : hA a) {N w : Nat} {T H W : Int32} (hd : d < N) {bl : Bool} {k : Nat} : ∀ r s (I : zI) (L : zL), s + r = 4 → FS I N w T H W st → (∀ s, s < 4 → s &&& st = st → CL I L a ((d + 1) * 4 + s) (US N w T H W bl k (d + 1) s) (2 * (N - (d + 1)))) → ∃ I' L', zrun zZ kX2_fill (64, [some (.ref 25), some (.ref a), some (.null), some (.int (nI d)), some (.int (nI s)), none], [], hp I L, 0, 0) = zrun zZ kX2_fill (64, [some (.ref 25), some (.ref a), some (.null), some (.int (nI d)), some (.int (nI 4)), none], [], hp I' L', 0, 0) ∧ (∀ s', s ≤ s' → s' < 4 → s' &&& st = st → CL I' L' a (d * 4 + s') (gs (todF W d s') (US N w T H W bl k (d + 1) (sbdF W d s'))) (2 * (N - d))) ∧ (∀ x y, (x ≠ a + 1 ∨ y < d * 4 + s ∨ d * 4 + 4 ≤ y) → I' x y = I x y) ∧ (∀ x y, (x ≠ a + 2 ∨ y < d * 4 + s ∨ d * 4 + 4 ≤ y) → L' x y = L x y)
  | 0, s, I, L, h, hFS, hn => by
    obtain rfl : s = 4 := h
    exact ⟨I, L, rfl, fun s' h1 h2 => by omega, fun _ _ _ => rfl, fun _ _ _ => rfl⟩
  | r + 1, s, I, L, h, hFS, hn => by
    obtain ⟨⟨hN28, hw7, hst4, hWT⟩, ⟨h6, h7, h12, -⟩, h8, h9, h10, h11⟩ := id hFS
    have hs4 : s < 4 := by omega
    have hsb := sbd_lt (W := W) (d := d) hs4
    obtain ⟨I', L', g1, g2, g3, g4⟩ := bare_loopn ha hd (bl := bl) (k := k) r (s + 1) (zup I (a + 1) (d * 4 + s) (nI (todF W d s) + I (a + 1) ((d + 1) * 4 + sbdF W d s))) (zup L (a + 2) (d * 4 + s) (L (a + 2) ((d + 1) * 4 + sbdF W d s))) (by omega) (hFS.cg (fun x y hx => zu_cell (by omega))) (fun s' p1 p2 => (hn s' p1 p2).cg (zu_at (by omega)) (zu_at (by omega)))
    refine ⟨I', L', ?_, fun s' p1 p2 p3 => ?_, fun x y p => ?_, fun x y p => ?_⟩
    · refine Eq.trans ?_ g1
      rw [e_X2_fill_n_64 ha]
      simp (disch := omega) only [e_X2_fill_n_82 ha, e_X2_fill_n_102 ha, s_tod h10, s_sbd h10, q_mul, Option.bind_some, Option.toList_some, Option.toList_none, List.cons_append, List.nil_append, Option.map_some, cond_true, cond_false, Bool.not_true, Bool.not_false, Bool.true_and, Bool.and_true, Bool.false_and, Bool.and_false, Bool.true_or, Bool.or_true, Bool.false_or, Bool.or_false, Bool.not_not, decide_true, decide_false, Bool.decide_eq_true, Bool.decide_eq_false, qz_0, qz_1, qz_n, qz_n0, qz_n1, qz_t, qz_f, Nat.reduceAdd, q0, q1, q2, q3, q4, q5, q6, q7, q8, q9, q10, q11, q12, q13, q14, q15, q16, q18, q19, q20, q21, q22, q23, q24, q25, q26, q27, q28, q29, q30, q31, q32, q38, q44, q45, q48, q57, q58, q59, q60, q63, q64, q97, q122, q126, q127, q128, q255, q256, q300, q580, q600, q1000, nI_add, q_lt_t, q_lt_f, q_eq_t, q_eq_f, q_clamp, q_in_t, q_in_f]
    · rcases Nat.lt_or_ge s s' with z | z
      · exact g2 s' (by omega) p2 p3
      · obtain rfl : s' = s := by omega
        obtain ⟨k', n', c1, c2, c3, c4⟩ := hn (sbdF W d s') hsb (sbd_ok p2 hst4 p3)
        have := tod_le W d s'
        refine ⟨todF W d s' + k', n', by omega, ?_, ?_, MW_gs _ c4⟩
        · rw [g3 _ _ (by omega), zu_same, c2, nI_add]
        · rw [g4 _ _ (by omega), zu_same, c3]
    · rw [g3 x y (by omega)]
      by_cases z : x = a + 1
      · rw [zu_at (by omega)]
      · rw [zu_cell z]
    · rw [g4 x y (by omega)]
      by_cases z : x = a + 2
      · rw [zu_at (by omega)]
      · rw [zu_cell z]
theorem end_loopn {a st : Nat} (ha : hA a) {N w : Nat} {T H W : Int32} {bl : Bool} {k : Nat} : ∀ r s (I : zI) (L : zL), s + r = 4 → FS I N w T H W st → (∀ s', s' < s → I (a + 1) (N * 4 + s') = nI 0 ∧ L (a + 2) (N * 4 + s') = lN 1) → ∃ I' L', zrun zZ kX2_fill (2, [some (.ref 25), some (.ref a), some (.null), some (.int (nI s)), none, none], [], hp I L, 0, 0) = zrun zZ kX2_fill (57, [some (.ref 25), some (.ref a), some (.null), some (.int (nI N - nI 1)), none, none], [], hp I' L', 0, 0) ∧ (∀ s', s' < 4 → I' (a + 1) (N * 4 + s') = nI 0 ∧ L' (a + 2) (N * 4 + s') = lN 1) ∧ (∀ x y, x ≠ a + 1 → I' x y = I x y) ∧ (∀ x y, x ≠ a + 2 → L' x y = L x y)
  | 0, s, I, L, h, hFS, h0 => by
    obtain rfl : s = 4 := h
    refine ⟨I, L, ?_, h0, fun _ _ _ => rfl, fun _ _ _ => rfl⟩
    rw [e_X2_fill_n_2 ha]
    simp (disch := omega) only [hFS.2.1.1, Option.bind_some, Option.toList_some, Option.toList_none, List.cons_append, List.nil_append, Option.map_some, cond_true, cond_false, Bool.not_true, Bool.not_false, Bool.true_and, Bool.and_true, Bool.false_and, Bool.and_false, Bool.true_or, Bool.or_true, Bool.false_or, Bool.or_false, Bool.not_not, decide_true, decide_false, Bool.decide_eq_true, Bool.decide_eq_false, qz_0, qz_1, qz_n, qz_n0, qz_n1, qz_t, qz_f, Nat.reduceAdd, q0, q1, q2, q3, q4, q5, q6, q7, q8, q9, q10, q11, q12, q13, q14, q15, q16, q18, q19, q20, q21, q22, q23, q24, q25, q26, q27, q28, q29, q30, q31, q32, q38, q44, q45, q48, q57, q58, q59, q60, q63, q64, q97, q122, q126, q127, q128, q255, q256, q300, q580, q600, q1000, nI_add, q_lt_t, q_lt_f, q_eq_t, q_eq_f, q_clamp, q_in_t, q_in_f]
  | r + 1, s, I, L, h, hFS, h0 => by
    have hN28 := hFS.1.1
    obtain ⟨I', L', g1, g2, g3, g4⟩ := end_loopn ha (bl := bl) (k := k) r (s + 1) (zup I (a + 1) (N * 4 + s) (nI 0)) (zup L (a + 2) (N * 4 + s) (lN 1)) (by omega) (hFS.cg (fun x y hx => zu_cell (by omega))) (fun s' hs' => by
      by_cases q : s' = s
      · rw [q, zu_same, zu_same]
        exact ⟨rfl, rfl⟩
      · rw [zu_at (by omega), zu_at (by omega)]
        exact h0 s' (by omega))
    refine ⟨I', L', ?_, g2, fun x y p => by rw [g3 x y p, zu_cell p], fun x y p => by rw [g4 x y p, zu_cell p]⟩
    rw [e_X2_fill_n_2 ha]
    simp (disch := omega) only [e_X2_fill_n_44 ha, hFS.2.1.1, q_mul, Option.bind_some, Option.toList_some, Option.toList_none, List.cons_append, List.nil_append, Option.map_some, cond_true, cond_false, Bool.not_true, Bool.not_false, Bool.true_and, Bool.and_true, Bool.false_and, Bool.and_false, Bool.true_or, Bool.or_true, Bool.false_or, Bool.or_false, Bool.not_not, decide_true, decide_false, Bool.decide_eq_true, Bool.decide_eq_false, qz_0, qz_1, qz_n, qz_n0, qz_n1, qz_t, qz_f, Nat.reduceAdd, q0, q1, q2, q3, q4, q5, q6, q7, q8, q9, q10, q11, q12, q13, q14, q15, q16, q18, q19, q20, q21, q22, q23, q24, q25, q26, q27, q28, q29, q30, q31, q32, q38, q44, q45, q48, q57, q58, q59, q60, q63, q64, q97, q122, q126, q127, q128, q255, q256, q300, q580, q600, q1000, nI_add, q_lt_t, q_lt_f, q_eq_t, q_eq_f, q_clamp, q_in_t, q_in_f]
    exact g1
theorem filln_loop {a st : Nat} (ha : hA a) {N w : Nat} {T H W : Int32} : ∀ d (I : zI) (L : zL), d ≤ N → FS I N w T H W st → ROW I L a N w T H W st true 0 d → ∃ I' L', zrun zZ kX2_fill (57, [some (.ref 25), some (.ref a), some (.null), some (.int (nI d - nI 1)), none, none], [], hp I L, 0, 0) = some (none, hp I' L', 0, 0) ∧ ROW I' L' a N w T H W st true 0 0 ∧ (∀ x y, x ≠ a + 1 → I' x y = I x y) ∧ (∀ x y, x ≠ a + 2 → L' x y = L x y)
  | 0, I, L, hd, hFS, hR => by
    refine ⟨I, L, ?_, hR, fun _ _ _ => rfl, fun _ _ _ => rfl⟩
    have e : (nI 0 - nI 1 < nI 0) = True := eq_true (pk_sneg (a := 0) (b := 1) (by decide) (by decide))
    rw [e_X2_fill_n_57 ha]
    simp (disch := omega) only [q0, q1, q2, q3, q4, q5, q6, q7, q8, q9, q10, q11, q12, q13, q14, q15, q16, q18, q19, q20, q21, q22, q23, q24, q25, q26, q27, q28, q29, q30, q31, q32, q38, q44, q45, q48, q57, q58, q59, q60, q63, q64, q97, q122, q126, q127, q128, q255, q256, q300, q580, q600, q1000, e, Option.bind_some, Option.toList_some, Option.toList_none, List.cons_append, List.nil_append, Option.map_some, cond_true, cond_false, Bool.not_true, Bool.not_false, Bool.true_and, Bool.and_true, Bool.false_and, Bool.and_false, Bool.true_or, Bool.or_true, Bool.false_or, Bool.or_false, Bool.not_not, decide_true, decide_false, Bool.decide_eq_true, Bool.decide_eq_false, qz_0, qz_1, qz_n, qz_n0, qz_n1, qz_t, qz_f, Nat.reduceAdd]
  | d + 1, I, L, hd, hFS, hR => by
    obtain ⟨⟨hN28, hw7, hst4, hWT⟩, ⟨h6, h7, h12, -⟩, h8, h9, h10, h11⟩ := id hFS
    obtain ⟨J, M, b1, b2, b3, b4⟩ := bare_loopn ha (show d < N by omega) (bl := true) (k := 0) 4 0 I L (by omega) hFS (hR (d + 1) (Nat.le_refl _) hd)
    have hFJ : FS J N w T H W st := hFS.cg (fun x y hx => b3 x y (by omega))
    have hR2 : ROW J M a N w T H W st true 0 d := fun d' p1 p2 s p3 p4 => by
      by_cases q : d' = d
      · subst q
        refine CL_cg (b2 s (by omega) p3 p4) ?_
        rw [US_step (show d' < N by omega)]
        exact (gadd_0 _).symm
      · exact (hR d' (by omega) p2 s p3 p4).cg (b3 _ _ (by omega)) (b4 _ _ (by omega))
    obtain ⟨I', L', g1, g2, g3, g4⟩ := filln_loop ha d J M (by omega) hFJ hR2
    refine ⟨I', L', ?_, g2, fun x y p => ?_, fun x y p => ?_⟩
    · have ek : nI (d + 1) - nI 1 = nI d := pk_sub (a := d + 1) (b := 1) (by omega)
      have en : nI d + -nI 1 = nI d - nI 1 := (Int32.sub_eq_add_neg _ _).symm
      rw [ek, e_X2_fill_n_57 ha]
      simp (disch := omega) only [q0, q_lt_f, decide_false, cond_false]
      rw [b1, e_X2_fill_n_64 ha]
      simp (disch := omega) only [e_X2_fill_n_146 ha, Option.bind_some, Option.toList_some, Option.toList_none, List.cons_append, List.nil_append, Option.map_some, cond_true, cond_false, Bool.not_true, Bool.not_false, Bool.true_and, Bool.and_true, Bool.false_and, Bool.and_false, Bool.true_or, Bool.or_true, Bool.false_or, Bool.or_false, Bool.not_not, decide_true, decide_false, Bool.decide_eq_true, Bool.decide_eq_false, qz_0, qz_1, qz_n, qz_n0, qz_n1, qz_t, qz_f, Nat.reduceAdd, q0, q1, q2, q3, q4, q5, q6, q7, q8, q9, q10, q11, q12, q13, q14, q15, q16, q18, q19, q20, q21, q22, q23, q24, q25, q26, q27, q28, q29, q30, q31, q32, q38, q44, q45, q48, q57, q58, q59, q60, q63, q64, q97, q122, q126, q127, q128, q255, q256, q300, q580, q600, q1000, nI_add, q_lt_t, q_lt_f, q_eq_t, q_eq_f, q_clamp, q_in_t, q_in_f]
      rw [en]
      exact g1
    · rw [g3 x y p, b3 x y (by omega)]
    · rw [g4 x y p, b4 x y (by omega)]
theorem s_filln {a st : Nat} (ha : hA a) {N w : Nat} {T H W : Int32} {I : zI} {L : zL} (hFS : FS I N w T H W st) : ∃ I' L', zcall zZ nX2_fill [.ref 25, .ref a, .null] (hp I L) = some (none, hp I' L') ∧ ROW I' L' a N w T H W st true 0 0 ∧ (∀ x y, x ≠ a + 1 → I' x y = I x y) ∧ (∀ x y, x ≠ a + 2 → L' x y = L x y) := by
  obtain ⟨J, M, e1, e2, e3, e4⟩ := end_loopn ha (bl := true) (k := 0) 4 0 I L (by omega) hFS (fun s' h => by omega)
  obtain ⟨I', L', g1, g2, g3, g4⟩ := filln_loop ha N J M (Nat.le_refl N) (hFS.cg (fun x y hx => e3 x y (by omega))) (fun d p1 p2 s p3 p4 => by
    obtain rfl : d = N := by omega
    exact ⟨0, 1, by omega, (e2 s p3).1, (e2 s p3).2, US_end (Nat.le_refl _)⟩)
  refine ⟨I', L', ?_, g2, fun x y p => (g3 x y p).trans (e3 x y p), fun x y p => (g4 x y p).trans (e4 x y p)⟩
  simp (disch := omega) only [c_X2_fill_n ha, e_X2_fill_n_0 ha, Option.bind_some, Option.toList_some, Option.toList_none, List.cons_append, List.nil_append, Option.map_some, cond_true, cond_false, Bool.not_true, Bool.not_false, Bool.true_and, Bool.and_true, Bool.false_and, Bool.and_false, Bool.true_or, Bool.or_true, Bool.false_or, Bool.or_false, Bool.not_not, decide_true, decide_false, Bool.decide_eq_true, Bool.decide_eq_false, qz_0, qz_1, qz_n, qz_n0, qz_n1, qz_t, qz_f, Nat.reduceAdd, q0, q1, q2, q3, q4, q5, q6, q7, q8, q9, q10, q11, q12, q13, q14, q15, q16, q18, q19, q20, q21, q22, q23, q24, q25, q26, q27, q28, q29, q30, q31, q32, q38, q44, q45, q48, q57, q58, q59, q60, q63, q64, q97, q122, q126, q127, q128, q255, q256, q300, q580, q600, q1000, nI_add, q_lt_t, q_lt_f, q_eq_t, q_eq_f, q_clamp, q_in_t, q_in_f]
  rw [e1, g1]
  rfl
/-! feasts as days -/
def fdF (fd : Nat → Int32) (n : Nat) : Nat → Int32
  | 0 => nI 0
  | F + 1 => cond (n.testBit F) (fdF fd n F ||| fd F) (fdF fd n F)
theorem fdF_s (fd : Nat → Int32) (n F : Nat) : fdF fd n (F + 1) = cond (n.testBit F) (fdF fd n F ||| fd F) (fdF fd n F) := rfl
theorem fdays_loop {I : zI} {L : zL} {F n : Nat} (hF : F ≤ 2) (h8 : I 11 8 = nI F) (hn : n < 4) : ∀ r f, f + r = F → zrun zZ kX2_feastsAsDays (4, [some (.ref 25), some (.int (nI n)), some (.int (fdF (I 14) n f)), some (.int (nI f))], [], hp I L, 0, 0) = some (some (.int (fdF (I 14) n F)), hp I L, 0, 0)
  | 0, f, h => by
    obtain rfl : f = F := h
    rw [e_X2_feastsAsDays_4]
    simp (disch := omega) only [h8, Option.bind_some, Option.toList_some, Option.toList_none, List.cons_append, List.nil_append, Option.map_some, cond_true, cond_false, Bool.not_true, Bool.not_false, Bool.true_and, Bool.and_true, Bool.false_and, Bool.and_false, Bool.true_or, Bool.or_true, Bool.false_or, Bool.or_false, Bool.not_not, decide_true, decide_false, Bool.decide_eq_true, Bool.decide_eq_false, qz_0, qz_1, qz_n, qz_n0, qz_n1, qz_t, qz_f, Nat.reduceAdd, q0, q1, q2, q3, q4, q5, q6, q7, q8, q9, q10, q11, q12, q13, q14, q15, q16, q18, q19, q20, q21, q22, q23, q24, q25, q26, q27, q28, q29, q30, q31, q32, q38, q44, q45, q48, q57, q58, q59, q60, q63, q64, q97, q122, q126, q127, q128, q255, q256, q300, q580, q600, q1000, nI_add, q_lt_t, q_lt_f, q_eq_t, q_eq_f, q_clamp, q_in_t, q_in_f]
  | r + 1, f, h => by
    have ih := fdays_loop (L := L) hF h8 hn r (f + 1) (by omega)
    have eb : bt (nI n) f = n.testBit f := bt_nI (by omega) f
    rw [fdF_s] at ih
    rw [e_X2_feastsAsDays_4]
    cases h2 : n.testBit f <;> rw [h2] at ih eb <;> simp (disch := omega) only [e_X2_feastsAsDays_35, h8, q_bit, eb, Option.bind_some, Option.toList_some, Option.toList_none, List.cons_append, List.nil_append, Option.map_some, cond_true, cond_false, Bool.not_true, Bool.not_false, Bool.true_and, Bool.and_true, Bool.false_and, Bool.and_false, Bool.true_or, Bool.or_true, Bool.false_or, Bool.or_false, Bool.not_not, decide_true, decide_false, Bool.decide_eq_true, Bool.decide_eq_false, qz_0, qz_1, qz_n, qz_n0, qz_n1, qz_t, qz_f, Nat.reduceAdd, q0, q1, q2, q3, q4, q5, q6, q7, q8, q9, q10, q11, q12, q13, q14, q15, q16, q18, q19, q20, q21, q22, q23, q24, q25, q26, q27, q28, q29, q30, q31, q32, q38, q44, q45, q48, q57, q58, q59, q60, q63, q64, q97, q122, q126, q127, q128, q255, q256, q300, q580, q600, q1000, nI_add, q_lt_t, q_lt_f, q_eq_t, q_eq_f, q_clamp, q_in_t, q_in_f] <;> exact ih
theorem s_fdays {I : zI} {L : zL} {F n : Nat} (hF : F ≤ 2) (h8 : I 11 8 = nI F) (hn : n < 4) : zcall zZ nX2_feastsAsDays [.ref 25, .int (nI n)] (hp I L) = some (some (.int (fdF (I 14) n F)), hp I L) := by
  have h := fdays_loop (L := L) hF h8 hn F 0 (by omega)
  rw [show fdF (I 14) n 0 = nI 0 from rfl] at h
  simp (disch := omega) only [c_X2_feastsAsDays, e_X2_feastsAsDays_0, Option.bind_some, Option.toList_some, Option.toList_none, List.cons_append, List.nil_append, Option.map_some, cond_true, cond_false, Bool.not_true, Bool.not_false, Bool.true_and, Bool.and_true, Bool.false_and, Bool.and_false, Bool.true_or, Bool.or_true, Bool.false_or, Bool.or_false, Bool.not_not, decide_true, decide_false, Bool.decide_eq_true, Bool.decide_eq_false, qz_0, qz_1, qz_n, qz_n0, qz_n1, qz_t, qz_f, Nat.reduceAdd, q0, q1, q2, q3, q4, q5, q6, q7, q8, q9, q10, q11, q12, q13, q14, q15, q16, q18, q19, q20, q21, q22, q23, q24, q25, q26, q27, q28, q29, q30, q31, q32, q38, q44, q45, q48, q57, q58, q59, q60, q63, q64, q97, q122, q126, q127, q128, q255, q256, q300, q580, q600, q1000, nI_add, q_lt_t, q_lt_f, q_eq_t, q_eq_f, q_clamp, q_in_t, q_in_f, h]
/-- days of the feasts behind also are days to be told, if these are -/
def insF (fd : Nat → Int32) (T : Int32) (f : Nat) : Bool := decide ((fd f &&& (T ^^^ -nI 1)) = nI 0)
theorem inside_loop {I : zI} {L : zL} {F : Nat} {T : Int32} (hF : F ≤ 2) (h8 : I 11 8 = nI F) : ∀ r f, f + r = F → zrun zZ kX2_feastsInside (4, [some (.ref 25), some (.int T), some (.int (dset (insF (I 14) T) f)), some (.int (nI f))], [], hp I L, 0, 0) = some (some (.int (dset (insF (I 14) T) F)), hp I L, 0, 0)
  | 0, f, h => by
    obtain rfl : f = F := h
    rw [e_X2_feastsInside_4]
    simp (disch := omega) only [h8, Option.bind_some, Option.toList_some, Option.toList_none, List.cons_append, List.nil_append, Option.map_some, cond_true, cond_false, Bool.not_true, Bool.not_false, Bool.true_and, Bool.and_true, Bool.false_and, Bool.and_false, Bool.true_or, Bool.or_true, Bool.false_or, Bool.or_false, Bool.not_not, decide_true, decide_false, Bool.decide_eq_true, Bool.decide_eq_false, qz_0, qz_1, qz_n, qz_n0, qz_n1, qz_t, qz_f, Nat.reduceAdd, q0, q1, q2, q3, q4, q5, q6, q7, q8, q9, q10, q11, q12, q13, q14, q15, q16, q18, q19, q20, q21, q22, q23, q24, q25, q26, q27, q28, q29, q30, q31, q32, q38, q44, q45, q48, q57, q58, q59, q60, q63, q64, q97, q122, q126, q127, q128, q255, q256, q300, q580, q600, q1000, nI_add, q_lt_t, q_lt_f, q_eq_t, q_eq_f, q_clamp, q_in_t, q_in_f]
  | r + 1, f, h => by
    have ih := inside_loop (L := L) (T := T) hF h8 r (f + 1) (by omega)
    rw [show dset (insF (I 14) T) (f + 1) = dset (insF (I 14) T) f ||| cond (insF (I 14) T f) (nI 1 <<< (nI f &&& nI 31)) (nI 0) from rfl] at ih
    rw [e_X2_feastsInside_4]
    by_cases q : (I 14 f &&& (T ^^^ -nI 1)) = nI 0
    · rw [show insF (I 14) T f = true from decide_eq_true q] at ih
      simp (disch := omega) only [e_X2_feastsInside_37, h8, q, Option.bind_some, Option.toList_some, Option.toList_none, List.cons_append, List.nil_append, Option.map_some, cond_true, cond_false, Bool.not_true, Bool.not_false, Bool.true_and, Bool.and_true, Bool.false_and, Bool.and_false, Bool.true_or, Bool.or_true, Bool.false_or, Bool.or_false, Bool.not_not, decide_true, decide_false, Bool.decide_eq_true, Bool.decide_eq_false, qz_0, qz_1, qz_n, qz_n0, qz_n1, qz_t, qz_f, Nat.reduceAdd, q0, q1, q2, q3, q4, q5, q6, q7, q8, q9, q10, q11, q12, q13, q14, q15, q16, q18, q19, q20, q21, q22, q23, q24, q25, q26, q27, q28, q29, q30, q31, q32, q38, q44, q45, q48, q57, q58, q59, q60, q63, q64, q97, q122, q126, q127, q128, q255, q256, q300, q580, q600, q1000, nI_add, q_lt_t, q_lt_f, q_eq_t, q_eq_f, q_clamp, q_in_t, q_in_f]
      exact ih
    · rw [show insF (I 14) T f = false from decide_eq_false q] at ih
      simp only [cond_false, show nI 0 = (0 : Int32) from rfl, Int32.or_zero] at ih
      simp (disch := omega) only [e_X2_feastsInside_37, h8, q, Option.bind_some, Option.toList_some, Option.toList_none, List.cons_append, List.nil_append, Option.map_some, cond_true, cond_false, Bool.not_true, Bool.not_false, Bool.true_and, Bool.and_true, Bool.false_and, Bool.and_false, Bool.true_or, Bool.or_true, Bool.false_or, Bool.or_false, Bool.not_not, decide_true, decide_false, Bool.decide_eq_true, Bool.decide_eq_false, qz_0, qz_1, qz_n, qz_n0, qz_n1, qz_t, qz_f, Nat.reduceAdd, q0, q1, q2, q3, q4, q5, q6, q7, q8, q9, q10, q11, q12, q13, q14, q15, q16, q18, q19, q20, q21, q22, q23, q24, q25, q26, q27, q28, q29, q30, q31, q32, q38, q44, q45, q48, q57, q58, q59, q60, q63, q64, q97, q122, q126, q127, q128, q255, q256, q300, q580, q600, q1000, nI_add, q_lt_t, q_lt_f, q_eq_t, q_eq_f, q_clamp, q_in_t, q_in_f]
      exact ih
theorem s_inside {I : zI} {L : zL} {F : Nat} {T : Int32} (hF : F ≤ 2) (h8 : I 11 8 = nI F) : zcall zZ nX2_feastsInside [.ref 25, .int T] (hp I L) = some (some (.int (dset (insF (I 14) T) F)), hp I L) := by
  have h := inside_loop (L := L) (T := T) hF h8 F 0 (by omega)
  rw [show dset (insF (I 14) T) 0 = nI 0 from rfl] at h
  simp (disch := omega) only [c_X2_feastsInside, e_X2_feastsInside_0, Option.bind_some, Option.toList_some, Option.toList_none, List.cons_append, List.nil_append, Option.map_some, cond_true, cond_false, Bool.not_true, Bool.not_false, Bool.true_and, Bool.and_true, Bool.false_and, Bool.and_false, Bool.true_or, Bool.or_true, Bool.false_or, Bool.or_false, Bool.not_not, decide_true, decide_false, Bool.decide_eq_true, Bool.decide_eq_false, qz_0, qz_1, qz_n, qz_n0, qz_n1, qz_t, qz_f, Nat.reduceAdd, q0, q1, q2, q3, q4, q5, q6, q7, q8, q9, q10, q11, q12, q13, q14, q15, q16, q18, q19, q20, q21, q22, q23, q24, q25, q26, q27, q28, q29, q30, q31, q32, q38, q44, q45, q48, q57, q58, q59, q60, q63, q64, q97, q122, q126, q127, q128, q255, q256, q300, q580, q600, q1000, nI_add, q_lt_t, q_lt_f, q_eq_t, q_eq_f, q_clamp, q_in_t, q_in_f, h]
/-- what is told by a choice of feasts -/
def stF (n a : Nat) : Nat := (if n = 0 then 0 else 1) ||| (if a = 0 then 0 else 2)
theorem stF_lt (n a : Nat) : stF n a < 4 := by
  unfold stF
  split <;> split <;> decide
def waS (fd : Nat → Int32) (F : Nat) (T : Int32) (a : Nat) : Int32 := T &&& (fdF fd a F ^^^ -nI 1)
theorem s_prepare {I : zI} {L : zL} {F n a : Nat} (hF : F ≤ 2) (h8 : I 11 8 = nI F) (hn : n < 4) (ha : a < 4) : zcall zZ nX2_prepare [.ref 25, .int (nI n), .int (nI a)] (hp I L) = some (none, hp (zup (zup (zup I 25 9 (fdF (I 14) n F)) 25 10 (waS (I 14) F (I 25 8) a)) 25 11 (nI (stF n a))) L) := by
  have h1 := s_fdays (L := L) hF h8 hn
  have h2 := s_fdays (I := zup I 25 9 (fdF (I 14) n F)) (L := L) (F := F) hF (by rw [zu_cell (by omega)]; exact h8) ha
  have e14 : (zup I 25 9 (fdF (I 14) n F)) 14 = I 14 := funext fun b => zu_cell (by omega)
  rw [e14] at h2
  unfold stF waS
  by_cases z1 : n = 0
  · by_cases z2 : a = 0
    · rw [if_pos z1, if_pos z2]
      simp (disch := omega) only [c_X2_prepare, e_X2_prepare_0, e_X2_prepare_6, e_X2_prepare_19, e_X2_prepare_35, e_X2_prepare_44, h1, h2, zu_same, zu_cell, zu_at, nx_or, Option.bind_some, Option.toList_some, Option.toList_none, List.cons_append, List.nil_append, Option.map_some, cond_true, cond_false, Bool.not_true, Bool.not_false, Bool.true_and, Bool.and_true, Bool.false_and, Bool.and_false, Bool.true_or, Bool.or_true, Bool.false_or, Bool.or_false, Bool.not_not, decide_true, decide_false, Bool.decide_eq_true, Bool.decide_eq_false, qz_0, qz_1, qz_n, qz_n0, qz_n1, qz_t, qz_f, Nat.reduceAdd, q0, q1, q2, q3, q4, q5, q6, q7, q8, q9, q10, q11, q12, q13, q14, q15, q16, q18, q19, q20, q21, q22, q23, q24, q25, q26, q27, q28, q29, q30, q31, q32, q38, q44, q45, q48, q57, q58, q59, q60, q63, q64, q97, q122, q126, q127, q128, q255, q256, q300, q580, q600, q1000, nI_add, q_lt_t, q_lt_f, q_eq_t, q_eq_f, q_clamp, q_in_t, q_in_f]
    · rw [if_pos z1, if_neg z2]
      simp (disch := omega) only [c_X2_prepare, e_X2_prepare_0, e_X2_prepare_6, e_X2_prepare_19, e_X2_prepare_35, e_X2_prepare_44, h1, h2, zu_same, zu_cell, zu_at, nx_or, Option.bind_some, Option.toList_some, Option.toList_none, List.cons_append, List.nil_append, Option.map_some, cond_true, cond_false, Bool.not_true, Bool.not_false, Bool.true_and, Bool.and_true, Bool.false_and, Bool.and_false, Bool.true_or, Bool.or_true, Bool.false_or, Bool.or_false, Bool.not_not, decide_true, decide_false, Bool.decide_eq_true, Bool.decide_eq_false, qz_0, qz_1, qz_n, qz_n0, qz_n1, qz_t, qz_f, Nat.reduceAdd, q0, q1, q2, q3, q4, q5, q6, q7, q8, q9, q10, q11, q12, q13, q14, q15, q16, q18, q19, q20, q21, q22, q23, q24, q25, q26, q27, q28, q29, q30, q31, q32, q38, q44, q45, q48, q57, q58, q59, q60, q63, q64, q97, q122, q126, q127, q128, q255, q256, q300, q580, q600, q1000, nI_add, q_lt_t, q_lt_f, q_eq_t, q_eq_f, q_clamp, q_in_t, q_in_f]
  · by_cases z2 : a = 0
    · rw [if_neg z1, if_pos z2]
      simp (disch := omega) only [c_X2_prepare, e_X2_prepare_0, e_X2_prepare_6, e_X2_prepare_19, e_X2_prepare_35, e_X2_prepare_44, h1, h2, zu_same, zu_cell, zu_at, nx_or, Option.bind_some, Option.toList_some, Option.toList_none, List.cons_append, List.nil_append, Option.map_some, cond_true, cond_false, Bool.not_true, Bool.not_false, Bool.true_and, Bool.and_true, Bool.false_and, Bool.and_false, Bool.true_or, Bool.or_true, Bool.false_or, Bool.or_false, Bool.not_not, decide_true, decide_false, Bool.decide_eq_true, Bool.decide_eq_false, qz_0, qz_1, qz_n, qz_n0, qz_n1, qz_t, qz_f, Nat.reduceAdd, q0, q1, q2, q3, q4, q5, q6, q7, q8, q9, q10, q11, q12, q13, q14, q15, q16, q18, q19, q20, q21, q22, q23, q24, q25, q26, q27, q28, q29, q30, q31, q32, q38, q44, q45, q48, q57, q58, q59, q60, q63, q64, q97, q122, q126, q127, q128, q255, q256, q300, q580, q600, q1000, nI_add, q_lt_t, q_lt_f, q_eq_t, q_eq_f, q_clamp, q_in_t, q_in_f]
    · rw [if_neg z1, if_neg z2]
      simp (disch := omega) only [c_X2_prepare, e_X2_prepare_0, e_X2_prepare_6, e_X2_prepare_19, e_X2_prepare_35, e_X2_prepare_44, h1, h2, zu_same, zu_cell, zu_at, nx_or, Option.bind_some, Option.toList_some, Option.toList_none, List.cons_append, List.nil_append, Option.map_some, cond_true, cond_false, Bool.not_true, Bool.not_false, Bool.true_and, Bool.and_true, Bool.false_and, Bool.and_false, Bool.true_or, Bool.or_true, Bool.false_or, Bool.or_false, Bool.not_not, decide_true, decide_false, Bool.decide_eq_true, Bool.decide_eq_false, qz_0, qz_1, qz_n, qz_n0, qz_n1, qz_t, qz_f, Nat.reduceAdd, q0, q1, q2, q3, q4, q5, q6, q7, q8, q9, q10, q11, q12, q13, q14, q15, q16, q18, q19, q20, q21, q22, q23, q24, q25, q26, q27, q28, q29, q30, q31, q32, q38, q44, q45, q48, q57, q58, q59, q60, q63, q64, q97, q122, q126, q127, q128, q255, q256, q300, q580, q600, q1000, nI_add, q_lt_t, q_lt_f, q_eq_t, q_eq_f, q_clamp, q_in_t, q_in_f]
