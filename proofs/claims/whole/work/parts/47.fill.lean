/-! a row is filled -/
def US (N w : Nat) (T H W : Int32) (bl : Bool) (k d s : Nat) : GF := UU N (fun d => bt W d) (csF N w T H W) (foF w T H) (fmF w H W) bl (s.testBit 0) (s.testBit 1) k d
theorem td_0 (w : Nat) (T H W : Int32) (d i P : Nat) : (tdF w T H W d i P).testBit 0 = foF w T H d i P := by
  unfold tdF
  cases foF w T H d i P <;> cases fmF w H W d i P <;> rfl
theorem td_1 (w : Nat) (T H W : Int32) (d i P : Nat) : (tdF w T H W d i P).testBit 1 = fmF w H W d i P := by
  unfold tdF
  cases foF w T H d i P <;> cases fmF w H W d i P <;> rfl
def todF (W : Int32) (d s : Nat) : Nat := (bt W d).toNat + (bt W d && !s.testBit 1).toNat
def sbdF (W : Int32) (d s : Nat) : Nat := s ||| (bt W d).toNat * 2
theorem sbd_0 (W : Int32) (d s : Nat) : (sbdF W d s).testBit 0 = s.testBit 0 := by
  unfold sbdF
  rw [Nat.testBit_or]
  cases bt W d
  · exact Bool.or_false _
  · exact Bool.or_false _
theorem sbd_1 (W : Int32) (d s : Nat) : (sbdF W d s).testBit 1 = (s.testBit 1 || bt W d) := by
  unfold sbdF
  rw [Nat.testBit_or]
  cases bt W d
  · rfl
  · rfl
theorem sbd_lt {W : Int32} {d s : Nat} (hs : s < 4) : sbdF W d s < 4 := by
  unfold sbdF
  cases bt W d
  · exact or_lt4 s hs 0 (by decide)
  · exact or_lt4 s hs 2 (by decide)
theorem sbd_ok {W : Int32} {d s c : Nat} (hs : s < 4) (hc : c < 4) (h : s &&& c = c) : sbdF W d s &&& c = c := by
  unfold sbdF
  cases bt W d
  · exact ok_or s hs 0 (by decide) c hc h
  · exact ok_or s hs 2 (by decide) c hc h
theorem US_step {N w : Nat} {T H W : Int32} {bl : Bool} {k d s : Nat} (h : d < N) : US N w T H W bl k d s = gadd (gs (todF W d s) (US N w T H W bl k (d + 1) (sbdF W d s))) (cond (bl && decide (k = 0)) g0 (gq (fun i => gsum (opF N w T H W d i (US N w T H W bl (k - bl.toNat) (d + i + 1)) s) pats) (N - d))) := by
  unfold US
  rw [UU_step N _ _ _ _ bl h, sbd_0, sbd_1, gsum_range]
  refine congr (congrArg gadd rfl) ?_
  cases (bl && decide (k = 0))
  · simp only [cond_false]
    refine gq_congr _ (fun i _ => gsum_congr _ (fun P _ => ?_))
    unfold opF pcx
    simp only [Nat.testBit_or, td_0, td_1, Nat.add_assoc]
  · simp only [cond_true]
theorem US_end {N w : Nat} {T H W : Int32} {bl : Bool} {k d s : Nat} (h : N ≤ d) : MW (US N w T H W bl k d s) 0 1 := UU_end N _ _ _ _ bl h
theorem US_dom (N w : Nat) (T H W : Int32) (bl : Bool) (k d s s' : Nat) (h : s &&& s' = s') : DOM (US N w T H W bl k d s) (US N w T H W bl k d s') := by
  have g : ∀ i, s'.testBit i = true → s.testBit i = true := fun i hi => by
    have := congrArg (fun x => x.testBit i) h
    simp only [Nat.testBit_and, hi, Bool.and_true] at this
    exact this
  exact DOM_U N _ _ _ _ bl (g 0) (g 1) k d
theorem and2 : ∀ s, s < 4 → s &&& 2 = 2 * (s.testBit 1).toNat := by decide +kernel
theorem s_tod {I : zI} {L : zL} {W : Int32} (h10 : I 25 10 = W) {d s : Nat} (hd : d < 32) (hs : s < 4) : zcall zZ nX2_tokensOfDay [.ref 25, .int (nI d), .int (nI s)] (hp I L) = some (some (.int (nI (todF W d s))), hp I L) := by
  unfold todF
  have e := and2 s hs
  cases h1 : bt W d
  · simp (disch := omega) only [c_X2_tokensOfDay, e_X2_tokensOfDay_0, e_X2_tokensOfDay_24, h10, q_bit, h1, Option.bind_some, Option.toList_some, Option.toList_none, List.cons_append, List.nil_append, Option.map_some, cond_true, cond_false, Bool.not_true, Bool.not_false, Bool.true_and, Bool.and_true, Bool.false_and, Bool.and_false, Bool.true_or, Bool.or_true, Bool.false_or, Bool.or_false, Bool.not_not, decide_true, decide_false, Bool.decide_eq_true, Bool.decide_eq_false, qz_0, qz_1, qz_n, qz_n0, qz_n1, qz_t, qz_f, Nat.reduceAdd, q0, q1, q2, q3, q4, q5, q6, q7, q8, q9, q10, q11, q12, q13, q14, q15, q16, q18, q19, q20, q21, q22, q23, q24, q25, q26, q27, q28, q29, q30, q31, q32, q38, q44, q45, q48, q57, q58, q59, q60, q63, q64, q97, q122, q126, q127, q128, q255, q256, q300, q580, q600, q1000, nI_add, q_lt_t, q_lt_f, q_eq_t, q_eq_f, q_clamp, q_in_t, q_in_f, Bool.toNat_false]
  · cases h2 : s.testBit 1 <;> rw [h2] at e <;> simp (disch := omega) only [c_X2_tokensOfDay, e_X2_tokensOfDay_0, e_X2_tokensOfDay_24, h10, q_bit, h1, nx_and s 2, e, Option.bind_some, Option.toList_some, Option.toList_none, List.cons_append, List.nil_append, Option.map_some, cond_true, cond_false, Bool.not_true, Bool.not_false, Bool.true_and, Bool.and_true, Bool.false_and, Bool.and_false, Bool.true_or, Bool.or_true, Bool.false_or, Bool.or_false, Bool.not_not, decide_true, decide_false, Bool.decide_eq_true, Bool.decide_eq_false, qz_0, qz_1, qz_n, qz_n0, qz_n1, qz_t, qz_f, Nat.reduceAdd, q0, q1, q2, q3, q4, q5, q6, q7, q8, q9, q10, q11, q12, q13, q14, q15, q16, q18, q19, q20, q21, q22, q23, q24, q25, q26, q27, q28, q29, q30, q31, q32, q38, q44, q45, q48, q57, q58, q59, q60, q63, q64, q97, q122, q126, q127, q128, q255, q256, q300, q580, q600, q1000, nI_add, q_lt_t, q_lt_f, q_eq_t, q_eq_f, q_clamp, q_in_t, q_in_f, Bool.toNat_true, Bool.toNat_false, Nat.reduceMul]
theorem s_sbd {I : zI} {L : zL} {W : Int32} (h10 : I 25 10 = W) {d s : Nat} (hd : d < 32) : zcall zZ nX2_stateBehindDay [.ref 25, .int (nI d), .int (nI s)] (hp I L) = some (some (.int (nI (sbdF W d s))), hp I L) := by
  unfold sbdF
  cases h1 : bt W d
  · simp (disch := omega) only [c_X2_stateBehindDay, e_X2_stateBehindDay_0, e_X2_stateBehindDay_18, h10, q_bit, h1, Option.bind_some, Option.toList_some, Option.toList_none, List.cons_append, List.nil_append, Option.map_some, cond_true, cond_false, Bool.not_true, Bool.not_false, Bool.true_and, Bool.and_true, Bool.false_and, Bool.and_false, Bool.true_or, Bool.or_true, Bool.false_or, Bool.or_false, Bool.not_not, decide_true, decide_false, Bool.decide_eq_true, Bool.decide_eq_false, qz_0, qz_1, qz_n, qz_n0, qz_n1, qz_t, qz_f, Nat.reduceAdd, q0, q1, q2, q3, q4, q5, q6, q7, q8, q9, q10, q11, q12, q13, q14, q15, q16, q18, q19, q20, q21, q22, q23, q24, q25, q26, q27, q28, q29, q30, q31, q32, q38, q44, q45, q48, q57, q58, q59, q60, q63, q64, q97, q122, q126, q127, q128, q255, q256, q300, q580, q600, q1000, nI_add, q_lt_t, q_lt_f, q_eq_t, q_eq_f, q_clamp, q_in_t, q_in_f, Bool.toNat_false, Nat.zero_mul, Nat.or_zero]
  · simp (disch := omega) only [c_X2_stateBehindDay, e_X2_stateBehindDay_0, e_X2_stateBehindDay_18, h10, q_bit, h1, nx_or, Option.bind_some, Option.toList_some, Option.toList_none, List.cons_append, List.nil_append, Option.map_some, cond_true, cond_false, Bool.not_true, Bool.not_false, Bool.true_and, Bool.and_true, Bool.false_and, Bool.and_false, Bool.true_or, Bool.or_true, Bool.false_or, Bool.or_false, Bool.not_not, decide_true, decide_false, Bool.decide_eq_true, Bool.decide_eq_false, qz_0, qz_1, qz_n, qz_n0, qz_n1, qz_t, qz_f, Nat.reduceAdd, q0, q1, q2, q3, q4, q5, q6, q7, q8, q9, q10, q11, q12, q13, q14, q15, q16, q18, q19, q20, q21, q22, q23, q24, q25, q26, q27, q28, q29, q30, q31, q32, q38, q44, q45, q48, q57, q58, q59, q60, q63, q64, q97, q122, q126, q127, q128, q255, q256, q300, q580, q600, q1000, nI_add, q_lt_t, q_lt_f, q_eq_t, q_eq_f, q_clamp, q_in_t, q_in_f, Bool.toNat_true, Nat.one_mul]
theorem tod_le (W : Int32) (d s : Nat) : todF W d s ≤ 2 := by
  unfold todF
  have h1 := Bool.toNat_le (bt W d)
  have h2 := Bool.toNat_le (bt W d && !s.testBit 1)
  omega
theorem tod_mono {W : Int32} {d s c : Nat} (h : s &&& c = c) : todF W d s ≤ todF W d c := by
  unfold todF
  have : c.testBit 1 = true → s.testBit 1 = true := fun hi => by
    have := congrArg (fun x => x.testBit 1) h
    simp only [Nat.testBit_and, hi, Bool.and_true] at this
    exact this
  cases h1 : bt W d <;> cases h2 : s.testBit 1 <;> cases h3 : c.testBit 1 <;> first | decide | (rw [h3, h2] at this; exact absurd (this rfl) (by decide))
/-- the row's states of one day, without a span (65 to 146, or the spans) -/
theorem bare_loop {a b d st : Nat} (hab : hAB a b) {N w : Nat} {T H W : Int32} (hd : d < N) {bl : Bool} {k : Nat} : ∀ r s (I : zI) (L : zL), s + r = 4 → FS I N w T H W st → (∀ s, s < 4 → s &&& st = st → CL I L a ((d + 1) * 4 + s) (US N w T H W bl k (d + 1) s) (2 * (N - (d + 1)))) → ∃ I' L', zrun zZ kX2_fill (64, [some (.ref 25), some (.ref a), some (.ref b), some (.int (nI d)), some (.int (nI s)), none], [], hp I L, 0, 0) = zrun zZ kX2_fill (64, [some (.ref 25), some (.ref a), some (.ref b), some (.int (nI d)), some (.int (nI 4)), none], [], hp I' L', 0, 0) ∧ (∀ s', s ≤ s' → s' < 4 → s' &&& st = st → CL I' L' a (d * 4 + s') (gs (todF W d s') (US N w T H W bl k (d + 1) (sbdF W d s'))) (2 * (N - d))) ∧ (∀ x y, (x ≠ a + 1 ∨ y < d * 4 + s ∨ d * 4 + 4 ≤ y) → I' x y = I x y) ∧ (∀ x y, (x ≠ a + 2 ∨ y < d * 4 + s ∨ d * 4 + 4 ≤ y) → L' x y = L x y)
  | 0, s, I, L, h, hFS, hn => by
    obtain rfl : s = 4 := h
    exact ⟨I, L, rfl, fun s' h1 h2 => by omega, fun _ _ _ => rfl, fun _ _ _ => rfl⟩
  | r + 1, s, I, L, h, hFS, hn => by
    obtain ⟨⟨hN28, hw7, hst4, hWT⟩, ⟨h6, h7, h12, -⟩, h8, h9, h10, h11⟩ := id hFS
    have hs4 : s < 4 := by omega
    have hsb := sbd_lt (W := W) (d := d) hs4
    obtain ⟨I', L', g1, g2, g3, g4⟩ := bare_loop hab hd (bl := bl) (k := k) r (s + 1) (zup I (a + 1) (d * 4 + s) (nI (todF W d s) + I (a + 1) ((d + 1) * 4 + sbdF W d s))) (zup L (a + 2) (d * 4 + s) (L (a + 2) ((d + 1) * 4 + sbdF W d s))) (by omega) (hFS.cg (fun x y hx => zu_cell (by omega))) (fun s' p1 p2 => (hn s' p1 p2).cg (zu_at (by omega)) (zu_at (by omega)))
    refine ⟨I', L', ?_, fun s' p1 p2 p3 => ?_, fun x y p => ?_, fun x y p => ?_⟩
    · refine Eq.trans ?_ g1
      rw [e_X2_fill_64 hab]
      simp (disch := omega) only [e_X2_fill_82 hab, e_X2_fill_102 hab, s_tod h10, s_sbd h10, q_mul, Option.bind_some, Option.toList_some, Option.toList_none, List.cons_append, List.nil_append, Option.map_some, cond_true, cond_false, Bool.not_true, Bool.not_false, Bool.true_and, Bool.and_true, Bool.false_and, Bool.and_false, Bool.true_or, Bool.or_true, Bool.false_or, Bool.or_false, Bool.not_not, decide_true, decide_false, Bool.decide_eq_true, Bool.decide_eq_false, qz_0, qz_1, qz_n, qz_n0, qz_n1, qz_t, qz_f, Nat.reduceAdd, q0, q1, q2, q3, q4, q5, q6, q7, q8, q9, q10, q11, q12, q13, q14, q15, q16, q18, q19, q20, q21, q22, q23, q24, q25, q26, q27, q28, q29, q30, q31, q32, q38, q44, q45, q48, q57, q58, q59, q60, q63, q64, q97, q122, q126, q127, q128, q255, q256, q300, q580, q600, q1000, nI_add, q_lt_t, q_lt_f, q_eq_t, q_eq_f, q_clamp, q_in_t, q_in_f]
    · rcases Nat.lt_or_ge s s' with z | z
      · exact g2 s' (by omega) p2 p3
      · obtain rfl : s' = s := by omega
        obtain ⟨k', n', c1, c2, c3, c4⟩ := hn (sbdF W d s') hsb (sbd_ok p2 hst4 p3)
        have := tod_le W d s'
        refine ⟨todF W d s' + k', n', by omega, ?_, ?_, MW_gs _ c4⟩
        · rw [g3 _ _ (by omega), zu_same, c2, nI_add]
        · rw [g4 _ _ (by omega), zu_same, c3]
    · rw [g3 x y (by omega)]
      by_cases z : x = a + 1
      · rw [zu_at (by omega)]
      · rw [zu_cell z]
    · rw [g4 x y (by omega)]
      by_cases z : x = a + 2
      · rw [zu_at (by omega)]
      · rw [zu_cell z]
def ROW (I : zI) (L : zL) (a N w : Nat) (T H W : Int32) (st : Nat) (bl : Bool) (k d0 : Nat) : Prop := ∀ d, d0 ≤ d → d ≤ N → ∀ s, s < 4 → s &&& st = st → CL I L a (d * 4 + s) (US N w T H W bl k d s) (2 * (N - d))
/-- days below d are left -/
theorem fill_loop {a b st : Nat} (hab : hAB a b) {N w : Nat} {T H W : Int32} {bl : Bool} {k : Nat} (hbl : (bl && decide (k = 0)) = false) (hk : a = b → bl = false) : ∀ d (I : zI) (L : zL), d ≤ N → FS I N w T H W st → ROW I L a N w T H W st bl k d → (a ≠ b → ROW I L b N w T H W st bl (k - bl.toNat) 0) → ∃ I' L', zrun zZ kX2_fill (57, [some (.ref 25), some (.ref a), some (.ref b), some (.int (nI d - nI 1)), none, none], [], hp I L, 0, 0) = some (none, hp I' L', 0, 0) ∧ ROW I' L' a N w T H W st bl k 0 ∧ (∀ x y, x ≠ 35 → x ≠ a + 1 → I' x y = I x y) ∧ (∀ x y, x ≠ a + 2 → L' x y = L x y)
  | 0, I, L, hd, hFS, hR, hB => by
    refine ⟨I, L, ?_, hR, fun _ _ _ _ => rfl, fun _ _ _ => rfl⟩
    have e : (nI 0 - nI 1 < nI 0) = True := eq_true (pk_sneg (a := 0) (b := 1) (by decide) (by decide))
    rw [e_X2_fill_57 hab]
    simp (disch := omega) only [q0, q1, q2, q3, q4, q5, q6, q7, q8, q9, q10, q11, q12, q13, q14, q15, q16, q18, q19, q20, q21, q22, q23, q24, q25, q26, q27, q28, q29, q30, q31, q32, q38, q44, q45, q48, q57, q58, q59, q60, q63, q64, q97, q122, q126, q127, q128, q255, q256, q300, q580, q600, q1000, e, Option.bind_some, Option.toList_some, Option.toList_none, List.cons_append, List.nil_append, Option.map_some, cond_true, cond_false, Bool.not_true, Bool.not_false, Bool.true_and, Bool.and_true, Bool.false_and, Bool.and_false, Bool.true_or, Bool.or_true, Bool.false_or, Bool.or_false, Bool.not_not, decide_true, decide_false, Bool.decide_eq_true, Bool.decide_eq_false, qz_0, qz_1, qz_n, qz_n0, qz_n1, qz_t, qz_f, Nat.reduceAdd]
  | d + 1, I, L, hd, hFS, hR, hB => by
    obtain ⟨⟨hN28, hw7, hst4, hWT⟩, ⟨h6, h7, h12, -⟩, h8, h9, h10, h11⟩ := id hFS
    obtain ⟨J, M, b1, b2, b3, b4⟩ := bare_loop hab (show d < N by omega) (bl := bl) (k := k) 4 0 I L (by omega) hFS (hR (d + 1) (Nat.le_refl _) hd)
    have hFJ : FS J N w T H W st := hFS.cg (fun x y hx => b3 x y (by omega))
    have hRJ : ROW J M a N w T H W st bl k (d + 1) := fun d' p1 p2 s p3 p4 => (hR d' p1 p2 s p3 p4).cg (b3 _ _ (by omega)) (b4 _ _ (by omega))
    have hBJ : a ≠ b → ROW J M b N w T H W st bl (k - bl.toNat) 0 := fun q d' p1 p2 s p3 p4 => (hB q d' p1 p2 s p3 p4).cg (b3 _ _ (by omega)) (b4 _ _ (by omega))
    obtain ⟨J2, M2, s1, s2, s3, s4⟩ := s_spans (Kb := 2 * (N - d)) hab (show d < N by omega) (by omega) (bs := fun s => gs (todF W d s) (US N w T H W bl k (d + 1) (sbdF W d s))) (G := fun d s => US N w T H W bl (k - bl.toNat) d s) (fun d s s' _ _ p3 => US_dom N w T H W bl _ d s s' p3) (fun s p1 p2 => by
      refine DOM_gs (tod_mono p2) (US_dom N w T H W bl _ _ _ _ ?_)
      unfold sbdF
      cases bt W d
      · exact or_sup 0 (by decide) s p1 st hst4 p2
      · exact or_sup 2 (by decide) s p1 st hst4 p2) hFJ (fun s p1 p2 => b2 s (by omega) p1 p2) (fun i hi s p1 p2 => by
      by_cases q : a = b
      · have := hRJ (d + i + 1) (by omega) (by omega) s p1 p2
        rw [hk q]
        rw [hk q] at this
        rw [← q]
        exact this.mono (by omega)
      · exact (hBJ q (d + i + 1) (by omega) (by omega) s p1 p2).mono (by omega))
    have hR2 : ROW J2 M2 a N w T H W st bl k d := fun d' p1 p2 s p3 p4 => by
      by_cases q : d' = d
      · subst q
        refine CL_cg (s2 s p3 p4) ?_
        rw [US_step (show d' < N by omega), hbl]
        rfl
      · exact (hRJ d' (by omega) p2 s p3 p4).cg (s3 _ _ (by omega) (by omega)) (s4 _ _ (by omega))
    obtain ⟨I', L', g1, g2, g3, g4⟩ := fill_loop hab hbl hk d J2 M2 (by omega) (hFJ.cg (fun x y hx => s3 x y (by omega) (by omega))) hR2 (fun q d' p1 p2 s p3 p4 => (hBJ q d' p1 p2 s p3 p4).cg (s3 _ _ (by omega) (by omega)) (s4 _ _ (by omega)))
    refine ⟨I', L', ?_, g2, fun x y p1 p2 => ?_, fun x y p => ?_⟩
    · have ek : nI (d + 1) - nI 1 = nI d := pk_sub (a := d + 1) (b := 1) (by omega)
      have en : nI d + -nI 1 = nI d - nI 1 := (Int32.sub_eq_add_neg _ _).symm
      rw [ek, e_X2_fill_57 hab]
      simp (disch := omega) only [q0, q_lt_f, decide_false, cond_false]
      rw [b1, e_X2_fill_64 hab]
      simp (disch := omega) only [e_X2_fill_146 hab, s1, Option.bind_some, Option.toList_some, Option.toList_none, List.cons_append, List.nil_append, Option.map_some, cond_true, cond_false, Bool.not_true, Bool.not_false, Bool.true_and, Bool.and_true, Bool.false_and, Bool.and_false, Bool.true_or, Bool.or_true, Bool.false_or, Bool.or_false, Bool.not_not, decide_true, decide_false, Bool.decide_eq_true, Bool.decide_eq_false, qz_0, qz_1, qz_n, qz_n0, qz_n1, qz_t, qz_f, Nat.reduceAdd, q0, q1, q2, q3, q4, q5, q6, q7, q8, q9, q10, q11, q12, q13, q14, q15, q16, q18, q19, q20, q21, q22, q23, q24, q25, q26, q27, q28, q29, q30, q31, q32, q38, q44, q45, q48, q57, q58, q59, q60, q63, q64, q97, q122, q126, q127, q128, q255, q256, q300, q580, q600, q1000, nI_add, q_lt_t, q_lt_f, q_eq_t, q_eq_f, q_clamp, q_in_t, q_in_f]
      rw [en]
      exact g1
    · rw [g3 x y p1 p2, s3 x y p1 (by omega), b3 x y (by omega)]
    · rw [g4 x y p, s4 x y (by omega), b4 x y (by omega)]
theorem end_loop {a b st : Nat} (hab : hAB a b) {N w : Nat} {T H W : Int32} {bl : Bool} {k : Nat} : ∀ r s (I : zI) (L : zL), s + r = 4 → FS I N w T H W st → (∀ s', s' < s → I (a + 1) (N * 4 + s') = nI 0 ∧ L (a + 2) (N * 4 + s') = lN 1) → ∃ I' L', zrun zZ kX2_fill (2, [some (.ref 25), some (.ref a), some (.ref b), some (.int (nI s)), none, none], [], hp I L, 0, 0) = zrun zZ kX2_fill (57, [some (.ref 25), some (.ref a), some (.ref b), some (.int (nI N - nI 1)), none, none], [], hp I' L', 0, 0) ∧ (∀ s', s' < 4 → I' (a + 1) (N * 4 + s') = nI 0 ∧ L' (a + 2) (N * 4 + s') = lN 1) ∧ (∀ x y, x ≠ a + 1 → I' x y = I x y) ∧ (∀ x y, x ≠ a + 2 → L' x y = L x y)
  | 0, s, I, L, h, hFS, h0 => by
    obtain rfl : s = 4 := h
    refine ⟨I, L, ?_, h0, fun _ _ _ => rfl, fun _ _ _ => rfl⟩
    rw [e_X2_fill_2 hab]
    simp (disch := omega) only [hFS.2.1.1, Option.bind_some, Option.toList_some, Option.toList_none, List.cons_append, List.nil_append, Option.map_some, cond_true, cond_false, Bool.not_true, Bool.not_false, Bool.true_and, Bool.and_true, Bool.false_and, Bool.and_false, Bool.true_or, Bool.or_true, Bool.false_or, Bool.or_false, Bool.not_not, decide_true, decide_false, Bool.decide_eq_true, Bool.decide_eq_false, qz_0, qz_1, qz_n, qz_n0, qz_n1, qz_t, qz_f, Nat.reduceAdd, q0, q1, q2, q3, q4, q5, q6, q7, q8, q9, q10, q11, q12, q13, q14, q15, q16, q18, q19, q20, q21, q22, q23, q24, q25, q26, q27, q28, q29, q30, q31, q32, q38, q44, q45, q48, q57, q58, q59, q60, q63, q64, q97, q122, q126, q127, q128, q255, q256, q300, q580, q600, q1000, nI_add, q_lt_t, q_lt_f, q_eq_t, q_eq_f, q_clamp, q_in_t, q_in_f]
  | r + 1, s, I, L, h, hFS, h0 => by
    have hN28 := hFS.1.1
    obtain ⟨I', L', g1, g2, g3, g4⟩ := end_loop hab (bl := bl) (k := k) r (s + 1) (zup I (a + 1) (N * 4 + s) (nI 0)) (zup L (a + 2) (N * 4 + s) (lN 1)) (by omega) (hFS.cg (fun x y hx => zu_cell (by omega))) (fun s' hs' => by
      by_cases q : s' = s
      · rw [q, zu_same, zu_same]
        exact ⟨rfl, rfl⟩
      · rw [zu_at (by omega), zu_at (by omega)]
        exact h0 s' (by omega))
    refine ⟨I', L', ?_, g2, fun x y p => by rw [g3 x y p, zu_cell p], fun x y p => by rw [g4 x y p, zu_cell p]⟩
    rw [e_X2_fill_2 hab]
    simp (disch := omega) only [e_X2_fill_44 hab, hFS.2.1.1, q_mul, Option.bind_some, Option.toList_some, Option.toList_none, List.cons_append, List.nil_append, Option.map_some, cond_true, cond_false, Bool.not_true, Bool.not_false, Bool.true_and, Bool.and_true, Bool.false_and, Bool.and_false, Bool.true_or, Bool.or_true, Bool.false_or, Bool.or_false, Bool.not_not, decide_true, decide_false, Bool.decide_eq_true, Bool.decide_eq_false, qz_0, qz_1, qz_n, qz_n0, qz_n1, qz_t, qz_f, Nat.reduceAdd, q0, q1, q2, q3, q4, q5, q6, q7, q8, q9, q10, q11, q12, q13, q14, q15, q16, q18, q19, q20, q21, q22, q23, q24, q25, q26, q27, q28, q29, q30, q31, q32, q38, q44, q45, q48, q57, q58, q59, q60, q63, q64, q97, q122, q126, q127, q128, q255, q256, q300, q580, q600, q1000, nI_add, q_lt_t, q_lt_f, q_eq_t, q_eq_f, q_clamp, q_in_t, q_in_f]
    exact g1
theorem s_fill {a b st : Nat} (hab : hAB a b) {N w : Nat} {T H W : Int32} {bl : Bool} {k : Nat} (hbl : (bl && decide (k = 0)) = false) (hk : a = b → bl = false) {I : zI} {L : zL} (hFS : FS I N w T H W st) (hB : a ≠ b → ROW I L b N w T H W st bl (k - bl.toNat) 0) : ∃ I' L', zcall zZ nX2_fill [.ref 25, .ref a, .ref b] (hp I L) = some (none, hp I' L') ∧ ROW I' L' a N w T H W st bl k 0 ∧ (∀ x y, x ≠ 35 → x ≠ a + 1 → I' x y = I x y) ∧ (∀ x y, x ≠ a + 2 → L' x y = L x y) := by
  obtain ⟨J, M, e1, e2, e3, e4⟩ := end_loop hab (bl := bl) (k := k) 4 0 I L (by omega) hFS (fun s' h => by omega)
  obtain ⟨I', L', g1, g2, g3, g4⟩ := fill_loop hab hbl hk N J M (Nat.le_refl N) (hFS.cg (fun x y hx => e3 x y (by omega))) (fun d p1 p2 s p3 p4 => by
    obtain rfl : d = N := by omega
    exact ⟨0, 1, by omega, (e2 s p3).1, (e2 s p3).2, US_end (Nat.le_refl _)⟩) (fun q d' p1 p2 s p3 p4 => (hB q d' p1 p2 s p3 p4).cg (e3 _ _ (by omega)) (e4 _ _ (by omega)))
  refine ⟨I', L', ?_, g2, fun x y p1 p2 => (g3 x y p1 p2).trans (e3 x y p2), fun x y p => (g4 x y p).trans (e4 x y p)⟩
  simp (disch := omega) only [c_X2_fill hab, e_X2_fill_0 hab, Option.bind_some, Option.toList_some, Option.toList_none, List.cons_append, List.nil_append, Option.map_some, cond_true, cond_false, Bool.not_true, Bool.not_false, Bool.true_and, Bool.and_true, Bool.false_and, Bool.and_false, Bool.true_or, Bool.or_true, Bool.false_or, Bool.or_false, Bool.not_not, decide_true, decide_false, Bool.decide_eq_true, Bool.decide_eq_false, qz_0, qz_1, qz_n, qz_n0, qz_n1, qz_t, qz_f, Nat.reduceAdd, q0, q1, q2, q3, q4, q5, q6, q7, q8, q9, q10, q11, q12, q13, q14, q15, q16, q18, q19, q20, q21, q22, q23, q24, q25, q26, q27, q28, q29, q30, q31, q32, q38, q44, q45, q48, q57, q58, q59, q60, q63, q64, q97, q122, q126, q127, q128, q255, q256, q300, q580, q600, q1000, nI_add, q_lt_t, q_lt_f, q_eq_t, q_eq_f, q_clamp, q_in_t, q_in_f]
  rw [e1, g1]
  rfl
