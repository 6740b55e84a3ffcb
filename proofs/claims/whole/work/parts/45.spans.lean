theorem s_pats {a b f i dr st K k3 : Nat} {B : Int} (hab : hAB a b) {N w : Nat} {T H W : Int32} (hN : f + i < N) (hdr : 1 ≤ dr) (hdr2 : dr < 7) (hK : K ≤ 500) (hk3 : k3 ≤ 500) (hB : B = (K : Int) - k3 - enF N f i) {g G : Nat → GF} (hG : ∀ s, s < 4 → s &&& st = st → ∀ c, c < k3 → G s c = 0) (hpr : ∀ j, j < 127 → chp dr ≤ j → B < ((pT (odP j) + ocF w T H f i (odP j) + mcF w H W f i (odP j) : Nat) : Int)) {I : zI} {L : zL} (hFS : FS I N w T H W st) (hown : ∀ s, s < 4 → s &&& st = st → CL I L a (f * 4 + s) (g s) K) (hbeh : ∀ s, s < 4 → s &&& st = st → CL I L b ((f + i + 1) * 4 + s) (G s) 1000) : ∃ I' L', zcall zZ nX2_offerPatterns [.ref 25, .ref a, .ref b, .int (nI f), .int (nI (f + i)), .int (iz B), .int (nI dr)] (hp I L) = some (none, hp I' L') ∧ (∀ s, s < 4 → s &&& st = st → CL I' L' a (f * 4 + s) (gadd (g s) (gsum (opF N w T H W f i G s) pats)) K) ∧ (∀ x y, (x ≠ a + 1 ∨ y < f * 4 ∨ f * 4 + 4 ≤ y) → I' x y = I x y) ∧ (∀ x y, (x ≠ a + 2 ∨ y < f * 4 ∨ f * 4 + 4 ≤ y) → L' x y = L x y) := by
  have hN28 := hFS.1.1
  have hst4 := hFS.1.2.2.1
  obtain ⟨I', L', g1, g2, g3, g4⟩ := pats_loop hab hN hdr hdr2 hK hk3 hB hG (g := g) (chp dr) 0 I L (by omega) hFS (fun s p1 p2 => by
    show CL I L a (f * 4 + s) (gadd (g s) g0) K
    rw [gadd_0]
    exact hown s p1 p2) hbeh
  refine ⟨I', L', ?_, fun s p1 p2 => ?_, g3, g4⟩
  · simp (disch := omega) only [c_X2_offerPatterns hab, e_X2_offerPatterns_0 hab, e_X2_offerPatterns_19 hab, s_bounds hN28 hFS.2.1.1 hN, q_shl1, q_rng, Option.bind_some, Option.toList_some, Option.toList_none, List.cons_append, List.nil_append, Option.map_some, cond_true, cond_false, Bool.not_true, Bool.not_false, Bool.true_and, Bool.and_true, Bool.false_and, Bool.and_false, Bool.true_or, Bool.or_true, Bool.false_or, Bool.or_false, Bool.not_not, decide_true, decide_false, Bool.decide_eq_true, Bool.decide_eq_false, qz_0, qz_1, qz_n, qz_n0, qz_n1, qz_t, qz_f, Nat.reduceAdd, q0, q1, q2, q3, q4, q5, q6, q7, q8, q9, q10, q11, q12, q13, q14, q15, q16, q18, q19, q20, q21, q22, q23, q24, q25, q26, q27, q28, q29, q30, q31, q32, q38, q44, q45, q48, q57, q58, q59, q60, q63, q64, q97, q122, q126, q127, q128, q255, q256, q300, q580, q600, q1000, nI_add, q_lt_t, q_lt_f, q_eq_t, q_eq_f, q_clamp, q_in_t, q_in_f, g1]
  · rw [← gq_ordl]
    have key : ∀ m j, j + m = 127 → chp dr ≤ j → CL I' L' a (f * 4 + s) (gadd (g s) (gq (fun q => opF N w T H W f i G s (odP q)) j)) K → CL I' L' a (f * 4 + s) (gadd (g s) (gq (fun q => opF N w T H W f i G s (odP q)) 127)) K := by
      intro m
      induction m with
      | zero =>
        intro j hj _ h
        rw [show j = 127 by omega] at h
        exact h
      | succ m ih =>
        intro j hj hc h
        refine ih (j + 1) (by omega) (by omega) ?_
        show CL I' L' a (f * 4 + s) (gadd (g s) (gadd (gq (fun q => opF N w T H W f i G s (odP q)) j) (opF N w T H W f i G s (odP j)))) K
        rw [← gadd_assoc]
        refine CL_skip h (opF_dear (k3 := k3) (hG _ (or_lt4 s p1 _ (tdF_lt ..)) (ok_or s p1 _ (tdF_lt ..) st hst4 p2)) ?_)
        have := hpr j (by omega) hc
        unfold csF
        omega
    have hc := chp_b dr hdr2
    exact key (127 - chp dr) (chp dr) (by omega) (Nat.le_refl _) (g2 s p1 p2)
/-! days one by one: how weekdays lean -/
theorem wa_s (w : Nat) (W : Int32) (d m j : Nat) : waF w W d (m + 1) j = waF w W d m j + (bt W (d + m) && decide ((w + (d + m)) % 7 = j)).toNat := rfl
theorem wb_s (w : Nat) (T H W : Int32) (d m j : Nat) : wbF w T H W d (m + 1) j = wbF w T H W d m j + (((!bt H (d + m) && !bt T (d + m)) || (bt H (d + m) && bt W (d + m))) && decide ((w + (d + m)) % 7 = j)).toNat := rfl
theorem lo_upd (w : Nat) (T H W : Int32) (d m : Nat) : loF w T H W d (m + 1) + min (waF w W d m ((w + (d + m)) % 7)) (wbF w T H W d m ((w + (d + m)) % 7)) = loF w T H W d m + min (waF w W d (m + 1) ((w + (d + m)) % 7)) (wbF w T H W d (m + 1) ((w + (d + m)) % 7)) := by
  refine s7_upd (f := fun j => min (waF w W d (m + 1) j) (wbF w T H W d (m + 1) j)) (g := fun j => min (waF w W d m j) (wbF w T H W d m j)) (Nat.mod_lt _ (by decide)) (fun i hi => ?_)
  show min (waF w W d (m + 1) i) (wbF w T H W d (m + 1) i) = min (waF w W d m i) (wbF w T H W d m i)
  rw [wa_s, wb_s, decide_eq_false (fun q => hi q.symm), Bool.and_false, Bool.and_false]
  rfl
theorem wa_le (w : Nat) (W : Int32) (d m j : Nat) : waF w W d m j ≤ m := cnt_le _ m
theorem wb_le (w : Nat) (T H W : Int32) (d m j : Nat) : wbF w T H W d m j ≤ m := cnt_le _ m
theorem lo_le2 (w : Nat) (T H W : Int32) (d : Nat) : ∀ m, loF w T H W d m ≤ m
  | 0 => by
    unfold loF s7 waF
    simp only [cnt]
    omega
  | m + 1 => by
    have ih := lo_le2 w T H W d m
    have h := lo_upd w T H W d m
    have h1 := wa_s w W d m ((w + (d + m)) % 7)
    have h2 := wb_s w T H W d m ((w + (d + m)) % 7)
    have b1 := Bool.toNat_le (bt W (d + m) && decide ((w + (d + m)) % 7 = (w + (d + m)) % 7))
    have b2 := Bool.toNat_le (((!bt H (d + m) && !bt T (d + m)) || (bt H (d + m) && bt W (d + m))) && decide ((w + (d + m)) % 7 = (w + (d + m)) % 7))
    omega
/-- the leaning of weekdays stands in cell 35 -/
def LN (I : zI) (w : Nat) (T H W : Int32) (f m : Nat) : Prop := ∀ j, j < 7 → I 35 j = iz ((wbF w T H W f m j : Int) - waF w W f m j)
theorem LN_up {I : zI} {w : Nat} {T H W : Int32} {f m : Nat} (h : LN I w T H W f m) {v : Int32} (hv : v = iz ((wbF w T H W f (m + 1) ((w + (f + m)) % 7) : Int) - waF w W f (m + 1) ((w + (f + m)) % 7))) : LN (zup I 35 ((w + (f + m)) % 7) v) w T H W f (m + 1) := by
  intro j hj
  by_cases q : j = (w + (f + m)) % 7
  · rw [q, zu_same, hv]
  · rw [zu_at q, h j hj, wa_s, wb_s, decide_eq_false (fun z => q z.symm), Bool.and_false, Bool.and_false]
    rfl
theorem LN_same {I : zI} {w : Nat} {T H W : Int32} {f m : Nat} (h : LN I w T H W f m) (he : (wbF w T H W f (m + 1) ((w + (f + m)) % 7) : Int) - waF w W f (m + 1) ((w + (f + m)) % 7) = (wbF w T H W f m ((w + (f + m)) % 7) : Int) - waF w W f m ((w + (f + m)) % 7)) : LN I w T H W f (m + 1) := by
  intro j hj
  by_cases q : j = (w + (f + m)) % 7
  · rw [h j hj, q, he]
  · rw [h j hj, wa_s, wb_s, decide_eq_false (fun z => q z.symm), Bool.and_false, Bool.and_false]
    rfl
/-- one day more: from 30 to 174 -/
theorem lean_step {a b f m st : Nat} (hab : hAB a b) {N w : Nat} {T H W : Int32} (hN : f + m < N) {I : zI} {L : zL} (hFS : FS I N w T H W st) (hL : LN I w T H W f m) : ∃ J, zrun zZ kX2_offerSpans (30, [some (.ref 25), some (.ref a), some (.ref b), some (.int (nI f)), some (.int (nI (loF w T H W f m))), some (.int (nI (f + m))), none, none, none, none], [], hp I L, 0, 0) = zrun zZ kX2_offerSpans (174, [some (.ref 25), some (.ref a), some (.ref b), some (.int (nI f)), some (.int (nI (loF w T H W f (m + 1)))), some (.int (nI (f + m))), none, none, none, none], [], hp J L, 0, 0) ∧ LN J w T H W f (m + 1) ∧ (∀ x y, x ≠ 35 → J x y = I x y) := by
  have hFS' := hFS
  obtain ⟨⟨hN28, hw7, hst4, hWT⟩, ⟨h6, h7, h12, -⟩, h8, h9, h10, h11⟩ := hFS'
  have hwd : (w + (f + m)) % 7 < 7 := Nat.mod_lt _ (by decide)
  have hwk : zcall zZ nX1_weekdayOf [.ref 11, .int (nI (f + m))] (hp I L) = _ := s_XweekdayOf (Or.inl rfl) h7 (j := f + m) (by omega)
  have hlo := lo_upd w T H W f m
  have ha := wa_s w W f m ((w + (f + m)) % 7)
  have hb := wb_s w T H W f m ((w + (f + m)) % 7)
  rw [decide_eq_true rfl, Bool.and_true] at ha hb
  have la := wa_le w W f m ((w + (f + m)) % 7)
  have lb := wb_le w T H W f m ((w + (f + m)) % 7)
  have ll := lo_le2 w T H W f m
  have hlean := hL _ hwd
  have hwt := hWT (f + m)
  rw [e_X2_offerSpans_30 hab]
  cases c1 : bt W (f + m) with
  | true =>
    have c3 : bt T (f + m) = true := hwt c1
    cases c2 : bt H (f + m) with
    | true =>
      rw [c1, c2, c3] at hb
      rw [c1] at ha
      have ha : waF w W f (m + 1) ((w + (f + m)) % 7) = waF w W f m ((w + (f + m)) % 7) + 1 := ha
      have hb : wbF w T H W f (m + 1) ((w + (f + m)) % 7) = wbF w T H W f m ((w + (f + m)) % 7) + 1 := hb
      have e : loF w T H W f (m + 1) = loF w T H W f m + 1 := by omega
      refine ⟨I, ?_, LN_same hL (by omega), fun _ _ _ => rfl⟩
      simp (disch := omega) only [e_X2_offerSpans_51 hab, e_X2_offerSpans_70 hab, h6, hwk, h8, h9, h10, q_bit, c1, c2, c3, e, Option.bind_some, Option.toList_some, Option.toList_none, List.cons_append, List.nil_append, Option.map_some, cond_true, cond_false, Bool.not_true, Bool.not_false, Bool.true_and, Bool.and_true, Bool.false_and, Bool.and_false, Bool.true_or, Bool.or_true, Bool.false_or, Bool.or_false, Bool.not_not, decide_true, decide_false, Bool.decide_eq_true, Bool.decide_eq_false, qz_0, qz_1, qz_n, qz_n0, qz_n1, qz_t, qz_f, Nat.reduceAdd, q0, q1, q2, q3, q4, q5, q6, q7, q8, q9, q10, q11, q12, q13, q14, q15, q16, q18, q19, q20, q21, q22, q23, q24, q25, q26, q27, q28, q29, q30, q31, q32, q38, q44, q45, q48, q57, q58, q59, q60, q63, q64, q97, q122, q126, q127, q128, q255, q256, q300, q580, q600, q1000, nI_add, q_lt_t, q_lt_f, q_eq_t, q_eq_f, q_clamp, q_in_t, q_in_f]
    | false =>
      rw [c1, c2, c3] at hb
      rw [c1] at ha
      have ha : waF w W f (m + 1) ((w + (f + m)) % 7) = waF w W f m ((w + (f + m)) % 7) + 1 := ha
      have hb : wbF w T H W f (m + 1) ((w + (f + m)) % 7) = wbF w T H W f m ((w + (f + m)) % 7) := hb
      refine ⟨zup I 35 ((w + (f + m)) % 7) (iz ((wbF w T H W f m ((w + (f + m)) % 7) : Int) - waF w W f m ((w + (f + m)) % 7)) - nI 1), ?_, LN_up hL ?_, fun x y h => zu_cell h⟩
      · have hlt : (nI 0 < iz ((wbF w T H W f m ((w + (f + m)) % 7) : Int) - waF w W f m ((w + (f + m)) % 7))) = (((0 : Nat) : Int) < (wbF w T H W f m ((w + (f + m)) % 7) : Int) - waF w W f m ((w + (f + m)) % 7)) := iz_nlt (by omega) (by omega) (by omega)
        by_cases q : ((0 : Nat) : Int) < (wbF w T H W f m ((w + (f + m)) % 7) : Int) - waF w W f m ((w + (f + m)) % 7)
        · have hT := eq_true q
          have e : loF w T H W f (m + 1) = loF w T H W f m + 1 - 0 := by omega
          simp (disch := omega) only [e_X2_offerSpans_51 hab, e_X2_offerSpans_70 hab, e_X2_offerSpans_109 hab, h6, hwk, h8, h9, h10, q_bit, c1, c2, c3, hlean, hlt, hT, q_sub, e, Option.bind_some, Option.toList_some, Option.toList_none, List.cons_append, List.nil_append, Option.map_some, cond_true, cond_false, Bool.not_true, Bool.not_false, Bool.true_and, Bool.and_true, Bool.false_and, Bool.and_false, Bool.true_or, Bool.or_true, Bool.false_or, Bool.or_false, Bool.not_not, decide_true, decide_false, Bool.decide_eq_true, Bool.decide_eq_false, qz_0, qz_1, qz_n, qz_n0, qz_n1, qz_t, qz_f, Nat.reduceAdd, q0, q1, q2, q3, q4, q5, q6, q7, q8, q9, q10, q11, q12, q13, q14, q15, q16, q18, q19, q20, q21, q22, q23, q24, q25, q26, q27, q28, q29, q30, q31, q32, q38, q44, q45, q48, q57, q58, q59, q60, q63, q64, q97, q122, q126, q127, q128, q255, q256, q300, q580, q600, q1000, nI_add, q_lt_t, q_lt_f, q_eq_t, q_eq_f, q_clamp, q_in_t, q_in_f]
        · have hT := eq_false q
          have e : loF w T H W f (m + 1) = loF w T H W f m + 1 - 1 := by omega
          simp (disch := omega) only [e_X2_offerSpans_51 hab, e_X2_offerSpans_70 hab, e_X2_offerSpans_109 hab, h6, hwk, h8, h9, h10, q_bit, c1, c2, c3, hlean, hlt, hT, q_sub, e, Option.bind_some, Option.toList_some, Option.toList_none, List.cons_append, List.nil_append, Option.map_some, cond_true, cond_false, Bool.not_true, Bool.not_false, Bool.true_and, Bool.and_true, Bool.false_and, Bool.and_false, Bool.true_or, Bool.or_true, Bool.false_or, Bool.or_false, Bool.not_not, decide_true, decide_false, Bool.decide_eq_true, Bool.decide_eq_false, qz_0, qz_1, qz_n, qz_n0, qz_n1, qz_t, qz_f, Nat.reduceAdd, q0, q1, q2, q3, q4, q5, q6, q7, q8, q9, q10, q11, q12, q13, q14, q15, q16, q18, q19, q20, q21, q22, q23, q24, q25, q26, q27, q28, q29, q30, q31, q32, q38, q44, q45, q48, q57, q58, q59, q60, q63, q64, q97, q122, q126, q127, q128, q255, q256, q300, q580, q600, q1000, nI_add, q_lt_t, q_lt_f, q_eq_t, q_eq_f, q_clamp, q_in_t, q_in_f]
      · rw [iz_nI, iz_sub]
        congr 1
        omega
  | false =>
    cases c2 : bt H (f + m) with
    | true =>
      rw [c1, c2] at hb
      rw [c1] at ha
      have ha : waF w W f (m + 1) ((w + (f + m)) % 7) = waF w W f m ((w + (f + m)) % 7) := ha
      have hb : wbF w T H W f (m + 1) ((w + (f + m)) % 7) = wbF w T H W f m ((w + (f + m)) % 7) := hb
      have e : loF w T H W f (m + 1) = loF w T H W f m := by omega
      refine ⟨I, ?_, LN_same hL (by omega), fun _ _ _ => rfl⟩
      simp (disch := omega) only [e_X2_offerSpans_51 hab, e_X2_offerSpans_70 hab, h6, hwk, h8, h9, h10, q_bit, c1, c2, e, Option.bind_some, Option.toList_some, Option.toList_none, List.cons_append, List.nil_append, Option.map_some, cond_true, cond_false, Bool.not_true, Bool.not_false, Bool.true_and, Bool.and_true, Bool.false_and, Bool.and_false, Bool.true_or, Bool.or_true, Bool.false_or, Bool.or_false, Bool.not_not, decide_true, decide_false, Bool.decide_eq_true, Bool.decide_eq_false, qz_0, qz_1, qz_n, qz_n0, qz_n1, qz_t, qz_f, Nat.reduceAdd, q0, q1, q2, q3, q4, q5, q6, q7, q8, q9, q10, q11, q12, q13, q14, q15, q16, q18, q19, q20, q21, q22, q23, q24, q25, q26, q27, q28, q29, q30, q31, q32, q38, q44, q45, q48, q57, q58, q59, q60, q63, q64, q97, q122, q126, q127, q128, q255, q256, q300, q580, q600, q1000, nI_add, q_lt_t, q_lt_f, q_eq_t, q_eq_f, q_clamp, q_in_t, q_in_f]
    | false =>
      cases c3 : bt T (f + m) with
      | true =>
        rw [c1, c2, c3] at hb
        rw [c1] at ha
        have ha : waF w W f (m + 1) ((w + (f + m)) % 7) = waF w W f m ((w + (f + m)) % 7) := ha
        have hb : wbF w T H W f (m + 1) ((w + (f + m)) % 7) = wbF w T H W f m ((w + (f + m)) % 7) := hb
        have e : loF w T H W f (m + 1) = loF w T H W f m := by omega
        refine ⟨I, ?_, LN_same hL (by omega), fun _ _ _ => rfl⟩
        simp (disch := omega) only [e_X2_offerSpans_51 hab, e_X2_offerSpans_70 hab, h6, hwk, h8, h9, h10, q_bit, c1, c2, c3, e, Option.bind_some, Option.toList_some, Option.toList_none, List.cons_append, List.nil_append, Option.map_some, cond_true, cond_false, Bool.not_true, Bool.not_false, Bool.true_and, Bool.and_true, Bool.false_and, Bool.and_false, Bool.true_or, Bool.or_true, Bool.false_or, Bool.or_false, Bool.not_not, decide_true, decide_false, Bool.decide_eq_true, Bool.decide_eq_false, qz_0, qz_1, qz_n, qz_n0, qz_n1, qz_t, qz_f, Nat.reduceAdd, q0, q1, q2, q3, q4, q5, q6, q7, q8, q9, q10, q11, q12, q13, q14, q15, q16, q18, q19, q20, q21, q22, q23, q24, q25, q26, q27, q28, q29, q30, q31, q32, q38, q44, q45, q48, q57, q58, q59, q60, q63, q64, q97, q122, q126, q127, q128, q255, q256, q300, q580, q600, q1000, nI_add, q_lt_t, q_lt_f, q_eq_t, q_eq_f, q_clamp, q_in_t, q_in_f]
      | false =>
        rw [c1, c2, c3] at hb
        rw [c1] at ha
        have ha : waF w W f (m + 1) ((w + (f + m)) % 7) = waF w W f m ((w + (f + m)) % 7) := ha
        have hb : wbF w T H W f (m + 1) ((w + (f + m)) % 7) = wbF w T H W f m ((w + (f + m)) % 7) + 1 := hb
        refine ⟨zup I 35 ((w + (f + m)) % 7) (iz ((wbF w T H W f m ((w + (f + m)) % 7) : Int) - waF w W f m ((w + (f + m)) % 7)) + nI 1), ?_, LN_up hL ?_, fun x y h => zu_cell h⟩
        · have hlt : (iz ((wbF w T H W f m ((w + (f + m)) % 7) : Int) - waF w W f m ((w + (f + m)) % 7)) < nI 0) = ((wbF w T H W f m ((w + (f + m)) % 7) : Int) - waF w W f m ((w + (f + m)) % 7) < ((0 : Nat) : Int)) := iz_ltn (by omega) (by omega) (by omega)
          by_cases q : (wbF w T H W f m ((w + (f + m)) % 7) : Int) - waF w W f m ((w + (f + m)) % 7) < ((0 : Nat) : Int)
          · have hT := eq_true q
            have e : loF w T H W f (m + 1) = loF w T H W f m + 1 := by omega
            simp (disch := omega) only [e_X2_offerSpans_51 hab, e_X2_offerSpans_70 hab, e_X2_offerSpans_160 hab, h6, hwk, h8, h9, h10, q_bit, c1, c2, c3, hlean, hlt, hT, e, Option.bind_some, Option.toList_some, Option.toList_none, List.cons_append, List.nil_append, Option.map_some, cond_true, cond_false, Bool.not_true, Bool.not_false, Bool.true_and, Bool.and_true, Bool.false_and, Bool.and_false, Bool.true_or, Bool.or_true, Bool.false_or, Bool.or_false, Bool.not_not, decide_true, decide_false, Bool.decide_eq_true, Bool.decide_eq_false, qz_0, qz_1, qz_n, qz_n0, qz_n1, qz_t, qz_f, Nat.reduceAdd, q0, q1, q2, q3, q4, q5, q6, q7, q8, q9, q10, q11, q12, q13, q14, q15, q16, q18, q19, q20, q21, q22, q23, q24, q25, q26, q27, q28, q29, q30, q31, q32, q38, q44, q45, q48, q57, q58, q59, q60, q63, q64, q97, q122, q126, q127, q128, q255, q256, q300, q580, q600, q1000, nI_add, q_lt_t, q_lt_f, q_eq_t, q_eq_f, q_clamp, q_in_t, q_in_f]
          · have hT := eq_false q
            have e : loF w T H W f (m + 1) = loF w T H W f m + 0 := by omega
            simp (disch := omega) only [e_X2_offerSpans_51 hab, e_X2_offerSpans_70 hab, e_X2_offerSpans_160 hab, h6, hwk, h8, h9, h10, q_bit, c1, c2, c3, hlean, hlt, hT, e, Option.bind_some, Option.toList_some, Option.toList_none, List.cons_append, List.nil_append, Option.map_some, cond_true, cond_false, Bool.not_true, Bool.not_false, Bool.true_and, Bool.and_true, Bool.false_and, Bool.and_false, Bool.true_or, Bool.or_true, Bool.false_or, Bool.or_false, Bool.not_not, decide_true, decide_false, Bool.decide_eq_true, Bool.decide_eq_false, qz_0, qz_1, qz_n, qz_n0, qz_n1, qz_t, qz_f, Nat.reduceAdd, q0, q1, q2, q3, q4, q5, q6, q7, q8, q9, q10, q11, q12, q13, q14, q15, q16, q18, q19, q20, q21, q22, q23, q24, q25, q26, q27, q28, q29, q30, q31, q32, q38, q44, q45, q48, q57, q58, q59, q60, q63, q64, q97, q122, q126, q127, q128, q255, q256, q300, q580, q600, q1000, nI_add, q_lt_t, q_lt_f, q_eq_t, q_eq_f, q_clamp, q_in_t, q_in_f]
        · rw [iz_nI, iz_add]
          congr 1
          omega
