theorem pcx_mono : ∀ td, td < 4 → ∀ s, s < 4 → ∀ c, c < 4 → s &&& c = c → pcx td s ≤ pcx td c := by decide +kernel
theorem or_sup : ∀ td, td < 4 → ∀ s, s < 4 → ∀ c, c < 4 → s &&& c = c → (s ||| td) &&& (c ||| td) = c ||| td := by decide +kernel
theorem sup_3 : ∀ c, c < 4 → 3 &&& c = c := by decide +kernel
theorem sup_self : ∀ c, c < 4 → c &&& c = c := by decide +kernel
theorem nI_subz (a b : Nat) : nI a - nI b = iz ((a : Int) - b) := by rw [iz_nI, iz_nI, iz_sub]
theorem iz_subn (a : Int) (b : Nat) : iz a - nI b = iz (a - b) := by rw [iz_nI, iz_sub]
theorem CL.mono {I : zI} {L : zL} {a j K K' : Nat} {g : GF} (h : CL I L a j g K) (hK : K ≤ K') : CL I L a j g K' := by
  obtain ⟨k, n, c1, c2⟩ := h
  exact ⟨k, n, by omega, c2⟩
theorem opF_dom {N w : Nat} {T H W : Int32} {d i : Nat} {G : Nat → GF} (hDom : ∀ s s', s < 4 → s' < 4 → s &&& s' = s' → DOM (G s) (G s')) {s c : Nat} (hs : s < 4) (hc : c < 4) (h : s &&& c = c) (P : Nat) : DOM (opF N w T H W d i G s P) (opF N w T H W d i G c P) := by
  have ht := tdF_lt w T H W d i P
  exact DOM_gs (Nat.add_le_add_left (pcx_mono _ ht s hs c hc h) _) (hDom _ _ (or_lt4 s hs _ ht) (or_lt4 c hc _ ht) (or_sup _ ht s hs c hc h))
theorem DOM_low {f g : GF} {k n : Nat} (h : DOM f g) (h1 : MW f k n) : ∀ c, c < k → g c = 0 := by
  intro c hc
  by_cases q : g c = 0
  · exact q
  · obtain ⟨c', h2, h3⟩ := h c q
    exact absurd (h1.2.2 c' (by omega)) h3
theorem spans_loop {a b f st Kb : Nat} (hab : hAB a b) {N w : Nat} {T H W : Int32} (hKb : Kb ≤ 100) {bs : Nat → GF} {G : Nat → Nat → GF} (hDom : ∀ d s s', s < 4 → s' < 4 → s &&& s' = s' → DOM (G d s) (G d s')) (hbd : ∀ s, s < 4 → s &&& st = st → DOM (bs s) (bs st)) : ∀ r m (I : zI) (L : zL), f + m + r = N → FS I N w T H W st → LN I w T H W f m → (∀ s, s < 4 → s &&& st = st → CL I L a (f * 4 + s) (gadd (bs s) (gq (fun i => gsum (opF N w T H W f i (G (f + i + 1)) s) pats) m)) Kb) → (∀ i, f + i < N → ∀ s, s < 4 → s &&& st = st → CL I L b ((f + i + 1) * 4 + s) (G (f + i + 1) s) 100) → ∃ I' L', zrun zZ kX2_offerSpans (30, [some (.ref 25), some (.ref a), some (.ref b), some (.int (nI f)), some (.int (nI (loF w T H W f m))), some (.int (nI (f + m))), none, none, none, none], [], hp I L, 0, 0) = some (none, hp I' L', 0, 0) ∧ (∀ s, s < 4 → s &&& st = st → CL I' L' a (f * 4 + s) (gadd (bs s) (gq (fun i => gsum (opF N w T H W f i (G (f + i + 1)) s) pats) (N - f))) Kb) ∧ (∀ x y, x ≠ 35 → (x ≠ a + 1 ∨ y < f * 4 ∨ f * 4 + 4 ≤ y) → I' x y = I x y) ∧ (∀ x y, (x ≠ a + 2 ∨ y < f * 4 ∨ f * 4 + 4 ≤ y) → L' x y = L x y)
  | 0, m, I, L, h, hFS, hL, hown, hbeh => by
    obtain ⟨⟨hN28, -, -, -⟩, ⟨h6, -⟩, -⟩ := hFS
    refine ⟨I, L, ?_, ?_, fun _ _ _ _ => rfl, fun _ _ _ => rfl⟩
    · rw [e_X2_offerSpans_30 hab]
      simp (disch := omega) only [h6, Option.bind_some, Option.toList_some, Option.toList_none, List.cons_append, List.nil_append, Option.map_some, cond_true, cond_false, Bool.not_true, Bool.not_false, Bool.true_and, Bool.and_true, Bool.false_and, Bool.and_false, Bool.true_or, Bool.or_true, Bool.false_or, Bool.or_false, Bool.not_not, decide_true, decide_false, Bool.decide_eq_true, Bool.decide_eq_false, qz_0, qz_1, qz_n, qz_n0, qz_n1, qz_t, qz_f, Nat.reduceAdd, q0, q1, q2, q3, q4, q5, q6, q7, q8, q9, q10, q11, q12, q13, q14, q15, q16, q18, q19, q20, q21, q22, q23, q24, q25, q26, q27, q28, q29, q30, q31, q32, q38, q44, q45, q48, q57, q58, q59, q60, q63, q64, q97, q122, q126, q127, q128, q255, q256, q300, q580, q600, q1000, nI_add, q_lt_t, q_lt_f, q_eq_t, q_eq_f, q_clamp, q_in_t, q_in_f]
    · rw [show N - f = m by omega]
      exact hown
  | r + 1, m, I, L, h, hFS, hL, hown, hbeh => by
    have hfm : f + m < N := by omega
    obtain ⟨⟨hN28, hw7, hst4, hWT⟩, ⟨h6, h7, h12, -⟩, h8, h9, h10, h11⟩ := id hFS
    obtain ⟨J, e1, e2, e3⟩ := lean_step (L := L) hab hfm hFS hL
    have h35 : a + 1 ≠ 35 ∧ b + 1 ≠ 35 := by omega
    have hFJ : FS J N w T H W st := hFS.cg (fun x y hx => e3 x y (by omega))
    have hownJ : ∀ s, s < 4 → s &&& st = st → CL J L a (f * 4 + s) (gadd (bs s) (gq (fun i => gsum (opF N w T H W f i (G (f + i + 1)) s) pats) m)) Kb := fun s p1 p2 => (hown s p1 p2).cg (e3 _ _ h35.1) rfl
    have hbehJ : ∀ i, f + i < N → ∀ s, s < 4 → s &&& st = st → CL J L b ((f + i + 1) * 4 + s) (G (f + i + 1) s) 100 := fun i hi s p1 p2 => (hbeh i hi s p1 p2).cg (e3 _ _ h35.2) rfl
    obtain ⟨K0, n0, c1, c2, c3, c4⟩ := hownJ st hst4 (sup_self st hst4)
    obtain ⟨k3, n3, d1, d2, d3, d4⟩ := hbehJ m hfm 3 (by decide) (sup_3 st hst4)
    have hown0 : ∀ s, s < 4 → s &&& st = st → CL J L a (f * 4 + s) (gadd (bs s) (gq (fun i => gsum (opF N w T H W f i (G (f + i + 1)) s) pats) m)) K0 := fun s p1 p2 => by
      obtain ⟨k, n, x1, x2, x3, x4⟩ := hownJ s p1 p2
      refine ⟨k, n, ?_, x2, x3, x4⟩
      exact DOM_MW (DOM_gadd (hbd s p1 p2) (DOM_gq m (fun i _ => DOM_gsum _ (fun P _ => opF_dom (hDom _) p1 hst4 p2 P)))) x4 c4
    have hG : ∀ s, s < 4 → s &&& st = st → ∀ c, c < k3 → G (f + m + 1) s c = 0 := fun s p1 p2 => DOM_low (hDom _ 3 s (by decide) p1 (sup_3 s p1)) d4
    have hen := enF_le N f m
    have hlo := lo_le2 w T H W f (m + 1)
    have hlle := fun P => lo_le (w := w) (H := H) hWT f m P
    have hbnd := s_bounds (L := L) hN28 hFJ.2.1.1 hfm
    -- what comes of this day's spans
    have key : ∃ J' L', zrun zZ kX2_offerSpans (174, [some (.ref 25), some (.ref a), some (.ref b), some (.int (nI f)), some (.int (nI (loF w T H W f (m + 1)))), some (.int (nI (f + m))), none, none, none, none], [], hp J L, 0, 0) = zrun zZ kX2_offerSpans (30, [some (.ref 25), some (.ref a), some (.ref b), some (.int (nI f)), some (.int (nI (loF w T H W f (m + 1)))), some (.int (nI (f + m + 1))), none, none, none, none], [], hp J' L', 0, 0) ∧ (∀ s, s < 4 → s &&& st = st → CL J' L' a (f * 4 + s) (gadd (gadd (bs s) (gq (fun i => gsum (opF N w T H W f i (G (f + i + 1)) s) pats) m)) (gsum (opF N w T H W f m (G (f + m + 1)) s) pats)) K0) ∧ (∀ x y, (x ≠ a + 1 ∨ y < f * 4 ∨ f * 4 + 4 ≤ y) → J' x y = J x y) ∧ (∀ x y, (x ≠ a + 2 ∨ y < f * 4 ∨ f * 4 + 4 ≤ y) → L' x y = L x y) := by
      have i3 : nI ((f + m + 1) * 4 + 4) - nI 1 = nI ((f + m + 1) * 4 + 3) := pk_sub (by omega)
      rcases Int.lt_or_le 6 ((K0 : Int) - k3 - enF N f m - loF w T H W f (m + 1)) with q | q
      · obtain ⟨J', L', g1, g2, g3, g4⟩ := s_pats (dr := 6) (K := K0) (k3 := k3) (B := (K0 : Int) - k3 - enF N f m) hab hfm (by decide) (by decide) (by omega) (by omega) rfl (G := G (f + m + 1)) hG (fun j h1 h2 => by rw [chp_6] at h2; omega) hFJ hown0 (fun s p1 p2 => (hbehJ m hfm s p1 p2).mono (by omega))
        refine ⟨J', L', ?_, g2, g3, g4⟩
        have hq : (nI 6 < iz ((K0 : Int) - k3 - enF N f m - loF w T H W f (m + 1))) = True := by
          rw [iz_nlt (by omega) (by omega) (by omega)]
          exact eq_true q
        rw [e_X2_offerSpans_174 hab]
        simp (disch := omega) only [e_X2_offerSpans_210 hab, e_X2_offerSpans_223 hab, e_X2_offerSpans_243 hab, hFJ.2.2.2.2.2, q_mul, i3, c2, d2, hbnd, nI_subz K0 k3, iz_subn, j_min, hq, if_true, g1, Option.bind_some, Option.toList_some, Option.toList_none, List.cons_append, List.nil_append, Option.map_some, cond_true, cond_false, Bool.not_true, Bool.not_false, Bool.true_and, Bool.and_true, Bool.false_and, Bool.and_false, Bool.true_or, Bool.or_true, Bool.false_or, Bool.or_false, Bool.not_not, decide_true, decide_false, Bool.decide_eq_true, Bool.decide_eq_false, qz_0, qz_1, qz_n, qz_n0, qz_n1, qz_t, qz_f, Nat.reduceAdd, q0, q1, q2, q3, q4, q5, q6, q7, q8, q9, q10, q11, q12, q13, q14, q15, q16, q18, q19, q20, q21, q22, q23, q24, q25, q26, q27, q28, q29, q30, q31, q32, q38, q44, q45, q48, q57, q58, q59, q60, q63, q64, q97, q122, q126, q127, q128, q255, q256, q300, q580, q600, q1000, nI_add, q_lt_t, q_lt_f, q_clamp, q_in_t]
      · rcases Int.lt_or_le 0 ((K0 : Int) - k3 - enF N f m - loF w T H W f (m + 1)) with q2' | q2'
        · obtain ⟨dr, hdr⟩ : ∃ dr : Nat, (dr : Int) = (K0 : Int) - k3 - enF N f m - loF w T H W f (m + 1) := ⟨_, Int.toNat_of_nonneg (by omega)⟩
          obtain ⟨J', L', g1, g2, g3, g4⟩ := s_pats (dr := dr) (K := K0) (k3 := k3) (B := (K0 : Int) - k3 - enF N f m) hab hfm (by omega) (by omega) (by omega) (by omega) rfl (G := G (f + m + 1)) hG (fun j h1 h2 => by
            have z1 := chp_gt dr (by omega) j h1 h2
            have z2 := hlle (odP j)
            omega) hFJ hown0 (fun s p1 p2 => (hbehJ m hfm s p1 p2).mono (by omega))
          refine ⟨J', L', ?_, g2, g3, g4⟩
          have hq : (nI 6 < nI dr) = False := eq_false (nI_nlt (by omega) (by omega))
          have hz : iz ((K0 : Int) - k3 - enF N f m - loF w T H W f (m + 1)) = nI dr := by rw [iz_nI, hdr]
          rw [e_X2_offerSpans_174 hab]
          simp (disch := omega) only [e_X2_offerSpans_210 hab, e_X2_offerSpans_223 hab, e_X2_offerSpans_243 hab, hFJ.2.2.2.2.2, q_mul, i3, c2, d2, hbnd, nI_subz K0 k3, iz_subn, j_min, hz, hq, if_false, g1, Option.bind_some, Option.toList_some, Option.toList_none, List.cons_append, List.nil_append, Option.map_some, cond_true, cond_false, Bool.not_true, Bool.not_false, Bool.true_and, Bool.and_true, Bool.false_and, Bool.and_false, Bool.true_or, Bool.or_true, Bool.false_or, Bool.or_false, Bool.not_not, decide_true, decide_false, Bool.decide_eq_true, Bool.decide_eq_false, qz_0, qz_1, qz_n, qz_n0, qz_n1, qz_t, qz_f, Nat.reduceAdd, q0, q1, q2, q3, q4, q5, q6, q7, q8, q9, q10, q11, q12, q13, q14, q15, q16, q18, q19, q20, q21, q22, q23, q24, q25, q26, q27, q28, q29, q30, q31, q32, q38, q44, q45, q48, q57, q58, q59, q60, q63, q64, q97, q122, q126, q127, q128, q255, q256, q300, q580, q600, q1000, nI_add, q_lt_t, q_lt_f, q_clamp, q_in_t]
        · refine ⟨J, L, ?_, fun s p1 p2 => CL_skip (hown0 s p1 p2) (fun c hc => ?_), fun _ _ _ => rfl, fun _ _ _ => rfl⟩
          · have hq : (nI 6 < iz ((K0 : Int) - k3 - enF N f m - loF w T H W f (m + 1))) = False := by
              rw [iz_nlt (by omega) (by omega) (by omega)]
              exact eq_false (by omega)
            have hq2 : (nI 0 < iz ((K0 : Int) - k3 - enF N f m - loF w T H W f (m + 1))) = False := by
              rw [iz_nlt (by omega) (by omega) (by omega)]
              exact eq_false (by omega)
            rw [e_X2_offerSpans_174 hab]
            simp (disch := omega) only [e_X2_offerSpans_210 hab, e_X2_offerSpans_223 hab, e_X2_offerSpans_243 hab, hFJ.2.2.2.2.2, q_mul, i3, c2, d2, hbnd, nI_subz K0 k3, iz_subn, j_min, hq, hq2, if_false, Option.bind_some, Option.toList_some, Option.toList_none, List.cons_append, List.nil_append, Option.map_some, cond_true, cond_false, Bool.not_true, Bool.not_false, Bool.true_and, Bool.and_true, Bool.false_and, Bool.and_false, Bool.true_or, Bool.or_true, Bool.false_or, Bool.or_false, Bool.not_not, decide_true, decide_false, Bool.decide_eq_true, Bool.decide_eq_false, qz_0, qz_1, qz_n, qz_n0, qz_n1, qz_t, qz_f, Nat.reduceAdd, q0, q1, q2, q3, q4, q5, q6, q7, q8, q9, q10, q11, q12, q13, q14, q15, q16, q18, q19, q20, q21, q22, q23, q24, q25, q26, q27, q28, q29, q30, q31, q32, q38, q44, q45, q48, q57, q58, q59, q60, q63, q64, q97, q122, q126, q127, q128, q255, q256, q300, q580, q600, q1000, nI_add, q_lt_t, q_lt_f, q_clamp, q_in_t]
          · by_cases z : gsum (opF N w T H W f m (G (f + m + 1)) s) pats c = 0
            · exact z
            · obtain ⟨P, hP, z2⟩ := gsum_ne _ z
              have hP2 := pats_mem.mp hP
              have z3 := hlle P
              have z4 := (pT_b P hP2.2).2 (by omega)
              refine absurd (opF_dear (k3 := k3) (hG _ (or_lt4 s p1 _ (tdF_lt ..)) (ok_or s p1 _ (tdF_lt ..) st hst4 p2)) ?_ c hc) z2
              unfold csF
              omega
    obtain ⟨J', L', k1, k2, k3', k4⟩ := key
    obtain ⟨I', L'', g1, g2, g3, g4⟩ := spans_loop hab hKb hDom hbd r (m + 1) J' L' (by omega) (hFJ.cg (fun x y hx => k3' x y (by omega))) (fun j hj => by rw [k3' 35 j (by omega)]; exact e2 j hj) (fun s p1 p2 => by
      refine CL_cg ((k2 s p1 p2).mono (by omega)) ?_
      rw [gadd_assoc]
      rfl) (fun i hi s p1 p2 => (hbehJ i hi s p1 p2).cg (k3' _ _ (by omega)) (k4 _ _ (by omega)))
    refine ⟨I', L'', (e1.trans k1).trans g1, g2, fun x y p1 p2 => ?_, fun x y p => (g4 x y p).trans (k4 x y p)⟩
    rw [g3 x y p1 p2, k3' x y p2, e3 x y p1]
theorem lean0_loop {a b f : Nat} (hab : hAB a b) {L : zL} : ∀ r m (I : zI), m + r = 7 → (∀ j, j < m → I 35 j = nI 0) → ∃ J, zrun zZ kX2_offerSpans (3, [some (.ref 25), some (.ref a), some (.ref b), some (.int (nI f)), some (.int (nI m)), none, none, none, none, none], [], hp I L, 0, 0) = zrun zZ kX2_offerSpans (30, [some (.ref 25), some (.ref a), some (.ref b), some (.int (nI f)), some (.int (nI 0)), some (.int (nI f)), none, none, none, none], [], hp J L, 0, 0) ∧ (∀ j, j < 7 → J 35 j = nI 0) ∧ (∀ x y, x ≠ 35 → J x y = I x y)
  | 0, m, I, h, h0 => by
    obtain rfl : m = 7 := h
    refine ⟨I, ?_, h0, fun _ _ _ => rfl⟩
    rw [e_X2_offerSpans_3 hab]
    simp (disch := omega) only [Option.bind_some, Option.toList_some, Option.toList_none, List.cons_append, List.nil_append, Option.map_some, cond_true, cond_false, Bool.not_true, Bool.not_false, Bool.true_and, Bool.and_true, Bool.false_and, Bool.and_false, Bool.true_or, Bool.or_true, Bool.false_or, Bool.or_false, Bool.not_not, decide_true, decide_false, Bool.decide_eq_true, Bool.decide_eq_false, qz_0, qz_1, qz_n, qz_n0, qz_n1, qz_t, qz_f, Nat.reduceAdd, q0, q1, q2, q3, q4, q5, q6, q7, q8, q9, q10, q11, q12, q13, q14, q15, q16, q18, q19, q20, q21, q22, q23, q24, q25, q26, q27, q28, q29, q30, q31, q32, q38, q44, q45, q48, q57, q58, q59, q60, q63, q64, q97, q122, q126, q127, q128, q255, q256, q300, q580, q600, q1000, nI_add, q_lt_t, q_lt_f, q_eq_t, q_eq_f, q_clamp, q_in_t, q_in_f]
  | r + 1, m, I, h, h0 => by
    obtain ⟨J, g1, g2, g3⟩ := lean0_loop (f := f) (L := L) hab r (m + 1) (zup I 35 m (nI 0)) (by omega) (fun j hj => by
      by_cases q : j = m
      · rw [q, zu_same]
      · rw [zu_at q]
        exact h0 j (by omega))
    refine ⟨J, ?_, g2, fun x y hx => by rw [g3 x y hx, zu_cell hx]⟩
    rw [e_X2_offerSpans_3 hab]
    simp (disch := omega) only [Option.bind_some, Option.toList_some, Option.toList_none, List.cons_append, List.nil_append, Option.map_some, cond_true, cond_false, Bool.not_true, Bool.not_false, Bool.true_and, Bool.and_true, Bool.false_and, Bool.and_false, Bool.true_or, Bool.or_true, Bool.false_or, Bool.or_false, Bool.not_not, decide_true, decide_false, Bool.decide_eq_true, Bool.decide_eq_false, qz_0, qz_1, qz_n, qz_n0, qz_n1, qz_t, qz_f, Nat.reduceAdd, q0, q1, q2, q3, q4, q5, q6, q7, q8, q9, q10, q11, q12, q13, q14, q15, q16, q18, q19, q20, q21, q22, q23, q24, q25, q26, q27, q28, q29, q30, q31, q32, q38, q44, q45, q48, q57, q58, q59, q60, q63, q64, q97, q122, q126, q127, q128, q255, q256, q300, q580, q600, q1000, nI_add, q_lt_t, q_lt_f, q_eq_t, q_eq_f, q_clamp, q_in_t, q_in_f]
    exact g1
theorem s_spans {a b f st Kb : Nat} (hab : hAB a b) {N w : Nat} {T H W : Int32} (hf : f < N) (hKb : Kb ≤ 100) {bs : Nat → GF} {G : Nat → Nat → GF} (hDom : ∀ d s s', s < 4 → s' < 4 → s &&& s' = s' → DOM (G d s) (G d s')) (hbd : ∀ s, s < 4 → s &&& st = st → DOM (bs s) (bs st)) {I : zI} {L : zL} (hFS : FS I N w T H W st) (hown : ∀ s, s < 4 → s &&& st = st → CL I L a (f * 4 + s) (bs s) Kb) (hbeh : ∀ i, f + i < N → ∀ s, s < 4 → s &&& st = st → CL I L b ((f + i + 1) * 4 + s) (G (f + i + 1) s) 100) : ∃ I' L', zcall zZ nX2_offerSpans [.ref 25, .ref a, .ref b, .int (nI f)] (hp I L) = some (none, hp I' L') ∧ (∀ s, s < 4 → s &&& st = st → CL I' L' a (f * 4 + s) (gadd (bs s) (gq (fun i => gsum (opF N w T H W f i (G (f + i + 1)) s) pats) (N - f))) Kb) ∧ (∀ x y, x ≠ 35 → (x ≠ a + 1 ∨ y < f * 4 ∨ f * 4 + 4 ≤ y) → I' x y = I x y) ∧ (∀ x y, (x ≠ a + 2 ∨ y < f * 4 ∨ f * 4 + 4 ≤ y) → L' x y = L x y) := by
  obtain ⟨J, k1, k2, k3⟩ := lean0_loop (f := f) (L := L) hab 7 0 I (by omega) (fun j hj => by omega)
  obtain ⟨I', L', g1, g2, g3, g4⟩ := spans_loop hab hKb hDom hbd (N - f) 0 J L (by omega) (hFS.cg (fun x y hx => k3 x y (by omega))) (fun j hj => by
    rw [k2 j hj]
    rfl) (fun s p1 p2 => by
      show CL J L a (f * 4 + s) (gadd (bs s) g0) Kb
      rw [gadd_0]
      exact (hown s p1 p2).cg (k3 _ _ (by omega)) rfl) (fun i hi s p1 p2 => (hbeh i hi s p1 p2).cg (k3 _ _ (by omega)) rfl)
  refine ⟨I', L', ?_, g2, fun x y p1 p2 => (g3 x y p1 p2).trans (k3 x y p1), g4⟩
  rw [show loF w T H W f 0 = 0 from rfl, Nat.add_zero] at g1
  simp (disch := omega) only [c_X2_offerSpans hab, e_X2_offerSpans_0 hab, Option.bind_some, Option.toList_some, Option.toList_none, List.cons_append, List.nil_append, Option.map_some, cond_true, cond_false, Bool.not_true, Bool.not_false, Bool.true_and, Bool.and_true, Bool.false_and, Bool.and_false, Bool.true_or, Bool.or_true, Bool.false_or, Bool.or_false, Bool.not_not, decide_true, decide_false, Bool.decide_eq_true, Bool.decide_eq_false, qz_0, qz_1, qz_n, qz_n0, qz_n1, qz_t, qz_f, Nat.reduceAdd, q0, q1, q2, q3, q4, q5, q6, q7, q8, q9, q10, q11, q12, q13, q14, q15, q16, q18, q19, q20, q21, q22, q23, q24, q25, q26, q27, q28, q29, q30, q31, q32, q38, q44, q45, q48, q57, q58, q59, q60, q63, q64, q97, q122, q126, q127, q128, q255, q256, q300, q580, q600, q1000, nI_add, q_lt_t, q_lt_f, q_eq_t, q_eq_f, q_clamp, q_in_t, q_in_f, k1, g1]
