/-! the reference weighs -/
def VS (N w : Nat) (T H W : Int32) (bl : Bool) (k d m : Nat) : GF := VV N (fun d => bt W d) (csF N w T H W) (foF w T H) (fmF w H W) bl (m.testBit 0) (m.testBit 1) k d
/-- a value that is no cost from 1000 on -/
def BV (b n : Nat) (g : GF) : Prop := (b < 1000 ∧ MW g b n) ∨ (1000 ≤ b ∧ g = g0)
theorem BV_lt {b n c m : Nat} {g h : GF} (h1 : BV b n g) (h2 : BV c m h) (q : c < b) : BV c m (gadd g h) := by
  rcases h2 with ⟨p, h2⟩ | ⟨p, rfl⟩
  · rcases h1 with ⟨p1, h1⟩ | ⟨p1, rfl⟩
    · exact Or.inl ⟨p, MW_lt h1 h2 q⟩
    · rw [g0_add]
      exact Or.inl ⟨p, h2⟩
  · rcases h1 with ⟨p1, h1⟩ | ⟨p1, rfl⟩
    · omega
    · rw [g0_add]
      exact Or.inr ⟨p, rfl⟩
theorem BV_eq {b n m : Nat} {g h : GF} (h1 : BV b n g) (h2 : BV b m h) : BV b (n + m) (gadd g h) := by
  rcases h2 with ⟨p, h2⟩ | ⟨p, rfl⟩
  · rcases h1 with ⟨p1, h1⟩ | ⟨p1, rfl⟩
    · exact Or.inl ⟨p, MW_eq h1 h2⟩
    · omega
  · rcases h1 with ⟨p1, h1⟩ | ⟨p1, rfl⟩
    · omega
    · rw [g0_add]
      exact Or.inr ⟨p, rfl⟩
theorem BV_gt {b n c m : Nat} {g h : GF} (h1 : BV b n g) (h2 : BV c m h) (q : b < c) : BV b n (gadd g h) := by
  rcases h2 with ⟨p, h2⟩ | ⟨p, rfl⟩
  · rcases h1 with ⟨p1, h1⟩ | ⟨p1, rfl⟩
    · exact Or.inl ⟨p1, MW_gt h1 h2 q⟩
    · omega
  · rw [gadd_0]
    exact h1
/-- a shifted value -/
theorem BV_gs {b n s : Nat} {g : GF} (h : BV b n g) (hs : b < 1000 → s + b < 1000) : BV (s + b) n (gs s g) := by
  rcases h with ⟨p, h⟩ | ⟨p, rfl⟩
  · exact Or.inl ⟨hs p, MW_gs s h⟩
  · rw [gs_g0]
    exact Or.inr ⟨by omega, rfl⟩
def LV (I : zI) (L : zL) (mo d : Nat) (g : GF) : Prop := ∃ k n, k ≤ 1000 ∧ I 57 (mo * 29 + d) = nI k ∧ L 58 (mo * 29 + d) = lN n ∧ BV k n g
theorem LV.cg {I J : zI} {L M : zL} {mo d : Nat} {g : GF} (h : LV I L mo d g) (h1 : J 57 (mo * 29 + d) = I 57 (mo * 29 + d)) (h2 : M 58 (mo * 29 + d) = L 58 (mo * 29 + d)) : LV J M mo d g := by
  obtain ⟨k, n, c1, c2, c3, c4⟩ := h
  exact ⟨k, n, c1, h1.trans c2, h2.trans c3, c4⟩
theorem gsum_map (F : Nat → GF) (f : Nat → Nat) : ∀ l, gsum F (l.map f) = gsum (fun a => F (f a)) l
  | [] => rfl
  | a :: l => by
    show gadd (F (f a)) (gsum F (l.map f)) = gadd (F (f a)) (gsum (fun a => F (f a)) l)
    rw [gsum_map F f l]
theorem gq_pats (F : Nat → GF) : gq (fun q => F (q + 1)) 127 = gsum F pats := by
  unfold pats
  rw [gsum_map, gsum_range]
def goF (N w : Nat) (T H W : Int32) (mo d i : Nat) (G : GF) (P : Nat) : GF := cond ((foF w T H d i P && !mo.testBit 0) || (fmF w H W d i P && !mo.testBit 1)) g0 (gs (csF N w T H W d i P) G)
theorem go_val {N w : Nat} {T H W : Int32} (hw : WT T W) {mo d i kn nn : Nat} {G : GF} (hG : BV kn nn G) (hd : d + i < N) (hN : N ≤ 28) (hk : kn < 1000 → kn ≤ 11 * (N - (d + i + 1))) {P : Nat} (hP : P ∈ pats) : BV (tcF w T H W (mo.testBit 0) (mo.testBit 1) d (i + 1) P + enF N d i + kn + pT P) nn (goF N w T H W mo d i G P) := by
  have ht := tc_oc (w := w) (H := H) hw (mo.testBit 0) (mo.testBit 1) d P (i + 1)
  have hoc : ocF w T H d i P = cnt (fun j => outF w T H P (d + j)) (i + 1) := rfl
  have hmc : mcF w H W d i P = cnt (fun j => morF w H W P (d + j)) (i + 1) := rfl
  have hcs := csF_le (N := N) (w := w) (H := H) hw d i P hP hd
  have hcsv : csF N w T H W d i P = pT P + enF N d i + ocF w T H d i P + mcF w H W d i P := rfl
  rw [← hoc, ← hmc] at ht
  unfold goF
  cases hq : ((foF w T H d i P && !mo.testBit 0) || (fmF w H W d i P && !mo.testBit 1)) with
  | true =>
    refine Or.inr ⟨?_, rfl⟩
    rw [Bool.or_eq_true, Bool.and_eq_true, Bool.and_eq_true] at hq
    rcases hq with ⟨q1, q2⟩ | ⟨q1, q2⟩
    · have : 0 < ocF w T H d i P := of_decide_eq_true q1
      have e : mo.testBit 0 = false := by
        cases h : mo.testBit 0
        · rfl
        · rw [h] at q2
          cases q2
      rw [e] at ht ⊢
      have ht : tcF w T H W false (mo.testBit 1) d (i + 1) P = ocF w T H d i P * 1000 + mcF w H W d i P * cond (mo.testBit 1) 1 1000 := ht
      omega
    · have : 0 < mcF w H W d i P := of_decide_eq_true q1
      have e : mo.testBit 1 = false := by
        cases h : mo.testBit 1
        · rfl
        · rw [h] at q2
          cases q2
      rw [e] at ht ⊢
      have ht : tcF w T H W (mo.testBit 0) false d (i + 1) P = ocF w T H d i P * cond (mo.testBit 0) 1 1000 + mcF w H W d i P * 1000 := ht
      omega
  | false =>
    have e : tcF w T H W (mo.testBit 0) (mo.testBit 1) d (i + 1) P = ocF w T H d i P + mcF w H W d i P := by
      rw [Bool.or_eq_false_iff, Bool.and_eq_false_iff, Bool.and_eq_false_iff] at hq
      obtain ⟨q1, q2⟩ := hq
      have z1 : ocF w T H d i P * cond (mo.testBit 0) 1 1000 = ocF w T H d i P := by
        rcases q1 with q1 | q1
        · have : ¬ 0 < ocF w T H d i P := of_decide_eq_false q1
          rw [show ocF w T H d i P = 0 by omega, Nat.zero_mul]
        · cases h : mo.testBit 0
          · rw [h] at q1
            cases q1
          · exact Nat.mul_one _
      have z2 : mcF w H W d i P * cond (mo.testBit 1) 1 1000 = mcF w H W d i P := by
        rcases q2 with q1 | q1
        · have : ¬ 0 < mcF w H W d i P := of_decide_eq_false q1
          rw [show mcF w H W d i P = 0 by omega, Nat.zero_mul]
        · cases h : mo.testBit 1
          · rw [h] at q1
            cases q1
          · exact Nat.mul_one _
      rw [ht, z1, z2]
    rw [e, show ocF w T H d i P + mcF w H W d i P + enF N d i + kn + pT P = csF N w T H W d i P + kn by omega]
    exact BV_gs hG (fun q => by have := hk q; omega)
theorem set_loop {I : zI} {L : zL} {N w F : Nat} {T : Int32} {fd : Nat → Int32} {nf af : Nat} (hM : MS I N w F T fd nf af) {mo d i kn nn : Nat} (hmo : mo < 4) (hd : d + i < N) {g G : GF} (hG : BV kn nn G) (hkn : kn ≤ 1000) (hk : kn < 1000 → kn ≤ 11 * (N - (d + i + 1))) (hL : L 58 (mo * 29 + (d + i + 1)) = lN nn) (h60 : ∀ P, P < 128 → I 60 P = iz (chF (bwF w T (fdF fd nf F) (waS fd F T af) (mo.testBit 0) (mo.testBit 1) d (i + 1)) P)) {x7 : Int32} : ∀ r s best all, s + r = 128 → 1 ≤ s → best ≤ 60000 → BV best all (gadd g (gq (fun q => goF N w T (fdF fd nf F) (waS fd F T af) mo d i G (q + 1)) (s - 1))) → ∃ best' all', best' ≤ 60000 ∧ zrun zZ kX10_weighs (125, [some (.ref 52), some (.int (nI mo)), some (.int (nI N)), some (.int (nI d)), some (.int (nI best)), some (.long (lN all)), none, some (.int x7), some (.int (nI (d + i))), some (.int (nI (bsF (waS fd F T af) (mo.testBit 1) d (i + 1) + enF N d i + kn))), some (.int (nI s)), none], [], hp I L, 0, 0) = zrun zZ kX10_weighs (78, [some (.ref 52), some (.int (nI mo)), some (.int (nI N)), some (.int (nI d)), some (.int (nI best')), some (.long (lN all')), none, some (.int x7), some (.int (nI (d + i + 1))), none, none, none], [], hp I L, 0, 0) ∧ BV best' all' (gadd g (gsum (goF N w T (fdF fd nf F) (waS fd F T af) mo d i G) pats))
  | 0, s, best, all, h, h1, hb, hB => by
    obtain rfl : s = 128 := h
    refine ⟨best, all, hb, ?_, ?_⟩
    · rw [e_X10_weighs_125]
      simp (disch := omega) only [Option.bind_some, Option.toList_some, Option.toList_none, List.cons_append, List.nil_append, Option.map_some, cond_true, cond_false, Bool.not_true, Bool.not_false, Bool.true_and, Bool.and_true, Bool.false_and, Bool.and_false, Bool.true_or, Bool.or_true, Bool.false_or, Bool.or_false, Bool.not_not, decide_true, decide_false, Bool.decide_eq_true, Bool.decide_eq_false, qz_0, qz_1, qz_n, qz_n0, qz_n1, qz_t, qz_f, Nat.reduceAdd, q1000000, q0, q1, q2, q3, q4, q5, q6, q7, q8, q9, q10, q11, q12, q13, q14, q15, q16, q18, q19, q20, q21, q22, q23, q24, q25, q26, q27, q28, q29, q30, q31, q32, q38, q44, q45, q48, q57, q58, q59, q60, q63, q64, q97, q122, q126, q127, q128, q255, q256, q300, q580, q600, q1000, nI_add, q_lt_t, q_lt_f, q_eq_t, q_eq_f, q_clamp, q_in_t, q_in_f]
    · rw [← gq_pats]
      exact hB
  | r + 1, s, best, all, h, h1, hb, hB => by
    obtain ⟨⟨hN, hw, hF, hnf, haf⟩, -, -, h62⟩ := id hM
    have hs : s < 128 := by omega
    have hsm : s ∈ pats := pats_mem.mpr ⟨h1, hs⟩
    have hv := go_val (mo := mo) (H := fdF fd nf F) (WT_wa fd F T af) hG hd hN hk hsm (w := w)
    have htc := tc_eq w T (fdF fd nf F) (waS fd F T af) (mo.testBit 0) (mo.testBit 1) d s (i + 1)
    have htl := tc_le w T (fdF fd nf F) (waS fd F T af) (mo.testBit 0) (mo.testBit 1) d s (i + 1)
    have hen := enF_le N d i
    have hpT := pT_b s hs
    have hc : (nI (bsF (waS fd F T af) (mo.testBit 1) d (i + 1) + enF N d i + kn) + iz (chF (bwF w T (fdF fd nf F) (waS fd F T af) (mo.testBit 0) (mo.testBit 1) d (i + 1)) s)) + nI (pT s) = nI (tcF w T (fdF fd nf F) (waS fd F T af) (mo.testBit 0) (mo.testBit 1) d (i + 1) s + enF N d i + kn + pT s) := by
      rw [iz_nI, iz_nI (pT s), iz_add, iz_add, iz_nI]
      congr 1
      omega
    have es : s - 1 + 1 = s := by omega
    have hgq : ∀ x : GF, gadd x (gq (fun q => goF N w T (fdF fd nf F) (waS fd F T af) mo d i G (q + 1)) (s + 1 - 1)) = gadd (gadd x (gq (fun q => goF N w T (fdF fd nf F) (waS fd F T af) mo d i G (q + 1)) (s - 1))) (goF N w T (fdF fd nf F) (waS fd F T af) mo d i G s) := fun x => by
      rw [gadd_assoc, show s + 1 - 1 = s - 1 + 1 by omega]
      show gadd x (gadd _ (goF N w T (fdF fd nf F) (waS fd F T af) mo d i G (s - 1 + 1))) = _
      rw [es]
    have e60 := h60 s hs
    have e62 := h62 s h1 hs
    rcases Nat.lt_trichotomy (tcF w T (fdF fd nf F) (waS fd F T af) (mo.testBit 0) (mo.testBit 1) d (i + 1) s + enF N d i + kn + pT s) best with q | q | q
    · obtain ⟨b', a', g1, g2, g3⟩ := set_loop hM hmo hd hG hkn hk hL h60 (x7 := x7) (g := g) r (s + 1) (tcF w T (fdF fd nf F) (waS fd F T af) (mo.testBit 0) (mo.testBit 1) d (i + 1) s + enF N d i + kn + pT s) nn (by omega) (by omega) (by omega) (by rw [hgq]; exact BV_lt hB hv q)
      refine ⟨b', a', g1, ?_, g3⟩
      refine Eq.trans ?_ g2
      rw [e_X10_weighs_125]
      have e0 : (0 : Int64) + lN nn = lN nn := by rw [show (0 : Int64) = lN 0 from rfl, lN_add, Nat.zero_add]
      simp (disch := omega) only [e_X10_weighs_167, e_X10_weighs_188, e_X10_weighs_193, s_place, e60, e62, hc, hL, e0, Option.bind_some, Option.toList_some, Option.toList_none, List.cons_append, List.nil_append, Option.map_some, cond_true, cond_false, Bool.not_true, Bool.not_false, Bool.true_and, Bool.and_true, Bool.false_and, Bool.and_false, Bool.true_or, Bool.or_true, Bool.false_or, Bool.or_false, Bool.not_not, decide_true, decide_false, Bool.decide_eq_true, Bool.decide_eq_false, qz_0, qz_1, qz_n, qz_n0, qz_n1, qz_t, qz_f, Nat.reduceAdd, q1000000, q0, q1, q2, q3, q4, q5, q6, q7, q8, q9, q10, q11, q12, q13, q14, q15, q16, q18, q19, q20, q21, q22, q23, q24, q25, q26, q27, q28, q29, q30, q31, q32, q38, q44, q45, q48, q57, q58, q59, q60, q63, q64, q97, q122, q126, q127, q128, q255, q256, q300, q580, q600, q1000, nI_add, q_lt_t, q_lt_f, q_eq_t, q_eq_f, q_clamp, q_in_t, q_in_f]
    · obtain ⟨b', a', g1, g2, g3⟩ := set_loop hM hmo hd hG hkn hk hL h60 (x7 := x7) (g := g) r (s + 1) best (all + nn) (by omega) (by omega) hb (by rw [hgq]; exact BV_eq hB (q ▸ hv))
      refine ⟨b', a', g1, ?_, g3⟩
      refine Eq.trans ?_ g2
      rw [e_X10_weighs_125]
      simp (disch := omega) only [e_X10_weighs_167, e_X10_weighs_188, e_X10_weighs_193, s_place, e60, e62, hc, q, hL, lN_add, Option.bind_some, Option.toList_some, Option.toList_none, List.cons_append, List.nil_append, Option.map_some, cond_true, cond_false, Bool.not_true, Bool.not_false, Bool.true_and, Bool.and_true, Bool.false_and, Bool.and_false, Bool.true_or, Bool.or_true, Bool.false_or, Bool.or_false, Bool.not_not, decide_true, decide_false, Bool.decide_eq_true, Bool.decide_eq_false, qz_0, qz_1, qz_n, qz_n0, qz_n1, qz_t, qz_f, Nat.reduceAdd, q1000000, q0, q1, q2, q3, q4, q5, q6, q7, q8, q9, q10, q11, q12, q13, q14, q15, q16, q18, q19, q20, q21, q22, q23, q24, q25, q26, q27, q28, q29, q30, q31, q32, q38, q44, q45, q48, q57, q58, q59, q60, q63, q64, q97, q122, q126, q127, q128, q255, q256, q300, q580, q600, q1000, nI_add, q_lt_t, q_lt_f, q_eq_t, q_eq_f, q_clamp, q_in_t, q_in_f]
    · obtain ⟨b', a', g1, g2, g3⟩ := set_loop hM hmo hd hG hkn hk hL h60 (x7 := x7) (g := g) r (s + 1) best all (by omega) (by omega) hb (by rw [hgq]; exact BV_gt hB hv q)
      refine ⟨b', a', g1, ?_, g3⟩
      refine Eq.trans ?_ g2
      rw [e_X10_weighs_125]
      have e0 : lN all + (0 : Int64) = lN all := by rw [show (0 : Int64) = lN 0 from rfl, lN_add, Nat.add_zero]
      simp (disch := omega) only [e_X10_weighs_167, e_X10_weighs_188, e_X10_weighs_193, s_place, e60, e62, hc, hL, e0, Option.bind_some, Option.toList_some, Option.toList_none, List.cons_append, List.nil_append, Option.map_some, cond_true, cond_false, Bool.not_true, Bool.not_false, Bool.true_and, Bool.and_true, Bool.false_and, Bool.and_false, Bool.true_or, Bool.or_true, Bool.false_or, Bool.or_false, Bool.not_not, decide_true, decide_false, Bool.decide_eq_true, Bool.decide_eq_false, qz_0, qz_1, qz_n, qz_n0, qz_n1, qz_t, qz_f, Nat.reduceAdd, q1000000, q0, q1, q2, q3, q4, q5, q6, q7, q8, q9, q10, q11, q12, q13, q14, q15, q16, q18, q19, q20, q21, q22, q23, q24, q25, q26, q27, q28, q29, q30, q31, q32, q38, q44, q45, q48, q57, q58, q59, q60, q63, q64, q97, q122, q126, q127, q128, q255, q256, q300, q580, q600, q1000, nI_add, q_lt_t, q_lt_f, q_eq_t, q_eq_f, q_clamp, q_in_t, q_in_f]
theorem VS_step {N w : Nat} {T H W : Int32} {bl : Bool} {k d m : Nat} (h : d < N) : VS N w T H W bl k d m = gadd (cond (bt W d && !m.testBit 1) g0 (gs (bt W d).toNat (VS N w T H W bl k (d + 1) m))) (cond (bl && decide (k = 0)) g0 (gq (fun i => gsum (goF N w T H W m d i (VS N w T H W bl (k - bl.toNat) (d + i + 1) m)) pats) (N - d))) := by
  unfold VS
  rw [VV_step N _ _ _ _ bl h, gsum_range]
  rfl
theorem VS_sup {N w : Nat} {T H W : Int32} (hw : WT T W) (bl : Bool) (k d m : Nat) {c n : Nat} (h : MW (VS N w T H W bl k d m) c n) : c ≤ 11 * (N - d) := by
  have h1 := h.1
  have h2 := h.2.1
  have h3 : VS N w T H W bl k d m c ≠ 0 := by omega
  exact VV_sup N _ _ _ _ bl (fun d i P hP hd => csF_le hw d i P hP hd) _ _ (N - d) k d c (Nat.le_refl _) h3
theorem VS_end {N w : Nat} {T H W : Int32} {bl : Bool} {k d m : Nat} (h : N ≤ d) : VS N w T H W bl k d m = g1 := VV_end N _ _ _ _ bl h
theorem end_loopW {N w F : Nat} {T : Int32} {fd : Nat → Int32} {nf af : Nat} {mo d : Nat} (hmo : mo < 4) {bg : GF} {L : zL} : ∀ r i (I : zI) best all, d + i + r = N → MS I N w F T fd nf af → (i = 0 ∨ BW I w T (fdF fd nf F) (waS fd F T af) (mo.testBit 0) (mo.testBit 1) d i) → (∀ e, d < e → e ≤ N → LV I L mo e (VS N w T (fdF fd nf F) (waS fd F T af) false 0 e mo)) → best ≤ 60000 → BV best all (gadd bg (gq (fun i => gsum (goF N w T (fdF fd nf F) (waS fd F T af) mo d i (VS N w T (fdF fd nf F) (waS fd F T af) false 0 (d + i + 1) mo)) pats) i)) → ∃ I' best' all', best' ≤ 60000 ∧ zrun zZ kX10_weighs (78, [some (.ref 52), some (.int (nI mo)), some (.int (nI N)), some (.int (nI d)), some (.int (nI best)), some (.long (lN all)), none, some (.int (nI (bsF (waS fd F T af) (mo.testBit 1) d i))), some (.int (nI (d + i))), none, none, none], [], hp I L, 0, 0) = zrun zZ kX10_weighs (217, [some (.ref 52), some (.int (nI mo)), some (.int (nI N)), some (.int (nI d)), some (.int (nI best')), some (.long (lN all')), none, none, none, none, none, none], [.int (nI (mo * 29 + d)), .ref 57], hp I' L, 0, 0) ∧ BV best' all' (gadd bg (gq (fun i => gsum (goF N w T (fdF fd nf F) (waS fd F T af) mo d i (VS N w T (fdF fd nf F) (waS fd F T af) false 0 (d + i + 1) mo)) pats) (N - d))) ∧ (∀ x y, x ≠ 60 → x ≠ 61 → I' x y = I x y)
  | 0, i, I, best, all, h, hM, hBW, hLV, hb, hB => by
    obtain ⟨⟨hN, hw, hF, hnf, haf⟩, -, -, h62⟩ := id hM
    refine ⟨I, best, all, hb, ?_, ?_, fun _ _ _ _ => rfl⟩
    · rw [e_X10_weighs_78]
      simp (disch := omega) only [s_place, Option.bind_some, Option.toList_some, Option.toList_none, List.cons_append, List.nil_append, Option.map_some, cond_true, cond_false, Bool.not_true, Bool.not_false, Bool.true_and, Bool.and_true, Bool.false_and, Bool.and_false, Bool.true_or, Bool.or_true, Bool.false_or, Bool.or_false, Bool.not_not, decide_true, decide_false, Bool.decide_eq_true, Bool.decide_eq_false, qz_0, qz_1, qz_n, qz_n0, qz_n1, qz_t, qz_f, Nat.reduceAdd, q1000000, q0, q1, q2, q3, q4, q5, q6, q7, q8, q9, q10, q11, q12, q13, q14, q15, q16, q18, q19, q20, q21, q22, q23, q24, q25, q26, q27, q28, q29, q30, q31, q32, q38, q44, q45, q48, q57, q58, q59, q60, q63, q64, q97, q122, q126, q127, q128, q255, q256, q300, q580, q600, q1000, nI_add, q_lt_t, q_lt_f, q_eq_t, q_eq_f, q_clamp, q_in_t, q_in_f]
    · rw [show N - d = i by omega]
      exact hB
  | r + 1, i, I, best, all, h, hM, hBW, hLV, hb, hB => by
    obtain ⟨⟨hN, hw, hF, hnf, haf⟩, ⟨h0, -⟩, -, h62⟩ := id hM
    have hdi : d + i < N := by omega
    obtain ⟨J, g1, g2, g3, g4⟩ := s_goesOn (L := L) hM hmo hdi (Or.inl rfl) hBW
    have hMJ : MS J N w F T fd nf af := hM.cg (fun y => g4 _ _ (by omega) (by omega)) (fun y _ => g4 _ _ (by omega) (by omega)) (fun y => g4 _ _ (by omega) (by omega))
    have hLJ : ∀ e, d < e → e ≤ N → LV J L mo e (VS N w T (fdF fd nf F) (waS fd F T af) false 0 e mo) := fun e p1 p2 => (hLV e p1 p2).cg (g4 _ _ (by omega) (by omega)) rfl
    obtain ⟨kn, nn, c1, c2, c3, c4⟩ := hLJ (d + i + 1) (by omega) (by omega)
    have hkn : kn < 1000 → kn ≤ 11 * (N - (d + i + 1)) := fun q => by
      rcases c4 with ⟨_, c4⟩ | ⟨c4, _⟩
      · exact VS_sup (WT_wa fd F T af) false 0 (d + i + 1) mo c4
      · omega
    obtain ⟨b1, a1, s1, s2, s3⟩ := set_loop hMJ hmo hdi c4 c1 hkn c3 g3 (x7 := nI (bsF (waS fd F T af) (mo.testBit 1) d (i + 1))) (g := gadd bg (gq (fun i => gsum (goF N w T (fdF fd nf F) (waS fd F T af) mo d i (VS N w T (fdF fd nf F) (waS fd F T af) false 0 (d + i + 1) mo)) pats) i)) 127 1 best all (by omega) (by omega) hb (by
      show BV best all (gadd _ g0)
      rw [gadd_0]
      exact hB)
    obtain ⟨I', b', a', e1, e2, e3, e4⟩ := end_loopW hmo (bg := bg) r (i + 1) J b1 a1 (by omega) hMJ (Or.inr g2) hLJ s1 (by
      rw [gadd_assoc] at s3
      exact s3)
    refine ⟨I', b', a', e1, ?_, e3, fun x y p1 p2 => (e4 x y p1 p2).trans (g4 x y p1 p2)⟩
    refine Eq.trans ?_ e2
    have hbl := bs_le (waS fd F T af) (mo.testBit 1) d (i + 1)
    have hen := enF_le N d i
    rw [e_X10_weighs_78]
    simp (disch := omega) only [e_X10_weighs_94, e_X10_weighs_105, e_X10_weighs_118, g1, s_ends hN hMJ.2.1.1 hdi, s_place, c2, Option.bind_some, Option.toList_some, Option.toList_none, List.cons_append, List.nil_append, Option.map_some, cond_true, cond_false, Bool.not_true, Bool.not_false, Bool.true_and, Bool.and_true, Bool.false_and, Bool.and_false, Bool.true_or, Bool.or_true, Bool.false_or, Bool.or_false, Bool.not_not, decide_true, decide_false, Bool.decide_eq_true, Bool.decide_eq_false, qz_0, qz_1, qz_n, qz_n0, qz_n1, qz_t, qz_f, Nat.reduceAdd, q1000000, q0, q1, q2, q3, q4, q5, q6, q7, q8, q9, q10, q11, q12, q13, q14, q15, q16, q18, q19, q20, q21, q22, q23, q24, q25, q26, q27, q28, q29, q30, q31, q32, q38, q44, q45, q48, q57, q58, q59, q60, q63, q64, q97, q122, q126, q127, q128, q255, q256, q300, q580, q600, q1000, nI_add, q_lt_t, q_lt_f, q_eq_t, q_eq_f, q_clamp, q_in_t, q_in_f]
    exact s2
theorem bare_val {N w : Nat} {T H W : Int32} {mo d kn nn : Nat} {G : GF} (hG : BV kn nn G) (hk : kn < 1000 → kn ≤ 11 * N) (hN : N ≤ 28) : BV (bcF W (mo.testBit 1) d + kn) nn (cond (bt W d && !mo.testBit 1) g0 (gs (bt W d).toNat G)) := by
  unfold bcF
  cases bt W d <;> cases mo.testBit 1
  · exact BV_gs (s := 0) hG (fun q => by omega)
  · exact BV_gs (s := 0) hG (fun q => by omega)
  · exact Or.inr ⟨by simp only [cond_true, cond_false]; omega, rfl⟩
  · exact BV_gs (s := 1) hG (fun q => by have := hk q; omega)
theorem weighs_loop {N w F : Nat} {T : Int32} {fd : Nat → Int32} {nf af : Nat} {mo : Nat} (hmo : mo < 4) : ∀ d (I : zI) (L : zL), d ≤ N → MS I N w F T fd nf af → (∀ e, d ≤ e → e ≤ N → LV I L mo e (VS N w T (fdF fd nf F) (waS fd F T af) false 0 e mo)) → ∃ I' L', zrun zZ kX10_weighs (33, [some (.ref 52), some (.int (nI mo)), some (.int (nI N)), some (.int (nI d - nI 1)), none, none, none, none, none, none, none, none], [], hp I L, 0, 0) = some (none, hp I' L', 0, 0) ∧ (∀ e, e ≤ N → LV I' L' mo e (VS N w T (fdF fd nf F) (waS fd F T af) false 0 e mo)) ∧ (∀ x y, x ≠ 57 → x ≠ 60 → x ≠ 61 → I' x y = I x y) ∧ (∀ y, (y < mo * 29 ∨ mo * 29 + d ≤ y) → I' 57 y = I 57 y) ∧ (∀ x y, (x ≠ 58 ∨ y < mo * 29 ∨ mo * 29 + d ≤ y) → L' x y = L x y)
  | 0, I, L, hd, hM, hLV => by
    refine ⟨I, L, ?_, fun e he => hLV e (by omega) he, fun _ _ _ _ _ => rfl, fun _ _ => rfl, fun _ _ _ => rfl⟩
    have e : (nI 0 - nI 1 < nI 0) = True := eq_true (pk_sneg (a := 0) (b := 1) (by decide) (by decide))
    rw [e_X10_weighs_33]
    simp (disch := omega) only [q1000000, q0, q1, q2, q3, q4, q5, q6, q7, q8, q9, q10, q11, q12, q13, q14, q15, q16, q18, q19, q20, q21, q22, q23, q24, q25, q26, q27, q28, q29, q30, q31, q32, q38, q44, q45, q48, q57, q58, q59, q60, q63, q64, q97, q122, q126, q127, q128, q255, q256, q300, q580, q600, q1000, e, Option.bind_some, Option.toList_some, Option.toList_none, List.cons_append, List.nil_append, Option.map_some, cond_true, cond_false, Bool.not_true, Bool.not_false, Bool.true_and, Bool.and_true, Bool.false_and, Bool.and_false, Bool.true_or, Bool.or_true, Bool.false_or, Bool.or_false, Bool.not_not, decide_true, decide_false, Bool.decide_eq_true, Bool.decide_eq_false, qz_0, qz_1, qz_n, qz_n0, qz_n1, qz_t, qz_f, Nat.reduceAdd]
  | d + 1, I, L, hd, hM, hLV => by
    obtain ⟨⟨hN, hw, hF, hnf, haf⟩, ⟨h0, -⟩, -, h62⟩ := id hM
    obtain ⟨kn, nn, c1, c2, c3, c4⟩ := hLV (d + 1) (Nat.le_refl _) hd
    have hkn : kn < 1000 → kn ≤ 11 * N := fun q => by
      rcases c4 with ⟨_, c4⟩ | ⟨c4, _⟩
      · have := VS_sup (WT_wa fd F T af) false 0 (d + 1) mo c4
        omega
      · omega
    have hbv := bare_val (N := N) (w := w) (T := T) (H := T) (W := waS fd F T af) (mo := mo) (d := d) c4 hkn hN
    have lbc := bcF_le (waS fd F T af) (mo.testBit 1) d
    obtain ⟨J, b', a', e1, e2, e3, e4⟩ := end_loopW (L := L) (mo := mo) (d := d) hmo (bg := cond (bt (waS fd F T af) d && !mo.testBit 1) g0 (gs (bt (waS fd F T af) d).toNat (VS N w T (fdF fd nf F) (waS fd F T af) false 0 (d + 1) mo))) (N - d) 0 I (bcF (waS fd F T af) (mo.testBit 1) d + kn) nn (by omega) hM (Or.inl rfl) (fun e p1 p2 => hLV e (by omega) p2) (by omega) (by
      show BV _ _ (gadd _ g0)
      rw [gadd_0]
      exact hbv)
    have e3 : BV b' a' (VS N w T (fdF fd nf F) (waS fd F T af) false 0 d mo) := by
      rw [VS_step (by omega)]
      exact e3
    have hMJ : MS J N w F T fd nf af := hM.cg (fun y => e4 _ _ (by omega) (by omega)) (fun y _ => e4 _ _ (by omega) (by omega)) (fun y => e4 _ _ (by omega) (by omega))
    -- what is stored
    have key : ∃ k n, k ≤ 1000 ∧ zrun zZ kX10_weighs (217, [some (.ref 52), some (.int (nI mo)), some (.int (nI N)), some (.int (nI d)), some (.int (nI b')), some (.long (lN a')), none, none, none, none, none, none], [.int (nI (mo * 29 + d)), .ref 57], hp J L, 0, 0) = zrun zZ kX10_weighs (33, [some (.ref 52), some (.int (nI mo)), some (.int (nI N)), some (.int (nI d - nI 1)), none, none, none, none, none, none, none, none], [], hp (zup J 57 (mo * 29 + d) (nI k)) (zup L 58 (mo * 29 + d) (lN n)), 0, 0) ∧ BV k n (VS N w T (fdF fd nf F) (waS fd F T af) false 0 d mo) := by
      have en : nI d + -nI 1 = nI d - nI 1 := (Int32.sub_eq_add_neg _ _).symm
      rcases e3 with ⟨z1, z2⟩ | ⟨z1, z2⟩
      · have em : min 1000 b' = b' := by omega
        refine ⟨b', a', by omega, ?_, Or.inl ⟨z1, z2⟩⟩
        simp (disch := omega) only [e_X10_weighs_217, e_X10_weighs_225, e_X10_weighs_235, e_X10_weighs_249, j_minN, em, s_place, en, Option.bind_some, Option.toList_some, Option.toList_none, List.cons_append, List.nil_append, Option.map_some, cond_true, cond_false, Bool.not_true, Bool.not_false, Bool.true_and, Bool.and_true, Bool.false_and, Bool.and_false, Bool.true_or, Bool.or_true, Bool.false_or, Bool.or_false, Bool.not_not, decide_true, decide_false, Bool.decide_eq_true, Bool.decide_eq_false, qz_0, qz_1, qz_n, qz_n0, qz_n1, qz_t, qz_f, Nat.reduceAdd, q1000000, q0, q1, q2, q3, q4, q5, q6, q7, q8, q9, q10, q11, q12, q13, q14, q15, q16, q18, q19, q20, q21, q22, q23, q24, q25, q26, q27, q28, q29, q30, q31, q32, q38, q44, q45, q48, q57, q58, q59, q60, q63, q64, q97, q122, q126, q127, q128, q255, q256, q300, q580, q600, q1000, nI_add, q_lt_t, q_lt_f, q_eq_t, q_eq_f, q_clamp, q_in_t, q_in_f]
      · have em : min 1000 b' = 1000 := by omega
        refine ⟨1000, 0, by omega, ?_, Or.inr ⟨by omega, z2⟩⟩
        simp (disch := omega) only [e_X10_weighs_217, e_X10_weighs_225, e_X10_weighs_235, e_X10_weighs_249, j_minN, em, s_place, en, Option.bind_some, Option.toList_some, Option.toList_none, List.cons_append, List.nil_append, Option.map_some, cond_true, cond_false, Bool.not_true, Bool.not_false, Bool.true_and, Bool.and_true, Bool.false_and, Bool.and_false, Bool.true_or, Bool.or_true, Bool.false_or, Bool.or_false, Bool.not_not, decide_true, decide_false, Bool.decide_eq_true, Bool.decide_eq_false, qz_0, qz_1, qz_n, qz_n0, qz_n1, qz_t, qz_f, Nat.reduceAdd, q1000000, q0, q1, q2, q3, q4, q5, q6, q7, q8, q9, q10, q11, q12, q13, q14, q15, q16, q18, q19, q20, q21, q22, q23, q24, q25, q26, q27, q28, q29, q30, q31, q32, q38, q44, q45, q48, q57, q58, q59, q60, q63, q64, q97, q122, q126, q127, q128, q255, q256, q300, q580, q600, q1000, nI_add, q_lt_t, q_lt_f, q_eq_t, q_eq_f, q_clamp, q_in_t, q_in_f]
        rfl
    obtain ⟨k, n, k1, k2, k3⟩ := key
    obtain ⟨I', L', g1, g2, g3, g4, g5⟩ := weighs_loop hmo d (zup J 57 (mo * 29 + d) (nI k)) (zup L 58 (mo * 29 + d) (lN n)) (by omega) (hMJ.cg (fun y => zu_cell (by omega)) (fun y _ => zu_cell (by omega)) (fun y => zu_cell (by omega))) (fun e p1 p2 => by
      by_cases z : e = d
      · subst z
        exact ⟨k, n, k1, zu_same _ _ _ _, zu_same _ _ _ _, k3⟩
      · refine (hLV e (by omega) p2).cg ?_ ?_
        · rw [zu_at (by omega), e4 _ _ (by omega) (by omega)]
        · rw [zu_at (by omega)])
    refine ⟨I', L', ?_, g2, fun x y p1 p2 p3 => ?_, fun y p => ?_, fun x y p => ?_⟩
    · have ek : nI (d + 1) - nI 1 = nI d := pk_sub (a := d + 1) (b := 1) (by omega)
      rw [ek, e_X10_weighs_33]
      simp (disch := omega) only [e_X10_weighs_43, e_X10_weighs_54, e_X10_weighs_69, s_bare hM hmo, s_place, c2, c3, Option.bind_some, Option.toList_some, Option.toList_none, List.cons_append, List.nil_append, Option.map_some, cond_true, cond_false, Bool.not_true, Bool.not_false, Bool.true_and, Bool.and_true, Bool.false_and, Bool.and_false, Bool.true_or, Bool.or_true, Bool.false_or, Bool.or_false, Bool.not_not, decide_true, decide_false, Bool.decide_eq_true, Bool.decide_eq_false, qz_0, qz_1, qz_n, qz_n0, qz_n1, qz_t, qz_f, Nat.reduceAdd, q1000000, q0, q1, q2, q3, q4, q5, q6, q7, q8, q9, q10, q11, q12, q13, q14, q15, q16, q18, q19, q20, q21, q22, q23, q24, q25, q26, q27, q28, q29, q30, q31, q32, q38, q44, q45, q48, q57, q58, q59, q60, q63, q64, q97, q122, q126, q127, q128, q255, q256, q300, q580, q600, q1000, nI_add, q_lt_t, q_lt_f, q_eq_t, q_eq_f, q_clamp, q_in_t, q_in_f]
      exact e2.trans (k2.trans g1)
    · rw [g3 x y p1 p2 p3, zu_cell p1, e4 x y p2 p3]
    · rw [g4 y (by omega), zu_at (by omega), e4 _ _ (by omega) (by omega)]
    · rw [g5 x y (by omega)]
      by_cases z : x = 58
      · rw [zu_at (by omega)]
      · rw [zu_cell z]
theorem s_weighs {I : zI} {L : zL} {N w F : Nat} {T : Int32} {fd : Nat → Int32} {nf af : Nat} (hM : MS I N w F T fd nf af) {mo : Nat} (hmo : mo < 4) : ∃ I' L', zcall zZ nX10_weighs [.ref 52, .int (nI mo)] (hp I L) = some (none, hp I' L') ∧ (∀ e, e ≤ N → LV I' L' mo e (VS N w T (fdF fd nf F) (waS fd F T af) false 0 e mo)) ∧ (∀ x y, x ≠ 57 → x ≠ 60 → x ≠ 61 → I' x y = I x y) ∧ (∀ y, (y < mo * 29 ∨ mo * 29 + 29 ≤ y) → I' 57 y = I 57 y) ∧ (∀ x y, (x ≠ 58 ∨ y < mo * 29 ∨ mo * 29 + 29 ≤ y) → L' x y = L x y) := by
  obtain ⟨⟨hN, hw, hF, hnf, haf⟩, ⟨h0, -⟩, -, h62⟩ := id hM
  obtain ⟨I', L', g1, g2, g3, g4, g5⟩ := weighs_loop hmo N (zup I 57 (mo * 29 + N) (nI 0)) (zup L 58 (mo * 29 + N) (lN 1)) (Nat.le_refl _) (hM.cg (fun y => zu_cell (by omega)) (fun y _ => zu_cell (by omega)) (fun y => zu_cell (by omega))) (fun e p1 p2 => by
    obtain rfl : e = N := by omega
    exact ⟨0, 1, by omega, zu_same _ _ _ _, zu_same _ _ _ _, Or.inl ⟨by omega, by rw [VS_end (Nat.le_refl _)]; exact MW_g1⟩⟩)
  refine ⟨I', L', ?_, g2, fun x y p1 p2 p3 => by rw [g3 x y p1 p2 p3, zu_cell p1], fun y p => by rw [g4 y (by omega), zu_at (by omega)], fun x y p => ?_⟩
  · simp (disch := omega) only [c_X10_weighs, e_X10_weighs_0, e_X10_weighs_16, e_X10_weighs_27, h0, s_place, Option.bind_some, Option.toList_some, Option.toList_none, List.cons_append, List.nil_append, Option.map_some, cond_true, cond_false, Bool.not_true, Bool.not_false, Bool.true_and, Bool.and_true, Bool.false_and, Bool.and_false, Bool.true_or, Bool.or_true, Bool.false_or, Bool.or_false, Bool.not_not, decide_true, decide_false, Bool.decide_eq_true, Bool.decide_eq_false, qz_0, qz_1, qz_n, qz_n0, qz_n1, qz_t, qz_f, Nat.reduceAdd, q1000000, q0, q1, q2, q3, q4, q5, q6, q7, q8, q9, q10, q11, q12, q13, q14, q15, q16, q18, q19, q20, q21, q22, q23, q24, q25, q26, q27, q28, q29, q30, q31, q32, q38, q44, q45, q48, q57, q58, q59, q60, q63, q64, q97, q122, q126, q127, q128, q255, q256, q300, q580, q600, q1000, nI_add, q_lt_t, q_lt_f, q_eq_t, q_eq_f, q_clamp, q_in_t, q_in_f]
    rw [show (1 : Int64) = lN 1 from rfl, g1]
    rfl
  · rw [g5 x y (by omega)]
    by_cases z : x = 58
    · rw [zu_at (by omega)]
    · rw [zu_cell z]
