/-! the reference weighs with few spans -/
def CF (I : zI) (k d : Nat) (g : GF) (K : Nat) : Prop := ∃ v n, v ≤ K ∧ I 59 (k * 29 + d) = nI v ∧ BV v n g
theorem CF.cg {I J : zI} {k d K : Nat} {g : GF} (h : CF I k d g K) (h1 : J 59 (k * 29 + d) = I 59 (k * 29 + d)) : CF J k d g K := by
  obtain ⟨v, n, c1, c2, c3⟩ := h
  exact ⟨v, n, c1, h1.trans c2, c3⟩
/-- the least of the sets below s, whatever stands behind -/
def LE (N w : Nat) (T H W : Int32) (mo d i s least : Nat) : Prop := least ≤ 1000 ∧ ∀ (G : GF) (kn nn : Nat), BV kn nn G → (kn < 1000 → kn ≤ 11 * (N - (d + i + 1))) → ∃ n, BV (least + kn) n (gq (fun q => goF N w T H W mo d i G (q + 1)) (s - 1))
theorem setW_loop {I : zI} {L : zL} {N w F : Nat} {T : Int32} {fd : Nat → Int32} {nf af : Nat} (hM : MS I N w F T fd nf af) {mo d i : Nat} (hmo : mo < 4) (hd : d + i < N) (h60 : ∀ P, P < 128 → I 60 P = iz (chF (bwF w T (fdF fd nf F) (waS fd F T af) (mo.testBit 0) (mo.testBit 1) d (i + 1)) P)) {x2 : Int32} : ∀ r s least, s + r = 128 → 1 ≤ s → LE N w T (fdF fd nf F) (waS fd F T af) mo d i s least → ∃ least', zrun zZ kX10_weighsWithin (127, [some (.ref 52), some (.int (nI mo)), some (.int x2), some (.int (nI N)), some (.int (nI d)), some (.int (nI (bsF (waS fd F T af) (mo.testBit 1) d (i + 1)))), some (.int (nI (d + i))), some (.int (nI least)), some (.int (nI s))], [], hp I L, 0, 0) = zrun zZ kX10_weighsWithin (178, [some (.ref 52), some (.int (nI mo)), some (.int x2), some (.int (nI N)), some (.int (nI d)), some (.int (nI (bsF (waS fd F T af) (mo.testBit 1) d (i + 1)))), some (.int (nI (d + i))), some (.int (nI least')), some (.int (nI 1))], [], hp I L, 0, 0) ∧ LE N w T (fdF fd nf F) (waS fd F T af) mo d i 128 least'
  | 0, s, least, h, h1, hL => by
    obtain rfl : s = 128 := h
    refine ⟨least, ?_, hL⟩
    rw [e_X10_weighsWithin_127]
    simp (disch := omega) only [Option.bind_some, Option.toList_some, Option.toList_none, List.cons_append, List.nil_append, Option.map_some, cond_true, cond_false, Bool.not_true, Bool.not_false, Bool.true_and, Bool.and_true, Bool.false_and, Bool.and_false, Bool.true_or, Bool.or_true, Bool.false_or, Bool.or_false, Bool.not_not, decide_true, decide_false, Bool.decide_eq_true, Bool.decide_eq_false, qz_0, qz_1, qz_n, qz_n0, qz_n1, qz_t, qz_f, Nat.reduceAdd, q1000000, q0, q1, q2, q3, q4, q5, q6, q7, q8, q9, q10, q11, q12, q13, q14, q15, q16, q18, q19, q20, q21, q22, q23, q24, q25, q26, q27, q28, q29, q30, q31, q32, q38, q44, q45, q48, q57, q58, q59, q60, q63, q64, q97, q122, q126, q127, q128, q255, q256, q300, q580, q600, q1000, nI_add, q_lt_t, q_lt_f, q_eq_t, q_eq_f, q_clamp, q_in_t, q_in_f]
  | r + 1, s, least, h, h1, hL => by
    obtain ⟨⟨hN, hw, hF, hnf, haf⟩, ⟨h0, -⟩, -, h62⟩ := id hM
    have hs : s < 128 := by omega
    have hsm : s ∈ pats := pats_mem.mpr ⟨h1, hs⟩
    have htc := tc_eq w T (fdF fd nf F) (waS fd F T af) (mo.testBit 0) (mo.testBit 1) d s (i + 1)
    have htl := tc_le w T (fdF fd nf F) (waS fd F T af) (mo.testBit 0) (mo.testBit 1) d s (i + 1)
    have hen := enF_le N d i
    have hpT := pT_b s hs
    have hbl := bs_le (waS fd F T af) (mo.testBit 1) d (i + 1)
    obtain ⟨c, hcd⟩ : ∃ c, c = tcF w T (fdF fd nf F) (waS fd F T af) (mo.testBit 0) (mo.testBit 1) d (i + 1) s + enF N d i + pT s := ⟨_, rfl⟩
    have hc : (nI (bsF (waS fd F T af) (mo.testBit 1) d (i + 1) + enF N d i) + iz (chF (bwF w T (fdF fd nf F) (waS fd F T af) (mo.testBit 0) (mo.testBit 1) d (i + 1)) s)) + nI (pT s) = nI c := by
      rw [iz_nI, iz_nI (pT s), iz_add, iz_add, iz_nI]
      congr 1
      omega
    have hgq : ∀ (G x : GF), gq (fun q => goF N w T (fdF fd nf F) (waS fd F T af) mo d i G (q + 1)) (s + 1 - 1) = gadd (gq (fun q => goF N w T (fdF fd nf F) (waS fd F T af) mo d i G (q + 1)) (s - 1)) (goF N w T (fdF fd nf F) (waS fd F T af) mo d i G s) := fun G x => by
      have es : s - 1 + 1 = s := by omega
      rw [show s + 1 - 1 = s - 1 + 1 by omega]
      show gadd _ (goF N w T (fdF fd nf F) (waS fd F T af) mo d i G (s - 1 + 1)) = _
      rw [es]
    have hL' : LE N w T (fdF fd nf F) (waS fd F T af) mo d i (s + 1) (min least c) := by
      refine ⟨by have := hL.1; omega, fun G kn nn hG hk => ?_⟩
      obtain ⟨n, hn⟩ := hL.2 G kn nn hG hk
      have hv := go_val (mo := mo) (H := fdF fd nf F) (WT_wa fd F T af) hG hd hN hk hsm (w := w)
      rw [show tcF w T (fdF fd nf F) (waS fd F T af) (mo.testBit 0) (mo.testBit 1) d (i + 1) s + enF N d i + kn + pT s = c + kn by omega] at hv
      rw [hgq G g0]
      rcases Nat.lt_trichotomy c least with q | q | q
      · exact ⟨nn, by rw [show min least c = c by omega]; exact BV_lt hn hv (by omega)⟩
      · subst q
        exact ⟨n + nn, by rw [show min c c = c by omega]; exact BV_eq hn hv⟩
      · exact ⟨n, by rw [show min least c = least by omega]; exact BV_gt hn hv (by omega)⟩
    obtain ⟨l', g1, g2⟩ := setW_loop hM hmo hd h60 (x2 := x2) (L := L) r (s + 1) (min least c) (by omega) (by omega) hL'
    refine ⟨l', ?_, g2⟩
    refine Eq.trans ?_ g1
    have hl1 := hL.1
    rw [e_X10_weighsWithin_127]
    simp (disch := omega) only [e_X10_weighsWithin_147, e_X10_weighsWithin_167, s_ends hN h0 hd, h60 s hs, h62 s h1 hs, hc, j_minN, Option.bind_some, Option.toList_some, Option.toList_none, List.cons_append, List.nil_append, Option.map_some, cond_true, cond_false, Bool.not_true, Bool.not_false, Bool.true_and, Bool.and_true, Bool.false_and, Bool.and_false, Bool.true_or, Bool.or_true, Bool.false_or, Bool.or_false, Bool.not_not, decide_true, decide_false, Bool.decide_eq_true, Bool.decide_eq_false, qz_0, qz_1, qz_n, qz_n0, qz_n1, qz_t, qz_f, Nat.reduceAdd, q1000000, q0, q1, q2, q3, q4, q5, q6, q7, q8, q9, q10, q11, q12, q13, q14, q15, q16, q18, q19, q20, q21, q22, q23, q24, q25, q26, q27, q28, q29, q30, q31, q32, q38, q44, q45, q48, q57, q58, q59, q60, q63, q64, q97, q122, q126, q127, q128, q255, q256, q300, q580, q600, q1000, nI_add, q_lt_t, q_lt_f, q_eq_t, q_eq_f, q_clamp, q_in_t, q_in_f]
/-- spans from 1 on: the days d .. d + i -/
theorem kW_loop {L : zL} {N w : Nat} {T H W : Int32} (hN : N ≤ 28) {mo d i sp least : Nat} (hmo : mo < 4) (hsp : sp ≤ 4) (hd : d + i < N) (hw : WT T W) (hLE : LE N w T H W mo d i 128 least) {bg : Nat → GF} {x5 : Int32} : ∀ r k (I : zI), k + r = sp + 1 → 1 ≤ k → (∀ q, k ≤ q → q ≤ sp → CF I q d (gadd (bg q) (gq (fun i => gsum (goF N w T H W mo d i (VS N w T H W true (q - 1) (d + i + 1) mo)) pats) i)) (1000 * (N - d))) → (∀ q, q ≤ sp → ∀ e, d < e → e ≤ N → CF I q e (VS N w T H W true q e mo) (1000 * (N - e))) → ∃ J, zrun zZ kX10_weighsWithin (178, [some (.ref 52), some (.int (nI mo)), some (.int (nI sp)), some (.int (nI N)), some (.int (nI d)), some (.int x5), some (.int (nI (d + i))), some (.int (nI least)), some (.int (nI k))], [], hp I L, 0, 0) = zrun zZ kX10_weighsWithin (100, [some (.ref 52), some (.int (nI mo)), some (.int (nI sp)), some (.int (nI N)), some (.int (nI d)), some (.int x5), some (.int (nI (d + i + 1))), none, none], [], hp J L, 0, 0) ∧ (∀ q, k ≤ q → q ≤ sp → CF J q d (gadd (bg q) (gq (fun i => gsum (goF N w T H W mo d i (VS N w T H W true (q - 1) (d + i + 1) mo)) pats) (i + 1))) (1000 * (N - d))) ∧ (∀ x y, (x ≠ 59 ∨ ∀ q, k ≤ q → q ≤ sp → y ≠ q * 29 + d) → J x y = I x y)
  | 0, k, I, h, h1, ho, hn => by
    obtain rfl : k = sp + 1 := h
    refine ⟨I, ?_, fun q p1 p2 => by omega, fun _ _ _ => rfl⟩
    rw [e_X10_weighsWithin_178]
    simp (disch := omega) only [Option.bind_some, Option.toList_some, Option.toList_none, List.cons_append, List.nil_append, Option.map_some, cond_true, cond_false, Bool.not_true, Bool.not_false, Bool.true_and, Bool.and_true, Bool.false_and, Bool.and_false, Bool.true_or, Bool.or_true, Bool.false_or, Bool.or_false, Bool.not_not, decide_true, decide_false, Bool.decide_eq_true, Bool.decide_eq_false, qz_0, qz_1, qz_n, qz_n0, qz_n1, qz_t, qz_f, Nat.reduceAdd, q1000000, q0, q1, q2, q3, q4, q5, q6, q7, q8, q9, q10, q11, q12, q13, q14, q15, q16, q18, q19, q20, q21, q22, q23, q24, q25, q26, q27, q28, q29, q30, q31, q32, q38, q44, q45, q48, q57, q58, q59, q60, q63, q64, q97, q122, q126, q127, q128, q255, q256, q300, q580, q600, q1000, nI_add, q_lt_t, q_lt_f, q_eq_t, q_eq_f, q_clamp, q_in_t, q_in_f]
  | r + 1, k, I, h, h1, ho, hn => by
    obtain ⟨v, n, c1, c2, c3⟩ := ho k (Nat.le_refl _) (by omega)
    obtain ⟨v', n', d1, d2, d3⟩ := hn (k - 1) (by omega) (d + i + 1) (by omega) (by omega)
    have hk' : v' < 1000 → v' ≤ 11 * (N - (d + i + 1)) := fun q => by
      rcases d3 with ⟨_, z⟩ | ⟨z, _⟩
      · exact VS_sup hw true (k - 1) (d + i + 1) mo z
      · omega
    obtain ⟨n2, hv2⟩ := hLE.2 (VS N w T H W true (k - 1) (d + i + 1) mo) v' n' d3 hk'
    rw [gq_pats] at hv2
    have hl1 := hLE.1
    have hnew : ∃ n3, BV (min v (least + v')) n3 (gadd (bg k) (gq (fun i => gsum (goF N w T H W mo d i (VS N w T H W true (k - 1) (d + i + 1) mo)) pats) (i + 1))) := by
      show ∃ n3, BV _ n3 (gadd (bg k) (gadd _ _))
      rw [← gadd_assoc]
      rcases Nat.lt_trichotomy (least + v') v with q | q | q
      · exact ⟨n2, by rw [show min v (least + v') = least + v' by omega]; exact BV_lt c3 hv2 q⟩
      · rw [q] at hv2 ⊢
        exact ⟨n + n2, by rw [show min v v = v by omega]; exact BV_eq c3 hv2⟩
      · exact ⟨n, by rw [show min v (least + v') = v by omega]; exact BV_gt c3 hv2 q⟩
    obtain ⟨n3, hn3⟩ := hnew
    obtain ⟨J, g1, g2, g3⟩ := kW_loop (L := L) hN hmo hsp hd hw hLE (bg := bg) (x5 := x5) r (k + 1) (zup I 59 (k * 29 + d) (nI (min v (least + v')))) (by omega) (by omega) (fun q p1 p2 => (ho q (by omega) p2).cg (zu_at (by omega))) (fun q p1 e p2 p3 => (hn q p1 e p2 p3).cg (zu_at (by omega)))
    refine ⟨J, ?_, fun q p1 p2 => ?_, fun x y p => ?_⟩
    · refine Eq.trans ?_ g1
      rw [e_X10_weighsWithin_178]
      simp (disch := omega) only [e_X10_weighsWithin_195, e_X10_weighsWithin_206, e_X10_weighsWithin_224, e_X10_weighsWithin_229, s_place, q_sub, c2, d2, j_minN, Option.bind_some, Option.toList_some, Option.toList_none, List.cons_append, List.nil_append, Option.map_some, cond_true, cond_false, Bool.not_true, Bool.not_false, Bool.true_and, Bool.and_true, Bool.false_and, Bool.and_false, Bool.true_or, Bool.or_true, Bool.false_or, Bool.or_false, Bool.not_not, decide_true, decide_false, Bool.decide_eq_true, Bool.decide_eq_false, qz_0, qz_1, qz_n, qz_n0, qz_n1, qz_t, qz_f, Nat.reduceAdd, q1000000, q0, q1, q2, q3, q4, q5, q6, q7, q8, q9, q10, q11, q12, q13, q14, q15, q16, q18, q19, q20, q21, q22, q23, q24, q25, q26, q27, q28, q29, q30, q31, q32, q38, q44, q45, q48, q57, q58, q59, q60, q63, q64, q97, q122, q126, q127, q128, q255, q256, q300, q580, q600, q1000, nI_add, q_lt_t, q_lt_f, q_eq_t, q_eq_f, q_clamp, q_in_t, q_in_f]
    · rcases Nat.lt_or_ge k q with z | z
      · exact g2 q (by omega) p2
      · obtain rfl : q = k := by omega
        refine ⟨min v (least + v'), n3, by omega, ?_, hn3⟩
        rw [g3 59 (q * 29 + d) (Or.inr (fun q' p3 p4 => by omega)), zu_same]
    · rw [g3 x y (p.imp id (fun z q p1 p2 => z q (by omega) p2))]
      rcases p with p | p
      · rw [zu_cell p]
      · by_cases z : x = 59
        · rw [zu_at (p k (Nat.le_refl _) (by omega))]
        · rw [zu_cell z]
theorem eW_loop {L : zL} {N w F : Nat} {T : Int32} {fd : Nat → Int32} {nf af : Nat} {mo d sp : Nat} (hmo : mo < 4) (hsp : sp ≤ 4) {bg : Nat → GF} : ∀ r i (I : zI), d + i + r = N → MS I N w F T fd nf af → (i = 0 ∨ BW I w T (fdF fd nf F) (waS fd F T af) (mo.testBit 0) (mo.testBit 1) d i) → (∀ q, 1 ≤ q → q ≤ sp → CF I q d (gadd (bg q) (gq (fun i => gsum (goF N w T (fdF fd nf F) (waS fd F T af) mo d i (VS N w T (fdF fd nf F) (waS fd F T af) true (q - 1) (d + i + 1) mo)) pats) i)) (1000 * (N - d))) → (∀ q, q ≤ sp → ∀ e, d < e → e ≤ N → CF I q e (VS N w T (fdF fd nf F) (waS fd F T af) true q e mo) (1000 * (N - e))) → ∃ J, zrun zZ kX10_weighsWithin (100, [some (.ref 52), some (.int (nI mo)), some (.int (nI sp)), some (.int (nI N)), some (.int (nI d)), some (.int (nI (bsF (waS fd F T af) (mo.testBit 1) d i))), some (.int (nI (d + i))), none, none], [], hp I L, 0, 0) = zrun zZ kX10_weighsWithin (39, [some (.ref 52), some (.int (nI mo)), some (.int (nI sp)), some (.int (nI N)), some (.int (nI d - nI 1)), none, none, none, none], [], hp J L, 0, 0) ∧ (∀ q, 1 ≤ q → q ≤ sp → CF J q d (gadd (bg q) (gq (fun i => gsum (goF N w T (fdF fd nf F) (waS fd F T af) mo d i (VS N w T (fdF fd nf F) (waS fd F T af) true (q - 1) (d + i + 1) mo)) pats) (N - d))) (1000 * (N - d))) ∧ (∀ x y, x ≠ 60 → x ≠ 61 → (x ≠ 59 ∨ ∀ q, 1 ≤ q → q ≤ sp → y ≠ q * 29 + d) → J x y = I x y)
  | 0, i, I, h, hM, hBW, ho, hn => by
    have hN := hM.1.1
    have en : nI d + -nI 1 = nI d - nI 1 := (Int32.sub_eq_add_neg _ _).symm
    refine ⟨I, ?_, ?_, fun _ _ _ _ _ => rfl⟩
    · rw [e_X10_weighsWithin_100]
      simp (disch := omega) only [en, Option.bind_some, Option.toList_some, Option.toList_none, List.cons_append, List.nil_append, Option.map_some, cond_true, cond_false, Bool.not_true, Bool.not_false, Bool.true_and, Bool.and_true, Bool.false_and, Bool.and_false, Bool.true_or, Bool.or_true, Bool.false_or, Bool.or_false, Bool.not_not, decide_true, decide_false, Bool.decide_eq_true, Bool.decide_eq_false, qz_0, qz_1, qz_n, qz_n0, qz_n1, qz_t, qz_f, Nat.reduceAdd, q1000000, q0, q1, q2, q3, q4, q5, q6, q7, q8, q9, q10, q11, q12, q13, q14, q15, q16, q18, q19, q20, q21, q22, q23, q24, q25, q26, q27, q28, q29, q30, q31, q32, q38, q44, q45, q48, q57, q58, q59, q60, q63, q64, q97, q122, q126, q127, q128, q255, q256, q300, q580, q600, q1000, nI_add, q_lt_t, q_lt_f, q_eq_t, q_eq_f, q_clamp, q_in_t, q_in_f]
    · intro q p1 p2
      have z := ho q p1 p2
      rw [show i = N - d by omega] at z
      exact z
  | r + 1, i, I, h, hM, hBW, ho, hn => by
    obtain ⟨⟨hN, hw, hF, hnf, haf⟩, ⟨h0, -⟩, -, h62⟩ := id hM
    have hdi : d + i < N := by omega
    obtain ⟨J, g1, g2, g3, g4⟩ := s_goesOn (L := L) hM hmo hdi (Or.inl rfl) hBW
    have hMJ : MS J N w F T fd nf af := hM.cg (fun y => g4 _ _ (by omega) (by omega)) (fun y _ => g4 _ _ (by omega) (by omega)) (fun y => g4 _ _ (by omega) (by omega))
    obtain ⟨least, s1, s2⟩ := setW_loop hMJ hmo hdi g3 (x2 := nI sp) (L := L) 127 1 1000 (by omega) (by omega) ⟨Nat.le_refl _, fun G kn nn hG hk => ⟨nn, Or.inr ⟨by omega, rfl⟩⟩⟩
    obtain ⟨J2, k1, k2, k3⟩ := kW_loop (L := L) hN hmo hsp hdi (WT_wa fd F T af) s2 (bg := bg) (x5 := nI (bsF (waS fd F T af) (mo.testBit 1) d (i + 1))) sp 1 J (by omega) (by omega) (fun q p1 p2 => (ho q p1 p2).cg (g4 _ _ (by omega) (by omega))) (fun q p1 e p2 p3 => (hn q p1 e p2 p3).cg (g4 _ _ (by omega) (by omega)))
    have c2 : ∀ x y, x ≠ 59 → J2 x y = J x y := fun x y p => k3 x y (Or.inl p)
    obtain ⟨J3, e1, e2, e3⟩ := eW_loop (L := L) hmo hsp (bg := bg) r (i + 1) J2 (by omega) (hMJ.cg (fun y => c2 _ _ (by omega)) (fun y _ => c2 _ _ (by omega)) (fun y => c2 _ _ (by omega))) (Or.inr (fun j hj => by rw [c2 61 j (by omega)]; exact g2 j hj)) k2 (fun q p1 e p2 p3 => (hn q p1 e p2 p3).cg (by rw [k3 _ _ (Or.inr (fun q' p4 p5 => by omega)), g4 _ _ (by omega) (by omega)]))
    refine ⟨J3, ?_, e2, fun x y p1 p2 p3 => ?_⟩
    · refine Eq.trans ?_ e1
      rw [e_X10_weighsWithin_100]
      simp (disch := omega) only [e_X10_weighsWithin_117, g1, Option.bind_some, Option.toList_some, Option.toList_none, List.cons_append, List.nil_append, Option.map_some, cond_true, cond_false, Bool.not_true, Bool.not_false, Bool.true_and, Bool.and_true, Bool.false_and, Bool.and_false, Bool.true_or, Bool.or_true, Bool.false_or, Bool.or_false, Bool.not_not, decide_true, decide_false, Bool.decide_eq_true, Bool.decide_eq_false, qz_0, qz_1, qz_n, qz_n0, qz_n1, qz_t, qz_f, Nat.reduceAdd, q1000000, q0, q1, q2, q3, q4, q5, q6, q7, q8, q9, q10, q11, q12, q13, q14, q15, q16, q18, q19, q20, q21, q22, q23, q24, q25, q26, q27, q28, q29, q30, q31, q32, q38, q44, q45, q48, q57, q58, q59, q60, q63, q64, q97, q122, q126, q127, q128, q255, q256, q300, q580, q600, q1000, nI_add, q_lt_t, q_lt_f, q_eq_t, q_eq_f, q_clamp, q_in_t, q_in_f]
      exact s1.trans k1
    · rw [e3 x y p1 p2 p3, k3 x y p3, g4 x y p1 p2]
/-- all rows of a day, without a span -/
theorem bW_loop {L : zL} {N w F : Nat} {T : Int32} {fd : Nat → Int32} {nf af : Nat} {mo d sp : Nat} (hmo : mo < 4) (hsp : sp ≤ 4) (hd : d < N) : ∀ r k (I : zI), k + r = sp + 1 → MS I N w F T fd nf af → (∀ q, q ≤ sp → ∀ e, d < e → e ≤ N → CF I q e (VS N w T (fdF fd nf F) (waS fd F T af) true q e mo) (1000 * (N - e))) → ∃ J, zrun zZ kX10_weighsWithin (47, [some (.ref 52), some (.int (nI mo)), some (.int (nI sp)), some (.int (nI N)), some (.int (nI d)), some (.int (nI k)), none, none, none], [], hp I L, 0, 0) = zrun zZ kX10_weighsWithin (100, [some (.ref 52), some (.int (nI mo)), some (.int (nI sp)), some (.int (nI N)), some (.int (nI d)), some (.int (nI 0)), some (.int (nI d)), none, none], [], hp J L, 0, 0) ∧ (∀ q, k ≤ q → q ≤ sp → CF J q d (cond (bt (waS fd F T af) d && !mo.testBit 1) g0 (gs (bt (waS fd F T af) d).toNat (VS N w T (fdF fd nf F) (waS fd F T af) true q (d + 1) mo))) (1000 * (N - d))) ∧ (∀ x y, (x ≠ 59 ∨ ∀ q, k ≤ q → q ≤ sp → y ≠ q * 29 + d) → J x y = I x y)
  | 0, k, I, h, hM, hn => by
    obtain rfl : k = sp + 1 := h
    refine ⟨I, ?_, fun q p1 p2 => by omega, fun _ _ _ => rfl⟩
    rw [e_X10_weighsWithin_47]
    simp (disch := omega) only [Option.bind_some, Option.toList_some, Option.toList_none, List.cons_append, List.nil_append, Option.map_some, cond_true, cond_false, Bool.not_true, Bool.not_false, Bool.true_and, Bool.and_true, Bool.false_and, Bool.and_false, Bool.true_or, Bool.or_true, Bool.false_or, Bool.or_false, Bool.not_not, decide_true, decide_false, Bool.decide_eq_true, Bool.decide_eq_false, qz_0, qz_1, qz_n, qz_n0, qz_n1, qz_t, qz_f, Nat.reduceAdd, q1000000, q0, q1, q2, q3, q4, q5, q6, q7, q8, q9, q10, q11, q12, q13, q14, q15, q16, q18, q19, q20, q21, q22, q23, q24, q25, q26, q27, q28, q29, q30, q31, q32, q38, q44, q45, q48, q57, q58, q59, q60, q63, q64, q97, q122, q126, q127, q128, q255, q256, q300, q580, q600, q1000, nI_add, q_lt_t, q_lt_f, q_eq_t, q_eq_f, q_clamp, q_in_t, q_in_f]
  | r + 1, k, I, h, hM, hn => by
    obtain ⟨⟨hN, hw, hF, hnf, haf⟩, ⟨h0, -⟩, -, h62⟩ := id hM
    obtain ⟨v, n, c1, c2, c3⟩ := hn k (by omega) (d + 1) (by omega) (by omega)
    have hk' : v < 1000 → v ≤ 11 * N := fun q => by
      rcases c3 with ⟨_, z⟩ | ⟨z, _⟩
      · have := VS_sup (WT_wa fd F T af) true k (d + 1) mo z
        omega
      · omega
    have hbv := bare_val (N := N) (w := w) (T := T) (H := T) (W := waS fd F T af) (mo := mo) (d := d) c3 hk' hN
    have lbc := bcF_le (waS fd F T af) (mo.testBit 1) d
    have hb := s_bare (L := L) hM hmo (show d < 32 by omega)
    obtain ⟨J, g1, g2, g3⟩ := bW_loop (L := L) hmo hsp hd r (k + 1) (zup I 59 (k * 29 + d) (nI (bcF (waS fd F T af) (mo.testBit 1) d + v))) (by omega) (hM.cg (fun y => zu_cell (by omega)) (fun y _ => zu_cell (by omega)) (fun y => zu_cell (by omega))) (fun q p1 e p2 p3 => (hn q p1 e p2 p3).cg (zu_at (by omega)))
    refine ⟨J, ?_, fun q p1 p2 => ?_, fun x y p => ?_⟩
    · refine Eq.trans ?_ g1
      rw [e_X10_weighsWithin_47]
      simp (disch := omega) only [e_X10_weighsWithin_64, e_X10_weighsWithin_71, e_X10_weighsWithin_84, s_place, hb, c2, Option.bind_some, Option.toList_some, Option.toList_none, List.cons_append, List.nil_append, Option.map_some, cond_true, cond_false, Bool.not_true, Bool.not_false, Bool.true_and, Bool.and_true, Bool.false_and, Bool.and_false, Bool.true_or, Bool.or_true, Bool.false_or, Bool.or_false, Bool.not_not, decide_true, decide_false, Bool.decide_eq_true, Bool.decide_eq_false, qz_0, qz_1, qz_n, qz_n0, qz_n1, qz_t, qz_f, Nat.reduceAdd, q1000000, q0, q1, q2, q3, q4, q5, q6, q7, q8, q9, q10, q11, q12, q13, q14, q15, q16, q18, q19, q20, q21, q22, q23, q24, q25, q26, q27, q28, q29, q30, q31, q32, q38, q44, q45, q48, q57, q58, q59, q60, q63, q64, q97, q122, q126, q127, q128, q255, q256, q300, q580, q600, q1000, nI_add, q_lt_t, q_lt_f, q_eq_t, q_eq_f, q_clamp, q_in_t, q_in_f]
    · rcases Nat.lt_or_ge k q with z | z
      · exact g2 q (by omega) p2
      · obtain rfl : q = k := by omega
        refine ⟨_, n, ?_, ?_, hbv⟩
        · omega
        · rw [g3 59 (q * 29 + d) (Or.inr (fun q' p3 p4 => by omega)), zu_same]
    · rw [g3 x y (p.imp id (fun z q p1 p2 => z q (by omega) p2))]
      rcases p with p | p
      · rw [zu_cell p]
      · by_cases z : x = 59
        · rw [zu_at (p k (Nat.le_refl _) (by omega))]
        · rw [zu_cell z]
theorem dW_loop {L : zL} {N w F : Nat} {T : Int32} {fd : Nat → Int32} {nf af : Nat} {mo sp : Nat} (hmo : mo < 4) (hsp : sp ≤ 4) : ∀ d (I : zI), d ≤ N → MS I N w F T fd nf af → (∀ q, q ≤ sp → ∀ e, d ≤ e → e ≤ N → CF I q e (VS N w T (fdF fd nf F) (waS fd F T af) true q e mo) (1000 * (N - e))) → ∃ J v n, v ≤ 60000 ∧ zrun zZ kX10_weighsWithin (39, [some (.ref 52), some (.int (nI mo)), some (.int (nI sp)), some (.int (nI N)), some (.int (nI d - nI 1)), none, none, none, none], [], hp I L, 0, 0) = some (some (.int (nI v)), hp J L, 0, 0) ∧ BV v n (VS N w T (fdF fd nf F) (waS fd F T af) true sp 0 mo) ∧ (∀ x y, x ≠ 59 → x ≠ 60 → x ≠ 61 → J x y = I x y)
  | 0, I, hd, hM, hn => by
    have hN := hM.1.1
    obtain ⟨v, n, c1, c2, c3⟩ := hn sp (Nat.le_refl _) 0 (Nat.le_refl _) (Nat.zero_le _)
    refine ⟨I, v, n, by omega, ?_, c3, fun _ _ _ _ _ => rfl⟩
    have e : (nI 0 - nI 1 < nI 0) = True := eq_true (pk_sneg (a := 0) (b := 1) (by decide) (by decide))
    rw [e_X10_weighsWithin_39]
    simp (disch := omega) only [e_X10_weighsWithin_257, s_place, c2, q1000000, q0, q1, q2, q3, q4, q5, q6, q7, q8, q9, q10, q11, q12, q13, q14, q15, q16, q18, q19, q20, q21, q22, q23, q24, q25, q26, q27, q28, q29, q30, q31, q32, q38, q44, q45, q48, q57, q58, q59, q60, q63, q64, q97, q122, q126, q127, q128, q255, q256, q300, q580, q600, q1000, e, Option.bind_some, Option.toList_some, Option.toList_none, List.cons_append, List.nil_append, Option.map_some, cond_true, cond_false, Bool.not_true, Bool.not_false, Bool.true_and, Bool.and_true, Bool.false_and, Bool.and_false, Bool.true_or, Bool.or_true, Bool.false_or, Bool.or_false, Bool.not_not, decide_true, decide_false, Bool.decide_eq_true, Bool.decide_eq_false, qz_0, qz_1, qz_n, qz_n0, qz_n1, qz_t, qz_f, Nat.reduceAdd, q_in_t, q_clamp]
  | d + 1, I, hd, hM, hn => by
    obtain ⟨⟨hN, hw, hF, hnf, haf⟩, ⟨h0, -⟩, -, h62⟩ := id hM
    obtain ⟨J, b1, b2, b3⟩ := bW_loop (L := L) hmo hsp (show d < N by omega) (sp + 1) 0 I (by omega) hM (fun q p1 e p2 p3 => hn q p1 e (by omega) p3)
    have cJ : ∀ x y, x ≠ 59 → J x y = I x y := fun x y p => b3 x y (Or.inl p)
    have hMJ : MS J N w F T fd nf af := hM.cg (fun y => cJ _ _ (by omega)) (fun y _ => cJ _ _ (by omega)) (fun y => cJ _ _ (by omega))
    have hnJ : ∀ q, q ≤ sp → ∀ e, d < e → e ≤ N → CF J q e (VS N w T (fdF fd nf F) (waS fd F T af) true q e mo) (1000 * (N - e)) := fun q p1 e p2 p3 => (hn q p1 e (by omega) p3).cg (b3 _ _ (Or.inr (fun q' p4 p5 => by omega)))
    obtain ⟨J2, e1, e2, e3⟩ := eW_loop (L := L) hmo hsp (bg := fun q => cond (bt (waS fd F T af) d && !mo.testBit 1) g0 (gs (bt (waS fd F T af) d).toNat (VS N w T (fdF fd nf F) (waS fd F T af) true q (d + 1) mo))) (N - d) 0 J (by omega) hMJ (Or.inl rfl) (fun q p1 p2 => by
      show CF J q d (gadd _ g0) _
      rw [gadd_0]
      exact b2 q (by omega) p2) hnJ
    have c2 : ∀ x y, x ≠ 59 → x ≠ 60 → x ≠ 61 → J2 x y = J x y := fun x y p1 p2 p3 => e3 x y p2 p3 (Or.inl p1)
    have hM2 : MS J2 N w F T fd nf af := hMJ.cg (fun y => c2 _ _ (by omega) (by omega) (by omega)) (fun y _ => c2 _ _ (by omega) (by omega) (by omega)) (fun y => c2 _ _ (by omega) (by omega) (by omega))
    obtain ⟨J3, v, n, g1, g2, g3, g4⟩ := dW_loop (L := L) hmo hsp d J2 (by omega) hM2 (fun q p1 e p2 p3 => by
      by_cases z : e = d
      · subst z
        rcases Nat.eq_zero_or_pos q with z2 | z2
        · subst z2
          have := (b2 0 (Nat.le_refl _) (by omega)).cg (e3 59 (0 * 29 + e) (by omega) (by omega) (Or.inr (fun q' p4 p5 => by omega)))
          rw [VS_step (show e < N by omega)]
          show CF J2 0 e (gadd _ g0) _
          rw [gadd_0]
          exact this
        · have := e2 q z2 p1
          rw [VS_step (show e < N by omega), show (true && decide (q = 0)) = false by rw [decide_eq_false (by omega)]; rfl]
          exact this
      · exact (hnJ q p1 e (by omega) p3).cg (e3 59 (q * 29 + e) (by omega) (by omega) (Or.inr (fun q' p4 p5 => by omega))))
    refine ⟨J3, v, n, g1, ?_, g3, fun x y p1 p2 p3 => by rw [g4 x y p1 p2 p3, c2 x y p1 p2 p3, cJ x y p1]⟩
    have ek : nI (d + 1) - nI 1 = nI d := pk_sub (a := d + 1) (b := 1) (by omega)
    rw [ek, e_X10_weighsWithin_39]
    simp (disch := omega) only [Option.bind_some, Option.toList_some, Option.toList_none, List.cons_append, List.nil_append, Option.map_some, cond_true, cond_false, Bool.not_true, Bool.not_false, Bool.true_and, Bool.and_true, Bool.false_and, Bool.and_false, Bool.true_or, Bool.or_true, Bool.false_or, Bool.or_false, Bool.not_not, decide_true, decide_false, Bool.decide_eq_true, Bool.decide_eq_false, qz_0, qz_1, qz_n, qz_n0, qz_n1, qz_t, qz_f, Nat.reduceAdd, q1000000, q0, q1, q2, q3, q4, q5, q6, q7, q8, q9, q10, q11, q12, q13, q14, q15, q16, q18, q19, q20, q21, q22, q23, q24, q25, q26, q27, q28, q29, q30, q31, q32, q38, q44, q45, q48, q57, q58, q59, q60, q63, q64, q97, q122, q126, q127, q128, q255, q256, q300, q580, q600, q1000, nI_add, q_lt_t, q_lt_f, q_eq_t, q_eq_f, q_clamp, q_in_t, q_in_f]
    exact b1.trans (e1.trans g2)
theorem zW_loop {L : zL} {N mo sp : Nat} (hN : N ≤ 28) (hsp : sp ≤ 4) : ∀ r k (I : zI), k + r = sp + 1 → (∀ q, q < k → I 59 (q * 29 + N) = nI 0) → ∃ J, zrun zZ kX10_weighsWithin (10, [some (.ref 52), some (.int (nI mo)), some (.int (nI sp)), some (.int (nI N)), some (.int (nI k)), none, none, none, none], [], hp I L, 0, 0) = zrun zZ kX10_weighsWithin (39, [some (.ref 52), some (.int (nI mo)), some (.int (nI sp)), some (.int (nI N)), some (.int (nI N - nI 1)), none, none, none, none], [], hp J L, 0, 0) ∧ (∀ q, q ≤ sp → J 59 (q * 29 + N) = nI 0) ∧ (∀ x y, x ≠ 59 → J x y = I x y)
  | 0, k, I, h, h0 => by
    obtain rfl : k = sp + 1 := h
    refine ⟨I, ?_, fun q hq => h0 q (by omega), fun _ _ _ => rfl⟩
    rw [e_X10_weighsWithin_10]
    simp (disch := omega) only [Option.bind_some, Option.toList_some, Option.toList_none, List.cons_append, List.nil_append, Option.map_some, cond_true, cond_false, Bool.not_true, Bool.not_false, Bool.true_and, Bool.and_true, Bool.false_and, Bool.and_false, Bool.true_or, Bool.or_true, Bool.false_or, Bool.or_false, Bool.not_not, decide_true, decide_false, Bool.decide_eq_true, Bool.decide_eq_false, qz_0, qz_1, qz_n, qz_n0, qz_n1, qz_t, qz_f, Nat.reduceAdd, q1000000, q0, q1, q2, q3, q4, q5, q6, q7, q8, q9, q10, q11, q12, q13, q14, q15, q16, q18, q19, q20, q21, q22, q23, q24, q25, q26, q27, q28, q29, q30, q31, q32, q38, q44, q45, q48, q57, q58, q59, q60, q63, q64, q97, q122, q126, q127, q128, q255, q256, q300, q580, q600, q1000, nI_add, q_lt_t, q_lt_f, q_eq_t, q_eq_f, q_clamp, q_in_t, q_in_f]
  | r + 1, k, I, h, h0 => by
    obtain ⟨J, g1, g2, g3⟩ := zW_loop (L := L) (mo := mo) hN hsp r (k + 1) (zup I 59 (k * 29 + N) (nI 0)) (by omega) (fun q hq => by
      by_cases z : q = k
      · rw [z, zu_same]
      · rw [zu_at (by omega)]
        exact h0 q (by omega))
    refine ⟨J, ?_, g2, fun x y p => by rw [g3 x y p, zu_cell p]⟩
    refine Eq.trans ?_ g1
    rw [e_X10_weighsWithin_10]
    simp (disch := omega) only [e_X10_weighsWithin_26, s_place, Option.bind_some, Option.toList_some, Option.toList_none, List.cons_append, List.nil_append, Option.map_some, cond_true, cond_false, Bool.not_true, Bool.not_false, Bool.true_and, Bool.and_true, Bool.false_and, Bool.and_false, Bool.true_or, Bool.or_true, Bool.false_or, Bool.or_false, Bool.not_not, decide_true, decide_false, Bool.decide_eq_true, Bool.decide_eq_false, qz_0, qz_1, qz_n, qz_n0, qz_n1, qz_t, qz_f, Nat.reduceAdd, q1000000, q0, q1, q2, q3, q4, q5, q6, q7, q8, q9, q10, q11, q12, q13, q14, q15, q16, q18, q19, q20, q21, q22, q23, q24, q25, q26, q27, q28, q29, q30, q31, q32, q38, q44, q45, q48, q57, q58, q59, q60, q63, q64, q97, q122, q126, q127, q128, q255, q256, q300, q580, q600, q1000, nI_add, q_lt_t, q_lt_f, q_eq_t, q_eq_f, q_clamp, q_in_t, q_in_f]
theorem s_wW {I : zI} {L : zL} {N w F : Nat} {T : Int32} {fd : Nat → Int32} {nf af : Nat} (hM : MS I N w F T fd nf af) {mo sp : Nat} (hmo : mo < 4) (hsp : sp ≤ 4) : ∃ J v n, v ≤ 60000 ∧ zcall zZ nX10_weighsWithin [.ref 52, .int (nI mo), .int (nI sp)] (hp I L) = some (some (.int (nI v)), hp J L) ∧ BV v n (VS N w T (fdF fd nf F) (waS fd F T af) true sp 0 mo) ∧ (∀ x y, x ≠ 59 → x ≠ 60 → x ≠ 61 → J x y = I x y) := by
  obtain ⟨⟨hN, hw, hF, hnf, haf⟩, ⟨h0, -⟩, -, h62⟩ := id hM
  obtain ⟨J, z1, z2, z3⟩ := zW_loop (L := L) (mo := mo) hN hsp (sp + 1) 0 I (by omega) (fun q hq => by omega)
  obtain ⟨J2, v, n, g1, g2, g3, g4⟩ := dW_loop (L := L) hmo hsp N J (Nat.le_refl _) (hM.cg (fun y => z3 _ _ (by omega)) (fun y _ => z3 _ _ (by omega)) (fun y => z3 _ _ (by omega))) (fun q p1 e p2 p3 => by
    obtain rfl : e = N := by omega
    exact ⟨0, 1, by omega, z2 q p1, Or.inl ⟨by omega, by rw [VS_end (Nat.le_refl _)]; exact MW_g1⟩⟩)
  refine ⟨J2, v, n, g1, ?_, g3, fun x y p1 p2 p3 => (g4 x y p1 p2 p3).trans (z3 x y p1)⟩
  simp (disch := omega) only [c_X10_weighsWithin, e_X10_weighsWithin_0, h0, Option.bind_some, Option.toList_some, Option.toList_none, List.cons_append, List.nil_append, Option.map_some, cond_true, cond_false, Bool.not_true, Bool.not_false, Bool.true_and, Bool.and_true, Bool.false_and, Bool.and_false, Bool.true_or, Bool.or_true, Bool.false_or, Bool.or_false, Bool.not_not, decide_true, decide_false, Bool.decide_eq_true, Bool.decide_eq_false, qz_0, qz_1, qz_n, qz_n0, qz_n1, qz_t, qz_f, Nat.reduceAdd, q1000000, q0, q1, q2, q3, q4, q5, q6, q7, q8, q9, q10, q11, q12, q13, q14, q15, q16, q18, q19, q20, q21, q22, q23, q24, q25, q26, q27, q28, q29, q30, q31, q32, q38, q44, q45, q48, q57, q58, q59, q60, q63, q64, q97, q122, q126, q127, q128, q255, q256, q300, q580, q600, q1000, nI_add, q_lt_t, q_lt_f, q_eq_t, q_eq_f, q_clamp, q_in_t, q_in_f]
  rw [z1, g2]
  rfl
/-! with so many spans at most -/
def WB (v : Nat) (g : GF) : Prop := (v < 1000 ∧ ∃ n, MW g v n) ∨ (v = 1000 ∧ g = g0)
theorem MW_more {f h : GF} {k n : Nat} (hf : MW f k n) (hh : ∀ c, c < k → h c = 0) : ∃ n', MW (gadd f h) k n' := by
  refine ⟨n + h k, ?_, by have := hf.2.1; omega, fun c hc => ?_⟩
  · show f k + h k = n + h k
    rw [hf.1]
  · show f c + h c = 0
    rw [hf.2.2 c hc, hh c hc]
theorem modeW_loop {L : zL} {N w F : Nat} {T : Int32} {fd : Nat → Int32} {n a sp : Nat} (hsp : sp ≤ 4) {x4 : Int32} (hn : n < 2 ^ F) (ha : a < 2 ^ F) (hst : cnB F (inN fd T F) (n, a) = true) {g : GF} : ∀ r m (I : zI) v, m + r = 4 → MZ I N w F T fd → I 52 18 = nI n → I 52 19 = nI a → WB v (gadd g (gq (mdF N w F fd T true sp (n, a)) m)) → ∃ J v', zrun zZ kX10_withinOf (44, [some (.ref 52), none, some (.int (nI sp)), some (.int (nI v)), some (.int x4), some (.int (nI m))], [], hp I L, 0, 0) = zrun zZ kX10_withinOf (92, [some (.ref 52), none, some (.int (nI sp)), some (.int (nI v')), some (.int x4), none], [], hp J L, 0, 0) ∧ WB v' (gadd g (gq (mdF N w F fd T true sp (n, a)) 4)) ∧ (∀ x y, x ≠ 59 → x ≠ 60 → x ≠ 61 → J x y = I x y)
  | 0, m, I, v, h, hZ, h18, h19, hW => by
    obtain rfl : m = 4 := h
    refine ⟨I, v, ?_, hW, fun _ _ _ _ _ => rfl⟩
    rw [e_X10_withinOf_44]
    simp (disch := omega) only [Option.bind_some, Option.toList_some, Option.toList_none, List.cons_append, List.nil_append, Option.map_some, cond_true, cond_false, Bool.not_true, Bool.not_false, Bool.true_and, Bool.and_true, Bool.false_and, Bool.and_false, Bool.true_or, Bool.or_true, Bool.false_or, Bool.or_false, Bool.not_not, decide_true, decide_false, Bool.decide_eq_true, Bool.decide_eq_false, qz_0, qz_1, qz_n, qz_n0, qz_n1, qz_t, qz_f, Nat.reduceAdd, q1000000, q0, q1, q2, q3, q4, q5, q6, q7, q8, q9, q10, q11, q12, q13, q14, q15, q16, q18, q19, q20, q21, q22, q23, q24, q25, q26, q27, q28, q29, q30, q31, q32, q38, q44, q45, q48, q57, q58, q59, q60, q63, q64, q97, q122, q126, q127, q128, q255, q256, q300, q580, q600, q1000, nI_add, q_lt_t, q_lt_f, q_eq_t, q_eq_f, q_clamp, q_in_t, q_in_f]
  | r + 1, m, I, v, h, hZ, h18, h19, hW => by
    have hF := hZ.1.2.2
    have hm : m < 4 := by omega
    have hstd := s_stand (L := L) hZ h18 h19 (nf4 hF hn) (nf4 hF ha)
    rw [hst] at hstd
    have hM := hZ.ms h18 h19 hn ha
    have hmc := s_mode (L := L) hM hm
    have hpm := pc2_le2 m
    have hpn := pc2_le2 n
    have hpa := pc2_le2 a
    have hv : v ≤ 1000 := by
      rcases hW with ⟨z, _⟩ | ⟨z, _⟩ <;> omega
    have hg : gadd g (gq (mdF N w F fd T true sp (n, a)) (m + 1)) = gadd (gadd g (gq (mdF N w F fd T true sp (n, a)) m)) (mdF N w F fd T true sp (n, a) m) := by
      rw [gadd_assoc]
      rfl
    by_cases hb : (0 < n ∧ m.testBit 0 = false) ∨ (0 < a ∧ m.testBit 1 = false)
    · rw [moF_no hb] at hmc
      obtain ⟨J, v', g1, g2, g3⟩ := modeW_loop (L := L) hsp hn ha hst (x4 := x4) (g := g) r (m + 1) I v (by omega) hZ h18 h19 (by rw [hg, md_no hb, gadd_0]; exact hW)
      refine ⟨J, v', ?_, g2, g3⟩
      refine Eq.trans ?_ g1
      rw [e_X10_withinOf_44]
      simp (disch := omega) only [e_X10_withinOf_54, e_X10_withinOf_63, e_X10_withinOf_86, hstd, hmc, Option.bind_some, Option.toList_some, Option.toList_none, List.cons_append, List.nil_append, Option.map_some, cond_true, cond_false, Bool.not_true, Bool.not_false, Bool.true_and, Bool.and_true, Bool.false_and, Bool.and_false, Bool.true_or, Bool.or_true, Bool.false_or, Bool.or_false, Bool.not_not, decide_true, decide_false, Bool.decide_eq_true, Bool.decide_eq_false, qz_0, qz_1, qz_n, qz_n0, qz_n1, qz_t, qz_f, Nat.reduceAdd, q1000000, q0, q1, q2, q3, q4, q5, q6, q7, q8, q9, q10, q11, q12, q13, q14, q15, q16, q18, q19, q20, q21, q22, q23, q24, q25, q26, q27, q28, q29, q30, q31, q32, q38, q44, q45, q48, q57, q58, q59, q60, q63, q64, q97, q122, q126, q127, q128, q255, q256, q300, q580, q600, q1000, nI_add, q_lt_t, q_lt_f, q_eq_t, q_eq_f, q_clamp, q_in_t, q_in_f]
    · rw [moF_ok hb] at hmc
      have hmd := md_ok (N := N) (w := w) (F := F) (fd := fd) (T := T) (bl := true) (k := sp) (c := (n, a)) hb
      by_cases hsk : pc2 m + pc2 n + pc2 a < v
      · obtain ⟨J, u, nu, u1, u2, u3, u4⟩ := s_wW (L := L) hM hm hsp
        have hZJ : MZ J N w F T fd := hZ.cg (fun y => u4 _ _ (by omega) (by omega) (by omega)) (u4 _ _ (by omega) (by omega) (by omega)) (fun y => u4 _ _ (by omega) (by omega) (by omega))
        have hku : u < 1000 → u ≤ 308 := fun q => by
          rcases u3 with ⟨_, z⟩ | ⟨z, _⟩
          · have := VS_sup (WT_wa fd F T a) true sp 0 m z
            have := hZ.1.1
            omega
          · omega
        have hBV : BV (pc2 m + pc2 n + pc2 a + u) nu (mdF N w F fd T true sp (n, a) m) := by
          rw [hmd]
          exact BV_gs u3 (fun q => by have := hku q; show pc2 m + pc2 n + pc2 a + u < 1000; omega)
        have hW' : WB (min v (pc2 m + pc2 n + pc2 a + u)) (gadd g (gq (mdF N w F fd T true sp (n, a)) (m + 1))) := by
          rw [hg]
          rcases hBV with ⟨z1, z2⟩ | ⟨z1, z2⟩
          · rcases hW with ⟨y1, ny, y2⟩ | ⟨y1, y2⟩
            · rcases Nat.lt_trichotomy (pc2 m + pc2 n + pc2 a + u) v with q | q | q
              · rw [show min v (pc2 m + pc2 n + pc2 a + u) = pc2 m + pc2 n + pc2 a + u by omega]
                exact Or.inl ⟨z1, _, MW_lt y2 z2 q⟩
              · rw [q] at z2 ⊢
                rw [show min v v = v by omega]
                exact Or.inl ⟨y1, _, MW_eq y2 z2⟩
              · rw [show min v (pc2 m + pc2 n + pc2 a + u) = v by omega]
                exact Or.inl ⟨y1, _, MW_gt y2 z2 q⟩
            · rw [show min v (pc2 m + pc2 n + pc2 a + u) = pc2 m + pc2 n + pc2 a + u by omega, y2, g0_add]
              exact Or.inl ⟨z1, _, z2⟩
          · rw [show min v (pc2 m + pc2 n + pc2 a + u) = v by omega, z2, gadd_0]
            exact hW
        obtain ⟨J', v', g1, g2, g3⟩ := modeW_loop (L := L) hsp hn ha hst (x4 := x4) (g := g) r (m + 1) J (min v (pc2 m + pc2 n + pc2 a + u)) (by omega) hZJ ((u4 _ _ (by omega) (by omega) (by omega)).trans h18) ((u4 _ _ (by omega) (by omega) (by omega)).trans h19) hW'
        refine ⟨J', v', ?_, g2, fun x y p1 p2 p3 => (g3 x y p1 p2 p3).trans (u4 x y p1 p2 p3)⟩
        refine Eq.trans ?_ g1
        rw [e_X10_withinOf_44]
        simp (disch := omega) only [e_X10_withinOf_54, e_X10_withinOf_63, e_X10_withinOf_74, e_X10_withinOf_81, e_X10_withinOf_85, e_X10_withinOf_86, hstd, hmc, u2, j_minN, Option.bind_some, Option.toList_some, Option.toList_none, List.cons_append, List.nil_append, Option.map_some, cond_true, cond_false, Bool.not_true, Bool.not_false, Bool.true_and, Bool.and_true, Bool.false_and, Bool.and_false, Bool.true_or, Bool.or_true, Bool.false_or, Bool.or_false, Bool.not_not, decide_true, decide_false, Bool.decide_eq_true, Bool.decide_eq_false, qz_0, qz_1, qz_n, qz_n0, qz_n1, qz_t, qz_f, Nat.reduceAdd, q1000000, q0, q1, q2, q3, q4, q5, q6, q7, q8, q9, q10, q11, q12, q13, q14, q15, q16, q18, q19, q20, q21, q22, q23, q24, q25, q26, q27, q28, q29, q30, q31, q32, q38, q44, q45, q48, q57, q58, q59, q60, q63, q64, q97, q122, q126, q127, q128, q255, q256, q300, q580, q600, q1000, nI_add, q_lt_t, q_lt_f, q_eq_t, q_eq_f, q_clamp, q_in_t, q_in_f]
      · have hW' : WB v (gadd g (gq (mdF N w F fd T true sp (n, a)) (m + 1))) := by
          rw [hg]
          rcases hW with ⟨y1, ny, y2⟩ | ⟨y1, y2⟩
          · obtain ⟨n', hn'⟩ := MW_more y2 (h := mdF N w F fd T true sp (n, a) m) (fun c hc => by
              rw [hmd]
              unfold gs
              rw [if_neg (by show ¬ pc2 m + pc2 n + pc2 a ≤ c; omega)])
            exact Or.inl ⟨y1, n', hn'⟩
          · omega
        obtain ⟨J', v', g1, g2, g3⟩ := modeW_loop (L := L) hsp hn ha hst (x4 := x4) (g := g) r (m + 1) I v (by omega) hZ h18 h19 hW'
        refine ⟨J', v', ?_, g2, g3⟩
        refine Eq.trans ?_ g1
        rw [e_X10_withinOf_44]
        simp (disch := omega) only [e_X10_withinOf_54, e_X10_withinOf_63, e_X10_withinOf_86, hstd, hmc, Option.bind_some, Option.toList_some, Option.toList_none, List.cons_append, List.nil_append, Option.map_some, cond_true, cond_false, Bool.not_true, Bool.not_false, Bool.true_and, Bool.and_true, Bool.false_and, Bool.and_false, Bool.true_or, Bool.or_true, Bool.false_or, Bool.or_false, Bool.not_not, decide_true, decide_false, Bool.decide_eq_true, Bool.decide_eq_false, qz_0, qz_1, qz_n, qz_n0, qz_n1, qz_t, qz_f, Nat.reduceAdd, q1000000, q0, q1, q2, q3, q4, q5, q6, q7, q8, q9, q10, q11, q12, q13, q14, q15, q16, q18, q19, q20, q21, q22, q23, q24, q25, q26, q27, q28, q29, q30, q31, q32, q38, q44, q45, q48, q57, q58, q59, q60, q63, q64, q97, q122, q126, q127, q128, q255, q256, q300, q580, q600, q1000, nI_add, q_lt_t, q_lt_f, q_eq_t, q_eq_f, q_clamp, q_in_t, q_in_f]
theorem choiceW_loop {L : zL} {N w F : Nat} {T : Int32} {fd : Nat → Int32} {sp : Nat} (hsp : sp ≤ 4) : ∀ r c (I : zI) v (cs : List (Nat × Nat)), c + r = 16 → MZ I N w F T fd → WB v (gsum (chG N w F fd T true sp) cs) → ∃ J v', zrun zZ kX10_withinOf (18, [some (.ref 52), none, some (.int (nI sp)), some (.int (nI v)), some (.int (nI c)), none], [], hp I L, 0, 0) = some (some (.int (nI v')), hp J L, 0, 0) ∧ WB v' (gsum (chG N w F fd T true sp) (cs ++ crR F (inN fd T F) r c)) ∧ (∀ x y, x ≠ 59 → x ≠ 60 → x ≠ 61 → (x ≠ 52 ∨ y < 18 ∨ 30 ≤ y) → J x y = I x y)
  | 0, c, I, v, cs, h, hZ, hW => by
    obtain rfl : c = 16 := h
    refine ⟨I, v, ?_, by rw [show crR F (inN fd T F) 0 16 = [] from rfl, List.append_nil]; exact hW, fun _ _ _ _ _ _ => rfl⟩
    rw [e_X10_withinOf_18]
    simp (disch := omega) only [Option.bind_some, Option.toList_some, Option.toList_none, List.cons_append, List.nil_append, Option.map_some, cond_true, cond_false, Bool.not_true, Bool.not_false, Bool.true_and, Bool.and_true, Bool.false_and, Bool.and_false, Bool.true_or, Bool.or_true, Bool.false_or, Bool.or_false, Bool.not_not, decide_true, decide_false, Bool.decide_eq_true, Bool.decide_eq_false, qz_0, qz_1, qz_n, qz_n0, qz_n1, qz_t, qz_f, Nat.reduceAdd, q1000000, q0, q1, q2, q3, q4, q5, q6, q7, q8, q9, q10, q11, q12, q13, q14, q15, q16, q18, q19, q20, q21, q22, q23, q24, q25, q26, q27, q28, q29, q30, q31, q32, q38, q44, q45, q48, q57, q58, q59, q60, q63, q64, q97, q122, q126, q127, q128, q255, q256, q300, q580, q600, q1000, nI_add, q_lt_t, q_lt_f, q_eq_t, q_eq_f, q_clamp, q_in_t, q_in_f]
  | r + 1, c, I, v, cs, h, hZ, hW => by
    have hd : nI c / nI 4 = nI (c / 4) := pk_div (by omega) (by decide) (by decide)
    have hr : c - c / 4 * 4 = c % 4 := by omega
    have hF := hZ.1.2.2
    have hput : zrun zZ kX10_withinOf (18, [some (.ref 52), none, some (.int (nI sp)), some (.int (nI v)), some (.int (nI c)), none], [], hp I L, 0, 0) = zrun zZ kX10_withinOf (44, [some (.ref 52), none, some (.int (nI sp)), some (.int (nI v)), some (.int (nI c)), some (.int (nI 0))], [], hp (zup (zup I 52 18 (nI (c / 4))) 52 19 (nI (c % 4))) L, 0, 0) := by
      rw [e_X10_withinOf_18]
      simp (disch := omega) only [hd, q_mul, q_sub, hr, Option.bind_some, Option.toList_some, Option.toList_none, List.cons_append, List.nil_append, Option.map_some, cond_true, cond_false, Bool.not_true, Bool.not_false, Bool.true_and, Bool.and_true, Bool.false_and, Bool.and_false, Bool.true_or, Bool.or_true, Bool.false_or, Bool.or_false, Bool.not_not, decide_true, decide_false, Bool.decide_eq_true, Bool.decide_eq_false, qz_0, qz_1, qz_n, qz_n0, qz_n1, qz_t, qz_f, Nat.reduceAdd, q1000000, q0, q1, q2, q3, q4, q5, q6, q7, q8, q9, q10, q11, q12, q13, q14, q15, q16, q18, q19, q20, q21, q22, q23, q24, q25, q26, q27, q28, q29, q30, q31, q32, q38, q44, q45, q48, q57, q58, q59, q60, q63, q64, q97, q122, q126, q127, q128, q255, q256, q300, q580, q600, q1000, nI_add, q_lt_t, q_lt_f, q_eq_t, q_eq_f, q_clamp, q_in_t, q_in_f]
    have cg : ∀ x y, (x ≠ 52 ∨ (y ≠ 18 ∧ y ≠ 19)) → zup (zup I 52 18 (nI (c / 4))) 52 19 (nI (c % 4)) x y = I x y := fun x y p => by
      by_cases z : x = 52
      · rw [zu_at (by omega), zu_at (by omega)]
      · rw [zu_cell z, zu_cell z]
    have hZ1 : MZ (zup (zup I 52 18 (nI (c / 4))) 52 19 (nI (c % 4))) N w F T fd := hZ.cg (fun y => cg _ _ (by omega)) (cg _ _ (by omega)) (fun y => cg _ _ (by omega))
    have e18 : zup (zup I 52 18 (nI (c / 4))) 52 19 (nI (c % 4)) 52 18 = nI (c / 4) := by rw [zu_at (by omega), zu_same]
    have e19 : zup (zup I 52 18 (nI (c / 4))) 52 19 (nI (c % 4)) 52 19 = nI (c % 4) := zu_same _ _ _ _
    have hn1 : nI c + nI 1 = nI (c + 1) := nI_add c 1
    cases hst : cnB F (inN fd T F) (c / 4, c % 4) with
    | true =>
      have hst' := hst
      unfold cnB at hst'
      rw [Bool.and_eq_true, Bool.and_eq_true, decide_eq_true_iff, decide_eq_true_iff] at hst'
      obtain ⟨J, v', m1, m2, m3⟩ := modeW_loop (L := L) hsp (x4 := nI c) hst'.1.1 hst'.1.2 hst (g := gsum (chG N w F fd T true sp) cs) 4 0 _ v (by omega) hZ1 e18 e19 (by
        show WB v (gadd _ g0)
        rw [gadd_0]
        exact hW)
      rw [mode_sum] at m2
      obtain ⟨J2, v2, g1, g2, g3⟩ := choiceW_loop (L := L) hsp r (c + 1) J v' (cs ++ [(c / 4, c % 4)]) (by omega) (hZ1.cg (fun y => m3 _ _ (by omega) (by omega) (by omega)) (m3 _ _ (by omega) (by omega) (by omega)) (fun y => m3 _ _ (by omega) (by omega) (by omega))) (by
        rw [gsum_append]
        show WB v' (gadd _ (gadd _ g0))
        rw [gadd_0]
        exact m2)
      refine ⟨J2, v2, ?_, ?_, fun x y p1 p2 p3 p4 => ?_⟩
      · rw [hput, m1, e_X10_withinOf_92, q1, hn1, g1]
      · rw [show crR F (inN fd T F) (r + 1) c = (c / 4, c % 4) :: crR F (inN fd T F) r (c + 1) from if_pos hst]
        rw [List.append_assoc] at g2
        exact g2
      · rw [g3 x y p1 p2 p3 p4, m3 x y p1 p2 p3, cg x y (by omega)]
    | false =>
      obtain ⟨J2, v2, g1, g2, g3⟩ := choiceW_loop (L := L) hsp r (c + 1) _ v cs (by omega) hZ1 hW
      refine ⟨J2, v2, ?_, ?_, fun x y p1 p2 p3 p4 => ?_⟩
      · have hs := s_stand (L := L) hZ1 e18 e19 (by omega) (by omega)
        rw [hst] at hs
        rw [hput, e_X10_withinOf_44]
        simp (disch := omega) only [e_X10_withinOf_54, e_X10_withinOf_92, hs, Option.bind_some, Option.toList_some, Option.toList_none, List.cons_append, List.nil_append, Option.map_some, cond_true, cond_false, Bool.not_true, Bool.not_false, Bool.true_and, Bool.and_true, Bool.false_and, Bool.and_false, Bool.true_or, Bool.or_true, Bool.false_or, Bool.or_false, Bool.not_not, decide_true, decide_false, Bool.decide_eq_true, Bool.decide_eq_false, qz_0, qz_1, qz_n, qz_n0, qz_n1, qz_t, qz_f, Nat.reduceAdd, q1000000, q0, q1, q2, q3, q4, q5, q6, q7, q8, q9, q10, q11, q12, q13, q14, q15, q16, q18, q19, q20, q21, q22, q23, q24, q25, q26, q27, q28, q29, q30, q31, q32, q38, q44, q45, q48, q57, q58, q59, q60, q63, q64, q97, q122, q126, q127, q128, q255, q256, q300, q580, q600, q1000, hn1, q_lt_t]
        exact g1
      · rw [show crR F (inN fd T F) (r + 1) c = crR F (inN fd T F) r (c + 1) from if_neg (by rw [hst]; decide)]
        exact g2
      · rw [g3 x y p1 p2 p3 p4, cg x y (by omega)]
/-- cells in which the reference weighs few spans -/
def FW (I J : zI) : Prop := ∀ x y, x ≠ 59 → x ≠ 60 → x ≠ 61 → x ≠ 62 → (x ≠ 52 ∨ y < 17 ∨ 30 ≤ y) → J x y = I x y
theorem both_within {I : zI} {L : zL} {N w F Tn ln : Nat} (D : DK I L N w F Tn ln) (hK : KC I) (hN : N ≠ 0) (T : Int32) {sp : Nat} (hsp : sp < 5) : ∃ k J M, k ≤ 100 ∧ zcall zZ nX2_fewest [.ref 25, .int T, .int (nI sp), .int (nI 1)] (hp I L) = some (some (.int (nI k)), hp J M) ∧ FX I J ∧ FXL L M ∧ ∀ (I' : zI) (L' : zL), I' 53 0 = nI N → I' 53 1 = nI w → I' 53 2 = nI F → (∀ f, f < F → I' 53 (6 + f) = I 14 f) → ∃ J', zcall zZ nX10_withinOf [.ref 52, .int T, .int (nI sp)] (hp I' L') = some (some (.int (nI k)), hp J' L') ∧ FW I' J' := by
  have hb := D.b
  by_cases hT : T = nI 0
  · subst hT
    refine ⟨1, I, L, by omega, ?_, FX.refl I, FXL.refl L, fun I' L' h0 h1 h2 h3 => ⟨I', ?_, fun _ _ _ _ _ _ _ => rfl⟩⟩
    · simp (disch := omega) only [c_X2_fewest, e_X2_fewest_0, Option.bind_some, Option.toList_some, Option.toList_none, List.cons_append, List.nil_append, Option.map_some, cond_true, cond_false, Bool.not_true, Bool.not_false, Bool.true_and, Bool.and_true, Bool.false_and, Bool.and_false, Bool.true_or, Bool.or_true, Bool.false_or, Bool.or_false, Bool.not_not, decide_true, decide_false, Bool.decide_eq_true, Bool.decide_eq_false, qz_0, qz_1, qz_n, qz_n0, qz_n1, qz_t, qz_f, Nat.reduceAdd, q1000000, q0, q1, q2, q3, q4, q5, q6, q7, q8, q9, q10, q11, q12, q13, q14, q15, q16, q18, q19, q20, q21, q22, q23, q24, q25, q26, q27, q28, q29, q30, q31, q32, q38, q44, q45, q48, q57, q58, q59, q60, q63, q64, q97, q122, q126, q127, q128, q255, q256, q300, q580, q600, q1000, nI_add, q_lt_t, q_lt_f, q_eq_t, q_eq_f, q_clamp, q_in_t, q_in_f]
    · simp (disch := omega) only [c_X10_withinOf, e_X10_withinOf_0, Option.bind_some, Option.toList_some, Option.toList_none, List.cons_append, List.nil_append, Option.map_some, cond_true, cond_false, Bool.not_true, Bool.not_false, Bool.true_and, Bool.and_true, Bool.false_and, Bool.and_false, Bool.true_or, Bool.or_true, Bool.false_or, Bool.or_false, Bool.not_not, decide_true, decide_false, Bool.decide_eq_true, Bool.decide_eq_false, qz_0, qz_1, qz_n, qz_n0, qz_n1, qz_t, qz_f, Nat.reduceAdd, q1000000, q0, q1, q2, q3, q4, q5, q6, q7, q8, q9, q10, q11, q12, q13, q14, q15, q16, q18, q19, q20, q21, q22, q23, q24, q25, q26, q27, q28, q29, q30, q31, q32, q38, q44, q45, q48, q57, q58, q59, q60, q63, q64, q97, q122, q126, q127, q128, q255, q256, q300, q580, q600, q1000, nI_add, q_lt_t, q_lt_f, q_eq_t, q_eq_f, q_clamp, q_in_t, q_in_f]
  · have h0 : (T = nI 0) = False := eq_false hT
    obtain ⟨J, M, s1, s2, s3, s4, s5, s6⟩ := s_search (ONE_lim sp hsp) (mx_lim sp hsp) (T := T) true (L := L) (SB_of D hK hN)
    have hF := D.b.2.2.1
    obtain ⟨-, i2, -⟩ := inN_ok (I 14) T hF
    rcases s2 with ⟨h, -⟩ | ⟨k, n, c, h1, h2, h3, h4, h5, h6, h7⟩
    · exfalso
      have hne : ∀ F, F < 3 → ∀ i, i < 2 ^ F → chC F i ≠ [] := by decide +kernel
      exact hne F (by omega) _ i2 h
    · have h6 : MW (gsum (chG N w F (I 14) T true sp) (chC F (inN (I 14) T F))) k n := h6
      refine ⟨k, J, M, h1, ?_, ⟨s3, s5⟩, s6, fun I' L' m0 m1 m2 m3 => ?_⟩
      · have s1 : zcall zZ nX2_search [.ref 25, .int T, .int (nI sp), .int (nI 1)] (hp I L) = some (none, hp J M) := s1
        rw [c_X2_fewest, e_X2_fewest_0, q0]
        simp only [h0, Option.bind_some, Option.toList_some, Option.toList_none, List.cons_append, List.nil_append, Option.map_some, cond_true, cond_false, Bool.not_true, Bool.not_false, Bool.true_and, Bool.and_true, Bool.false_and, Bool.and_false, Bool.true_or, Bool.or_true, Bool.false_or, Bool.or_false, Bool.not_not, decide_true, decide_false, Bool.decide_eq_true, Bool.decide_eq_false, qz_0, qz_1, qz_n, qz_n0, qz_n1, qz_t, qz_f, Nat.reduceAdd]
        rw [s1]
        simp only [Option.bind_some, Option.toList_some, Option.toList_none, List.cons_append, List.nil_append, Option.map_some, cond_true, cond_false, Bool.not_true, Bool.not_false, Bool.true_and, Bool.and_true, Bool.false_and, Bool.and_false, Bool.true_or, Bool.or_true, Bool.false_or, Bool.or_false, Bool.not_not, decide_true, decide_false, Bool.decide_eq_true, Bool.decide_eq_false, qz_0, qz_1, qz_n, qz_n0, qz_n1, qz_t, qz_f, Nat.reduceAdd, e_X2_fewest_13, h2]
      · obtain ⟨J1, b1, b2, b3, b4⟩ := s_begins (I := I') (L := L') T
        have e53 : ∀ y, J1 53 y = I' 53 y := fun y => b4 _ _ (by omega) (by omega)
        have hZ : MZ J1 N w F T (I 14) := ⟨⟨hb.1, hb.2.1, hF⟩, ⟨(e53 _).trans m0, (e53 _).trans m1, (e53 _).trans m2, fun f hf => (e53 _).trans (m3 f hf)⟩, b3, b2⟩
        obtain ⟨J2, v, g1, g2, g3⟩ := choiceW_loop (L := L') (show sp ≤ 4 by omega) 16 0 J1 1000 [] (by omega) hZ (Or.inr ⟨rfl, rfl⟩)
        have hf := chC_fil F (by omega) _ i2
        rw [hf] at h6
        obtain ⟨t1, -⟩ := two_lists h6 (fun x hx hp => by
          have hp : x.1 &&& inN (I 14) T F ≠ 0 := of_decide_eq_false hp
          refine ⟨_, ?_, fun e he => ch_dear hF true sp hx hp he⟩
          rw [← hf]
          exact (ch_drop F (by omega) _ i2 x hx hp).1)
        have g2 : WB v (gsum (chG N w F (I 14) T true sp) (crR F (inN (I 14) T F) 16 0)) := g2
        have ev : v = k := by
          rcases g2 with ⟨_, n', z⟩ | ⟨_, z⟩
          · exact (MW_uniq z t1).1
          · rw [z] at t1
            have y1 := t1.1
            have y2 := t1.2.1
            have : g0 k = 0 := rfl
            omega
        subst ev
        refine ⟨J2, ?_, fun x y p1 p2 p3 p4 p5 => ?_⟩
        · simp (disch := omega) only [c_X10_withinOf, e_X10_withinOf_0, e_X10_withinOf_11, b1, h0, Option.bind_some, Option.toList_some, Option.toList_none, List.cons_append, List.nil_append, Option.map_some, cond_true, cond_false, Bool.not_true, Bool.not_false, Bool.true_and, Bool.and_true, Bool.false_and, Bool.and_false, Bool.true_or, Bool.or_true, Bool.false_or, Bool.or_false, Bool.not_not, decide_true, decide_false, Bool.decide_eq_true, Bool.decide_eq_false, qz_0, qz_1, qz_n, qz_n0, qz_n1, qz_t, qz_f, Nat.reduceAdd, q1000000, q0, q1, q2, q3, q4, q5, q6, q7, q8, q9, q10, q11, q12, q13, q14, q15, q16, q18, q19, q20, q21, q22, q23, q24, q25, q26, q27, q28, q29, q30, q31, q32, q38, q44, q45, q48, q57, q58, q59, q60, q63, q64, q97, q122, q126, q127, q128, q255, q256, q300, q580, q600, q1000, nI_add, q_lt_t, q_lt_f, q_eq_t, q_eq_f, q_clamp, q_in_t, q_in_f, g1]
        · rw [g3 x y p1 p2 p3 (by omega), b4 x y p4 (by omega)]
