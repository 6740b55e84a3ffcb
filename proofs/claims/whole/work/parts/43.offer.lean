/-! the class: one option is offered to every state -/
abbrev hAB (a b : Nat) : Prop := (a = 37 ∧ b = 37) ∨ (a = 40 ∧ b = 37) ∨ (a = 43 ∧ b = 40) ∨ (a = 46 ∧ b = 43) ∨ (a = 49 ∧ b = 46)
/-- a cell of a row: the least cost and its ways -/
def CL (I : zI) (L : zL) (a j : Nat) (g : GF) (K : Nat) : Prop := ∃ k n, k ≤ K ∧ I (a + 1) j = nI k ∧ L (a + 2) j = lN n ∧ MW g k n
theorem CL.cg {I J : zI} {L M : zL} {a j K : Nat} {g : GF} (h : CL I L a j g K) (h1 : J (a + 1) j = I (a + 1) j) (h2 : M (a + 2) j = L (a + 2) j) : CL J M a j g K := by
  obtain ⟨k, n, c1, c2, c3, c4⟩ := h
  exact ⟨k, n, c1, h1.trans c2, h2.trans c3, c4⟩
theorem nx_or (a b : Nat) : nI a ||| nI b = nI (a ||| b) := by
  apply Int32.toBitVec_inj.1
  show BitVec.ofNat 32 a ||| BitVec.ofNat 32 b = BitVec.ofNat 32 (a ||| b)
  apply BitVec.eq_of_getLsbD_eq
  intro i hi
  simp [hi]
def pcx (told st : Nat) : Nat := (told.testBit 0 && !st.testBit 0).toNat + (told.testBit 1 && !st.testBit 1).toNat
theorem pcx_ok : ∀ told, told < 4 → ∀ st, st < 4 → pop (nI told &&& (nI st ^^^ -nI 1)) = pcx told st := by decide +kernel
theorem pcx_le : ∀ told, told < 4 → ∀ st, st < 4 → pcx told st ≤ 2 := by decide +kernel
theorem or_lt4 : ∀ a, a < 4 → ∀ b, b < 4 → a ||| b < 4 := by decide +kernel
theorem and_lt4 : ∀ a, a < 4 → ∀ b, b < 4 → a &&& b < 4 := by decide +kernel
theorem ok_or : ∀ s, s < 4 → ∀ t, t < 4 → ∀ c, c < 4 → s &&& c = c → (s ||| t) &&& c = c := by decide +kernel
theorem offer_loop {a b f e told t start K : Nat} (hab : hAB a b) (hf : f ≤ e) (he : e < 28) (htd : told < 4) (hst : start < 4) (ht : t ≤ 1000) (hK : K ≤ 1000) {g G : Nat → GF} : ∀ m st (I : zI) (L : zL), st + m = 4 → I 25 11 = nI start → (∀ s, st ≤ s → s < 4 → s &&& start = start → CL I L a (f * 4 + s) (g s) K) → (∀ s, s < 4 → s &&& start = start → CL I L b ((e + 1) * 4 + s) (G s) 1000) → ∃ I' L', zrun zZ kX2_offer (6, [some (.ref 25), some (.ref a), some (.ref b), some (.int (nI f)), some (.int (nI e)), some (.int (nI told)), some (.int (nI t)), some (.int (nI st)), none, none, none], [], hp I L, 0, 0) = some (none, hp I' L', 0, 0) ∧ (∀ s, st ≤ s → s < 4 → s &&& start = start → CL I' L' a (f * 4 + s) (gadd (g s) (gs (t + pcx told s) (G (s ||| told)))) K) ∧ (∀ x y, (x ≠ a + 1 ∨ y < f * 4 + st ∨ f * 4 + 4 ≤ y) → I' x y = I x y) ∧ (∀ x y, (x ≠ a + 2 ∨ y < f * 4 + st ∨ f * 4 + 4 ≤ y) → L' x y = L x y)
  | 0, st, I, L, h, _, _, _ => by
    obtain rfl : st = 4 := h
    refine ⟨I, L, ?_, fun s h1 h2 => by omega, fun _ _ _ => rfl, fun _ _ _ => rfl⟩
    rw [e_X2_offer_6 hab]
    simp (disch := omega) only [Option.bind_some, Option.toList_some, Option.toList_none, List.cons_append, List.nil_append, Option.map_some, cond_true, cond_false, Bool.not_true, Bool.not_false, Bool.true_and, Bool.and_true, Bool.false_and, Bool.and_false, Bool.true_or, Bool.or_true, Bool.false_or, Bool.or_false, Bool.not_not, decide_true, decide_false, Bool.decide_eq_true, Bool.decide_eq_false, qz_0, qz_1, qz_n, qz_n0, qz_n1, qz_t, qz_f, Nat.reduceAdd, q0, q1, q2, q3, q4, q5, q6, q7, q8, q9, q10, q11, q12, q13, q14, q15, q16, q18, q19, q20, q21, q22, q23, q24, q25, q26, q27, q28, q29, q30, q31, q32, q38, q44, q45, q48, q57, q58, q59, q60, q63, q64, q97, q122, q126, q127, q128, q255, q256, q300, q580, q600, q1000, nI_add, q_lt_t, q_lt_f, q_eq_t, q_eq_f, q_clamp, q_in_t, q_in_f]
  | m + 1, st, I, L, h, h11, hown, hbeh => by
    have hs4 : st < 4 := by omega
    have hl := and_lt4 st hs4 start hst
    by_cases hok : st &&& start = start
    · have hs2 := or_lt4 st hs4 told htd
      obtain ⟨k, n, c1, c2, c3, c4⟩ := hown st (Nat.le_refl _) hs4 hok
      obtain ⟨k', n', d1, d2, d3, d4⟩ := hbeh (st ||| told) hs2 (ok_or st hs4 told htd start hst hok)
      have hp2 := pcx_le told htd st hs4
      have d4' := MW_gs (t + pcx told st) d4
      have key : ∃ J M, zrun zZ kX2_offer (6, [some (.ref 25), some (.ref a), some (.ref b), some (.int (nI f)), some (.int (nI e)), some (.int (nI told)), some (.int (nI t)), some (.int (nI st)), none, none, none], [], hp I L, 0, 0) = zrun zZ kX2_offer (6, [some (.ref 25), some (.ref a), some (.ref b), some (.int (nI f)), some (.int (nI e)), some (.int (nI told)), some (.int (nI t)), some (.int (nI (st + 1))), none, none, none], [], hp J M, 0, 0) ∧ CL J M a (f * 4 + st) (gadd (g st) (gs (t + pcx told st) (G (st ||| told)))) K ∧ (∀ x y, (x ≠ a + 1 ∨ y ≠ f * 4 + st) → J x y = I x y) ∧ (∀ x y, (x ≠ a + 2 ∨ y ≠ f * 4 + st) → M x y = L x y) := by
        rcases Nat.lt_trichotomy (t + pcx told st + k') k with q | q | q
        · refine ⟨zup I (a + 1) (f * 4 + st) (nI (t + pcx told st + k')), zup L (a + 2) (f * 4 + st) (lN n'), ?_, ⟨_, n', ?_, zu_same _ _ _ _, zu_same _ _ _ _, MW_lt c4 d4' q⟩, fun x y p => ?_, fun x y p => ?_⟩
          · rw [e_X2_offer_6 hab]
            simp (disch := omega) only [e_X2_offer_48 hab, e_X2_offer_60 hab, e_X2_offer_106 hab, e_X2_offer_138 hab, h11, nx_and, nx_or, hok, j_bitCount, pcx_ok, q_mul, c2, d2, d3, Option.bind_some, Option.toList_some, Option.toList_none, List.cons_append, List.nil_append, Option.map_some, cond_true, cond_false, Bool.not_true, Bool.not_false, Bool.true_and, Bool.and_true, Bool.false_and, Bool.and_false, Bool.true_or, Bool.or_true, Bool.false_or, Bool.or_false, Bool.not_not, decide_true, decide_false, Bool.decide_eq_true, Bool.decide_eq_false, qz_0, qz_1, qz_n, qz_n0, qz_n1, qz_t, qz_f, Nat.reduceAdd, q0, q1, q2, q3, q4, q5, q6, q7, q8, q9, q10, q11, q12, q13, q14, q15, q16, q18, q19, q20, q21, q22, q23, q24, q25, q26, q27, q28, q29, q30, q31, q32, q38, q44, q45, q48, q57, q58, q59, q60, q63, q64, q97, q122, q126, q127, q128, q255, q256, q300, q580, q600, q1000, nI_add, q_lt_t, q_lt_f, q_eq_t, q_eq_f, q_clamp, q_in_t, q_in_f]
          · omega
          · rcases p with p | p
            · exact zu_cell p
            · exact zu_at p
          · rcases p with p | p
            · exact zu_cell p
            · exact zu_at p
        · refine ⟨I, zup L (a + 2) (f * 4 + st) (lN (n + n')), ?_, ⟨k, n + n', c1, c2, zu_same _ _ _ _, MW_eq c4 (q ▸ d4')⟩, fun x y p => rfl, fun x y p => ?_⟩
          · rw [e_X2_offer_6 hab]
            simp (disch := omega) only [e_X2_offer_48 hab, e_X2_offer_60 hab, e_X2_offer_106 hab, e_X2_offer_138 hab, h11, nx_and, nx_or, hok, j_bitCount, pcx_ok, q_mul, c2, c3, d2, d3, lN_add, Option.bind_some, Option.toList_some, Option.toList_none, List.cons_append, List.nil_append, Option.map_some, cond_true, cond_false, Bool.not_true, Bool.not_false, Bool.true_and, Bool.and_true, Bool.false_and, Bool.and_false, Bool.true_or, Bool.or_true, Bool.false_or, Bool.or_false, Bool.not_not, decide_true, decide_false, Bool.decide_eq_true, Bool.decide_eq_false, qz_0, qz_1, qz_n, qz_n0, qz_n1, qz_t, qz_f, Nat.reduceAdd, q0, q1, q2, q3, q4, q5, q6, q7, q8, q9, q10, q11, q12, q13, q14, q15, q16, q18, q19, q20, q21, q22, q23, q24, q25, q26, q27, q28, q29, q30, q31, q32, q38, q44, q45, q48, q57, q58, q59, q60, q63, q64, q97, q122, q126, q127, q128, q255, q256, q300, q580, q600, q1000, nI_add, q_lt_t, q_lt_f, q_eq_t, q_eq_f, q_clamp, q_in_t, q_in_f]
          · rcases p with p | p
            · exact zu_cell p
            · exact zu_at p
        · refine ⟨I, L, ?_, ⟨k, n, c1, c2, c3, MW_gt c4 d4' q⟩, fun x y p => rfl, fun x y p => rfl⟩
          · rw [e_X2_offer_6 hab]
            simp (disch := omega) only [e_X2_offer_48 hab, e_X2_offer_60 hab, e_X2_offer_106 hab, e_X2_offer_138 hab, h11, nx_and, nx_or, hok, j_bitCount, pcx_ok, q_mul, c2, d2, d3, Option.bind_some, Option.toList_some, Option.toList_none, List.cons_append, List.nil_append, Option.map_some, cond_true, cond_false, Bool.not_true, Bool.not_false, Bool.true_and, Bool.and_true, Bool.false_and, Bool.and_false, Bool.true_or, Bool.or_true, Bool.false_or, Bool.or_false, Bool.not_not, decide_true, decide_false, Bool.decide_eq_true, Bool.decide_eq_false, qz_0, qz_1, qz_n, qz_n0, qz_n1, qz_t, qz_f, Nat.reduceAdd, q0, q1, q2, q3, q4, q5, q6, q7, q8, q9, q10, q11, q12, q13, q14, q15, q16, q18, q19, q20, q21, q22, q23, q24, q25, q26, q27, q28, q29, q30, q31, q32, q38, q44, q45, q48, q57, q58, q59, q60, q63, q64, q97, q122, q126, q127, q128, q255, q256, q300, q580, q600, q1000, nI_add, q_lt_t, q_lt_f, q_eq_t, q_eq_f, q_clamp, q_in_t, q_in_f]
      obtain ⟨J, M, k1, k2, k3, k4⟩ := key
      have ha25 : a ≠ 24 := by omega
      obtain ⟨I', L', g1, g2, g3, g4⟩ := offer_loop hab hf he htd hst ht hK (g := g) (G := G) m (st + 1) J M (by omega) (by rw [k3 25 11 (by omega)]; exact h11) (fun s p1 p2 p3 => (hown s (by omega) p2 p3).cg (k3 _ _ (by omega)) (k4 _ _ (by omega))) (fun s p1 p2 => (hbeh s p1 p2).cg (k3 _ _ (by omega)) (k4 _ _ (by omega)))
      refine ⟨I', L', k1.trans g1, fun s p1 p2 p3 => ?_, fun x y p => ?_, fun x y p => ?_⟩
      · rcases Nat.lt_or_ge st s with z | z
        · exact g2 s (by omega) p2 p3
        · obtain rfl : s = st := by omega
          exact k2.cg (g3 _ _ (by omega)) (g4 _ _ (by omega))
      · rw [g3 x y (by omega), k3 x y (by omega)]
      · rw [g4 x y (by omega), k4 x y (by omega)]
    · obtain ⟨I', L', g1, g2, g3, g4⟩ := offer_loop hab hf he htd hst ht hK (g := g) (G := G) m (st + 1) I L (by omega) h11 (fun s p1 p2 p3 => hown s (by omega) p2 p3) hbeh
      refine ⟨I', L', ?_, fun s p1 p2 p3 => ?_, fun x y p => g3 x y (by omega), fun x y p => g4 x y (by omega)⟩
      · rw [e_X2_offer_6 hab]
        simp (disch := omega) only [e_X2_offer_138 hab, h11, nx_and, Option.bind_some, Option.toList_some, Option.toList_none, List.cons_append, List.nil_append, Option.map_some, cond_true, cond_false, Bool.not_true, Bool.not_false, Bool.true_and, Bool.and_true, Bool.false_and, Bool.and_false, Bool.true_or, Bool.or_true, Bool.false_or, Bool.or_false, Bool.not_not, decide_true, decide_false, Bool.decide_eq_true, Bool.decide_eq_false, qz_0, qz_1, qz_n, qz_n0, qz_n1, qz_t, qz_f, Nat.reduceAdd, q0, q1, q2, q3, q4, q5, q6, q7, q8, q9, q10, q11, q12, q13, q14, q15, q16, q18, q19, q20, q21, q22, q23, q24, q25, q26, q27, q28, q29, q30, q31, q32, q38, q44, q45, q48, q57, q58, q59, q60, q63, q64, q97, q122, q126, q127, q128, q255, q256, q300, q580, q600, q1000, nI_add, q_lt_t, q_lt_f, q_eq_t, q_eq_f, q_clamp, q_in_t, q_in_f]
        exact g1
      · rcases Nat.lt_or_ge st s with z | z
        · exact g2 s (by omega) p2 p3
        · obtain rfl : s = st := by omega
          exact absurd p3 hok
theorem ok_ge : ∀ s, s < 4 → ∀ c, c < 4 → s &&& c = c → c ≤ s := by decide +kernel
theorem s_offer {a b f e told t start K : Nat} (hab : hAB a b) (hf : f ≤ e) (he : e < 28) (htd : told < 4) (hst : start < 4) (ht : t ≤ 1000) (hK : K ≤ 1000) {g G : Nat → GF} {I : zI} {L : zL} (h11 : I 25 11 = nI start) (hown : ∀ s, s < 4 → s &&& start = start → CL I L a (f * 4 + s) (g s) K) (hbeh : ∀ s, s < 4 → s &&& start = start → CL I L b ((e + 1) * 4 + s) (G s) 1000) : ∃ I' L', zcall zZ nX2_offer [.ref 25, .ref a, .ref b, .int (nI f), .int (nI e), .int (nI told), .int (nI t)] (hp I L) = some (none, hp I' L') ∧ (∀ s, s < 4 → s &&& start = start → CL I' L' a (f * 4 + s) (gadd (g s) (gs (t + pcx told s) (G (s ||| told)))) K) ∧ (∀ x y, (x ≠ a + 1 ∨ y < f * 4 ∨ f * 4 + 4 ≤ y) → I' x y = I x y) ∧ (∀ x y, (x ≠ a + 2 ∨ y < f * 4 ∨ f * 4 + 4 ≤ y) → L' x y = L x y) := by
  obtain ⟨I', L', g1, g2, g3, g4⟩ := offer_loop hab hf he htd hst ht hK (g := g) (G := G) (4 - start) start I L (by omega) h11 (fun s _ p2 p3 => hown s p2 p3) hbeh
  refine ⟨I', L', ?_, fun s p1 p2 => g2 s (ok_ge s p1 start hst p2) p1 p2, fun x y p => g3 x y (by omega), fun x y p => g4 x y (by omega)⟩
  simp (disch := omega) only [c_X2_offer hab, e_X2_offer_0 hab, h11, Option.bind_some, Option.toList_some, Option.toList_none, List.cons_append, List.nil_append, Option.map_some, cond_true, cond_false, Bool.not_true, Bool.not_false, Bool.true_and, Bool.and_true, Bool.false_and, Bool.and_false, Bool.true_or, Bool.or_true, Bool.false_or, Bool.or_false, Bool.not_not, decide_true, decide_false, Bool.decide_eq_true, Bool.decide_eq_false, qz_0, qz_1, qz_n, qz_n0, qz_n1, qz_t, qz_f, Nat.reduceAdd, g1]
