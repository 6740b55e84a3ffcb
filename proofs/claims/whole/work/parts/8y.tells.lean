/-! what holds between calls; tells, sets -/
theorem NM.cw {I I' : zI} {L L' : zL} {f : Nat} {cs : List Nat} (hf : f < 2) (h : NM I L f cs) (h1 : ∀ b, b < 38 → I' 53 b = I 53 b) (h2 : ∀ b, L' 13 b = L 13 b) : NM I' L' f cs := by
  obtain ⟨n1, n2, n3, n4, n5, n6⟩ := h
  refine ⟨n1, n2, n3, (h1 _ (by omega)).trans n4, fun i hi => (h1 _ (by omega)).trans (n5 i hi), (h2 _).trans n6⟩
theorem WC.cw {I J : zI} {L M : zL} {N w F : Nat} (hF : F ≤ 2) (h : WC I L N w F) (h1 : ∀ b, b < 38 → J 53 b = I 53 b) (h2 : ∀ b, J 14 b = I 14 b) (h3 : ∀ a b, 26 ≤ a → a ≤ 30 → J a b = I a b) (h4 : ∀ b, M 13 b = L 13 b) (h5 : M 26 7 = L 26 7) : WC J M N w F := by
  unfold WC
  rw [h3 26 4 (by omega) (by omega), h3 26 5 (by omega) (by omega)]
  rcases h with h | ⟨h, g⟩
  · exact Or.inl h
  · obtain ⟨nm, k, n, c, l, D1, D2, ts, hn, hr, x1, x2, x3, x4, x5, x6, x7, x8, x9, x10⟩ := g
    have e14 : J 14 = I 14 := funext h2
    have e26 := fun b => h3 26 b (by omega) (by omega)
    refine Or.inr ⟨h, nm, k, n, c, l, D1, D2, ts, fun f hf => (hn f hf).cw (by omega) h1 h4, by rw [e14]; exact hr, (e26 _).trans x1, h5.trans x2, (e26 _).trans x3, fun j hj => ?_, (e26 _).trans x5, (e26 _).trans x6, (e26 _).trans x7, (e26 _).trans x8, (e26 _).trans x9, fun i hi => (h3 30 i (by omega) (by omega)).trans (x10 i hi)⟩
    rw [h3 27 _ (by omega) (by omega), h3 28 _ (by omega) (by omega), h3 29 _ (by omega) (by omega)]
    exact x4 j hj
/-- no feast's name is a word of the lexicon -/
def NKI (I : zI) (L : zL) (F : Nat) : Prop := ∃ nm, (∀ f, f < F → NM I L f (nm f)) ∧ NK F nm
theorem NKI.cw {I J : zI} {L M : zL} {F : Nat} (hF : F ≤ 2) (h : NKI I L F) (h1 : ∀ b, b < 38 → J 53 b = I 53 b) (h2 : ∀ b, M 13 b = L 13 b) : NKI J M F := by
  obtain ⟨nm, a, b⟩ := h
  exact ⟨nm, fun f hf => (a f hf).cw (by omega) h1 h2, b⟩
def INV (I : zI) (L : zL) : Prop := ∃ N w F T ln A S, EV I L N w F T ln A S ∧ KC I ∧ LX L ∧ WC I L N w F ∧ NKI I L F ∧ I 12 0 = nI 0 ∧ I 19 0 = nI 0
def STP (nX nM : Nat) (as : List Value) (I : zI) (L : zL) : Prop := ∃ r I1 L1 I2 L2, zcall zZ nX (.ref 0 :: as) (hp I L) = some (some r, hp I1 L1) ∧ zcall zZ nM (.ref 52 :: as) (hp I1 L1) = some (some r, hp I2 L2) ∧ INV I2 L2
theorem NM_list {I : zI} {L : zL} {F : Nat} {nm : Nat → List Nat} (h : ∀ f, f < F → NM I L f (nm f)) : NMc L 11 F nm ∧ NMr I F nm := by
  refine ⟨fun f hf => ⟨(h f hf).2.1, NM_x (h f hf), (h f hf).2.2.2.2.2⟩, fun f hf => ⟨(h f hf).2.1, (h f hf).2.2.2.1, fun i hi => ⟨?_, (h f hf).2.2.2.2.1 i hi⟩⟩⟩
  have := (h f hf).2.2.1 i hi
  omega
theorem DK.dc {I : zI} {L : zL} {N w F T ln : Nat} (D : DK I L N w F T ln) (hN : N ≠ 0) {nm : Nat → List Nat} (h : ∀ f, f < F → NM I L f (nm f)) : DC I L 11 N w F nm (I 14) ∧ DR I N w F nm (I 14) := ⟨⟨D.x.1, D.x.2.2.1, fun P hP => D.pd hN hP, (NM_list h).1, fun f hf => rfl⟩, ⟨D.m.1, D.m.2.1, D.m.2.2.1, (NM_list h).2, fun f hf => D.fe hf⟩⟩
/-- both read a wording from their tapes -/
theorem both_alone {I : zI} {L : zL} {N w F T ln A S : Nat} (E : EV I L N w F T ln A S) (hL : LX L) (hN : N ≠ 0) (hk : NKI I L F) : ∃ (r : (Nat × Nat) ⊕ (Nat × Int32)) (B : Nat → Nat) (J : zI) (M : zL), RO N r ∧ AlC J M B S r (zcall zZ nX4_readAlone [.ref 5, .ref 3, .ref 11] (hp I L)) ∧ (∀ a b, (a < 5 ∨ 7 < a) → J a b = I a b) ∧ (∀ a b, a ≠ 8 → M a b = L a b) ∧ ∀ (I1 : zI) (M1 : zL), (∀ a b, (a = 53 ∨ a = 56 ∨ (a = 52 ∧ b = 5)) → I1 a b = I a b) → ∃ J1, VAl J1 M1 B S r (zcall zZ nX10_readsAlone [.ref 52] (hp I1 M1)) ∧ J1 52 5 = nI 0 ∧ (∀ x y, (x ≠ 52 ∨ (y ≠ 5 ∧ (y < 8 ∨ 16 < y))) → J1 x y = I1 x y) := by
  obtain ⟨D, hTP, -, -, -⟩ := E
  have hb := D.b
  obtain ⟨nm, h1, h2⟩ := hk
  obtain ⟨B, hB, hS⟩ := hTP.sci
  obtain ⟨dc, dr⟩ := D.dc hN h1
  obtain ⟨J, M, x1, x2, x3⟩ := s_readAlone (Or.inl rfl) (by omega) (by omega) dc hS hL
  refine ⟨_, B, J, M, aloR_ok (by omega) (fun j f hf => D.fs (fi_lt hf)), x1, x2, x3, fun I1 M1 o => ?_⟩
  exact s_readsAlone (by omega) (by omega) (by omega) h2 (hB.cg (o _ _ (by omega)) (fun b => o _ _ (by omega))) (dr.cg (fun y => o _ _ (by omega)))
def tI (J : zI) (a b c d : Int32) : zI := zup (zup (zup (zup (zup (zup J 3 1 (nI 0)) 0 8 (nI 1)) 0 9 a) 0 10 b) 0 11 c) 0 12 d
def rI (J : zI) (a b c d : Int32) : zI := zup (zup (zup (zup (zup J 52 43 (nI 1)) 52 44 a) 52 45 b) 52 46 c) 52 47 d
theorem tI_o {J : zI} {a b c d : Int32} {x y : Nat} (h : (x ≠ 3 ∨ y ≠ 1) ∧ (x ≠ 0 ∨ y < 8 ∨ 12 < y)) : tI J a b c d x y = J x y := by
  unfold tI
  by_cases u : x = 0
  · rw [zu_at (by omega), zu_at (by omega), zu_at (by omega), zu_at (by omega), zu_at (by omega), zu_cell (by omega)]
  · rw [zu_cell u, zu_cell u, zu_cell u, zu_cell u, zu_cell u]
    by_cases v : x = 3
    · rw [zu_at (by omega)]
    · rw [zu_cell v]
theorem rI_o {J : zI} {a b c d : Int32} {x y : Nat} (h : x ≠ 52 ∨ y < 43 ∨ 47 < y) : rI J a b c d x y = J x y := by
  unfold rI
  by_cases u : x = 52
  · rw [zu_at (by omega), zu_at (by omega), zu_at (by omega), zu_at (by omega), zu_at (by omega)]
  · rw [zu_cell u, zu_cell u, zu_cell u, zu_cell u, zu_cell u]
theorem p_tells {I : zI} {L : zL} (hI : INV I L) : STP nX9_tells nX10_tells [] I L := by
  have hI' := hI
  obtain ⟨N, w, F, T, ln, A, S, E, hK, hL, hC, hk, hz⟩ := hI'
  have E' := E
  obtain ⟨D, hTP, hA, hF, hT⟩ := E'
  have hb := D.b
  by_cases h0 : N = 0
  · have hl : ln = 0 := by omega
    exact ⟨.int (-2), I, L, I, L, by simp (disch := omega) only [c_X9_tells, e_X9_tells_0, e_X9_tells_28, e_X9_tells_58, e_X9_tells_77, e_X9_tells_118, e_X9_tells_113, D.x.1, h0, Option.bind_some, Option.toList_some, Option.toList_none, List.cons_append, List.nil_append, Option.map_some, cond_true, cond_false, Bool.not_true, Bool.not_false, Bool.true_and, Bool.and_true, Bool.false_and, Bool.and_false, Bool.true_or, Bool.or_true, Bool.false_or, Bool.or_false, Bool.not_not, decide_true, decide_false, Bool.decide_eq_true, Bool.decide_eq_false, qz_0, qz_1, qz_n, qz_n0, qz_n1, qz_t, qz_f, Nat.reduceAdd, q1000000, q0, q1, q2, q3, q4, q5, q6, q7, q8, q9, q10, q11, q12, q13, q14, q15, q16, q18, q19, q20, q21, q22, q23, q24, q25, q26, q27, q28, q29, q30, q31, q32, q38, q44, q45, q48, q57, q58, q59, q60, q63, q64, q97, q122, q126, q127, q128, q255, q256, q300, q580, q600, q1000, nI_add, q_lt_t, q_lt_f, q_eq_t, q_eq_f, q_clamp, q_in_t, q_in_f], by simp (disch := omega) only [c_X10_tells, e_X10_tells_0, e_X10_tells_16, e_X10_tells_35, e_X10_tells_54, e_X10_tells_89, D.m.2.2.2.2, hl, Option.bind_some, Option.toList_some, Option.toList_none, List.cons_append, List.nil_append, Option.map_some, cond_true, cond_false, Bool.not_true, Bool.not_false, Bool.true_and, Bool.and_true, Bool.false_and, Bool.and_false, Bool.true_or, Bool.or_true, Bool.false_or, Bool.or_false, Bool.not_not, decide_true, decide_false, Bool.decide_eq_true, Bool.decide_eq_false, qz_0, qz_1, qz_n, qz_n0, qz_n1, qz_t, qz_f, Nat.reduceAdd, q1000000, q0, q1, q2, q3, q4, q5, q6, q7, q8, q9, q10, q11, q12, q13, q14, q15, q16, q18, q19, q20, q21, q22, q23, q24, q25, q26, q27, q28, q29, q30, q31, q32, q38, q44, q45, q48, q57, q58, q59, q60, q63, q64, q97, q122, q126, q127, q128, q255, q256, q300, q580, q600, q1000, nI_add, q_lt_t, q_lt_f, q_eq_t, q_eq_f, q_clamp, q_in_t, q_in_f], hI⟩
  have hl : ln ≠ 0 := by omega
  obtain ⟨r, B, J, M, r1, r2, r3, r4, r5⟩ := both_alone E hL h0 hk
  -- what holds behind both
  have fin : ∀ (J1 : zI) (a b c d : Int32), J1 52 5 = nI 0 → (∀ x y, (x ≠ 52 ∨ (y ≠ 5 ∧ (y < 8 ∨ 16 < y))) → J1 x y = tI J a b c d x y) → (∃ k, k ≤ 3 ∧ c = nI k ∧ (k = 0 → sub N a)) → INV (rI J1 a b c d) M := fun J1 a b c d g1 g2 g3 => by
    have o : ∀ x y, (x ≠ 52 ∨ (y ≠ 5 ∧ (y < 8 ∨ (16 < y ∧ (y < 43 ∨ 47 < y))))) → (x ≠ 3 ∨ y ≠ 1) → (x ≠ 0 ∨ y < 8 ∨ 12 < y) → (x < 5 ∨ 7 < x) → rI J1 a b c d x y = I x y := fun x y p1 p2 p3 p4 => by
      rw [rI_o (by omega), g2 x y (by omega), tI_o (by omega)]
      exact r3 x y p4
    have t : ∀ x y, x ≠ 52 → rI J1 a b c d x y = tI J a b c d x y := fun x y p => by
      rw [rI_o (by omega), g2 x y (by omega)]
    refine ⟨N, w, F, T, ln, A, 0, ⟨?_, ?_, ?_, ?_, ?_⟩, ?_, ?_, ?_, ?_, (o _ _ (by omega) (by omega) (by omega) (by omega)).trans hz.1, (o _ _ (by omega) (by omega) (by omega) (by omega)).trans hz.2⟩
    · exact D.cg (fun x y p => o x y (by omega) (by omega) (by omega) (by omega)) (fun b => r4 _ _ (by omega))
    · refine ⟨by omega, ?_, ?_, fun i hi => by omega⟩
      · rw [t _ _ (by omega)]
        unfold tI
        rw [zu_cell (by omega), zu_cell (by omega), zu_cell (by omega), zu_cell (by omega), zu_cell (by omega), zu_same]
      · rw [rI_o (by omega)]
        exact g1
    · exact hA.cg (o _ _ (by omega) (by omega) (by omega) (by omega)) (o _ _ (by omega) (by omega) (by omega) (by omega)) (fun b => o _ _ (by omega) (by omega) (by omega) (by omega)) (fun b => o _ _ (by omega) (by omega) (by omega) (by omega))
    · unfold FT
      rw [o _ _ (by omega) (by omega) (by omega) (by omega), o _ _ (by omega) (by omega) (by omega) (by omega), o _ _ (by omega) (by omega) (by omega) (by omega), o _ _ (by omega) (by omega) (by omega) (by omega)]
      exact hF
    · have t8 : rI J1 a b c d 0 8 = nI 1 := by
        rw [t _ _ (by omega)]
        unfold tI
        rw [zu_at (by omega), zu_at (by omega), zu_at (by omega), zu_at (by omega), zu_same]
      have t9 : rI J1 a b c d 0 9 = a := by
        rw [t _ _ (by omega)]
        unfold tI
        rw [zu_at (by omega), zu_at (by omega), zu_at (by omega), zu_same]
      have t10 : rI J1 a b c d 0 10 = b := by
        rw [t _ _ (by omega)]
        unfold tI
        rw [zu_at (by omega), zu_at (by omega), zu_same]
      have t11 : rI J1 a b c d 0 11 = c := by
        rw [t _ _ (by omega)]
        unfold tI
        rw [zu_at (by omega), zu_same]
      have t12 : rI J1 a b c d 0 12 = d := by
        rw [t _ _ (by omega)]
        unfold tI
        rw [zu_same]
      unfold TO
      rw [t8, t9, t10, t11, t12]
      refine ⟨?_, Or.inr ⟨rfl, ⟨?_, ?_, ?_, ?_⟩, h0, g3⟩⟩
      · unfold rI
        rw [zu_at (by omega), zu_at (by omega), zu_at (by omega), zu_at (by omega), zu_same]
      · unfold rI
        rw [zu_at (by omega), zu_at (by omega), zu_at (by omega), zu_same]
      · unfold rI
        rw [zu_at (by omega), zu_at (by omega), zu_same]
      · unfold rI
        rw [zu_at (by omega), zu_same]
      · unfold rI
        rw [zu_same]
    · exact hK.cg (fun b => o _ _ (by omega) (by omega) (by omega) (by omega)) (fun b => o _ _ (by omega) (by omega) (by omega) (by omega)) (fun b => o _ _ (by omega) (by omega) (by omega) (by omega))
    · exact fun k hk => (r4 _ _ (by omega)).trans (hL k hk)
    · exact hC.cg (fun b => o _ _ (by omega) (by omega) (by omega) (by omega)) (fun b => o _ _ (by omega) (by omega) (by omega) (by omega)) (fun a b p q => o _ _ (by omega) (by omega) (by omega) (by omega)) (fun b => r4 _ _ (by omega)) (r4 _ _ (by omega))
    · exact hk.cw (by omega) (fun b _ => o _ _ (by omega) (by omega) (by omega) (by omega)) (fun b => r4 _ _ (by omega))
  have o1 : ∀ a b c d x y, (x = 53 ∨ x = 56 ∨ (x = 52 ∧ y = 5)) → tI J a b c d x y = I x y := fun a b c d x y p => by
    rw [tI_o (by omega)]
    exact r3 x y (by omega)
  match r, r1, r2, r5 with
  | .inl (e, jf), ro, ⟨x1, x2, x3⟩, r5 =>
    obtain ⟨J1, ⟨v, y1, y2⟩, y3, y4⟩ := r5 (tI J (-nI 1) (-nI 1) (nI e) (nI (sT B S jf))) M (o1 _ _ _ _)
    have ro : 1 ≤ e ∧ e ≤ 2 := ro
    refine ⟨.int (-4), tI J (-nI 1) (-nI 1) (nI e) (nI (sT B S jf)), M, _, M, ?_, ?_, fin J1 (-nI 1) (-nI 1) (nI e) (nI (sT B S jf)) y3 y4 ⟨e, by omega, rfl, fun q => by omega⟩⟩
    · simp (disch := omega) only [c_X9_tells, e_X9_tells_0, e_X9_tells_28, e_X9_tells_58, e_X9_tells_77, e_X9_tells_118, e_X9_tells_113, D.x.1, x1, x2, x3, zu_same, zu_cell, zu_at, Option.bind_some, Option.toList_some, Option.toList_none, List.cons_append, List.nil_append, Option.map_some, cond_true, cond_false, Bool.not_true, Bool.not_false, Bool.true_and, Bool.and_true, Bool.false_and, Bool.and_false, Bool.true_or, Bool.or_true, Bool.false_or, Bool.or_false, Bool.not_not, decide_true, decide_false, Bool.decide_eq_true, Bool.decide_eq_false, qz_0, qz_1, qz_n, qz_n0, qz_n1, qz_t, qz_f, Nat.reduceAdd, q1000000, q0, q1, q2, q3, q4, q5, q6, q7, q8, q9, q10, q11, q12, q13, q14, q15, q16, q18, q19, q20, q21, q22, q23, q24, q25, q26, q27, q28, q29, q30, q31, q32, q38, q44, q45, q48, q57, q58, q59, q60, q63, q64, q97, q122, q126, q127, q128, q255, q256, q300, q580, q600, q1000, nI_add, q_lt_t, q_lt_f, q_eq_t, q_eq_f, q_clamp, q_in_t, q_in_f]
      rfl
    · have l4 : tI J (-nI 1) (-nI 1) (nI e) (nI (sT B S jf)) 53 4 = nI ln := (o1 _ _ _ _ _ _ (by omega)).trans D.m.2.2.2.2
      obtain ⟨z1, z2, z3⟩ := y2
      simp (disch := omega) only [c_X10_tells, e_X10_tells_0, e_X10_tells_16, e_X10_tells_35, e_X10_tells_54, e_X10_tells_89, l4, y1, z1, z2, z3, zu_same, zu_cell, zu_at, Option.bind_some, Option.toList_some, Option.toList_none, List.cons_append, List.nil_append, Option.map_some, cond_true, cond_false, Bool.not_true, Bool.not_false, Bool.true_and, Bool.and_true, Bool.false_and, Bool.and_false, Bool.true_or, Bool.or_true, Bool.false_or, Bool.or_false, Bool.not_not, decide_true, decide_false, Bool.decide_eq_true, Bool.decide_eq_false, qz_0, qz_1, qz_n, qz_n0, qz_n1, qz_t, qz_f, Nat.reduceAdd, q1000000, q0, q1, q2, q3, q4, q5, q6, q7, q8, q9, q10, q11, q12, q13, q14, q15, q16, q18, q19, q20, q21, q22, q23, q24, q25, q26, q27, q28, q29, q30, q31, q32, q38, q44, q45, q48, q57, q58, q59, q60, q63, q64, q97, q122, q126, q127, q128, q255, q256, q300, q580, q600, q1000, nI_add, q_lt_t, q_lt_f, q_eq_t, q_eq_f, q_clamp, q_in_t, q_in_f]
      rfl
  | .inr (j, V), ro, ⟨x1, x2, x3, x4, x5⟩, r5 =>
    obtain ⟨J1, ⟨y1, z1, z2, z3, z4⟩, y3, y4⟩ := r5 (tI J V (nI j) (nI 0) (-nI 1)) M (o1 _ _ _ _)
    have ro : sub N V := ro
    refine ⟨.int (nI (pop V)), tI J V (nI j) (nI 0) (-nI 1), M, _, M, ?_, ?_, fin J1 V (nI j) (nI 0) (-nI 1) y3 y4 ⟨0, by omega, rfl, fun _ => ro⟩⟩
    · simp (disch := omega) only [c_X9_tells, e_X9_tells_0, e_X9_tells_28, e_X9_tells_58, e_X9_tells_77, e_X9_tells_118, e_X9_tells_113, D.x.1, x1, x2, x3, x4, x5, j_bitCount, zu_same, zu_cell, zu_at, Option.bind_some, Option.toList_some, Option.toList_none, List.cons_append, List.nil_append, Option.map_some, cond_true, cond_false, Bool.not_true, Bool.not_false, Bool.true_and, Bool.and_true, Bool.false_and, Bool.and_false, Bool.true_or, Bool.or_true, Bool.false_or, Bool.or_false, Bool.not_not, decide_true, decide_false, Bool.decide_eq_true, Bool.decide_eq_false, qz_0, qz_1, qz_n, qz_n0, qz_n1, qz_t, qz_f, Nat.reduceAdd, q1000000, q0, q1, q2, q3, q4, q5, q6, q7, q8, q9, q10, q11, q12, q13, q14, q15, q16, q18, q19, q20, q21, q22, q23, q24, q25, q26, q27, q28, q29, q30, q31, q32, q38, q44, q45, q48, q57, q58, q59, q60, q63, q64, q97, q122, q126, q127, q128, q255, q256, q300, q580, q600, q1000, nI_add, q_lt_t, q_lt_f, q_eq_t, q_eq_f, q_clamp, q_in_t, q_in_f]
      rfl
    · have l4 : tI J V (nI j) (nI 0) (-nI 1) 53 4 = nI ln := (o1 _ _ _ _ _ _ (by omega)).trans D.m.2.2.2.2
      have hbi := fun h => s_bits' h N (by omega) ro
      simp (disch := omega) only [c_X10_tells, e_X10_tells_0, e_X10_tells_16, e_X10_tells_35, e_X10_tells_54, e_X10_tells_89, l4, y1, z1, z2, z3, z4, hbi, zu_same, zu_cell, zu_at, Option.bind_some, Option.toList_some, Option.toList_none, List.cons_append, List.nil_append, Option.map_some, cond_true, cond_false, Bool.not_true, Bool.not_false, Bool.true_and, Bool.and_true, Bool.false_and, Bool.and_false, Bool.true_or, Bool.or_true, Bool.false_or, Bool.or_false, Bool.not_not, decide_true, decide_false, Bool.decide_eq_true, Bool.decide_eq_false, qz_0, qz_1, qz_n, qz_n0, qz_n1, qz_t, qz_f, Nat.reduceAdd, q1000000, q0, q1, q2, q3, q4, q5, q6, q7, q8, q9, q10, q11, q12, q13, q14, q15, q16, q18, q19, q20, q21, q22, q23, q24, q25, q26, q27, q28, q29, q30, q31, q32, q38, q44, q45, q48, q57, q58, q59, q60, q63, q64, q97, q122, q126, q127, q128, q255, q256, q300, q580, q600, q1000, nI_add, q_lt_t, q_lt_f, q_eq_t, q_eq_f, q_clamp, q_in_t, q_in_f]
      rfl
