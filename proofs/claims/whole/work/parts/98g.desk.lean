/-! desk, both -/
theorem DK.c44 {I J : zI} {L M : zL} {N w F T ln : Nat} (D : DK I L N w F T ln) (h1 : ∀ a b, 11 ≤ a → a ≤ 17 → J a b = I a b) (h2 : ∀ b, b < 44 → J 53 b = I 53 b) (h3 : ∀ b, M 13 b = L 13 b) : DK J M N w F T ln := by
  obtain ⟨d1, ⟨x1, x2, x3, x4, x5⟩, ⟨m1, m2, m3, m4, m5⟩, d4, d5, d6, d7⟩ := D
  refine ⟨d1, ⟨(h1 _ _ (by omega) (by omega)).trans x1, (h1 _ _ (by omega) (by omega)).trans x2, (h1 _ _ (by omega) (by omega)).trans x3, (h1 _ _ (by omega) (by omega)).trans x4, (h1 _ _ (by omega) (by omega)).trans x5⟩, ⟨(h2 _ (by omega)).trans m1, (h2 _ (by omega)).trans m2, (h2 _ (by omega)).trans m3, (h2 _ (by omega)).trans m4, (h2 _ (by omega)).trans m5⟩, fun f hf => ?_, fun t ht => ?_, fun q P hP => (h1 _ _ (by omega) (by omega)).trans (d6 q P hP), fun f hf => ?_⟩
  · rw [h2 _ (by omega), h1 _ _ (by omega) (by omega)]
    exact d4 f hf
  · rw [h2 _ (by omega), h2 _ (by omega), h2 _ (by omega), h1 15 _ (by omega) (by omega), h1 16 _ (by omega) (by omega), h1 17 _ (by omega) (by omega)]
    exact d5 t ht
  · obtain ⟨cs, hc⟩ := d7 f hf
    exact ⟨cs, hc.cw (by omega) (fun b hb => h2 b (by omega)) h3⟩
/-- the desks change places -/
def sg (a : Nat) : Nat := if 11 ≤ a ∧ a ≤ 17 then a + 7 else if 18 ≤ a ∧ a ≤ 24 then a - 7 else a
def sgI (I : zI) : zI := fun a b => I (sg a) b
def sgL (L : zL) : zL := fun a b => L (sg a) b
theorem sg_o {a : Nat} (h : a < 11 ∨ 24 < a) : sg a = a := by
  unfold sg
  rw [if_neg (by omega), if_neg (by omega)]
theorem sg_x {a : Nat} (h : 11 ≤ a ∧ a ≤ 17) : sg a = a + 7 := if_pos h
theorem sg_y {a : Nat} (h : 18 ≤ a ∧ a ≤ 24) : sg a = a - 7 := by
  unfold sg
  rw [if_neg (by omega), if_pos h]
theorem sgI_o {I : zI} {a b : Nat} (h : a < 11 ∨ 24 < a) : sgI I a b = I a b := by
  unfold sgI
  rw [sg_o h]
theorem sgI_x {I : zI} {a b : Nat} (h : 11 ≤ a ∧ a ≤ 17) : sgI I a b = I (a + 7) b := by
  unfold sgI
  rw [sg_x h]
theorem sgI_y {I : zI} {a b : Nat} (h : 18 ≤ a ∧ a ≤ 24) : sgI I a b = I (a - 7) b := by
  unfold sgI
  rw [sg_y h]
theorem sgL_o {L : zL} {a b : Nat} (h : a < 11 ∨ 24 < a) : sgL L a b = L a b := by
  unfold sgL
  rw [sg_o h]
theorem sgL_x {L : zL} {a b : Nat} (h : 11 ≤ a ∧ a ≤ 17) : sgL L a b = L (a + 7) b := by
  unfold sgL
  rw [sg_x h]
/-- the references when the desks have changed places -/
def zRS : Nat → Nat → Option Nat := zup (zup (zup zRR 0 4 (some 18)) 0 5 (some 11)) 25 7 (some 18)
def STD2 (I : zI) (L : zL) : Prop := ∃ r I1 L1 I2 L2, zcall zZ nX9_desk [.ref 0] (hp I L) = some (some r, (zSH, I1, L1, zRS)) ∧ zcall zZ nX10_desk [.ref 52] (hp (sgI I1) (sgL L1)) = some (some r, hp I2 L2) ∧ INV I2 L2
theorem p_desk {I : zI} {L : zL} (hI : INV I L) : STP nX9_desk nX10_desk [] I L ∨ STD2 I L := by
  obtain ⟨N, w, F, T, ln, A, S, E, hK, hL, hC, hk, hz⟩ := hI
  have E' := E
  obtain ⟨D, hTP, hA, hF, hT⟩ := E'
  have hb := D.b
  obtain ⟨B, hB, hS⟩ := hTP.sci
  obtain ⟨I0, L0, o1, o2, hcl⟩ := s_readDesk (Or.inr rfl) hS hL hz.2
  -- the reference, from any state that holds its tape
  have hm : ∀ (I1 : zI) (M1 : zL), (∀ b, I1 56 b = I 56 b) → I1 52 5 = I 52 5 → DmC I1 M1 B S (dkF B S 10 0 dk0) (zcall zZ nX10_desk [.ref 52] (hp I1 M1)) := fun I1 M1 q1' q2' => s_deskM (hB.cg q2' q1')
  generalize dkF B S 10 0 dk0 = r at hcl hm
  match r, hcl, hm with
  | .inl (e, jf), ⟨J, M, x1, x2, x3, x4, x5, x6⟩, hm =>
    left
    obtain ⟨I1, hI1⟩ : ∃ I1, I1 = zup (zup (zup J 3 1 (nI 0)) 0 6 (J 5 0)) 0 7 (J 5 1) := ⟨_, rfl⟩
    have oJ : ∀ x y, (x < 5 ∨ 7 < x) → (x < 18 ∨ 24 < x) → J x y = I x y := fun x y p1 p2 => (x5 x y (by omega) (by omega)).trans (o1 x y (by omega) (by omega))
    have u1 : ∀ x y, (x < 5 ∨ 7 < x) → (x < 18 ∨ 24 < x) → (x ≠ 3 ∨ y ≠ 1) → (x ≠ 0 ∨ (y ≠ 6 ∧ y ≠ 7)) → I1 x y = I x y := fun x y p1 p2 p3 p4 => by
      rw [hI1, upc (by omega), upc (by omega), upc (by omega)]
      exact oJ x y p1 p2
    have oL : ∀ x y, x ≠ 8 → x ≠ 20 → M x y = L x y := fun x y p1 p2 => (x6 x y (by omega)).trans (o2 x y p1)
    obtain ⟨J2, y1, y2, y3, y4, y5, y6⟩ := hm I1 M (fun b => u1 _ _ (by omega) (by omega) (by omega) (by omega)) (u1 _ _ (by omega) (by omega) (by omega) (by omega))
    have o : ∀ x y, (x < 5 ∨ 7 < x) → (x < 18 ∨ 24 < x) → (x ≠ 3 ∨ y ≠ 1) → (x ≠ 0 ∨ (y ≠ 6 ∧ y ≠ 7)) → x ≠ 53 → x ≠ 54 → (x ≠ 52 ∨ y < 5 ∨ 16 < y) → J2 x y = I x y := fun x y p1 p2 p3 p4 p5 p6 p7 => (y6 x y p5 p6 p7).trans (u1 x y p1 p2 p3 p4)
    refine ⟨.int (-nI 4), I1, M, J2, M, ?_, y1, N, w, F, T, ln, A, 0, ⟨?_, ⟨by omega, ?_, y2, fun i hi => by omega⟩, ?_, ?_, ?_⟩, ?_, ?_, ?_, ?_, ?_, ?_⟩
    · simp (disch := omega) only [c_X9_desk, e_X9_desk_0, e_X9_desk_15, x1, zu_same, zu_cell, zu_at, q1000000, q0, q1, q2, q3, q4, q5, q6, q7, q8, q9, q10, q11, q12, q13, q14, q15, q16, q18, q19, q20, q21, q22, q23, q24, q25, q26, q27, q28, q29, q30, q31, q32, q38, q44, q45, q48, q57, q58, q59, q60, q63, q64, q97, q122, q126, q127, q128, q255, q256, q300, q580, q600, q1000, ← hI1, Option.bind_some, Option.toList_some, Option.toList_none, List.cons_append, List.nil_append, Option.map_some, cond_true, cond_false, Bool.not_true, Bool.not_false, Bool.true_and, Bool.and_true, Bool.false_and, Bool.and_false, Bool.true_or, Bool.or_true, Bool.false_or, Bool.or_false, Bool.not_not, decide_true, decide_false, Bool.decide_eq_true, Bool.decide_eq_false, qz_0, qz_1, qz_n, qz_n0, qz_n1, qz_t, qz_f, Nat.reduceAdd, q1000000, q0, q1, q2, q3, q4, q5, q6, q7, q8, q9, q10, q11, q12, q13, q14, q15, q16, q18, q19, q20, q21, q22, q23, q24, q25, q26, q27, q28, q29, q30, q31, q32, q38, q44, q45, q48, q57, q58, q59, q60, q63, q64, q97, q122, q126, q127, q128, q255, q256, q300, q580, q600, q1000, nI_add, q_lt_t, q_lt_f, q_eq_t, q_eq_f, q_clamp, q_in_t, q_in_f]
    · exact D.c44 (fun a b p1 p2 => o _ _ (by omega) (by omega) (by omega) (by omega) (by omega) (by omega) (by omega)) (fun b hb => (y5 b hb).trans (u1 _ _ (by omega) (by omega) (by omega) (by omega))) (fun b => oL _ _ (by omega) (by omega))
    · rw [y6 _ _ (by omega) (by omega) (by omega), hI1, upc (by omega), upc (by omega), zu_same]
    · exact hA.cg (o _ _ (by omega) (by omega) (by omega) (by omega) (by omega) (by omega) (by omega)) (o _ _ (by omega) (by omega) (by omega) (by omega) (by omega) (by omega) (by omega)) (fun b => o _ _ (by omega) (by omega) (by omega) (by omega) (by omega) (by omega) (by omega)) (fun b => o _ _ (by omega) (by omega) (by omega) (by omega) (by omega) (by omega) (by omega))
    · refine ⟨?_, ?_⟩
      · rw [y3, y6 _ _ (by omega) (by omega) (by omega), hI1, upc (by omega), zu_same]
        exact x2.symm
      · rw [y4, y6 _ _ (by omega) (by omega) (by omega), hI1, zu_same]
        exact x3.symm
    · have t0 : ∀ b, 8 ≤ b → J2 0 b = I 0 b := fun b hb => o _ _ (by omega) (by omega) (by omega) (by omega) (by omega) (by omega) (by omega)
      have t5 : ∀ b, 43 ≤ b → J2 52 b = I 52 b := fun b hb => o _ _ (by omega) (by omega) (by omega) (by omega) (by omega) (by omega) (by omega)
      unfold TO
      rw [t0 8 (by omega), t0 9 (by omega), t0 10 (by omega), t0 11 (by omega), t0 12 (by omega), t5 43 (by omega), t5 44 (by omega), t5 45 (by omega), t5 46 (by omega), t5 47 (by omega)]
      exact hT
    · exact hK.cg (fun b => o _ _ (by omega) (by omega) (by omega) (by omega) (by omega) (by omega) (by omega)) (fun b => o _ _ (by omega) (by omega) (by omega) (by omega) (by omega) (by omega) (by omega)) (fun b => o _ _ (by omega) (by omega) (by omega) (by omega) (by omega) (by omega) (by omega))
    · exact fun k hk => (oL _ _ (by omega) (by omega)).trans (hL k hk)
    · exact hC.cw (by omega) (fun b hb => (y5 b (by omega)).trans (u1 _ _ (by omega) (by omega) (by omega) (by omega))) (fun b => o _ _ (by omega) (by omega) (by omega) (by omega) (by omega) (by omega) (by omega)) (fun a b p q => o _ _ (by omega) (by omega) (by omega) (by omega) (by omega) (by omega) (by omega)) (fun b => oL _ _ (by omega) (by omega)) (oL _ _ (by omega) (by omega))
    · exact hk.cw (by omega) (fun b hb => (y5 b (by omega)).trans (u1 _ _ (by omega) (by omega) (by omega) (by omega))) (fun b => oL _ _ (by omega) (by omega))
    · exact (o _ _ (by omega) (by omega) (by omega) (by omega) (by omega) (by omega) (by omega)).trans hz.1
    · rw [y6 _ _ (by omega) (by omega) (by omega), hI1, upc (by omega), upc (by omega), upc (by omega)]
      exact x4
  | .inr ((N', w', F', T', ln'), nm, fd, ro, mi, ru), ⟨J, M, x1, x2, x3, x4, x5, x6, x7, x8⟩, hm =>
    right
    obtain ⟨I1, hI1⟩ : ∃ I1, I1 = zup (zup (zup (zup (zup (zup J 3 1 (nI 0)) 0 6 (J 5 0)) 0 7 (J 5 1)) 26 4 (nI 0)) 9 1 (nI 0)) 0 8 (nI 0) := ⟨_, rfl⟩
    have uJ : ∀ x y, (x ≠ 3 ∨ y ≠ 1) → (x ≠ 0 ∨ (y ≠ 6 ∧ y ≠ 7 ∧ y ≠ 8)) → (x ≠ 26 ∨ y ≠ 4) → (x ≠ 9 ∨ y ≠ 1) → I1 x y = J x y := fun x y p1 p2 p3 p4 => by
      rw [hI1, upc (by omega), upc (by omega), upc (by omega), upc (by omega), upc (by omega), upc (by omega)]
    have oJ : ∀ x y, (x < 5 ∨ 7 < x) → (x < 18 ∨ 24 < x) → J x y = I x y := fun x y p1 p2 => (x7 x y (by omega) (by omega)).trans (o1 x y (by omega) (by omega))
    have u1 : ∀ x y, (x < 5 ∨ 7 < x) → (x < 18 ∨ 24 < x) → (x ≠ 3 ∨ y ≠ 1) → (x ≠ 0 ∨ (y ≠ 6 ∧ y ≠ 7 ∧ y ≠ 8)) → (x ≠ 26 ∨ y ≠ 4) → (x ≠ 9 ∨ y ≠ 1) → I1 x y = I x y := fun x y p1 p2 p3 p4 p5 p6 => (uJ x y p3 p4 p5 p6).trans (oJ x y p1 p2)
    have oL : ∀ x y, x ≠ 8 → x ≠ 20 → M x y = L x y := fun x y p1 p2 => (x8 x y (by omega)).trans (o2 x y p1)
    obtain ⟨J2, y1, y2, y3, y4, y5, y6, y7, y8, y9⟩ := hm (sgI I1) (sgL M) (fun b => by rw [sgI_o (by omega)]; exact u1 _ _ (by omega) (by omega) (by omega) (by omega) (by omega) (by omega)) (by rw [sgI_o (by omega)]; exact u1 _ _ (by omega) (by omega) (by omega) (by omega) (by omega) (by omega))
    have y1 : zcall zZ nX10_desk [.ref 52] (hp (sgI I1) (sgL M)) = some (some (.int (nI ln')), hp J2 (sgL M)) := y1
    have o : ∀ x y, (x < 5 ∨ 7 < x) → (x < 11 ∨ 24 < x) → (x ≠ 3 ∨ y ≠ 1) → (x ≠ 0 ∨ (y ≠ 6 ∧ y ≠ 7 ∧ y ≠ 8)) → (x ≠ 26 ∨ y ≠ 4) → (x ≠ 9 ∨ y ≠ 1) → x ≠ 53 → x ≠ 54 → (x ≠ 52 ∨ (y < 5 ∧ y ≠ 3) ∨ (16 < y ∧ y ≠ 43)) → J2 x y = I x y := fun x y p1 p2 p3 p4 p5 p6 p7 p8 p9 => by
      rw [y9 x y p7 p8 p9, sgI_o p2]
      exact u1 x y p1 (by omega) p3 p4 p5 p6
    have dx : ∀ x y, 11 ≤ x → x ≤ 17 → J2 x y = J (x + 7) y := fun x y p1 p2 => by
      rw [y9 x y (by omega) (by omega) (by omega), sgI_x ⟨p1, p2⟩]
      exact uJ _ _ (by omega) (by omega) (by omega) (by omega)
    have x5' := x5
    obtain ⟨⟨c1, c2, c3, c4, c5⟩, c6, c7, c8, c9⟩ := x5'
    have y7' := y7
    obtain ⟨⟨m1, m2, m3, m4, m5⟩, m7, m8, m9⟩ := y7'
    have y8' := y8
    obtain ⟨p1, p2, p3, p4, p5, p6, p7, p8, p9⟩ := y8'
    have hNM : ∀ f, f < F' → NM J2 (sgL M) f (nm f) := fun f hf => by
      obtain ⟨v1, v2, v3⟩ := p7 f hf
      obtain ⟨n1, n2, n3⟩ := m7 f hf
      refine ⟨v1, v2, v3, n2, fun i hi => (n3 i hi).2, ?_⟩
      rw [sgL_x (by omega)]
      exact (c7 f hf).2.2
    refine ⟨.int (nI ln'), I1, M, J2, sgL M, ?_, y1, N', w', F', T', ln', 0, 0, ⟨?_, ⟨by omega, ?_, y2, fun i hi => by omega⟩, ⟨by omega, ?_, y5, fun a t ha => by omega⟩, ?_, ?_⟩, ?_, ?_, ?_, ⟨nm, hNM, p6⟩, ?_, ?_⟩
    · have c5 : J 18 10 = nI ln' := c5
      simp (disch := omega) only [c_X9_desk, e_X9_desk_0, e_X9_desk_15, e_X9_desk_66, e_X9_desk_82, c_X2_work, e_X2_work_0, x1, zu_same, zu_cell, zu_at, q1000000, q0, q1, q2, q3, q4, q5, q6, q7, q8, q9, q10, q11, q12, q13, q14, q15, q16, q18, q19, q20, q21, q22, q23, q24, q25, q26, q27, q28, q29, q30, q31, q32, q38, q44, q45, q48, q57, q58, q59, q60, q63, q64, q97, q122, q126, q127, q128, q255, q256, q300, q580, q600, q1000, c5, ← hI1, Option.bind_some, Option.toList_some, Option.toList_none, List.cons_append, List.nil_append, Option.map_some, cond_true, cond_false, Bool.not_true, Bool.not_false, Bool.true_and, Bool.and_true, Bool.false_and, Bool.and_false, Bool.true_or, Bool.or_true, Bool.false_or, Bool.or_false, Bool.not_not, decide_true, decide_false, Bool.decide_eq_true, Bool.decide_eq_false, qz_0, qz_1, qz_n, qz_n0, qz_n1, qz_t, qz_f, Nat.reduceAdd, q1000000, q0, q1, q2, q3, q4, q5, q6, q7, q8, q9, q10, q11, q12, q13, q14, q15, q16, q18, q19, q20, q21, q22, q23, q24, q25, q26, q27, q28, q29, q30, q31, q32, q38, q44, q45, q48, q57, q58, q59, q60, q63, q64, q97, q122, q126, q127, q128, q255, q256, q300, q580, q600, q1000, nI_add, q_lt_t, q_lt_f, q_eq_t, q_eq_f, q_clamp, q_in_t, q_in_f]
      rfl
    · refine ⟨⟨by omega, by omega, by omega, by omega, by omega, by omega, by omega⟩, ⟨(dx _ _ (by omega) (by omega)).trans c1, (dx _ _ (by omega) (by omega)).trans c2, (dx _ _ (by omega) (by omega)).trans c3, (dx _ _ (by omega) (by omega)).trans c4, (dx _ _ (by omega) (by omega)).trans c5⟩, ⟨m1, m2, m3, m4, m5⟩, fun f hf => ?_, fun t ht => ?_, fun q P hP => (dx _ _ (by omega) (by omega)).trans (c6 q P hP), fun f hf => ⟨nm f, hNM f hf⟩⟩
      · have e : J2 14 f = fd f := (dx _ _ (by omega) (by omega)).trans (c8 f hf)
        rw [e]
        exact ⟨m8 f hf, p8 f hf⟩
      · have e15 : J2 15 t = ro t := (dx _ _ (by omega) (by omega)).trans (c9 t ht).1
        have e16 : J2 16 t = mi t := (dx _ _ (by omega) (by omega)).trans (c9 t ht).2.1
        have e17 : J2 17 t = ru t := (dx _ _ (by omega) (by omega)).trans (c9 t ht).2.2
        rw [e15, e16, e17]
        exact ⟨(m9 t ht).1, (m9 t ht).2.1, (m9 t ht).2.2, p9 t ht⟩
    · rw [y9 _ _ (by omega) (by omega) (by omega), sgI_o (by omega), hI1, upc (by omega), upc (by omega), upc (by omega), upc (by omega), upc (by omega), zu_same]
    · rw [y9 _ _ (by omega) (by omega) (by omega), sgI_o (by omega), hI1, upc (by omega), zu_same]
    · refine ⟨?_, ?_⟩
      · rw [y3, y9 _ _ (by omega) (by omega) (by omega), sgI_o (by omega), hI1, upc (by omega), upc (by omega), upc (by omega), upc (by omega), zu_same]
        exact x2.symm
      · rw [y4, y9 _ _ (by omega) (by omega) (by omega), sgI_o (by omega), hI1, upc (by omega), upc (by omega), upc (by omega), zu_same]
        exact x3.symm
    · have t0 : ∀ b, 9 ≤ b → J2 0 b = I 0 b := fun b hb => o _ _ (by omega) (by omega) (by omega) (by omega) (by omega) (by omega) (by omega) (by omega) (by omega)
      have t5 : ∀ b, 44 ≤ b → J2 52 b = I 52 b := fun b hb => o _ _ (by omega) (by omega) (by omega) (by omega) (by omega) (by omega) (by omega) (by omega) (by omega)
      have t8 : J2 0 8 = nI 0 := by
        rw [y9 _ _ (by omega) (by omega) (by omega), sgI_o (by omega), hI1, zu_same]
      unfold TO
      rw [t8, y6]
      exact ⟨rfl, Or.inl rfl⟩
    · exact hK.cg (fun b => o _ _ (by omega) (by omega) (by omega) (by omega) (by omega) (by omega) (by omega) (by omega) (by omega)) (fun b => o _ _ (by omega) (by omega) (by omega) (by omega) (by omega) (by omega) (by omega) (by omega) (by omega)) (fun b => o _ _ (by omega) (by omega) (by omega) (by omega) (by omega) (by omega) (by omega) (by omega) (by omega))
    · exact fun k hk => by
        rw [sgL_o (by omega)]
        exact (oL _ _ (by omega) (by omega)).trans (hL k hk)
    · left
      rw [y9 _ _ (by omega) (by omega) (by omega), sgI_o (by omega), hI1, upc (by omega), upc (by omega), zu_same]
    · rw [dx _ _ (by omega) (by omega)]
      exact x4
    · rw [y9 _ _ (by omega) (by omega) (by omega), sgI_y (by omega), u1 _ _ (by omega) (by omega) (by omega) (by omega) (by omega) (by omega)]
      exact hz.1
