/-! the class finds words -/
def clr (I : zI) (T : Int32) : zI := zup (zup (zup (zup (zup (zup (zup (zup I 26 4 (nI 1)) 26 5 T) 26 8 (nI 0)) 26 9 (nI 0)) 26 10 (nI 0)) 26 11 (nI 0)) 26 12 (nI 0)) 26 13 (nI 0)
theorem clr_o (I : zI) (T : Int32) {x y : Nat} (h : x ≠ 26) : clr I T x y = I x y := by
  unfold clr
  rw [zu_cell h, zu_cell h, zu_cell h, zu_cell h, zu_cell h, zu_cell h, zu_cell h, zu_cell h]
theorem clr_4 (I : zI) (T : Int32) : clr I T 26 4 = nI 1 ∧ clr I T 26 5 = T ∧ clr I T 26 8 = nI 0 ∧ clr I T 26 9 = nI 0 ∧ clr I T 26 10 = nI 0 ∧ clr I T 26 11 = nI 0 ∧ clr I T 26 12 = nI 0 ∧ clr I T 26 13 = nI 0 := by
  unfold clr
  refine ⟨?_, ?_, ?_, ?_, ?_, ?_, ?_, ?_⟩ <;> simp (disch := omega) only [zu_same, zu_at]
theorem s_clear (I : zI) (L : zL) (T : Int32) : zcall zZ nX7_clear [.ref 26, .int T] (hp I L) = some (none, hp (clr I T) L) := by
  simp (disch := omega) only [c_X7_clear, e_X7_clear_0, q1000000, q0, q1, q2, q3, q4, q5, q6, q7, q8, q9, q10, q11, q12, q13, q14, q15, q16, q18, q19, q20, q21, q22, q23, q24, q25, q26, q27, q28, q29, q30, q31, q32, q38, q44, q45, q48, q57, q58, q59, q60, q63, q64, q97, q122, q126, q127, q128, q255, q256, q300, q580, q600, q1000, Option.bind_some, Option.toList_some, Option.toList_none, List.cons_append, List.nil_append, Option.map_some, cond_true, cond_false, Bool.not_true, Bool.not_false, Bool.true_and, Bool.and_true, Bool.false_and, Bool.and_false, Bool.true_or, Bool.or_true, Bool.false_or, Bool.or_false, Bool.not_not, decide_true, decide_false, Bool.decide_eq_true, Bool.decide_eq_false, qz_0, qz_1, qz_n, qz_n0, qz_n1, qz_t, qz_f, Nat.reduceAdd]
  rfl
theorem find_0 {I : zI} {L : zL} {N w F Tn ln : Nat} (D : DK I L N w F Tn ln) (hL : LX L) (hN : N ≠ 0) : ∃ J M, zrun zZ kX2_find (26, [some (.ref 25), some (.int (nI 0))], [], hp I L, 0, 0) = some (some (.ref 26), hp J M, 0, 0) ∧ J 26 4 = nI 1 ∧ J 26 5 = nI 0 ∧ WQ J M N w F (nI 0) ∧ FV I J ∧ FVL L M := by
  have hb := D.b
  obtain ⟨k4, k5, k8, k9, k10, k11, k12, k13⟩ := clr_4 I (nI 0)
  obtain ⟨nm, hnm⟩ := D.nm
  obtain ⟨J1, hJ1⟩ : ∃ J1, J1 = zup (clr I (nI 0)) 26 6 (nI 1) := ⟨_, rfl⟩
  have o1 : ∀ x y, x ≠ 26 → J1 x y = I x y := fun x y h => by rw [hJ1, zu_cell h, clr_o _ _ h]
  have o2 : ∀ y, y ≠ 6 → J1 26 y = clr I (nI 0) 26 y := fun y h => by rw [hJ1, zu_at h]
  have D1 : DK J1 L N w F Tn ln := D.cg (fun a b p => o1 _ _ (by omega)) (fun _ => rfl)
  have e1 := s_absX D1 hN
  obtain ⟨M1, hM1⟩ : ∃ M1, M1 = zup L 26 7 (lN (1 + abN N w)) := ⟨_, rfl⟩
  have oM : ∀ x y, (x ≠ 26 ∨ y ≠ 7) → M1 x y = L x y := fun x y h => by
    rw [hM1]
    by_cases z : x = 26
    · rw [zu_at (by omega)]
    · rw [zu_cell z]
  have hLM : LX M1 := fun k hk => (oM _ _ (by omega)).trans (hL k hk)
  have hnm1 : ∀ f, f < F → NM J1 M1 f (nm f) := fun f hf => (hnm f hf).cg (fun b => o1 _ _ (by omega)) (fun b => oM _ _ (by omega))
  have hw := s_write hLM hb.1 hb.2.2.1 D1.x.1 D1.x.2.2.1 hnm1 (l := []) (by decide) ((o2 8 (by omega)).trans k8) (fun j hj => absurd hj (Nat.not_lt_zero j)) (fun p hp => by cases hp) (nf := 0) (af := 0) (by omega) (by omega) ((o2 9 (by omega)).trans k9) ((o2 10 (by omega)).trans k10) ((o2 11 (by omega)).trans k11) ((o2 12 (by omega)).trans k12) ((o2 5 (by omega)).trans k5)
  have ets : (if nI 0 = nI 0 then [kw 6] else []) ++ txT N F nm [] 0 (nI 0) 0 (nI 0) = [kw 6] := by
    rw [if_pos rfl]
    unfold txT enT
    rw [if_pos ⟨rfl, rfl⟩, if_pos ⟨rfl, rfl⟩]
    rfl
  rw [ets] at hw
  have hR : WR N w F (I 14) nm (nI 0) 1 (1 + abN N w) (0, 0) [] (nI 0) (nI 0) (tks [] [kw 6]) := ⟨by omega, Or.inl ⟨rfl, rfl, rfl, rfl, rfl, rfl, rfl, rfl⟩⟩
  obtain ⟨q13, q30⟩ := wr_x (I := J1) (ts := tks [] [kw 6]) (by decide)
  have ow : ∀ x y, x ≠ 30 → (x ≠ 26 ∨ y ≠ 13) → wr J1 (tks [] [kw 6]) x y = J1 x y := fun x y p1 p2 => wr_o _ _ p1 p2
  refine ⟨wr J1 (tks [] [kw 6]), M1, ?_, ?_, ?_, ⟨nm, 1, 1 + abN N w, (0, 0), [], nI 0, nI 0, tks [] [kw 6], fun f hf => (hnm1 f hf).cg (fun b => ow _ _ (by omega) (by omega)) (fun b => rfl), ?_, ?_⟩, fun x y p => ?_, fun x y p => oM x y (by omega)⟩
  · have hab : abN N w ≤ 7 := cnt_le _ 7
    have hl : (nI (1 + abN N w)).toInt64 = lN (1 + abN N w) := nI_l (by omega)
    rw [e_X2_find_26, s_clear]
    simp (disch := omega) only [e_X2_find_34, e_X2_find_55, e_X2_find_146, e_X2_find_161, q1000000, q0, q1, q2, q3, q4, q5, q6, q7, q8, q9, q10, q11, q12, q13, q14, q15, q16, q18, q19, q20, q21, q22, q23, q24, q25, q26, q27, q28, q29, q30, q31, q32, q38, q44, q45, q48, q57, q58, q59, q60, q63, q64, q97, q122, q126, q127, q128, q255, q256, q300, q580, q600, q1000, ← hJ1, e1, hl, ← hM1, hw, Option.bind_some, Option.toList_some, Option.toList_none, List.cons_append, List.nil_append, Option.map_some, cond_true, cond_false, Bool.not_true, Bool.not_false, Bool.true_and, Bool.and_true, Bool.false_and, Bool.and_false, Bool.true_or, Bool.or_true, Bool.false_or, Bool.or_false, Bool.not_not, decide_true, decide_false, Bool.decide_eq_true, Bool.decide_eq_false, qz_0, qz_1, qz_n, qz_n0, qz_n1, qz_t, qz_f, Nat.reduceAdd, q1000000, q0, q1, q2, q3, q4, q5, q6, q7, q8, q9, q10, q11, q12, q13, q14, q15, q16, q18, q19, q20, q21, q22, q23, q24, q25, q26, q27, q28, q29, q30, q31, q32, q38, q44, q45, q48, q57, q58, q59, q60, q63, q64, q97, q122, q126, q127, q128, q255, q256, q300, q580, q600, q1000, nI_add, q_lt_t, q_lt_f, q_eq_t, q_eq_f, q_clamp, q_in_t, q_in_f]
  · rw [ow _ _ (by omega) (by omega), o2 _ (by omega)]
    exact k4
  · rw [ow _ _ (by omega) (by omega), o2 _ (by omega)]
    exact k5
  · rw [show wr J1 (tks [] [kw 6]) 14 = I 14 from funext fun y => by rw [ow _ _ (by omega) (by omega), o1 _ _ (by omega)]]
    exact hR
  · refine ⟨?_, ?_, ?_, fun j hj => absurd hj (Nat.not_lt_zero j), ?_, ?_, ?_, ?_, q13, q30⟩
    · rw [ow _ _ (by omega) (by omega), hJ1, zu_same]
    · rw [hM1, zu_same]
    · rw [ow _ _ (by omega) (by omega), o2 _ (by omega)]
      exact k8
    · rw [ow _ _ (by omega) (by omega), o2 _ (by omega)]
      exact k9
    · rw [ow _ _ (by omega) (by omega), o2 _ (by omega)]
      exact k10
    · rw [ow _ _ (by omega) (by omega), o2 _ (by omega)]
      exact k11
    · rw [ow _ _ (by omega) (by omega), o2 _ (by omega)]
      exact k12
  · rw [ow _ _ (by omega) (by omega), o1 _ _ (by omega)]
theorem find_1 {I : zI} {L : zL} {N w F Tn ln : Nat} (D : DK I L N w F Tn ln) (hK : KC I) (hL : LX L) (hN : N ≠ 0) (T : Int32) (hT : T ≠ nI 0) (hs : sub N T) : ∃ J M, zrun zZ kX2_find (26, [some (.ref 25), some (.int T)], [], hp I L, 0, 0) = some (some (.ref 26), hp J M, 0, 0) ∧ J 26 4 = nI 1 ∧ J 26 5 = T ∧ WQ J M N w F T ∧ FV I J ∧ FVL L M := by
  have hb := D.b
  obtain ⟨k4, k5, k8, k9, k10, k11, k12, k13⟩ := clr_4 I T
  obtain ⟨nm, hnm⟩ := D.nm
  have o1 : ∀ x y, x ≠ 26 → clr I T x y = I x y := fun x y h => clr_o _ _ h
  have D1 : DK (clr I T) L N w F Tn ln := D.cg (fun a b p => o1 _ _ (by omega)) (fun _ => rfl)
  have hK1 : KC (clr I T) := hK.cg (fun b => o1 _ _ (by omega)) (fun b => o1 _ _ (by omega)) (fun b => o1 _ _ (by omega))
  obtain ⟨J2, M2, k, n, c, s1, s2, s3, s4, s5, s6, s7, s8, s9, s10⟩ := s_srch (L := L) D1 hK1 hN T true
  have e14 : clr I T 14 = I 14 := funext fun y => o1 _ _ (by omega)
  rw [e14] at s3
  obtain ⟨c1, c2⟩ := OK3_c hb.2.2.1 s3
  have p4 := pow_F hb.2.2.1
  obtain ⟨J3, hJ3⟩ : ∃ J3, J3 = zup (zup (zup J2 26 6 (nI k)) 26 9 (nI c.1)) 26 11 (nI c.2) := ⟨_, rfl⟩
  obtain ⟨M3, hM3⟩ : ∃ M3, M3 = zup M2 26 7 (lN n) := ⟨_, rfl⟩
  have o3 : ∀ x y, (x < 25 ∨ (x = 25 ∧ y < 8) ∨ (26 < x ∧ x < 35) ∨ x = 36 ∨ 52 ≤ x) → J3 x y = I x y := fun x y p => by
    rw [hJ3, zu_cell (by omega), zu_cell (by omega), zu_cell (by omega), ← o1 x y (by omega)]
    rcases Nat.lt_or_ge x 35 with q | q
    · exact s9.1 x y q (by omega)
    · exact s9.2 x y (by omega) (by omega)
  have o3b : ∀ y, y ≠ 6 → y ≠ 9 → y ≠ 11 → J3 26 y = clr I T 26 y := fun y h1 h2 h3 => by
    rw [hJ3, zu_at h3, zu_at h2, zu_at h1]
    exact s9.1 26 y (by omega) (by omega)
  have e14' : J3 14 = I 14 := funext fun y => o3 _ _ (by omega)
  have e8 : J3 25 8 = T := by
    rw [hJ3, zu_cell (by omega), zu_cell (by omega), zu_cell (by omega)]
    exact s8
  have hprep := s_prepare (I := J3) (L := M3) (F := F) (n := c.1) (a := c.2) hb.2.2.1 ((o3 _ _ (by omega)).trans D.x.2.2.1) (by omega) (by omega)
  rw [e14', e8] at hprep
  obtain ⟨J4, hJ4⟩ : ∃ J4, J4 = zup (zup (zup J3 25 9 (fdF (I 14) c.1 F)) 25 10 (waS (I 14) F T c.2)) 25 11 (nI (stF c.1 c.2)) := ⟨_, rfl⟩
  rw [← hJ4] at hprep
  have o4 : ∀ x y, (x ≠ 25 ∨ y < 9) → J4 x y = J3 x y := fun x y p => by
    rw [hJ4]
    by_cases z : x = 25
    · rw [zu_at (by omega), zu_at (by omega), zu_at (by omega)]
    · rw [zu_cell z, zu_cell z, zu_cell z]
  have hFS : FS J4 N w T (fdF (I 14) c.1 F) (waS (I 14) F T c.2) (stF c.1 c.2) := by
    refine ⟨⟨hb.1, hb.2.1, stF_lt _ _, WT_wa _ _ _ _⟩, ⟨?_, ?_, fun P hP => ?_, ?_⟩, ?_, ?_, ?_, ?_⟩
    · rw [o4 _ _ (by omega), o3 _ _ (by omega)]
      exact D.x.1
    · rw [o4 _ _ (by omega), o3 _ _ (by omega)]
      exact D.x.2.1
    · rw [o4 _ _ (by omega), o3 _ _ (by omega)]
      exact D.pd hN hP
    · exact hK.cg (fun b => by rw [o4 _ _ (by omega), o3 _ _ (by omega)]) (fun b => by rw [o4 _ _ (by omega), o3 _ _ (by omega)]) (fun b => by rw [o4 _ _ (by omega), o3 _ _ (by omega)])
    · rw [o4 _ _ (by omega)]
      exact e8
    · rw [hJ4, zu_at (by omega), zu_at (by omega), zu_same]
    · rw [hJ4, zu_at (by omega), zu_same]
    · rw [hJ4, zu_same]
  obtain ⟨J5, M5, f1, f2, f3, f4⟩ := s_fill (a := 37) (b := 37) (Or.inl ⟨rfl, rfl⟩) (bl := false) (k := 0) rfl (fun _ => rfl) hFS (fun q => absurd rfl q) (L := M3)
  have hFS5 := hFS.cgL f3 (by decide)
  have o5 : ∀ y, y ≠ 6 → y ≠ 9 → y ≠ 11 → J5 26 y = clr I T 26 y := fun y h1 h2 h3 => by rw [f3 _ _ (by omega) (by omega), o4 _ _ (by omega), o3b y h1 h2 h3]
  obtain ⟨J6, l, t1, t2, t3, t4, t5, t6, t7⟩ := s_trace (L := M5) (sub_and hs _) hs hFS5 (RW0_of f2) ((o5 8 (by omega) (by omega) (by omega)).trans k8) ((o5 10 (by omega) (by omega) (by omega)).trans k10) ((o5 12 (by omega) (by omega) (by omega)).trans k12)
  have o6 : ∀ x y, (x < 25 ∨ (x = 25 ∧ y < 8) ∨ (30 < x ∧ x < 35) ∨ x = 36 ∨ 52 ≤ x) → J6 x y = I x y := fun x y p => by
    rw [t7 x y (by omega), f3 x y (by omega) (by omega), o4 x y (by omega), o3 x y (by omega)]
  have o6b : ∀ y, y ≠ 6 → y ≠ 8 → y ≠ 9 → y ≠ 10 → y ≠ 11 → y ≠ 12 → J6 26 y = clr I T 26 y := fun y h1 h2 h3 h4 h5 h6 => by rw [t7 _ _ (by omega), o5 y h1 h3 h5]
  have oM : ∀ x y, (x < 25 ∨ (x = 25 ∧ y ≠ 13) ∨ (x = 26 ∧ y ≠ 7) ∨ (26 < x ∧ x < 37) ∨ 52 ≤ x) → M5 x y = L x y := fun x y p => by
    rw [f4 x y (by omega), hM3]
    have : zup M2 26 7 (lN n) x y = M2 x y := by
      by_cases z : x = 26
      · exact zu_at (by omega)
      · exact zu_cell z
    rw [this]
    exact s10 x y (by omega) (by omega)
  have v6 : J6 26 6 = nI k := by rw [t7 _ _ (by omega), f3 _ _ (by omega) (by omega), o4 _ _ (by omega), hJ3, zu_at (by omega), zu_at (by omega), zu_same]
  have v9 : J6 26 9 = nI c.1 := by rw [t7 _ _ (by omega), f3 _ _ (by omega) (by omega), o4 _ _ (by omega), hJ3, zu_at (by omega), zu_same]
  have v11 : J6 26 11 = nI c.2 := by rw [t7 _ _ (by omega), f3 _ _ (by omega) (by omega), o4 _ _ (by omega), hJ3, zu_same]
  have vM : M5 26 7 = lN n := by rw [f4 _ _ (by omega), hM3, zu_same]
  have hlen := PL_len N 0 _ l t2
  have hLM : LX M5 := fun k hk => (oM _ _ (by omega)).trans (hL k hk)
  have hnm1 : ∀ f, f < F → NM J6 M5 f (nm f) := fun f hf => (hnm f hf).cg (fun b => o6 _ _ (by omega)) (fun b => oM _ _ (by omega))
  have v5 := (o6b 5 (by omega) (by omega) (by omega) (by omega) (by omega) (by omega)).trans k5
  have hw := s_write hLM hb.1 hb.2.2.1 ((o6 _ _ (by omega)).trans D.x.1) ((o6 _ _ (by omega)).trans D.x.2.2.1) hnm1 (l := l) (by omega) t3 t4 (fun p hp => by
    have := PL_from N 0 _ l t2 p hp
    omega) (nf := c.1) (af := c.2) (by omega) (by omega) v9 rfl v11 rfl v5
  rw [if_neg hT, List.nil_append] at hw
  have hR : WR N w F (I 14) nm T k n c l (J6 26 10) (J6 26 12) (tks [] (txT N F nm l c.1 (J6 26 10) c.2 (J6 26 12))) := ⟨s2, Or.inr ⟨hT, s3, t2, t5, t6, rfl⟩⟩
  have hlen300 := WR_len hb.1 hb.2.2.1 (fun f hf => (hnm f hf).2.1) hR
  obtain ⟨ts, hts⟩ : ∃ ts, ts = tks [] (txT N F nm l c.1 (J6 26 10) c.2 (J6 26 12)) := ⟨_, rfl⟩
  rw [← hts] at hw hR hlen300
  obtain ⟨q13, q30⟩ := wr_x (I := J6) hlen300
  have ow : ∀ x y, x ≠ 30 → (x ≠ 26 ∨ y ≠ 13) → wr J6 ts x y = J6 x y := fun x y p1 p2 => wr_o _ _ p1 p2
  refine ⟨wr J6 ts, M5, ?_, ?_, ?_, ⟨nm, k, n, c, l, J6 26 10, J6 26 12, ts, fun f hf => (hnm1 f hf).cg (fun b => ow _ _ (by omega) (by omega)) (fun b => rfl), ?_, ?_⟩, fun x y p => ?_, fun x y p => oM x y (by omega)⟩
  · have hT' : (T = nI 0) = False := eq_false hT
    have s1 : zcall zZ nX2_search [.ref 25, .int T, .int (-nI 1), .int (nI 1)] (hp (clr I T) L) = _ := s1
    rw [e_X2_find_26, s_clear]
    simp (disch := omega) only [e_X2_find_34, e_X2_find_70, e_X2_find_126, e_X2_find_142, e_X2_find_146, e_X2_find_161, hT', s1, s4, s5, s6, s7, ← hJ3, ← hM3, hprep, f1, t1, hw, Option.bind_some, Option.toList_some, Option.toList_none, List.cons_append, List.nil_append, Option.map_some, cond_true, cond_false, Bool.not_true, Bool.not_false, Bool.true_and, Bool.and_true, Bool.false_and, Bool.and_false, Bool.true_or, Bool.or_true, Bool.false_or, Bool.or_false, Bool.not_not, decide_true, decide_false, Bool.decide_eq_true, Bool.decide_eq_false, qz_0, qz_1, qz_n, qz_n0, qz_n1, qz_t, qz_f, Nat.reduceAdd, q1000000, q0, q1, q2, q3, q4, q5, q6, q7, q8, q9, q10, q11, q12, q13, q14, q15, q16, q18, q19, q20, q21, q22, q23, q24, q25, q26, q27, q28, q29, q30, q31, q32, q38, q44, q45, q48, q57, q58, q59, q60, q63, q64, q97, q122, q126, q127, q128, q255, q256, q300, q580, q600, q1000]
  · rw [ow _ _ (by omega) (by omega), o6b _ (by omega) (by omega) (by omega) (by omega) (by omega) (by omega)]
    exact k4
  · rw [ow _ _ (by omega) (by omega)]
    exact v5
  · rw [show wr J6 ts 14 = I 14 from funext fun y => by rw [ow _ _ (by omega) (by omega), o6 _ _ (by omega)]]
    exact hR
  · refine ⟨?_, vM, ?_, fun j hj => ?_, ?_, ?_, ?_, ?_, q13, q30⟩
    · rw [ow _ _ (by omega) (by omega)]
      exact v6
    · rw [ow _ _ (by omega) (by omega)]
      exact t3
    · rw [ow _ _ (by omega) (by omega), ow _ _ (by omega) (by omega), ow _ _ (by omega) (by omega)]
      exact t4 j hj
    · rw [ow _ _ (by omega) (by omega)]
      exact v9
    · rw [ow _ _ (by omega) (by omega)]
    · rw [ow _ _ (by omega) (by omega)]
      exact v11
    · rw [ow _ _ (by omega) (by omega)]
  · rw [ow _ _ (by omega) (by omega), o6 _ _ (by omega)]
theorem s_find {I : zI} {L : zL} {N w F Tn ln : Nat} (D : DK I L N w F Tn ln) (hK : KC I) (hL : LX L) (hC : WC I L N w F) (hN : N ≠ 0) (T : Int32) (hs : sub N T) : ∃ J M, zcall zZ nX2_find [.ref 25, .int T] (hp I L) = some (some (.ref 26), hp J M) ∧ J 26 4 = nI 1 ∧ J 26 5 = T ∧ WQ J M N w F T ∧ FV I J ∧ FVL L M := by
  have fresh : ∃ J M, zrun zZ kX2_find (26, [some (.ref 25), some (.int T)], [], hp I L, 0, 0) = some (some (.ref 26), hp J M, 0, 0) ∧ J 26 4 = nI 1 ∧ J 26 5 = T ∧ WQ J M N w F T ∧ FV I J ∧ FVL L M := by
    by_cases z : T = nI 0
    · subst z
      exact find_0 D hL hN
    · exact find_1 D hK hL hN T z hs
  have go : (I 26 4 = nI 0 ∨ (I 26 4 = nI 1 ∧ I 26 5 ≠ T)) → ∃ J M, zcall zZ nX2_find [.ref 25, .int T] (hp I L) = some (some (.ref 26), hp J M) ∧ J 26 4 = nI 1 ∧ J 26 5 = T ∧ WQ J M N w F T ∧ FV I J ∧ FVL L M := fun h => by
    obtain ⟨J, M, g1, g2⟩ := fresh
    refine ⟨J, M, ?_, g2⟩
    rcases h with h | ⟨h, h'⟩
    · simp (disch := omega) only [c_X2_find, e_X2_find_0, h, g1, Option.bind_some, Option.toList_some, Option.toList_none, List.cons_append, List.nil_append, Option.map_some, cond_true, cond_false, Bool.not_true, Bool.not_false, Bool.true_and, Bool.and_true, Bool.false_and, Bool.and_false, Bool.true_or, Bool.or_true, Bool.false_or, Bool.or_false, Bool.not_not, decide_true, decide_false, Bool.decide_eq_true, Bool.decide_eq_false, qz_0, qz_1, qz_n, qz_n0, qz_n1, qz_t, qz_f, Nat.reduceAdd, q1000000, q0, q1, q2, q3, q4, q5, q6, q7, q8, q9, q10, q11, q12, q13, q14, q15, q16, q18, q19, q20, q21, q22, q23, q24, q25, q26, q27, q28, q29, q30, q31, q32, q38, q44, q45, q48, q57, q58, q59, q60, q63, q64, q97, q122, q126, q127, q128, q255, q256, q300, q580, q600, q1000, nI_add, q_lt_t, q_lt_f, q_eq_t, q_eq_f, q_clamp, q_in_t, q_in_f]
    · simp (disch := omega) only [c_X2_find, e_X2_find_0, h, h', g1, Option.bind_some, Option.toList_some, Option.toList_none, List.cons_append, List.nil_append, Option.map_some, cond_true, cond_false, Bool.not_true, Bool.not_false, Bool.true_and, Bool.and_true, Bool.false_and, Bool.and_false, Bool.true_or, Bool.or_true, Bool.false_or, Bool.or_false, Bool.not_not, decide_true, decide_false, Bool.decide_eq_true, Bool.decide_eq_false, qz_0, qz_1, qz_n, qz_n0, qz_n1, qz_t, qz_f, Nat.reduceAdd, q1000000, q0, q1, q2, q3, q4, q5, q6, q7, q8, q9, q10, q11, q12, q13, q14, q15, q16, q18, q19, q20, q21, q22, q23, q24, q25, q26, q27, q28, q29, q30, q31, q32, q38, q44, q45, q48, q57, q58, q59, q60, q63, q64, q97, q122, q126, q127, q128, q255, q256, q300, q580, q600, q1000, nI_add, q_lt_t, q_lt_f, q_eq_t, q_eq_f, q_clamp, q_in_t, q_in_f]
  rcases hC with h | ⟨h, hq⟩
  · exact go (Or.inl h)
  · by_cases z : I 26 5 = T
    · rw [z] at hq
      refine ⟨I, L, ?_, h, z, hq, FV.refl I, FVL.refl L⟩
      simp (disch := omega) only [c_X2_find, e_X2_find_0, h, z, Option.bind_some, Option.toList_some, Option.toList_none, List.cons_append, List.nil_append, Option.map_some, cond_true, cond_false, Bool.not_true, Bool.not_false, Bool.true_and, Bool.and_true, Bool.false_and, Bool.and_false, Bool.true_or, Bool.or_true, Bool.false_or, Bool.or_false, Bool.not_not, decide_true, decide_false, Bool.decide_eq_true, Bool.decide_eq_false, qz_0, qz_1, qz_n, qz_n0, qz_n1, qz_t, qz_f, Nat.reduceAdd, q1000000, q0, q1, q2, q3, q4, q5, q6, q7, q8, q9, q10, q11, q12, q13, q14, q15, q16, q18, q19, q20, q21, q22, q23, q24, q25, q26, q27, q28, q29, q30, q31, q32, q38, q44, q45, q48, q57, q58, q59, q60, q63, q64, q97, q122, q126, q127, q128, q255, q256, q300, q580, q600, q1000, nI_add, q_lt_t, q_lt_f, q_eq_t, q_eq_f, q_clamp, q_in_t, q_in_f]
    · exact go (Or.inr ⟨h, z⟩)
