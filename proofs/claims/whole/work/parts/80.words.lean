/-! the reference, for words that are right -/
def FC2 (I J : zI) : Prop := ∀ x y, (x < 52 ∨ (x = 52 ∧ (y < 17 ∨ 43 ≤ y)) ∨ (53 ≤ x ∧ x ≤ 56) ∨ 68 ≤ x) → J x y = I x y
theorem FCH.c2 {I J : zI} (h : FCH I J) : FC2 I J := fun x y p => h x y (by omega) (by omega) (by omega) (by omega) (by omega) (by omega) (by omega) (by omega) (by omega) (by omega)
theorem FM.c2 {I J : zI} (h : FM I J) : FC2 I J := fun x y p => h x y (by omega) (by omega) (by omega) (by omega) (by omega)
theorem FC2.fv {I J : zI} (h : FC2 I J) : FV I J := fun x y p => h x y (by omega)
theorem FML.fv {I J : zL} (h : FML I J) : FVL I J := h.fu.fv
theorem FC2.trans {I J K : zI} (h : FC2 I J) (h2 : FC2 J K) : FC2 I K := fun x y p => (h2 x y p).trans (h x y p)
theorem WC.c2 {I J : zI} {L M : zL} {N w F : Nat} (h : WC I L N w F) (h1 : FC2 I J) (h2 : FML L M) : WC J M N w F := h.cg (fun b => h1 _ _ (by omega)) (fun b => h1 _ _ (by omega)) (fun a b p q => h1 _ _ (by omega)) (fun b => h2 _ _ (by omega) (by omega)) (h2 _ _ (by omega) (by omega))
theorem s_choose2 {I : zI} {L : zL} {N w F : Nat} {fd : Nat → Int32} (hb : N ≤ 28 ∧ w < 7 ∧ F ≤ 2) (hm : I 53 0 = nI N ∧ I 53 1 = nI w ∧ I 53 2 = nI F ∧ (∀ f, f < F → I 53 (6 + f) = fd f)) {nm : Nat → List Nat} {T : Int32} {k n : Nat} {c : Nat × Nat} {l : List (Nat × Nat × Nat)} {D1 D2 : Int32} {ts : List Nat} (h : WR N w F fd nm T k n c l D1 D2 ts) : ∃ J M, zcall zZ nX10_chooses [.ref 52, .int T] (hp I L) = some (some (.int (nI k)), hp J M) ∧ J 52 33 = nI l.length ∧ WL 63 64 65 J 0 l ∧ J 52 34 = nI c.1 ∧ J 52 35 = nI c.2 ∧ J 52 36 = D1 ∧ J 52 37 = D2 ∧ FCH I J ∧ FML L M := by
  obtain ⟨hk, h⟩ := h
  rcases h with ⟨rfl, rfl, rfl, rfl, rfl, rfl, rfl, rfl⟩ | ⟨h0, h1, h2, h3, h4, rfl⟩
  · obtain ⟨J, M, g1, g2, g3, g4, g5, g6⟩ := s_sol0 (L := L) hb.1 hb.2.1 hm.1 hm.2.1 (nI 1)
    refine ⟨zup (zup (zup (zup (zup J 52 33 (nI 0)) 52 36 (nI 0)) 52 37 (nI 0)) 52 34 (nI 0)) 52 35 (nI 0), M, ?_, ?_, fun j hj => absurd hj (Nat.not_lt_zero j), ?_, ?_, ?_, ?_, fun x y p1 p2 p3 p4 p5 p6 p7 p8 p9 p10 => ?_, g6⟩
    · simp (disch := omega) only [c_X10_chooses, e_X10_chooses_0, e_X10_chooses_6, q1000000, q0, q1, q2, q3, q4, q5, q6, q7, q8, q9, q10, q11, q12, q13, q14, q15, q16, q18, q19, q20, q21, q22, q23, q24, q25, q26, q27, q28, q29, q30, q31, q32, q38, q44, q45, q48, q57, q58, q59, q60, q63, q64, q97, q122, q126, q127, q128, q255, q256, q300, q580, q600, q1000, g1, g3, g4, Option.bind_some, Option.toList_some, Option.toList_none, List.cons_append, List.nil_append, Option.map_some, cond_true, cond_false, Bool.not_true, Bool.not_false, Bool.true_and, Bool.and_true, Bool.false_and, Bool.and_false, Bool.true_or, Bool.or_true, Bool.false_or, Bool.or_false, Bool.not_not, decide_true, decide_false, Bool.decide_eq_true, Bool.decide_eq_false, qz_0, qz_1, qz_n, qz_n0, qz_n1, qz_t, qz_f, Nat.reduceAdd]
    · simp (disch := omega) only [zu_same, zu_at]
      rfl
    · simp (disch := omega) only [zu_same, zu_at]
    · simp (disch := omega) only [zu_same]
    · simp (disch := omega) only [zu_same, zu_at]
    · simp (disch := omega) only [zu_same, zu_at]
    · rw [← g5 x y p1 p2 p3 p4 (by omega)]
      by_cases z : x = 52
      · rw [zu_at (by omega), zu_at (by omega), zu_at (by omega), zu_at (by omega), zu_at (by omega)]
      · rw [zu_cell z, zu_cell z, zu_cell z, zu_cell z, zu_cell z]
  · obtain ⟨J, M, l', g1, g2, g3, g4, g5, g6, g7, g8, g9, g10⟩ := s_chooses (L := L) hb hm T h0 hk h1
    obtain rfl := PL_uniq _ _ _ _ _ _ g2 h2
    exact ⟨J, M, g1, g3, g4, g5, g6, b_ext (fun i hi => by rw [g7 i hi, h3 i hi]), b_ext (fun i hi => by rw [g8 i hi, h4 i hi]), g9, g10⟩
theorem s_solve2 {I : zI} {L : zL} {N w F : Nat} {fd : Nat → Int32} (hb : N ≤ 28 ∧ w < 7 ∧ F ≤ 2) (hm : I 53 0 = nI N ∧ I 53 1 = nI w ∧ I 53 2 = nI F ∧ (∀ f, f < F → I 53 (6 + f) = fd f)) {nm : Nat → List Nat} {T : Int32} {k n : Nat} {c : Nat × Nat} {l : List (Nat × Nat × Nat)} {D1 D2 : Int32} {ts : List Nat} (h : WR N w F fd nm T k n c l D1 D2 ts) : ∃ J M, zcall zZ nX10_solves [.ref 52, .int T, .int (nI 1)] (hp I L) = some (some (.int (nI k)), hp J M) ∧ M 52 27 = lN n ∧ FM I J ∧ FML L M := by
  obtain ⟨hk, h⟩ := h
  rcases h with ⟨rfl, rfl, rfl, rfl, rfl, rfl, rfl, rfl⟩ | ⟨h0, h1, h2, h3, h4, rfl⟩
  · obtain ⟨J, M, g1, g2, -, -, g5, g6⟩ := s_sol0 (L := L) hb.1 hb.2.1 hm.1 hm.2.1 (nI 1)
    exact ⟨J, M, g1, g2, g5, g6⟩
  · obtain ⟨J, M, g1, -, g3, -, -, -, g7, g8⟩ := s_solM (L := L) hb hm T h0 true hk h1
    exact ⟨J, M, g1, g3, g7, g8⟩
theorem ws_nil (J : zI) (w : Int32) : zup (zup (zup J 52 40 (nI 0)) 52 41 w) 52 42 (-nI 1) = ws (zup J 52 41 w) w [] := by
  funext x y
  by_cases z : x = 52
  · subst z
    rw [zu_if, zu_if, zu_if]
    by_cases z1 : y = 42
    · rw [if_pos z1, z1, ws_42]
      rfl
    · rw [if_neg z1]
      by_cases z2 : y = 41
      · rw [if_pos z2, ws_o _ _ _ (by omega), z2, zu_same]
      · rw [if_neg z2]
        by_cases z3 : y = 40
        · rw [if_pos z3, z3, ws_40]
          rfl
        · rw [if_neg z3, ws_o _ _ _ (by omega), zu_at z2]
  · rw [zu_cell z, zu_cell z, zu_cell z, ws_o _ _ _ (by omega), zu_cell z]
theorem s_writes2 {I : zI} {L : zL} {N w F : Nat} {fd : Nat → Int32} (hb : N ≤ 28 ∧ w < 7 ∧ F ≤ 2) (hm : I 53 0 = nI N ∧ I 53 1 = nI w ∧ I 53 2 = nI F ∧ (∀ f, f < F → I 53 (6 + f) = fd f)) {nm : Nat → List Nat} (hnm : ∀ f, f < F → NM I L f (nm f)) {T : Int32} {k n : Nat} {c : Nat × Nat} {l : List (Nat × Nat × Nat)} {D1 D2 : Int32} {ts : List Nat} (h : WR N w F fd nm T k n c l D1 D2 ts) {j : Nat} (hr : ∀ J M, FC2 I J → FML L M → zcall zZ nX10_runsOf [.ref 52, .int (nI j)] (hp J M) = some (some (.int T), hp J M)) (x : Int32) : ∃ J M, zcall zZ nX10_writes [.ref 52, .int (nI j), .int x] (hp I L) = some (none, hp J M) ∧ J 52 40 = nI ts.length ∧ J 52 42 = fdS x ts ∧ FC2 I J ∧ FML L M := by
  obtain ⟨J, M, g1, g2, g3, g4, g5, g6, g7, g8, g9⟩ := s_choose2 (L := L) hb hm h
  have r0 := hr I L (fun _ _ _ => rfl) (FML.refl L)
  obtain ⟨K, hK⟩ : ∃ K, K = zup J 52 41 x := ⟨_, rfl⟩
  have oK : ∀ a b, (a ≠ 52 ∨ b ≠ 41) → K a b = J a b := fun a b p => by
    rw [hK]
    by_cases z : a = 52
    · rw [zu_at (by omega)]
    · rw [zu_cell z]
  have h41 : K 52 41 = x := by rw [hK, zu_same]
  have fc : ∀ us, FC2 I (ws K x us) := fun us a b p => by rw [ws_o _ _ _ (by omega), oK _ _ (by omega), g8.c2 a b p]
  have r1 := hr (ws K x []) M (fc []) g9
  have start : zcall zZ nX10_writes [.ref 52, .int (nI j), .int x] (hp I L) = (zrun zZ kX10_writes (30, [some (.ref 52), none, none, none], [.int T], hp (ws K x []) M, 0, 0)).map (fun r => (r.1, r.2.1)) := by
    rw [c_X10_writes, e_X10_writes_0, r0]
    simp (disch := omega) only [e_X10_writes_6, e_X10_writes_9, g1, q1000000, q0, q1, q2, q3, q4, q5, q6, q7, q8, q9, q10, q11, q12, q13, q14, q15, q16, q18, q19, q20, q21, q22, q23, q24, q25, q26, q27, q28, q29, q30, q31, q32, q38, q44, q45, q48, q57, q58, q59, q60, q63, q64, q97, q122, q126, q127, q128, q255, q256, q300, q580, q600, q1000, ws_nil, ← hK, r1, Option.bind_some, Option.toList_some, Option.toList_none, List.cons_append, List.nil_append, Option.map_some, cond_true, cond_false, Bool.not_true, Bool.not_false, Bool.true_and, Bool.and_true, Bool.false_and, Bool.and_false, Bool.true_or, Bool.or_true, Bool.false_or, Bool.or_false, Bool.not_not, decide_true, decide_false, Bool.decide_eq_true, Bool.decide_eq_false, qz_0, qz_1, qz_n, qz_n0, qz_n1, qz_t, qz_f, Nat.reduceAdd]
  have fin : ∃ J' : zI, zrun zZ kX10_writes (30, [some (.ref 52), none, none, none], [.int T], hp (ws K x []) M, 0, 0) = some (none, hp (ws K x ts) M, 0, 0) := by
    refine ⟨K, ?_⟩
    obtain ⟨hk, hc⟩ := h
    rcases hc with ⟨rfl, rfl, rfl, rfl, rfl, rfl, rfl, rfl⟩ | ⟨h0, h1, h2, h3, h4, rfl⟩
    · have := s_says h41 M [] (by decide) (k := 6) (by omega)
      rw [e_X10_writes_30]
      simp (disch := omega) only [e_X10_writes_39, this, Option.bind_some, Option.toList_some, Option.toList_none, List.cons_append, List.nil_append, Option.map_some, cond_true, cond_false, Bool.not_true, Bool.not_false, Bool.true_and, Bool.and_true, Bool.false_and, Bool.and_false, Bool.true_or, Bool.or_true, Bool.false_or, Bool.or_false, Bool.not_not, decide_true, decide_false, Bool.decide_eq_true, Bool.decide_eq_false, qz_0, qz_1, qz_n, qz_n0, qz_n1, qz_t, qz_f, Nat.reduceAdd, q1000000, q0, q1, q2, q3, q4, q5, q6, q7, q8, q9, q10, q11, q12, q13, q14, q15, q16, q18, q19, q20, q21, q22, q23, q24, q25, q26, q27, q28, q29, q30, q31, q32, q38, q44, q45, q48, q57, q58, q59, q60, q63, q64, q97, q122, q126, q127, q128, q255, q256, q300, q580, q600, q1000, nI_add, q_lt_t, q_lt_f, q_eq_t, q_eq_f, q_clamp, q_in_t, q_in_f]
      rfl
    · have h0' : (T = nI 0) = False := eq_false h0
      have hlen := PL_len N 0 _ l h2
      obtain ⟨c1, c2⟩ := OK3_c hb.2.2 h1
      obtain ⟨pc, pv⟩ := PL_cost N 0 _ l h2 (by omega)
      have kl := kU_le (w := w) (T := T) (H := fdF fd c.1 F) (W := waS fd F T c.2) hb.1 0 (stF c.1 c.2)
      have l1 := tks_le (spsT N l) [] pv
      have e0 : ([] : List Nat).length = 0 := rfl
      have k0 : K 53 0 = nI N := (oK _ _ (by omega)).trans ((g8.c2 _ _ (by omega)).trans hm.1)
      have k33 : K 52 33 = nI l.length := (oK _ _ (by omega)).trans g2
      have hnmK : ∀ f, f < F → NM K M f (nm f) := fun f hf => (hnm f hf).cg (fun b => (oK _ _ (by omega)).trans (g8.c2 _ _ (by omega))) (fun b => g9 _ _ (by omega) (by omega))
      have lp := wy_loop h41 (L := M) hb.1 k0 (by omega) k33 l 0 [] (by omega) (fun j hj => by
        rw [oK _ _ (by omega), oK _ _ (by omega), oK _ _ (by omega)]
        exact g3 j hj) (fun p hp => by
        have := PL_from N 0 _ l h2 p hp
        omega) (by omega)
      have s10 := s_saysEntries h41 (L := M) hb.1 hb.2.2 k0 hnmK (k := 10) (by omega) c1 D1 (tks [] (spsT N l)) (by omega)
      have le10 := enT_le N nm 10 hb.2.2 c1 D1
      have ln10 := tks_le (enT N F nm 10 c.1 D1) (tks [] (spsT N l)) (enT_v (by omega) (fun f hf => (hnm f hf).2.1))
      have cl : cnt (fun j => bt D1 (0 + j)) N ≤ N := cnt_le _ _
      have pp := pc2_le c.1 (by have := pow_F hb.2.2; omega)
      have s11 := s_saysEntries h41 (L := M) hb.1 hb.2.2 k0 hnmK (k := 11) (by omega) c2 D2 (tks (tks [] (spsT N l)) (enT N F nm 10 c.1 D1)) (by omega)
      have w34 := fun us => (ws_o K x us (o := 52) (k := 34) (by omega)).trans ((oK _ _ (by omega)).trans g4)
      have w35 := fun us => (ws_o K x us (o := 52) (k := 35) (by omega)).trans ((oK _ _ (by omega)).trans g5)
      have w36 := fun us => (ws_o K x us (o := 52) (k := 36) (by omega)).trans ((oK _ _ (by omega)).trans g6)
      have w37 := fun us => (ws_o K x us (o := 52) (k := 37) (by omega)).trans ((oK _ _ (by omega)).trans g7)
      have w33 := fun us => (ws_o K x us (o := 52) (k := 33) (by omega)).trans k33
      unfold txT
      rw [tks_app, tks_app, e_X10_writes_30]
      simp (disch := omega) only [h0', Option.bind_some, Option.toList_some, Option.toList_none, List.cons_append, List.nil_append, Option.map_some, cond_true, cond_false, Bool.not_true, Bool.not_false, Bool.true_and, Bool.and_true, Bool.false_and, Bool.and_false, Bool.true_or, Bool.or_true, Bool.false_or, Bool.or_false, Bool.not_not, decide_true, decide_false, Bool.decide_eq_true, Bool.decide_eq_false, qz_0, qz_1, qz_n, qz_n0, qz_n1, qz_t, qz_f, Nat.reduceAdd, q1000000, q0, q1, q2, q3, q4, q5, q6, q7, q8, q9, q10, q11, q12, q13, q14, q15, q16, q18, q19, q20, q21, q22, q23, q24, q25, q26, q27, q28, q29, q30, q31, q32, q38, q44, q45, q48, q57, q58, q59, q60, q63, q64, q97, q122, q126, q127, q128, q255, q256, q300, q580, q600, q1000, lp]
      rw [e_X10_writes_42]
      simp (disch := omega) only [e_X10_writes_138, e_X10_writes_152, w33, w34, w35, w36, w37, s10, s11, Option.bind_some, Option.toList_some, Option.toList_none, List.cons_append, List.nil_append, Option.map_some, cond_true, cond_false, Bool.not_true, Bool.not_false, Bool.true_and, Bool.and_true, Bool.false_and, Bool.and_false, Bool.true_or, Bool.or_true, Bool.false_or, Bool.or_false, Bool.not_not, decide_true, decide_false, Bool.decide_eq_true, Bool.decide_eq_false, qz_0, qz_1, qz_n, qz_n0, qz_n1, qz_t, qz_f, Nat.reduceAdd, q1000000, q0, q1, q2, q3, q4, q5, q6, q7, q8, q9, q10, q11, q12, q13, q14, q15, q16, q18, q19, q20, q21, q22, q23, q24, q25, q26, q27, q28, q29, q30, q31, q32, q38, q44, q45, q48, q57, q58, q59, q60, q63, q64, q97, q122, q126, q127, q128, q255, q256, q300, q580, q600, q1000, nI_add, q_lt_t, q_lt_f, q_eq_t, q_eq_f, q_clamp, q_in_t, q_in_f]
  obtain ⟨-, fin⟩ := fin
  refine ⟨ws K x ts, M, ?_, ws_40 _ _ _, ws_42 _ _ _, fc ts, g9⟩
  rw [start, fin]
  rfl
/-! where a sign lies -/
theorem fdR_in : ∀ (r : List Nat) (i : Nat), i < r.length → r.length < 100000 → fdR (nI i) r = nI (r.reverse.getD i 0)
  | [], i, h, _ => absurd h (Nat.not_lt_zero i)
  | c :: r, i, h, hl => by
    rw [List.length_cons] at h hl
    show (if nI r.length = nI i then nI c else fdR (nI i) r) = _
    rw [List.reverse_cons]
    by_cases z : r.length = i
    · rw [if_pos (by rw [z]), ← z]
      have := gd_s r.reverse c 0
      rw [List.length_reverse] at this
      rw [this]
    · rw [if_neg (fun q => z ((nI_eq (by omega) (by omega)).mp q)), fdR_in r i (by omega) (by omega), gd_l _ _ _ (by rw [List.length_reverse]; omega)]
theorem fdR_out (w : Int32) : ∀ (r : List Nat), (∀ i, i < r.length → nI i ≠ w) → fdR w r = -nI 1
  | [], _ => rfl
  | c :: r, h => by
    show (if nI r.length = w then nI c else fdR w r) = _
    rw [if_neg (h r.length (by rw [List.length_cons]; omega)), fdR_out w r (fun i hi => h i (by rw [List.length_cons]; omega))]
theorem fdS_in {ts : List Nat} {i : Nat} (h : i < ts.length) (hl : ts.length < 100000) : fdS (nI i) ts = nI (ts.getD i 0) := by
  unfold fdS
  rw [fdR_in ts.reverse i (by rw [List.length_reverse]; exact h) (by rw [List.length_reverse]; exact hl), List.reverse_reverse]
theorem fdS_out {ts : List Nat} {w : Int32} (h : ∀ i, i < ts.length → nI i ≠ w) : fdS w ts = -nI 1 := fdR_out w ts.reverse (fun i hi => h i (by rw [List.length_reverse] at hi; exact hi))
