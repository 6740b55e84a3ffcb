/-! the lines of a desk: class -/
def CdC (I : zI) (L : zL) (B : Nat → Nat) (S d : Nat) (r : (Nat × Nat) ⊕ DKT) (x : Option (Option Value × zH)) : Prop := match r with
  | .inl (e, jf) => ∃ J M, x = some (some (.int (nI 0)), hp J M) ∧ J 5 0 = nI e ∧ J 5 1 = nI (sT B S jf) ∧ J (d + 1) 0 = nI 0 ∧ (∀ x y, x ≠ 5 → (x < d ∨ d + 6 < x) → J x y = I x y) ∧ (∀ x y, x ≠ d + 2 → M x y = L x y)
  | .inr s => ∃ J M, x = some (some (.int (nI 1)), hp J M) ∧ J 5 0 = nI 0 ∧ J 5 1 = -nI 1 ∧ J (d + 1) 0 = nI 0 ∧ CDS J M d s ∧ PD s ∧ (∀ x y, x ≠ 5 → (x < d ∨ d + 6 < x) → J x y = I x y) ∧ (∀ x y, x ≠ d + 2 → M x y = L x y)
theorem CdC.cg {I I' : zI} {L L' : zL} {B : Nat → Nat} {S d : Nat} {r : (Nat × Nat) ⊕ DKT} {x : Option (Option Value × zH)} (h : CdC I' L' B S d r x) (h1 : ∀ x y, x ≠ 5 → (x < d ∨ d + 6 < x) → I' x y = I x y) (h2 : ∀ x y, x ≠ d + 2 → L' x y = L x y) : CdC I L B S d r x := by
  match r, h with
  | .inl (e, jf), ⟨J, M, a1, a2, a3, a4, a5, a6⟩ => exact ⟨J, M, a1, a2, a3, a4, fun x y p1 p2 => (a5 x y p1 p2).trans (h1 x y p1 p2), fun x y p => (a6 x y p).trans (h2 x y p)⟩
  | .inr s, ⟨J, M, a1, a2, a3, a4, a5, a6, a7, a8⟩ => exact ⟨J, M, a1, a2, a3, a4, a5, a6, fun x y p1 p2 => (a7 x y p1 p2).trans (h1 x y p1 p2), fun x y p => (a8 x y p).trans (h2 x y p)⟩
theorem CDS.cg {I J : zI} {L M : zL} {d : Nat} {s : DKT} (h : CDS I L d s) (h1 : ∀ x y, d ≤ x → x ≤ d + 6 → J x y = I x y) (h2 : ∀ y, M (d + 2) y = L (d + 2) y) : CDS J M d s := by
  match s, h with
  | ((N, w, F, T, ln), nm, fd, ro, mi, ru), ⟨⟨a1, a2, a3, a4, a5⟩, a6, a7, a8, a9⟩ =>
    refine ⟨⟨(h1 _ _ (by omega) (by omega)).trans a1, (h1 _ _ (by omega) (by omega)).trans a2, (h1 _ _ (by omega) (by omega)).trans a3, (h1 _ _ (by omega) (by omega)).trans a4, (h1 _ _ (by omega) (by omega)).trans a5⟩, fun q P hP => (h1 _ _ (by omega) (by omega)).trans (a6 q P hP), fun f hf => ⟨(a7 f hf).1, (a7 f hf).2.1, (h2 f).trans (a7 f hf).2.2⟩, fun f hf => (h1 _ _ (by omega) (by omega)).trans (a8 f hf), fun t ht => ⟨(h1 _ _ (by omega) (by omega)).trans (a9 t ht).1, (h1 _ _ (by omega) (by omega)).trans (a9 t ht).2.1, (h1 _ _ (by omega) (by omega)).trans (a9 t ht).2.2⟩⟩
theorem cd_loop {d : Nat} (hd : d = 11 ∨ d = 18) {B : Nat → Nat} {S n : Nat} : ∀ m j (s : DKT) (I : zI) (L : zL), PD s → RD I L B S n → j ≤ n → I 5 9 = nI j → I 5 0 = nI 0 → I 5 1 = -nI 1 → CDS I L d s → I (d + 1) 0 = nI 0 → 10 ≤ m + s.1.2.2.2.2 → CdC I L B S d (dkF B S m j s) ((zrun zZ kX4_readDesk (11, [some (.ref 5), none, some (.ref d), some (.int (nI s.1.2.2.2.2)), none], [], hp I L, 0, 0)).map (fun r => (r.1, r.2.1)))
  | m, j, ((N, w, F, T, ln), nm, fd, ro, mi, ru), I, L, hP, hR, hj, h9, h50, h51, hC, hz, hm => by
    have hm : 10 ≤ m + ln := hm
    have hP' := hP
    obtain ⟨p1, p2, p3, p4, p5, p6, p7, p8, p9⟩ := hP'
    have hC' := hC
    obtain ⟨⟨c1, c2, c3, c4, c5⟩, c6, c7, c8, c9⟩ := hC'
    have h0 := hR.1
    have e6 := hR.k hj
    have hk := KT_le B S j
    match m, hm with
    | 0, hm => omega
    | m + 1, hm =>
      show CdC I L B S d _ ((zrun zZ kX4_readDesk (11, [some (.ref 5), none, some (.ref d), some (.int (nI ln)), none], [], hp I L, 0, 0)).map (fun r => (r.1, r.2.1)))
      obtain ⟨r, hr⟩ : ∃ r, dkF B S (m + 1) j ((N, w, F, T, ln), nm, fd, ro, mi, ru) = r := ⟨_, rfl⟩
      rw [hr]
      unfold dkF at hr
      by_cases z24 : KT B S j = 24
      · rw [if_pos z24] at hr
        rw [← hr]
        rw [z24] at e6
        refine ⟨I, L, ?_, h50, h51, hz, hC, hP, fun _ _ _ _ => rfl, fun _ _ _ => rfl⟩
        rw [e_X4_readDesk_11 hd]
        simp (disch := omega) only [e_X4_readDesk_133 hd, h9, e6, Option.bind_some, Option.toList_some, Option.toList_none, List.cons_append, List.nil_append, Option.map_some, cond_true, cond_false, Bool.not_true, Bool.not_false, Bool.true_and, Bool.and_true, Bool.false_and, Bool.and_false, Bool.true_or, Bool.or_true, Bool.false_or, Bool.or_false, Bool.not_not, decide_true, decide_false, Bool.decide_eq_true, Bool.decide_eq_false, qz_0, qz_1, qz_n, qz_n0, qz_n1, qz_t, qz_f, Nat.reduceAdd, q1000000, q0, q1, q2, q3, q4, q5, q6, q7, q8, q9, q10, q11, q12, q13, q14, q15, q16, q18, q19, q20, q21, q22, q23, q24, q25, q26, q27, q28, q29, q30, q31, q32, q38, q44, q45, q48, q57, q58, q59, q60, q63, q64, q97, q122, q126, q127, q128, q255, q256, q300, q580, q600, q1000, nI_add, q_lt_t, q_lt_f, q_eq_t, q_eq_f, q_clamp, q_in_t, q_in_f]
      rw [if_neg z24] at hr
      have hjn := hR.lt hj z24
      -- the line has failed
      have bad : ∀ (J : zI) e jf, zrun zZ kX4_readDesk (11, [some (.ref 5), none, some (.ref d), some (.int (nI ln)), none], [], hp I L, 0, 0) = zrun zZ kX4_readDesk (101, [some (.ref 5), none, some (.ref d), some (.int (nI ln)), some (.int (nI 0))], [], hp J L, 0, 0) → LFl I J d e (sT B S jf) → CdC I L B S d (.inl (e, jf)) ((zrun zZ kX4_readDesk (11, [some (.ref 5), none, some (.ref d), some (.int (nI ln)), none], [], hp I L, 0, 0)).map (fun r => (r.1, r.2.1))) := fun J e jf g1 g2 => by
        refine ⟨J, L, ?_, g2.1, g2.2.1, (g2.2.2 _ _ (by omega) (by omega)).trans hz, fun x y q1' q2' => g2.2.2 x y q1' (by omega), fun _ _ _ => rfl⟩
        rw [g1]
        simp (disch := omega) only [e_X4_readDesk_101 hd, e_X4_readDesk_115 hd, Option.bind_some, Option.toList_some, Option.toList_none, List.cons_append, List.nil_append, Option.map_some, cond_true, cond_false, Bool.not_true, Bool.not_false, Bool.true_and, Bool.and_true, Bool.false_and, Bool.and_false, Bool.true_or, Bool.or_true, Bool.false_or, Bool.or_false, Bool.not_not, decide_true, decide_false, Bool.decide_eq_true, Bool.decide_eq_false, qz_0, qz_1, qz_n, qz_n0, qz_n1, qz_t, qz_f, Nat.reduceAdd, q1000000, q0, q1, q2, q3, q4, q5, q6, q7, q8, q9, q10, q11, q12, q13, q14, q15, q16, q18, q19, q20, q21, q22, q23, q24, q25, q26, q27, q28, q29, q30, q31, q32, q38, q44, q45, q48, q57, q58, q59, q60, q63, q64, q97, q122, q126, q127, q128, q255, q256, q300, q580, q600, q1000, nI_add, q_lt_t, q_lt_f, q_eq_t, q_eq_f, q_clamp, q_in_t, q_in_f]
      -- the line was read
      have good : ∀ (J : zI) (M : zL) j' (s' : DKT), s'.1.2.2.2.2 = ln + 1 → ln + 1 ≤ 9 → zrun zZ kX4_readDesk (11, [some (.ref 5), none, some (.ref d), some (.int (nI ln)), none], [], hp I L, 0, 0) = zrun zZ kX4_readDesk (101, [some (.ref 5), none, some (.ref d), some (.int (nI ln)), some (.int (nI 1))], [], hp J M, 0, 0) → RD J M B S n → j' ≤ n → J 5 9 = nI j' → J 5 0 = nI 0 → J 5 1 = -nI 1 → J d 10 = nI ln → CDS (zup J d 10 (nI (ln + 1))) M d s' → PD s' → J (d + 1) 0 = nI 0 → (∀ x y, x ≠ 5 → (x < d ∨ d + 6 < x) → J x y = I x y) → (∀ x y, x ≠ d + 2 → M x y = L x y) → CdC I L B S d (if KT B S j' = 21 then dkF B S m (j' + 1) s' else .inl (1, j')) ((zrun zZ kX4_readDesk (11, [some (.ref 5), none, some (.ref d), some (.int (nI ln)), none], [], hp I L, 0, 0)).map (fun r => (r.1, r.2.1))) := fun J M j' s' g0 g00 g1 g2 g3 g4 g5 g6 g7 g8 g9 g10 g11 g12 => by
        by_cases y : KT B S j' = 21
        · rw [if_pos y]
          obtain ⟨J2, a1, a2, a3, a4, a5⟩ := tk_y g2 g3 g4 y (by omega)
          have o2 : ∀ x y, (x ≠ d ∨ y ≠ 10) → zup J2 d 10 (nI (ln + 1)) x y = J2 x y := fun x y p => upc p
          have ih := cd_loop hd m (j' + 1) s' (zup J2 d 10 (nI (ln + 1))) M g9 (a2.cg (o2 _ _ (by omega)) (fun b => o2 _ _ (by omega)) (fun b => o2 _ _ (by omega)) (fun _ => rfl)) a3 ((o2 _ _ (by omega)).trans a4) ((o2 _ _ (by omega)).trans ((a5 _ _ (by omega)).trans g5)) ((o2 _ _ (by omega)).trans ((a5 _ _ (by omega)).trans g6)) (g8.cg (fun x y q1' q2' => by
            by_cases u : x = d ∧ y = 10
            · obtain ⟨rfl, rfl⟩ := u
              rw [zu_same, zu_same]
            · rw [upc (by omega), upc (by omega)]
              exact a5 _ _ (by omega)) (fun _ => rfl)) ((o2 _ _ (by omega)).trans ((a5 _ _ (by omega)).trans g10)) (by omega)
          have ih := ih.cg (I := I) (L := L) (fun x y q1' q2' => (o2 x y (by omega)).trans ((a5 x y (by omega)).trans (g11 x y q1' q2'))) g12
          rw [g0] at ih
          refine Eq.mp ?_ ih
          congr 1
          symm
          rw [g1]
          have j10 : J2 d 10 = nI ln := (a5 _ _ (by omega)).trans g7
          simp (disch := omega) only [e_X4_readDesk_101 hd, e_X4_readDesk_112 hd, q1000000, q0, q1, q2, q3, q4, q5, q6, q7, q8, q9, q10, q11, q12, q13, q14, q15, q16, q18, q19, q20, q21, q22, q23, q24, q25, q26, q27, q28, q29, q30, q31, q32, q38, q44, q45, q48, q57, q58, q59, q60, q63, q64, q97, q122, q126, q127, q128, q255, q256, q300, q580, q600, q1000, a1, j10, nI_add, Option.bind_some, Option.toList_some, Option.toList_none, List.cons_append, List.nil_append, Option.map_some, cond_true, cond_false, Bool.not_true, Bool.not_false, Bool.true_and, Bool.and_true, Bool.false_and, Bool.and_false, Bool.true_or, Bool.or_true, Bool.false_or, Bool.or_false, Bool.not_not, decide_true, decide_false, Bool.decide_eq_true, Bool.decide_eq_false, qz_0, qz_1, qz_n, qz_n0, qz_n1, qz_t, qz_f, Nat.reduceAdd, q_lt_t, q_lt_f, q_eq_t, q_eq_f, q_clamp, q_in_t, q_in_f]
        · rw [if_neg y]
          have ht := s_take_n g2 g3 g4 (k := 21) y (by omega)
          have hf := fl_ok (I := J) (J := J) 1 (sT B S j') (fun _ _ _ => rfl)
          refine ⟨fl J 1 (sT B S j'), M, ?_, hf.1, hf.2.1, (hf.2.2 _ _ (by omega)).trans g10, fun x y q1' q2' => (hf.2.2 x y (by omega)).trans (g11 x y q1' q2'), g12⟩
          rw [g1]
          simp (disch := omega) only [e_X4_readDesk_101 hd, e_X4_readDesk_112 hd, e_X4_readDesk_115 hd, q1000000, q0, q1, q2, q3, q4, q5, q6, q7, q8, q9, q10, q11, q12, q13, q14, q15, q16, q18, q19, q20, q21, q22, q23, q24, q25, q26, q27, q28, q29, q30, q31, q32, q38, q44, q45, q48, q57, q58, q59, q60, q63, q64, q97, q122, q126, q127, q128, q255, q256, q300, q580, q600, q1000, ht, Option.bind_some, Option.toList_some, Option.toList_none, List.cons_append, List.nil_append, Option.map_some, cond_true, cond_false, Bool.not_true, Bool.not_false, Bool.true_and, Bool.and_true, Bool.false_and, Bool.and_false, Bool.true_or, Bool.or_true, Bool.false_or, Bool.or_false, Bool.not_not, decide_true, decide_false, Bool.decide_eq_true, Bool.decide_eq_false, qz_0, qz_1, qz_n, qz_n0, qz_n1, qz_t, qz_f, Nat.reduceAdd, q1000000, q0, q1, q2, q3, q4, q5, q6, q7, q8, q9, q10, q11, q12, q13, q14, q15, q16, q18, q19, q20, q21, q22, q23, q24, q25, q26, q27, q28, q29, q30, q31, q32, q38, q44, q45, q48, q57, q58, q59, q60, q63, q64, q97, q122, q126, q127, q128, q255, q256, q300, q580, q600, q1000, nI_add, q_lt_t, q_lt_f, q_eq_t, q_eq_f, q_clamp, q_in_t, q_in_f]
      by_cases zl : ln = 0
      · rw [if_pos zl] at hr
        have hh := s_readHead hd hR hj h9 hz
        match hhr : hdR (KT B S) (vN B S) j, hh with
        | .inl (e, jf), ⟨J, x1, x2⟩ =>
          rw [hhr] at hr
          rw [← hr]
          refine bad J e jf ?_ x2
          rw [e_X4_readDesk_11 hd]
          simp (disch := omega) only [e_X4_readDesk_43 hd, c5, zl, h9, e6, x1, Option.bind_some, Option.toList_some, Option.toList_none, List.cons_append, List.nil_append, Option.map_some, cond_true, cond_false, Bool.not_true, Bool.not_false, Bool.true_and, Bool.and_true, Bool.false_and, Bool.and_false, Bool.true_or, Bool.or_true, Bool.false_or, Bool.or_false, Bool.not_not, decide_true, decide_false, Bool.decide_eq_true, Bool.decide_eq_false, qz_0, qz_1, qz_n, qz_n0, qz_n1, qz_t, qz_f, Nat.reduceAdd, q1000000, q0, q1, q2, q3, q4, q5, q6, q7, q8, q9, q10, q11, q12, q13, q14, q15, q16, q18, q19, q20, q21, q22, q23, q24, q25, q26, q27, q28, q29, q30, q31, q32, q38, q44, q45, q48, q57, q58, q59, q60, q63, q64, q97, q122, q126, q127, q128, q255, q256, q300, q580, q600, q1000, nI_add, q_lt_t, q_lt_f, q_eq_t, q_eq_f, q_clamp, q_in_t, q_in_f]
        | .inr (j', N', w'), ⟨J, x1, x2, x3, x4, x5, x6, x7, x8, x9⟩ =>
          rw [hhr] at hr
          have hr : (if KT B S j' = 21 then dkF B S m (j' + 1) ((N', w', F, T, ln + 1), nm, fd, ro, mi, ru) else .inl (1, j')) = r := hr
          rw [← hr]
          have e0 : F = 0 ∧ T = 0 := by omega
          refine good J L j' ((N', w', F, T, ln + 1), nm, fd, ro, mi, ru) rfl (by omega) ?_ (hR.cg (x9 _ _ (by omega) (by omega) (by omega)) (fun b => x9 _ _ (by omega) (by omega) (by omega)) (fun b => x9 _ _ (by omega) (by omega) (by omega)) (fun _ => rfl)) x2 x5 ((x9 _ _ (by omega) (by omega) (by omega)).trans h50) ((x9 _ _ (by omega) (by omega) (by omega)).trans h51) ((x9 _ _ (by omega) (by omega) (by omega)).trans c5) ⟨⟨(upc (by omega)).trans x7, (upc (by omega)).trans x8, (upc (by omega)).trans ((x9 _ _ (by omega) (by omega) (by omega)).trans c3), (upc (by omega)).trans ((x9 _ _ (by omega) (by omega) (by omega)).trans c4), zu_same _ _ _ _⟩, fun _ P hP => (upc (by omega)).trans (x6 P hP), c7, fun f hf => by omega, fun t ht => by omega⟩ (PD_h hP zl x3 x4) ?_ (fun x y q1' q2' => x9 x y (by omega) (by omega) (by omega)) (fun _ _ _ => rfl)
          · rw [e_X4_readDesk_11 hd]
            simp (disch := omega) only [e_X4_readDesk_43 hd, c5, zl, h9, e6, x1, Option.bind_some, Option.toList_some, Option.toList_none, List.cons_append, List.nil_append, Option.map_some, cond_true, cond_false, Bool.not_true, Bool.not_false, Bool.true_and, Bool.and_true, Bool.false_and, Bool.and_false, Bool.true_or, Bool.or_true, Bool.false_or, Bool.or_false, Bool.not_not, decide_true, decide_false, Bool.decide_eq_true, Bool.decide_eq_false, qz_0, qz_1, qz_n, qz_n0, qz_n1, qz_t, qz_f, Nat.reduceAdd, q1000000, q0, q1, q2, q3, q4, q5, q6, q7, q8, q9, q10, q11, q12, q13, q14, q15, q16, q18, q19, q20, q21, q22, q23, q24, q25, q26, q27, q28, q29, q30, q31, q32, q38, q44, q45, q48, q57, q58, q59, q60, q63, q64, q97, q122, q126, q127, q128, q255, q256, q300, q580, q600, q1000, nI_add, q_lt_t, q_lt_f, q_eq_t, q_eq_f, q_clamp, q_in_t, q_in_f]
          · rw [x6 0 (by omega)]
            refine b_ext fun i hi => ?_
            rw [b_pds (by omega), Nat.zero_testBit, Bool.and_false]
            exact (b_0 i).symm
      rw [if_neg zl] at hr
      have hN : 1 ≤ N ∧ N ≤ 28 := by omega
      have hD : DC I L d N w F nm fd := ⟨c1, c3, c6 (by omega), c7, c8⟩
      by_cases z3 : KT B S j = 3
      · rw [if_pos z3] at hr
        rw [z3] at e6
        have hh := s_readFeast hd hN p3 c7 hR hjn c1 c3 h9
        match hhr : feR (KT B S) (vN B S) (wN B S) F nm N j, hh with
        | .inl (e, jf), ⟨J, x1, x2⟩ =>
          rw [hhr] at hr
          rw [← hr]
          refine bad J e jf ?_ x2
          rw [e_X4_readDesk_11 hd]
          simp (disch := omega) only [e_X4_readDesk_66 hd, c5, h9, e6, x1, Option.bind_some, Option.toList_some, Option.toList_none, List.cons_append, List.nil_append, Option.map_some, cond_true, cond_false, Bool.not_true, Bool.not_false, Bool.true_and, Bool.and_true, Bool.false_and, Bool.and_false, Bool.true_or, Bool.or_true, Bool.false_or, Bool.or_false, Bool.not_not, decide_true, decide_false, Bool.decide_eq_true, Bool.decide_eq_false, qz_0, qz_1, qz_n, qz_n0, qz_n1, qz_t, qz_f, Nat.reduceAdd, q1000000, q0, q1, q2, q3, q4, q5, q6, q7, q8, q9, q10, q11, q12, q13, q14, q15, q16, q18, q19, q20, q21, q22, q23, q24, q25, q26, q27, q28, q29, q30, q31, q32, q38, q44, q45, q48, q57, q58, q59, q60, q63, q64, q97, q122, q126, q127, q128, q255, q256, q300, q580, q600, q1000, nI_add, q_lt_t, q_lt_f, q_eq_t, q_eq_f, q_clamp, q_in_t, q_in_f]
        | .inr (j', V), ⟨J, M, x1, x2, x3, x4, x5, x6, x7, x8⟩ =>
          rw [hhr] at hr
          have hr : (if KT B S j' = 21 then dkF B S m (j' + 1) ((N, w, F + 1, T, ln + 1), upf nm F (wN B S (j + 1)), upf fd F V, ro, mi, ru) else .inl (1, j')) = r := hr
          rw [← hr]
          have hPf := PD_f hP zl hhr
          have hPf' := hPf
          obtain ⟨w1, w2, w3, w4, w5, w6, w7, w8, w9⟩ := hPf'
          refine good J M j' ((N, w, F + 1, T, ln + 1), upf nm F (wN B S (j + 1)), upf fd F V, ro, mi, ru) rfl (by omega) ?_ (hR.cg (x7 _ _ (by omega) (by omega) (by omega)) (fun b => x7 _ _ (by omega) (by omega) (by omega)) (fun b => x7 _ _ (by omega) (by omega) (by omega)) (fun b => x8 _ _ (by omega))) x2 x3 ((x7 _ _ (by omega) (by omega) (by omega)).trans h50) ((x7 _ _ (by omega) (by omega) (by omega)).trans h51) ((x7 _ _ (by omega) (by omega) (by omega)).trans c5) ⟨⟨(upc (by omega)).trans ((x7 _ _ (by omega) (by omega) (by omega)).trans c1), (upc (by omega)).trans ((x7 _ _ (by omega) (by omega) (by omega)).trans c2), (upc (by omega)).trans x4, (upc (by omega)).trans ((x7 _ _ (by omega) (by omega) (by omega)).trans c4), zu_same _ _ _ _⟩, fun q P hP => (upc (by omega)).trans ((x7 _ _ (by omega) (by omega) (by omega)).trans (c6 q P hP)), fun f hf => ?_, fun f hf => ?_, fun t ht => ⟨(upc (by omega)).trans ((x7 _ _ (by omega) (by omega) (by omega)).trans (c9 t ht).1), (upc (by omega)).trans ((x7 _ _ (by omega) (by omega) (by omega)).trans (c9 t ht).2.1), (upc (by omega)).trans ((x7 _ _ (by omega) (by omega) (by omega)).trans (c9 t ht).2.2)⟩⟩ hPf ((x7 _ _ (by omega) (by omega) (by omega)).trans hz) (fun x y q1' q2' => x7 x y (by omega) (by omega) (by omega)) (fun x y q => x8 x y (by omega))
          · rw [e_X4_readDesk_11 hd]
            simp (disch := omega) only [e_X4_readDesk_66 hd, c5, h9, e6, x1, Option.bind_some, Option.toList_some, Option.toList_none, List.cons_append, List.nil_append, Option.map_some, cond_true, cond_false, Bool.not_true, Bool.not_false, Bool.true_and, Bool.and_true, Bool.false_and, Bool.and_false, Bool.true_or, Bool.or_true, Bool.false_or, Bool.or_false, Bool.not_not, decide_true, decide_false, Bool.decide_eq_true, Bool.decide_eq_false, qz_0, qz_1, qz_n, qz_n0, qz_n1, qz_t, qz_f, Nat.reduceAdd, q1000000, q0, q1, q2, q3, q4, q5, q6, q7, q8, q9, q10, q11, q12, q13, q14, q15, q16, q18, q19, q20, q21, q22, q23, q24, q25, q26, q27, q28, q29, q30, q31, q32, q38, q44, q45, q48, q57, q58, q59, q60, q63, q64, q97, q122, q126, q127, q128, q255, q256, q300, q580, q600, q1000, nI_add, q_lt_t, q_lt_f, q_eq_t, q_eq_f, q_clamp, q_in_t, q_in_f]
          · obtain ⟨v1, v2, v3⟩ := w7 f hf
            refine ⟨v2, fun x hx => ?_, ?_⟩
            · obtain ⟨i, hi, rfl⟩ := List.getElem_of_mem hx
              have := v3 i hi
              rw [List.getD_eq_getElem?_getD, List.getElem?_eq_getElem hi, Option.getD_some] at this
              omega
            · by_cases q : f = F
              · rw [q, upf_same]
                exact x6
              · rw [upf_at q, x8 _ _ (by omega)]
                exact (c7 f (by omega)).2.2
          · rw [upc (by omega)]
            by_cases q : f = F
            · rw [q, upf_same]
              exact x5
            · rw [upf_at q, x7 _ _ (by omega) (by omega) (by omega)]
              exact c8 f (by omega)
      rw [if_neg z3] at hr
      by_cases z4 : KT B S j = 4
      · rw [if_pos z4] at hr
        rw [z4] at e6
        have hh := s_readTrain hd hN p3 p4 hD hR hjn c4 h9
        match hhr : trR (KT B S) (vN B S) (fiT B S F nm) N w fd T j, hh with
        | .inl (e, jf), ⟨J, x1, x2⟩ =>
          rw [hhr] at hr
          rw [← hr]
          refine bad J e jf ?_ x2
          rw [e_X4_readDesk_11 hd]
          simp (disch := omega) only [e_X4_readDesk_89 hd, c5, h9, e6, x1, Option.bind_some, Option.toList_some, Option.toList_none, List.cons_append, List.nil_append, Option.map_some, cond_true, cond_false, Bool.not_true, Bool.not_false, Bool.true_and, Bool.and_true, Bool.false_and, Bool.and_false, Bool.true_or, Bool.or_true, Bool.false_or, Bool.or_false, Bool.not_not, decide_true, decide_false, Bool.decide_eq_true, Bool.decide_eq_false, qz_0, qz_1, qz_n, qz_n0, qz_n1, qz_t, qz_f, Nat.reduceAdd, q1000000, q0, q1, q2, q3, q4, q5, q6, q7, q8, q9, q10, q11, q12, q13, q14, q15, q16, q18, q19, q20, q21, q22, q23, q24, q25, q26, q27, q28, q29, q30, q31, q32, q38, q44, q45, q48, q57, q58, q59, q60, q63, q64, q97, q122, q126, q127, q128, q255, q256, q300, q580, q600, q1000, nI_add, q_lt_t, q_lt_f, q_eq_t, q_eq_f, q_clamp, q_in_t, q_in_f]
        | .inr (j', rr, mm, V), ⟨J, x1, x2, x3, x4, x5, x6, x7, x8⟩ =>
          rw [hhr] at hr
          have hr : (if KT B S j' = 21 then dkF B S m (j' + 1) ((N, w, F, T + 1, ln + 1), nm, fd, upf ro T (nI rr), upf mi T (nI mm), upf ru T V) else .inl (1, j')) = r := hr
          rw [← hr]
          have hPf := PD_t hP zl hhr
          have hPf' := hPf
          obtain ⟨w1, w2, w3, w4, w5, w6, w7, w8, w9⟩ := hPf'
          refine good J L j' ((N, w, F, T + 1, ln + 1), nm, fd, upf ro T (nI rr), upf mi T (nI mm), upf ru T V) rfl (by omega) ?_ (hR.cg (x8 _ _ (by omega) (by omega) (by omega)) (fun b => x8 _ _ (by omega) (by omega) (by omega)) (fun b => x8 _ _ (by omega) (by omega) (by omega)) (fun b => rfl)) x2 x3 ((x8 _ _ (by omega) (by omega) (by omega)).trans h50) ((x8 _ _ (by omega) (by omega) (by omega)).trans h51) ((x8 _ _ (by omega) (by omega) (by omega)).trans c5) ⟨⟨(upc (by omega)).trans ((x8 _ _ (by omega) (by omega) (by omega)).trans c1), (upc (by omega)).trans ((x8 _ _ (by omega) (by omega) (by omega)).trans c2), (upc (by omega)).trans ((x8 _ _ (by omega) (by omega) (by omega)).trans c3), (upc (by omega)).trans x4, zu_same _ _ _ _⟩, fun q P hP => (upc (by omega)).trans ((x8 _ _ (by omega) (by omega) (by omega)).trans (c6 q P hP)), c7, fun f hf => (upc (by omega)).trans ((x8 _ _ (by omega) (by omega) (by omega)).trans (c8 f hf)), fun t ht => ?_⟩ hPf ((x8 _ _ (by omega) (by omega) (by omega)).trans hz) (fun x y q1' q2' => x8 x y (by omega) (by omega) (by omega)) (fun x y q => rfl)
          · rw [e_X4_readDesk_11 hd]
            simp (disch := omega) only [e_X4_readDesk_89 hd, c5, h9, e6, x1, Option.bind_some, Option.toList_some, Option.toList_none, List.cons_append, List.nil_append, Option.map_some, cond_true, cond_false, Bool.not_true, Bool.not_false, Bool.true_and, Bool.and_true, Bool.false_and, Bool.and_false, Bool.true_or, Bool.or_true, Bool.false_or, Bool.or_false, Bool.not_not, decide_true, decide_false, Bool.decide_eq_true, Bool.decide_eq_false, qz_0, qz_1, qz_n, qz_n0, qz_n1, qz_t, qz_f, Nat.reduceAdd, q1000000, q0, q1, q2, q3, q4, q5, q6, q7, q8, q9, q10, q11, q12, q13, q14, q15, q16, q18, q19, q20, q21, q22, q23, q24, q25, q26, q27, q28, q29, q30, q31, q32, q38, q44, q45, q48, q57, q58, q59, q60, q63, q64, q97, q122, q126, q127, q128, q255, q256, q300, q580, q600, q1000, nI_add, q_lt_t, q_lt_f, q_eq_t, q_eq_f, q_clamp, q_in_t, q_in_f]
          · rw [upc (by omega), upc (by omega), upc (by omega)]
            by_cases q : t = T
            · rw [q, upf_same, upf_same, upf_same]
              exact ⟨x5, x6, x7⟩
            · rw [upf_at q, upf_at q, upf_at q, x8 _ _ (by omega) (by omega) (by omega), x8 _ _ (by omega) (by omega) (by omega), x8 _ _ (by omega) (by omega) (by omega)]
              exact c9 t (by omega)
      rw [if_neg z4] at hr
      rw [← hr]
      have hf := s_fail hR hj h9 1
      refine bad (fl I 1 (sT B S j)) 1 j ?_ (fl_L _ _ _ (fun _ _ _ _ => rfl))
      rw [e_X4_readDesk_11 hd]
      simp (disch := omega) only [e_X4_readDesk_99 hd, c5, h9, e6, hf, Option.bind_some, Option.toList_some, Option.toList_none, List.cons_append, List.nil_append, Option.map_some, cond_true, cond_false, Bool.not_true, Bool.not_false, Bool.true_and, Bool.and_true, Bool.false_and, Bool.and_false, Bool.true_or, Bool.or_true, Bool.false_or, Bool.or_false, Bool.not_not, decide_true, decide_false, Bool.decide_eq_true, Bool.decide_eq_false, qz_0, qz_1, qz_n, qz_n0, qz_n1, qz_t, qz_f, Nat.reduceAdd, q1000000, q0, q1, q2, q3, q4, q5, q6, q7, q8, q9, q10, q11, q12, q13, q14, q15, q16, q18, q19, q20, q21, q22, q23, q24, q25, q26, q27, q28, q29, q30, q31, q32, q38, q44, q45, q48, q57, q58, q59, q60, q63, q64, q97, q122, q126, q127, q128, q255, q256, q300, q580, q600, q1000, nI_add, q_lt_t, q_lt_f, q_eq_t, q_eq_f, q_clamp, q_in_t, q_in_f]
