/-! the lines of a desk: reference -/
def VDk (I : zI) (L : zL) (B : Nat → Nat) (S : Nat) (r : (Nat × Nat) ⊕ DKT) (x : Option zRes) : Prop := match r with
  | .inl (e, jf) => ∃ J, x = zrun zZ kX10_desk (132, [some (.ref 52), none], [], hp J L, 0, 0) ∧ FL J e (sT B S jf) ∧ FRd I J
  | .inr s => ∃ J, x = zrun zZ kX10_desk (132, [some (.ref 52), none], [], hp J L, 0, 0) ∧ J 52 14 = nI 0 ∧ J 52 15 = nI 0 ∧ J 52 16 = -nI 1 ∧ RDS J s ∧ PD s ∧ FRd I J
theorem VDk.cg {I I' : zI} {L : zL} {B : Nat → Nat} {S : Nat} {r : (Nat × Nat) ⊕ DKT} {x : Option zRes} (h : VDk I' L B S r x) (h1 : FRd I I') : VDk I L B S r x := by
  match r, h with
  | .inl (e, jf), ⟨J, a1, a2, a3⟩ => exact ⟨J, a1, a2, h1.trans a3⟩
  | .inr s, ⟨J, a1, a2, a3, a4, a5, a6, a7⟩ => exact ⟨J, a1, a2, a3, a4, a5, a6, h1.trans a7⟩
theorem RDS.cg {I J : zI} {s : DKT} (h : RDS I s) (h1 : ∀ y, J 53 y = I 53 y) : RDS J s := by
  match s, h with
  | ((N, w, F, T, ln), nm, fd, ro, mi, ru), ⟨⟨a1, a2, a3, a4, a5⟩, a7, a8, a9⟩ =>
    exact ⟨⟨(h1 _).trans a1, (h1 _).trans a2, (h1 _).trans a3, (h1 _).trans a4, (h1 _).trans a5⟩, fun f hf => ⟨(a7 f hf).1, (h1 _).trans (a7 f hf).2.1, fun i hi => ⟨((a7 f hf).2.2 i hi).1, (h1 _).trans ((a7 f hf).2.2 i hi).2⟩⟩, fun f hf => (h1 _).trans (a8 f hf), fun t ht => ⟨(h1 _).trans (a9 t ht).1, (h1 _).trans (a9 t ht).2.1, (h1 _).trans (a9 t ht).2.2⟩⟩
theorem dk_o37 {I : zI} (L : zL) (h14 : I 52 14 = nI 1) : zrun zZ kX10_desk (37, [some (.ref 52), none], [], hp I L, 0, 0) = zrun zZ kX10_desk (132, [some (.ref 52), none], [], hp I L, 0, 0) := by
  rw [e_X10_desk_37]
  simp (disch := omega) only [h14, Option.bind_some, Option.toList_some, Option.toList_none, List.cons_append, List.nil_append, Option.map_some, cond_true, cond_false, Bool.not_true, Bool.not_false, Bool.true_and, Bool.and_true, Bool.false_and, Bool.and_false, Bool.true_or, Bool.or_true, Bool.false_or, Bool.or_false, Bool.not_not, decide_true, decide_false, Bool.decide_eq_true, Bool.decide_eq_false, qz_0, qz_1, qz_n, qz_n0, qz_n1, qz_t, qz_f, Nat.reduceAdd, q1000000, q0, q1, q2, q3, q4, q5, q6, q7, q8, q9, q10, q11, q12, q13, q14, q15, q16, q18, q19, q20, q21, q22, q23, q24, q25, q26, q27, q28, q29, q30, q31, q32, q38, q44, q45, q48, q57, q58, q59, q60, q63, q64, q97, q122, q126, q127, q128, q255, q256, q300, q580, q600, q1000, nI_add, q_lt_t, q_lt_f, q_eq_t, q_eq_f, q_clamp, q_in_t, q_in_f]
theorem dk_o102 {I : zI} (L : zL) (h14 : I 52 14 = nI 1) : zrun zZ kX10_desk (102, [some (.ref 52), none], [], hp I L, 0, 0) = zrun zZ kX10_desk (132, [some (.ref 52), none], [], hp I L, 0, 0) := by
  rw [e_X10_desk_102, ← dk_o37 L h14]
  simp (disch := omega) only [h14, Option.bind_some, Option.toList_some, Option.toList_none, List.cons_append, List.nil_append, Option.map_some, cond_true, cond_false, Bool.not_true, Bool.not_false, Bool.true_and, Bool.and_true, Bool.false_and, Bool.and_false, Bool.true_or, Bool.or_true, Bool.false_or, Bool.or_false, Bool.not_not, decide_true, decide_false, Bool.decide_eq_true, Bool.decide_eq_false, qz_0, qz_1, qz_n, qz_n0, qz_n1, qz_t, qz_f, Nat.reduceAdd, q1000000, q0, q1, q2, q3, q4, q5, q6, q7, q8, q9, q10, q11, q12, q13, q14, q15, q16, q18, q19, q20, q21, q22, q23, q24, q25, q26, q27, q28, q29, q30, q31, q32, q38, q44, q45, q48, q57, q58, q59, q60, q63, q64, q97, q122, q126, q127, q128, q255, q256, q300, q580, q600, q1000, nI_add, q_lt_t, q_lt_f, q_eq_t, q_eq_f, q_clamp, q_in_t, q_in_f]
theorem tyT_0 {k : Nat} (h : k ≤ 25) : tyT k = 0 ↔ k = 24 := by
  have e : ∀ k, k ≤ 25 → (tyT k = 0 ↔ k = 24) := by decide
  exact e k h
theorem rd_loop {L : zL} {B : Nat → Nat} {S : Nat} : ∀ m j (s : DKT) c (I : zI), PD s → BT I B S → RF I B S j → I 52 14 = nI 0 → I 52 13 = nI c → I 52 15 = nI 0 → I 52 16 = -nI 1 → RDS I s → 10 ≤ m + s.1.2.2.2.2 → VDk I L B S (dkF B S m j s) (zrun zZ kX10_desk (37, [some (.ref 52), none], [], hp I L, 0, 0))
  | m, j, ((N, w, F, T, ln), nm, fd, ro, mi, ru), c, I, hP, hB, h, h14, h13, h15, h16, hC, hm => by
    have hm : 10 ≤ m + ln := hm
    have hP' := hP
    obtain ⟨p1, p2, p3, p4, p5, p6, p7, p8, p9⟩ := hP'
    have hC' := hC
    obtain ⟨⟨c1, c2, c3, c4, c5⟩, c7, c8, c9⟩ := hC'
    have hk := KT_le B S j
    have ht := tyT_lt (KT B S j)
    have e10 := h.2.2.1
    have e12 := h.2.2.2.2
    match m, hm with
    | 0, hm => omega
    | m + 1, hm =>
      obtain ⟨r, hr⟩ : ∃ r, dkF B S (m + 1) j ((N, w, F, T, ln), nm, fd, ro, mi, ru) = r := ⟨_, rfl⟩
      rw [hr]
      unfold dkF at hr
      by_cases z24 : KT B S j = 24
      · rw [if_pos z24] at hr
        rw [← hr]
        rw [(tyT_0 hk).mpr z24] at e10
        refine ⟨I, ?_, h14, h15, h16, hC, hP, fun _ _ _ _ => rfl⟩
        rw [e_X10_desk_37]
        simp (disch := omega) only [h14, e10, Option.bind_some, Option.toList_some, Option.toList_none, List.cons_append, List.nil_append, Option.map_some, cond_true, cond_false, Bool.not_true, Bool.not_false, Bool.true_and, Bool.and_true, Bool.false_and, Bool.and_false, Bool.true_or, Bool.or_true, Bool.false_or, Bool.or_false, Bool.not_not, decide_true, decide_false, Bool.decide_eq_true, Bool.decide_eq_false, qz_0, qz_1, qz_n, qz_n0, qz_n1, qz_t, qz_f, Nat.reduceAdd, q1000000, q0, q1, q2, q3, q4, q5, q6, q7, q8, q9, q10, q11, q12, q13, q14, q15, q16, q18, q19, q20, q21, q22, q23, q24, q25, q26, q27, q28, q29, q30, q31, q32, q38, q44, q45, q48, q57, q58, q59, q60, q63, q64, q97, q122, q126, q127, q128, q255, q256, q300, q580, q600, q1000, nI_add, q_lt_t, q_lt_f, q_eq_t, q_eq_f, q_clamp, q_in_t, q_in_f]
      rw [if_neg z24] at hr
      have n0 : tyT (KT B S j) ≠ 0 := fun q => z24 ((tyT_0 hk).mp q)
      -- the line was read
      have good : ∀ (J : zI) c' j' (s' : DKT), s'.1.2.2.2.2 = ln + 1 → ln + 1 ≤ 9 → zrun zZ kX10_desk (37, [some (.ref 52), none], [], hp I L, 0, 0) = zrun zZ kX10_desk (102, [some (.ref 52), none], [], hp J L, 0, 0) → RF J B S j' → J 52 13 = nI c' → J 53 4 = nI ln → RDS (zup J 53 4 (nI (ln + 1))) s' → PD s' → (∀ x y, x ≠ 53 → (x ≠ 52 ∨ y < 8 ∨ 13 < y) → J x y = I x y) → VDk I L B S (if KT B S j' = 21 then dkF B S m (j' + 1) s' else .inl (1, j')) (zrun zZ kX10_desk (37, [some (.ref 52), none], [], hp I L, 0, 0)) := fun J c' j' s' g0 g00 g1 g2 g3 g4 g5 g6 g7 => by
        rw [g1]
        have fJ : FRd I J := fun x y q1' q2' => g7 x y q1' (by omega)
        have hBJ : BT J B S := hB.cg (g7 _ _ (by omega) (by omega)) (fun b => g7 _ _ (by omega) (by omega))
        have j14 : J 52 14 = nI 0 := (g7 _ _ (by omega) (by omega)).trans h14
        have hsg := s_isSg L hBJ g2 (c := 59) (k := 21) (by omega)
        by_cases y : KT B S j' = 21
        · rw [if_pos y]
          rw [decide_eq_true y] at hsg
          obtain ⟨J2, a1, a2, a3, a4⟩ := s_need_y L hBJ g2 j14 g3
          have j4 : J2 53 4 = nI ln := (a4 _ _ (by omega)).trans g4
          have o2 : ∀ x y, x ≠ 53 → (x ≠ 52 ∨ y < 8 ∨ 13 < y) → zup J2 53 4 (nI (ln + 1)) x y = I x y := fun x y q1' q2' => by
            rw [zu_cell q1', a4 x y (by omega)]
            exact g7 x y q1' q2'
          have ih := rd_loop (L := L) m (j' + 1) s' (c' + 1) (zup J2 53 4 (nI (ln + 1))) g6 (hB.cg (o2 _ _ (by omega) (by omega)) (fun b => o2 _ _ (by omega) (by omega))) (RF.up a2) ((o2 _ _ (by omega) (by omega)).trans h14) ((zu_cell (by omega)).trans a3) ((o2 _ _ (by omega) (by omega)).trans h15) ((o2 _ _ (by omega) (by omega)).trans h16) (g5.cg (fun y => by
            by_cases u : y = 4
            · rw [u, zu_same, zu_same]
            · rw [zu_at u, zu_at u]
              exact a4 _ _ (by omega))) (by omega)
          have ih := ih.cg (I := I) (fun x y q1' q2' => o2 x y q1' (by omega))
          refine Eq.mp ?_ ih
          congr 1
          symm
          simp (disch := omega) only [e_X10_desk_102, e_X10_desk_116, e_X10_desk_119, j14, q1000000, q0, q1, q2, q3, q4, q5, q6, q7, q8, q9, q10, q11, q12, q13, q14, q15, q16, q18, q19, q20, q21, q22, q23, q24, q25, q26, q27, q28, q29, q30, q31, q32, q38, q44, q45, q48, q57, q58, q59, q60, q63, q64, q97, q122, q126, q127, q128, q255, q256, q300, q580, q600, q1000, hsg, a1, j4, nI_add, Option.bind_some, Option.toList_some, Option.toList_none, List.cons_append, List.nil_append, Option.map_some, cond_true, cond_false, Bool.not_true, Bool.not_false, Bool.true_and, Bool.and_true, Bool.false_and, Bool.and_false, Bool.true_or, Bool.or_true, Bool.false_or, Bool.or_false, Bool.not_not, decide_true, decide_false, Bool.decide_eq_true, Bool.decide_eq_false, qz_0, qz_1, qz_n, qz_n0, qz_n1, qz_t, qz_f, Nat.reduceAdd, q_lt_t, q_lt_f, q_eq_t, q_eq_f]
        · rw [if_neg y]
          rw [decide_eq_false y] at hsg
          obtain ⟨J2, a1, a2, a3⟩ := s_need_n L g2 j14
          have f2 : FL (zup J2 53 4 (J2 53 4 + nI 1)) 1 (sT B S j') := a2.up
          refine ⟨zup J2 53 4 (J2 53 4 + nI 1), ?_, f2, (fJ.trans a3.d).up⟩
          rw [← dk_o37 L f2.1]
          simp (disch := omega) only [e_X10_desk_102, e_X10_desk_116, e_X10_desk_119, j14, q1000000, q0, q1, q2, q3, q4, q5, q6, q7, q8, q9, q10, q11, q12, q13, q14, q15, q16, q18, q19, q20, q21, q22, q23, q24, q25, q26, q27, q28, q29, q30, q31, q32, q38, q44, q45, q48, q57, q58, q59, q60, q63, q64, q97, q122, q126, q127, q128, q255, q256, q300, q580, q600, q1000, hsg, a1, Option.bind_some, Option.toList_some, Option.toList_none, List.cons_append, List.nil_append, Option.map_some, cond_true, cond_false, Bool.not_true, Bool.not_false, Bool.true_and, Bool.and_true, Bool.false_and, Bool.and_false, Bool.true_or, Bool.or_true, Bool.false_or, Bool.or_false, Bool.not_not, decide_true, decide_false, Bool.decide_eq_true, Bool.decide_eq_false, qz_0, qz_1, qz_n, qz_n0, qz_n1, qz_t, qz_f, Nat.reduceAdd, q_lt_t, q_lt_f, q_eq_t, q_eq_f]
      -- the line has failed
      have bad : ∀ (J : zI) e jf, zrun zZ kX10_desk (37, [some (.ref 52), none], [], hp I L, 0, 0) = zrun zZ kX10_desk (102, [some (.ref 52), none], [], hp J L, 0, 0) → FL J e (sT B S jf) → FRd I J → VDk I L B S (.inl (e, jf)) (zrun zZ kX10_desk (37, [some (.ref 52), none], [], hp I L, 0, 0)) := fun J e jf g1 g2 g3 => by
        refine ⟨J, ?_, g2, g3⟩
        rw [g1, dk_o102 L g2.1]
      by_cases zl : ln = 0
      · rw [if_pos zl] at hr
        have hh := s_readsDesk (L := L) hB h h14 h13
        match hhr : hdR (KT B S) (vN B S) j, hh with
        | .inl (e, jf), ⟨J, x1, x2, x3⟩ =>
          rw [hhr] at hr
          rw [← hr]
          refine bad J e jf ?_ x2 x3
          rw [e_X10_desk_37]
          simp (disch := omega) only [e_X10_desk_64, h14, e10, c5, zl, x1, Option.bind_some, Option.toList_some, Option.toList_none, List.cons_append, List.nil_append, Option.map_some, cond_true, cond_false, Bool.not_true, Bool.not_false, Bool.true_and, Bool.and_true, Bool.false_and, Bool.and_false, Bool.true_or, Bool.or_true, Bool.false_or, Bool.or_false, Bool.not_not, decide_true, decide_false, Bool.decide_eq_true, Bool.decide_eq_false, qz_0, qz_1, qz_n, qz_n0, qz_n1, qz_t, qz_f, Nat.reduceAdd, q1000000, q0, q1, q2, q3, q4, q5, q6, q7, q8, q9, q10, q11, q12, q13, q14, q15, q16, q18, q19, q20, q21, q22, q23, q24, q25, q26, q27, q28, q29, q30, q31, q32, q38, q44, q45, q48, q57, q58, q59, q60, q63, q64, q97, q122, q126, q127, q128, q255, q256, q300, q580, q600, q1000, nI_add, q_lt_t, q_lt_f, q_eq_t, q_eq_f, q_clamp, q_in_t, q_in_f]
        | .inr (j', N', w'), ⟨J, c', x1, x2, x3, x4, x5, x6⟩ =>
          rw [hhr] at hr
          have hr : (if KT B S j' = 21 then dkF B S m (j' + 1) ((N', w', F, T, ln + 1), nm, fd, ro, mi, ru) else .inl (1, j')) = r := hr
          rw [← hr]
          have e0 : F = 0 ∧ T = 0 := by omega
          have hN' : (1 ≤ N' ∧ N' ≤ 28) ∧ w' < 7 := by
            unfold hdR at hhr
            by_cases y0 : KT B S j = 0
            · rw [if_pos y0] at hhr
              by_cases y1 : KT B S (j + 1) = 1
              · rw [if_pos y1] at hhr
                match hn : nuR (KT B S) (vN B S) 1 28 (j + 2) with
                | .inl e =>
                  rw [hn] at hhr
                  cases hhr
                | .inr (j1, N1) =>
                  have hb := nuR_b hn
                  rw [hn] at hhr
                  have hhr : (if KT B S (j + 3) = 2 then (if isW (KT B S (j + 4)) = true then .inr (j + 5, N1, KT B S (j + 4) - 12) else .inl (1, j + 4)) else .inl (1, j + 3)) = (Sum.inr (j', N', w') : (Nat × Nat) ⊕ (Nat × Nat × Nat)) := hhr
                  generalize j + 4 = j4 at hhr
                  generalize j + 3 = j3 at hhr
                  by_cases y3 : KT B S j3 = 2
                  · rw [if_pos y3] at hhr
                    by_cases y4 : isW (KT B S j4) = true
                    · rw [if_pos y4] at hhr
                      have := isW_iff.mp y4
                      cases hhr
                      omega
                    · rw [if_neg y4] at hhr
                      cases hhr
                  · rw [if_neg y3] at hhr
                    cases hhr
              · rw [if_neg y1] at hhr
                cases hhr
            · rw [if_neg y0] at hhr
              cases hhr
          refine good J c' j' ((N', w', F, T, ln + 1), nm, fd, ro, mi, ru) rfl (by omega) ?_ x2 x3 ((x6 _ _ (by omega) (by omega)).trans c5) ⟨⟨(up53 (by omega)).trans x4, (up53 (by omega)).trans x5, (up53 (by omega)).trans ((x6 _ _ (by omega) (by omega)).trans c3), (up53 (by omega)).trans ((x6 _ _ (by omega) (by omega)).trans c4), zu_same _ _ _ _⟩, fun f hf => by omega, fun f hf => by omega, fun t ht => by omega⟩ (PD_h hP zl hN'.1 hN'.2) (fun x y q1' q2' => x6 x y q2' (by omega))
          rw [e_X10_desk_37]
          simp (disch := omega) only [e_X10_desk_64, h14, e10, c5, zl, x1, Option.bind_some, Option.toList_some, Option.toList_none, List.cons_append, List.nil_append, Option.map_some, cond_true, cond_false, Bool.not_true, Bool.not_false, Bool.true_and, Bool.and_true, Bool.false_and, Bool.and_false, Bool.true_or, Bool.or_true, Bool.false_or, Bool.or_false, Bool.not_not, decide_true, decide_false, Bool.decide_eq_true, Bool.decide_eq_false, qz_0, qz_1, qz_n, qz_n0, qz_n1, qz_t, qz_f, Nat.reduceAdd, q1000000, q0, q1, q2, q3, q4, q5, q6, q7, q8, q9, q10, q11, q12, q13, q14, q15, q16, q18, q19, q20, q21, q22, q23, q24, q25, q26, q27, q28, q29, q30, q31, q32, q38, q44, q45, q48, q57, q58, q59, q60, q63, q64, q97, q122, q126, q127, q128, q255, q256, q300, q580, q600, q1000, nI_add, q_lt_t, q_lt_f, q_eq_t, q_eq_f, q_clamp, q_in_t, q_in_f]
      rw [if_neg zl] at hr
      have hN : 1 ≤ N ∧ N ≤ 28 := by omega
      have hD : DR I N w F nm fd := ⟨c1, c2, c3, c7, c8⟩
      have k3 := kI_eq (k := KT B S j) (t := 3) (by omega)
      have k4 := kI_eq (k := KT B S j) (t := 4) (by omega)
      by_cases z3 : KT B S j = 3
      · rw [if_pos z3] at hr
        rw [eq_true z3] at k3
        have hh := s_readsFeast (L := L) hN p3 hB h h14 h13 c1 c3 c7
        match hhr : feR (KT B S) (vN B S) (wN B S) F nm N j, hh with
        | .inl (e, jf), ⟨J, x1, x2, x3⟩ =>
          rw [hhr] at hr
          rw [← hr]
          refine bad J e jf ?_ x2 x3
          rw [e_X10_desk_37]
          simp (disch := omega) only [e_X10_desk_79, h14, e10, c5, e12, k3, x1, Option.bind_some, Option.toList_some, Option.toList_none, List.cons_append, List.nil_append, Option.map_some, cond_true, cond_false, Bool.not_true, Bool.not_false, Bool.true_and, Bool.and_true, Bool.false_and, Bool.and_false, Bool.true_or, Bool.or_true, Bool.false_or, Bool.or_false, Bool.not_not, decide_true, decide_false, Bool.decide_eq_true, Bool.decide_eq_false, qz_0, qz_1, qz_n, qz_n0, qz_n1, qz_t, qz_f, Nat.reduceAdd, q1000000, q0, q1, q2, q3, q4, q5, q6, q7, q8, q9, q10, q11, q12, q13, q14, q15, q16, q18, q19, q20, q21, q22, q23, q24, q25, q26, q27, q28, q29, q30, q31, q32, q38, q44, q45, q48, q57, q58, q59, q60, q63, q64, q97, q122, q126, q127, q128, q255, q256, q300, q580, q600, q1000, nI_add, q_lt_t, q_lt_f, q_eq_t, q_eq_f, q_clamp, q_in_t, q_in_f]
        | .inr (j', V), ⟨J, c', x1, x2, x3, x4, x5, x6, x7, x8⟩ =>
          rw [hhr] at hr
          have hr : (if KT B S j' = 21 then dkF B S m (j' + 1) ((N, w, F + 1, T, ln + 1), upf nm F (wN B S (j + 1)), upf fd F V, ro, mi, ru) else .inl (1, j')) = r := hr
          rw [← hr]
          have hPf := PD_f hP zl hhr
          have hPf' := hPf
          obtain ⟨w1, w2, w3, w4, w5, w6, w7, w8, w9⟩ := hPf'
          refine good J c' j' ((N, w, F + 1, T, ln + 1), upf nm F (wN B S (j + 1)), upf fd F V, ro, mi, ru) rfl (by omega) ?_ x2 x3 ((x8 _ _ (by omega) (by omega)).trans c5) ⟨⟨(up53 (by omega)).trans ((x8 _ _ (by omega) (by omega)).trans c1), (up53 (by omega)).trans ((x8 _ _ (by omega) (by omega)).trans c2), (up53 (by omega)).trans x4, (up53 (by omega)).trans ((x8 _ _ (by omega) (by omega)).trans c4), zu_same _ _ _ _⟩, fun f hf => ?_, fun f hf => ?_, fun t ht => ⟨(up53 (by omega)).trans ((x8 _ _ (by omega) (by omega)).trans (c9 t ht).1), (up53 (by omega)).trans ((x8 _ _ (by omega) (by omega)).trans (c9 t ht).2.1), (up53 (by omega)).trans ((x8 _ _ (by omega) (by omega)).trans (c9 t ht).2.2)⟩⟩ hPf (fun x y q1' q2' => x8 x y q2' (by omega))
          · rw [e_X10_desk_37]
            simp (disch := omega) only [e_X10_desk_79, h14, e10, c5, e12, k3, x1, Option.bind_some, Option.toList_some, Option.toList_none, List.cons_append, List.nil_append, Option.map_some, cond_true, cond_false, Bool.not_true, Bool.not_false, Bool.true_and, Bool.and_true, Bool.false_and, Bool.and_false, Bool.true_or, Bool.or_true, Bool.false_or, Bool.or_false, Bool.not_not, decide_true, decide_false, Bool.decide_eq_true, Bool.decide_eq_false, qz_0, qz_1, qz_n, qz_n0, qz_n1, qz_t, qz_f, Nat.reduceAdd, q1000000, q0, q1, q2, q3, q4, q5, q6, q7, q8, q9, q10, q11, q12, q13, q14, q15, q16, q18, q19, q20, q21, q22, q23, q24, q25, q26, q27, q28, q29, q30, q31, q32, q38, q44, q45, q48, q57, q58, q59, q60, q63, q64, q97, q122, q126, q127, q128, q255, q256, q300, q580, q600, q1000, nI_add, q_lt_t, q_lt_f, q_eq_t, q_eq_f, q_clamp, q_in_t, q_in_f]
          · obtain ⟨v1, v2, v3⟩ := w7 f hf
            by_cases q : f = F
            · rw [q, upf_same] at v1 v2 v3 ⊢
              refine ⟨v2, (up53 (by omega)).trans x6, fun i hi => ⟨?_, (up53 (by omega)).trans (x7 i hi)⟩⟩
              have := v3 i hi
              omega
            · rw [upf_at q] at v1 v2 v3 ⊢
              obtain ⟨u1, u2, u3⟩ := c7 f (by omega)
              exact ⟨u1, (up53 (by omega)).trans ((x8 _ _ (by omega) (by omega)).trans u2), fun i hi => ⟨(u3 i hi).1, (up53 (by omega)).trans ((x8 _ _ (by omega) (by omega)).trans (u3 i hi).2)⟩⟩
          · rw [up53 (by omega)]
            by_cases q : f = F
            · rw [q, upf_same]
              exact x5
            · rw [upf_at q, x8 _ _ (by omega) (by omega)]
              exact c8 f (by omega)
      rw [if_neg z3] at hr
      rw [eq_false z3] at k3
      by_cases z4 : KT B S j = 4
      · rw [if_pos z4] at hr
        rw [eq_true z4] at k4
        have hh := s_readsTrain (L := L) hN p2 p3 p4 p6 hB h h14 h13 hD c4
        match hhr : trR (KT B S) (vN B S) (fiT B S F nm) N w fd T j, hh with
        | .inl (e, jf), ⟨J, x1, x2, x3⟩ =>
          rw [hhr] at hr
          rw [← hr]
          refine bad J e jf ?_ x2 x3
          rw [e_X10_desk_37]
          simp (disch := omega) only [e_X10_desk_94, h14, e10, c5, e12, k3, k4, x1, Option.bind_some, Option.toList_some, Option.toList_none, List.cons_append, List.nil_append, Option.map_some, cond_true, cond_false, Bool.not_true, Bool.not_false, Bool.true_and, Bool.and_true, Bool.false_and, Bool.and_false, Bool.true_or, Bool.or_true, Bool.false_or, Bool.or_false, Bool.not_not, decide_true, decide_false, Bool.decide_eq_true, Bool.decide_eq_false, qz_0, qz_1, qz_n, qz_n0, qz_n1, qz_t, qz_f, Nat.reduceAdd, q1000000, q0, q1, q2, q3, q4, q5, q6, q7, q8, q9, q10, q11, q12, q13, q14, q15, q16, q18, q19, q20, q21, q22, q23, q24, q25, q26, q27, q28, q29, q30, q31, q32, q38, q44, q45, q48, q57, q58, q59, q60, q63, q64, q97, q122, q126, q127, q128, q255, q256, q300, q580, q600, q1000, nI_add, q_lt_t, q_lt_f, q_eq_t, q_eq_f, q_clamp, q_in_t, q_in_f]
        | .inr (j', rr, mm, V), .inr ⟨hq, J, x1, x2, x3⟩ =>
          rw [hhr] at hr
          have hr : (if KT B S j' = 21 then dkF B S m (j' + 1) ((N, w, F, T + 1, ln + 1), nm, fd, upf ro T (nI rr), upf mi T (nI mm), upf ru T V) else .inl (1, j')) = r := hr
          rw [if_neg (by omega)] at hr
          rw [← hr]
          refine bad J 1 j' ?_ x2 x3
          rw [e_X10_desk_37]
          simp (disch := omega) only [e_X10_desk_94, h14, e10, c5, e12, k3, k4, x1, Option.bind_some, Option.toList_some, Option.toList_none, List.cons_append, List.nil_append, Option.map_some, cond_true, cond_false, Bool.not_true, Bool.not_false, Bool.true_and, Bool.and_true, Bool.false_and, Bool.and_false, Bool.true_or, Bool.or_true, Bool.false_or, Bool.or_false, Bool.not_not, decide_true, decide_false, Bool.decide_eq_true, Bool.decide_eq_false, qz_0, qz_1, qz_n, qz_n0, qz_n1, qz_t, qz_f, Nat.reduceAdd, q1000000, q0, q1, q2, q3, q4, q5, q6, q7, q8, q9, q10, q11, q12, q13, q14, q15, q16, q18, q19, q20, q21, q22, q23, q24, q25, q26, q27, q28, q29, q30, q31, q32, q38, q44, q45, q48, q57, q58, q59, q60, q63, q64, q97, q122, q126, q127, q128, q255, q256, q300, q580, q600, q1000, nI_add, q_lt_t, q_lt_f, q_eq_t, q_eq_f, q_clamp, q_in_t, q_in_f]
        | .inr (j', rr, mm, V), .inl ⟨J, c', x1, x2, x3, x4, x5, x6, x7, x8⟩ =>
          rw [hhr] at hr
          have hr : (if KT B S j' = 21 then dkF B S m (j' + 1) ((N, w, F, T + 1, ln + 1), nm, fd, upf ro T (nI rr), upf mi T (nI mm), upf ru T V) else .inl (1, j')) = r := hr
          rw [← hr]
          have hPf := PD_t hP zl hhr
          have hPf' := hPf
          obtain ⟨w1, w2, w3, w4, w5, w6, w7, w8, w9⟩ := hPf'
          refine good J c' j' ((N, w, F, T + 1, ln + 1), nm, fd, upf ro T (nI rr), upf mi T (nI mm), upf ru T V) rfl (by omega) ?_ x2 x3 ((x8 _ _ (by omega) (by omega)).trans c5) ⟨⟨(up53 (by omega)).trans ((x8 _ _ (by omega) (by omega)).trans c1), (up53 (by omega)).trans ((x8 _ _ (by omega) (by omega)).trans c2), (up53 (by omega)).trans ((x8 _ _ (by omega) (by omega)).trans c3), (up53 (by omega)).trans x4, zu_same _ _ _ _⟩, fun f hf => ?_, fun f hf => (up53 (by omega)).trans ((x8 _ _ (by omega) (by omega)).trans (c8 f hf)), fun t ht => ?_⟩ hPf (fun x y q1' q2' => x8 x y q2' (by omega))
          · rw [e_X10_desk_37]
            simp (disch := omega) only [e_X10_desk_94, h14, e10, c5, e12, k3, k4, x1, Option.bind_some, Option.toList_some, Option.toList_none, List.cons_append, List.nil_append, Option.map_some, cond_true, cond_false, Bool.not_true, Bool.not_false, Bool.true_and, Bool.and_true, Bool.false_and, Bool.and_false, Bool.true_or, Bool.or_true, Bool.false_or, Bool.or_false, Bool.not_not, decide_true, decide_false, Bool.decide_eq_true, Bool.decide_eq_false, qz_0, qz_1, qz_n, qz_n0, qz_n1, qz_t, qz_f, Nat.reduceAdd, q1000000, q0, q1, q2, q3, q4, q5, q6, q7, q8, q9, q10, q11, q12, q13, q14, q15, q16, q18, q19, q20, q21, q22, q23, q24, q25, q26, q27, q28, q29, q30, q31, q32, q38, q44, q45, q48, q57, q58, q59, q60, q63, q64, q97, q122, q126, q127, q128, q255, q256, q300, q580, q600, q1000, nI_add, q_lt_t, q_lt_f, q_eq_t, q_eq_f, q_clamp, q_in_t, q_in_f]
          · obtain ⟨u1, u2, u3⟩ := c7 f hf
            exact ⟨u1, (up53 (by omega)).trans ((x8 _ _ (by omega) (by omega)).trans u2), fun i hi => ⟨(u3 i hi).1, (up53 (by omega)).trans ((x8 _ _ (by omega) (by omega)).trans (u3 i hi).2)⟩⟩
          · rw [up53 (by omega), up53 (by omega), up53 (by omega)]
            by_cases q : t = T
            · rw [q, upf_same, upf_same, upf_same]
              exact ⟨x5, x6, x7⟩
            · rw [upf_at q, upf_at q, upf_at q, x8 _ _ (by omega) (by omega), x8 _ _ (by omega) (by omega), x8 _ _ (by omega) (by omega)]
              exact c9 t (by omega)
      rw [if_neg z4] at hr
      rw [← hr]
      rw [eq_false z4] at k4
      obtain ⟨J, f1, f2, f3⟩ := s_flt L h h14 1
      refine bad J 1 j ?_ f2 (FRf.n f3).d
      rw [e_X10_desk_37]
      simp (disch := omega) only [h14, e10, c5, e12, k3, k4, f1, Option.bind_some, Option.toList_some, Option.toList_none, List.cons_append, List.nil_append, Option.map_some, cond_true, cond_false, Bool.not_true, Bool.not_false, Bool.true_and, Bool.and_true, Bool.false_and, Bool.and_false, Bool.true_or, Bool.or_true, Bool.false_or, Bool.or_false, Bool.not_not, decide_true, decide_false, Bool.decide_eq_true, Bool.decide_eq_false, qz_0, qz_1, qz_n, qz_n0, qz_n1, qz_t, qz_f, Nat.reduceAdd, q1000000, q0, q1, q2, q3, q4, q5, q6, q7, q8, q9, q10, q11, q12, q13, q14, q15, q16, q18, q19, q20, q21, q22, q23, q24, q25, q26, q27, q28, q29, q30, q31, q32, q38, q44, q45, q48, q57, q58, q59, q60, q63, q64, q97, q122, q126, q127, q128, q255, q256, q300, q580, q600, q1000, nI_add, q_lt_t, q_lt_f, q_eq_t, q_eq_f, q_clamp, q_in_t, q_in_f]
