/-- what the reference's reader of a value leaves -/
def VM (I : zI) (L : zL) (B : Nat → Nat) (S c j : Nat) (r : (Nat × Nat) ⊕ (Nat × Nat)) (x : Option (Option Value × zH)) : Prop := match r with
  | .inl (e, jf) => ∃ J v, x = some (some (.int v), hp J L) ∧ FL J e (sT B S jf) ∧ FRf I J
  | .inr (j', P') => ∃ J, x = some (some (.int (nI P')), hp J L) ∧ j ≤ j' ∧ RF J B S j' ∧ J 52 13 = nI (c + (j' - j)) ∧ FRn I J
theorem VM.cg {I I' : zI} {L : zL} {B : Nat → Nat} {S c j k : Nat} {r : (Nat × Nat) ⊕ (Nat × Nat)} {x : Option (Option Value × zH)} (h : VM I' L B S (c + k) (j + k) r x) (hc : FRn I I') : VM I L B S c j r x := by
  match r, h with
  | .inl (e, jf), ⟨J, v, h1, h2, h3⟩ => exact ⟨J, v, h1, h2, hc.f.trans h3⟩
  | .inr (j', P'), ⟨J, h1, h2, h3, h4, h5⟩ => exact ⟨J, h1, by omega, h3, by rw [h4]; congr 1; omega, hc.trans h5⟩
theorem rp_loop {L : zL} {B : Nat → Nat} {S : Nat} : ∀ m j x c P (I : zI), BT I B S → RF I B S j → I 52 14 = nI 0 → I 52 13 = nI c → 8 ≤ m + x → x ≤ 7 → P < 128 → VM I L B S c j (patF (KT B S) m j x P) ((zrun zZ kX10_readsPattern (21, [some (.ref 52), some (.int (nI P)), some (.int (nI x - nI 1)), none, none, none], [], hp I L, 0, 0)).map (fun r => (r.1, r.2.1)))
  | 0, j, x, c, P, I, hB, h, h14, h13, hm, hx, hP => by omega
  | m + 1, j, x, c, P, I, hB, h, h14, h13, hm, hx, hP => by
    have eW := s_Mwkd L h
    rw [e_X10_readsPattern_21]
    unfold patF
    by_cases w1 : isW (KT B S j) = true
    · obtain ⟨y1, y2⟩ := isW_iff.mp w1
      rw [w1] at eW
      rw [if_pos w1]
      by_cases d1 : KT B S j - 12 < x
      · rw [if_pos d1]
        obtain ⟨J, r, g1, g2, g3⟩ := s_bh_2 L h h14 w1 d1 (by omega)
        refine ⟨J, nI P, ?_, g2, g3⟩
        simp (disch := omega) only [e_X10_readsPattern_32, e_X10_readsPattern_40, e_X10_readsPattern_72, rp_out L g2.1, h14, eW, g1, g2.1, Option.bind_some, Option.toList_some, Option.toList_none, List.cons_append, List.nil_append, Option.map_some, cond_true, cond_false, Bool.not_true, Bool.not_false, Bool.true_and, Bool.and_true, Bool.false_and, Bool.and_false, Bool.true_or, Bool.or_true, Bool.false_or, Bool.or_false, Bool.not_not, decide_true, decide_false, Bool.decide_eq_true, Bool.decide_eq_false, qz_0, qz_1, qz_n, qz_n0, qz_n1, qz_t, qz_f, Nat.reduceAdd, q1000000, q0, q1, q2, q3, q4, q5, q6, q7, q8, q9, q10, q11, q12, q13, q14, q15, q16, q18, q19, q20, q21, q22, q23, q24, q25, q26, q27, q28, q29, q30, q31, q32, q38, q44, q45, q48, q57, q58, q59, q60, q63, q64, q97, q122, q126, q127, q128, q255, q256, q300, q580, q600, q1000, q_eq_t, q_eq_f]
      · rw [if_neg d1]
        obtain ⟨J, g1, g2, g3, g4⟩ := s_bh_y L hB h h14 h13 w1 (a := x) (by omega)
        have hBJ := hB.ff g4.f
        have j14 : J 52 14 = nI 0 := (g4 _ _ (by omega)).trans h14
        have eS := s_isSg L hBJ g2 (c := 45) (k := 23) (by omega)
        by_cases s1 : KT B S (j + 1) = 23
        · rw [if_pos s1]
          rw [decide_eq_true s1] at eS
          obtain ⟨J2, n1, n2, n3, n4⟩ := s_need_y L hBJ g2 j14 g3
          have n2 : RF J2 B S (j + 2) := n2
          have hB2 := hBJ.ff n4.f
          have k14 : J2 52 14 = nI 0 := (n4 _ _ (by omega)).trans j14
          by_cases w2 : isW (KT B S (j + 2)) = true
          · obtain ⟨z1, z2⟩ := isW_iff.mp w2
            rw [if_pos w2]
            by_cases d2 : KT B S j - 12 < KT B S (j + 2) - 12
            · rw [if_pos d2]
              obtain ⟨J3, m1, m2, m3, m4⟩ := s_bh_y L hB2 n2 k14 n3 w2 (a := KT B S j - 12 + 1) (by omega)
              have e1 : nI (KT B S j - 12 + 1) - nI 1 = nI (KT B S j - 12) := by rw [pk_sub (by omega), Nat.add_sub_cancel]
              rw [e1] at m1
              have m14 : J3 52 14 = nI 0 := (m4 _ _ (by omega)).trans k14
              obtain ⟨r1, -, -⟩ := rgP_lt (KT B S j - 12) (by omega) (KT B S (j + 2) - 12) (by omega)
              have hrb := rb_loop L m14 (e := KT B S (j + 2) - 12) (by omega) (KT B S (j + 2) - 12 + 1 - (KT B S j - 12)) (KT B S j - 12) P (by omega) hP
              have ih := rp_loop (L := L) m (j + 3) (KT B S (j + 2) - 12 + 1) (c + 3) (P ||| rgP (KT B S j - 12) (KT B S (j + 2) - 12)) J3 (hB2.ff m4.f) m2 m14 m3 (by omega) (by omega) (or_128 hP r1)
              have e2 : nI (KT B S (j + 2) - 12 + 1) - nI 1 = nI (KT B S (j + 2) - 12) := by rw [pk_sub (by omega), Nat.add_sub_cancel]
              rw [e2] at ih
              have ih := VM.cg (k := 3) ih ((g4.trans n4).trans m4)
              refine Eq.mp ?_ ih
              congr 1
              symm
              simp (disch := omega) only [e_X10_readsPattern_32, e_X10_readsPattern_40, e_X10_readsPattern_57, e_X10_readsPattern_65, e_X10_readsPattern_70, e_X10_readsPattern_72, hrb, h14, j14, eW, eS, g1, n1, m1, Option.bind_some, Option.toList_some, Option.toList_none, List.cons_append, List.nil_append, Option.map_some, cond_true, cond_false, Bool.not_true, Bool.not_false, Bool.true_and, Bool.and_true, Bool.false_and, Bool.and_false, Bool.true_or, Bool.or_true, Bool.false_or, Bool.or_false, Bool.not_not, decide_true, decide_false, Bool.decide_eq_true, Bool.decide_eq_false, qz_0, qz_1, qz_n, qz_n0, qz_n1, qz_t, qz_f, Nat.reduceAdd, q1000000, q0, q1, q2, q3, q4, q5, q6, q7, q8, q9, q10, q11, q12, q13, q14, q15, q16, q18, q19, q20, q21, q22, q23, q24, q25, q26, q27, q28, q29, q30, q31, q32, q38, q44, q45, q48, q57, q58, q59, q60, q63, q64, q97, q122, q126, q127, q128, q255, q256, q300, q580, q600, q1000, q_eq_t, q_eq_f]
            · rw [if_neg d2]
              obtain ⟨J3, r, m1, m2, m3⟩ := s_bh_2 L n2 k14 w2 (a := KT B S j - 12 + 1) (by omega) (by omega)
              have e1 : nI (KT B S j - 12 + 1) - nI 1 = nI (KT B S j - 12) := by rw [pk_sub (by omega), Nat.add_sub_cancel]
              rw [e1] at m1
              refine ⟨J3, nI P, ?_, m2, (g4.trans n4).f.trans m3⟩
              simp (disch := omega) only [e_X10_readsPattern_32, e_X10_readsPattern_40, e_X10_readsPattern_57, e_X10_readsPattern_65, e_X10_readsPattern_70, e_X10_readsPattern_72, rp_out L m2.1, h14, j14, eW, eS, g1, n1, m1, Option.bind_some, Option.toList_some, Option.toList_none, List.cons_append, List.nil_append, Option.map_some, cond_true, cond_false, Bool.not_true, Bool.not_false, Bool.true_and, Bool.and_true, Bool.false_and, Bool.and_false, Bool.true_or, Bool.or_true, Bool.false_or, Bool.or_false, Bool.not_not, decide_true, decide_false, Bool.decide_eq_true, Bool.decide_eq_false, qz_0, qz_1, qz_n, qz_n0, qz_n1, qz_t, qz_f, Nat.reduceAdd, q1000000, q0, q1, q2, q3, q4, q5, q6, q7, q8, q9, q10, q11, q12, q13, q14, q15, q16, q18, q19, q20, q21, q22, q23, q24, q25, q26, q27, q28, q29, q30, q31, q32, q38, q44, q45, q48, q57, q58, q59, q60, q63, q64, q97, q122, q126, q127, q128, q255, q256, q300, q580, q600, q1000, q_eq_t, q_eq_f]
          · have w2' : isW (KT B S (j + 2)) = false := by simpa using w2
            rw [if_neg w2]
            obtain ⟨J3, r, m1, m2, m3⟩ := s_bh_1 L n2 k14 w2' (nI (KT B S j - 12))
            refine ⟨J3, nI P, ?_, m2, (g4.trans n4).f.trans m3⟩
            simp (disch := omega) only [e_X10_readsPattern_32, e_X10_readsPattern_40, e_X10_readsPattern_57, e_X10_readsPattern_65, e_X10_readsPattern_70, e_X10_readsPattern_72, rp_out L m2.1, h14, j14, eW, eS, g1, n1, m1, Option.bind_some, Option.toList_some, Option.toList_none, List.cons_append, List.nil_append, Option.map_some, cond_true, cond_false, Bool.not_true, Bool.not_false, Bool.true_and, Bool.and_true, Bool.false_and, Bool.and_false, Bool.true_or, Bool.or_true, Bool.false_or, Bool.or_false, Bool.not_not, decide_true, decide_false, Bool.decide_eq_true, Bool.decide_eq_false, qz_0, qz_1, qz_n, qz_n0, qz_n1, qz_t, qz_f, Nat.reduceAdd, q1000000, q0, q1, q2, q3, q4, q5, q6, q7, q8, q9, q10, q11, q12, q13, q14, q15, q16, q18, q19, q20, q21, q22, q23, q24, q25, q26, q27, q28, q29, q30, q31, q32, q38, q44, q45, q48, q57, q58, q59, q60, q63, q64, q97, q122, q126, q127, q128, q255, q256, q300, q580, q600, q1000, q_eq_t, q_eq_f]
        · rw [if_neg s1]
          rw [decide_eq_false s1] at eS
          obtain ⟨r1, -, -⟩ := rgP_lt (KT B S j - 12) (by omega) (KT B S j - 12) (by omega)
          have hrb := rb_loop L j14 (e := KT B S j - 12) (by omega) 1 (KT B S j - 12) P (by omega) hP
          have ih := rp_loop (L := L) m (j + 1) (KT B S j - 12 + 1) (c + 1) (P ||| rgP (KT B S j - 12) (KT B S j - 12)) J hBJ g2 j14 g3 (by omega) (by omega) (or_128 hP r1)
          have e2 : nI (KT B S j - 12 + 1) - nI 1 = nI (KT B S j - 12) := by rw [pk_sub (by omega), Nat.add_sub_cancel]
          rw [e2] at ih
          have ih := VM.cg (k := 1) ih g4
          refine Eq.mp ?_ ih
          congr 1
          symm
          simp (disch := omega) only [e_X10_readsPattern_32, e_X10_readsPattern_40, e_X10_readsPattern_57, e_X10_readsPattern_72, hrb, h14, j14, eW, eS, g1, Option.bind_some, Option.toList_some, Option.toList_none, List.cons_append, List.nil_append, Option.map_some, cond_true, cond_false, Bool.not_true, Bool.not_false, Bool.true_and, Bool.and_true, Bool.false_and, Bool.and_false, Bool.true_or, Bool.or_true, Bool.false_or, Bool.or_false, Bool.not_not, decide_true, decide_false, Bool.decide_eq_true, Bool.decide_eq_false, qz_0, qz_1, qz_n, qz_n0, qz_n1, qz_t, qz_f, Nat.reduceAdd, q1000000, q0, q1, q2, q3, q4, q5, q6, q7, q8, q9, q10, q11, q12, q13, q14, q15, q16, q18, q19, q20, q21, q22, q23, q24, q25, q26, q27, q28, q29, q30, q31, q32, q38, q44, q45, q48, q57, q58, q59, q60, q63, q64, q97, q122, q126, q127, q128, q255, q256, q300, q580, q600, q1000, q_eq_t, q_eq_f]
    · have w1' : isW (KT B S j) = false := by simpa using w1
      rw [if_neg w1]
      rw [w1'] at eW
      refine ⟨I, ?_, Nat.le_refl j, h, by rw [Nat.sub_self]; exact h13, fun _ _ _ => rfl⟩
      simp (disch := omega) only [e_X10_readsPattern_32, e_X10_readsPattern_108, h14, eW, Option.bind_some, Option.toList_some, Option.toList_none, List.cons_append, List.nil_append, Option.map_some, cond_true, cond_false, Bool.not_true, Bool.not_false, Bool.true_and, Bool.and_true, Bool.false_and, Bool.and_false, Bool.true_or, Bool.or_true, Bool.false_or, Bool.or_false, Bool.not_not, decide_true, decide_false, Bool.decide_eq_true, Bool.decide_eq_false, qz_0, qz_1, qz_n, qz_n0, qz_n1, qz_t, qz_f, Nat.reduceAdd, q1000000, q0, q1, q2, q3, q4, q5, q6, q7, q8, q9, q10, q11, q12, q13, q14, q15, q16, q18, q19, q20, q21, q22, q23, q24, q25, q26, q27, q28, q29, q30, q31, q32, q38, q44, q45, q48, q57, q58, q59, q60, q63, q64, q97, q122, q126, q127, q128, q255, q256, q300, q580, q600, q1000, q_eq_t, q_eq_f]
theorem s_readsPattern {I : zI} {L : zL} {B : Nat → Nat} {S j c : Nat} (hB : BT I B S) (h : RF I B S j) (h14 : I 52 14 = nI 0) (h13 : I 52 13 = nI c) : VM I L B S c j (patR (KT B S) j) (zcall zZ nX10_readsPattern [.ref 52] (hp I L)) := by
  have e12 := h.2.2.2.2
  have hk := KT_le B S j
  unfold patR
  by_cases z : KT B S j = 7
  · rw [if_pos z]
    rw [z] at e12
    have e12 : I 52 12 = nI 7 := e12
    obtain ⟨J, g1, g2, g3, g4⟩ := s_need_y L hB h h14 h13
    refine ⟨J, ?_, by omega, g2, by rw [Nat.add_sub_cancel_left]; exact g3, g4⟩
    simp (disch := omega) only [c_X10_readsPattern, e_X10_readsPattern_0, e_X10_readsPattern_14, e12, g1, Option.bind_some, Option.toList_some, Option.toList_none, List.cons_append, List.nil_append, Option.map_some, cond_true, cond_false, Bool.not_true, Bool.not_false, Bool.true_and, Bool.and_true, Bool.false_and, Bool.and_false, Bool.true_or, Bool.or_true, Bool.false_or, Bool.or_false, Bool.not_not, decide_true, decide_false, Bool.decide_eq_true, Bool.decide_eq_false, qz_0, qz_1, qz_n, qz_n0, qz_n1, qz_t, qz_f, Nat.reduceAdd, q1000000, q0, q1, q2, q3, q4, q5, q6, q7, q8, q9, q10, q11, q12, q13, q14, q15, q16, q18, q19, q20, q21, q22, q23, q24, q25, q26, q27, q28, q29, q30, q31, q32, q38, q44, q45, q48, q57, q58, q59, q60, q63, q64, q97, q122, q126, q127, q128, q255, q256, q300, q580, q600, q1000, nI_add, q_lt_t, q_lt_f, q_eq_t, q_eq_f, q_clamp, q_in_t, q_in_f]
  · rw [if_neg z]
    have hne : (kI (KT B S j) = nI 7) = False := by
      refine eq_false (fun q => ?_)
      unfold kI at q
      by_cases y : KT B S j < 19
      · rw [if_pos y] at q
        exact z ((nI_eq (by omega) (by omega)).mp q)
      · rw [if_neg y] at q
        exact absurd q (by decide +kernel)
    have ih := rp_loop (L := L) 8 j 0 c 0 I hB h h14 h13 (by omega) (by omega) (by omega)
    rw [show nI 0 - nI 1 = -nI 1 from rfl] at ih
    refine Eq.mp ?_ ih
    congr 1
    symm
    simp (disch := omega) only [c_X10_readsPattern, e_X10_readsPattern_0, e12, hne, Option.bind_some, Option.toList_some, Option.toList_none, List.cons_append, List.nil_append, Option.map_some, cond_true, cond_false, Bool.not_true, Bool.not_false, Bool.true_and, Bool.and_true, Bool.false_and, Bool.and_false, Bool.true_or, Bool.or_true, Bool.false_or, Bool.or_false, Bool.not_not, decide_true, decide_false, Bool.decide_eq_true, Bool.decide_eq_false, qz_0, qz_1, qz_n, qz_n0, qz_n1, qz_t, qz_f, Nat.reduceAdd, q1000000, q0, q1, q2, q3, q4, q5, q6, q7, q8, q9, q10, q11, q12, q13, q14, q15, q16, q18, q19, q20, q21, q22, q23, q24, q25, q26, q27, q28, q29, q30, q31, q32, q38, q44, q45, q48, q57, q58, q59, q60, q63, q64, q97, q122, q126, q127, q128, q255, q256, q300, q580, q600, q1000]
