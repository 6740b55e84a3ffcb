theorem kI_eq {k t : Nat} (ht : t < 19) : (kI k = nI t) = (k = t) := by
  unfold kI
  by_cases y : k < 19
  · rw [if_pos y, q_eq (by omega) (by omega)]
  · rw [if_neg y]
    refine propext ⟨fun q => ?_, fun q => by omega⟩
    have h : ∀ t, t < 19 → -nI 1 ≠ nI t := by decide +kernel
    exact absurd q (h t ht)
theorem s_rd {I : zI} {B : Nat → Nat} {S j : Nat} (L : zL) (hB : BT I B S) (h : RF I B S j) (h14 : I 52 14 = nI 0) {c : Nat} (h13 : I 52 13 = nI c) {a b : Nat} (ha : a < 2000) (hb : b < 2000) : (∃ e, nuR (KT B S) (vN B S) a b j = .inl (e, j) ∧ ∃ J r, zcall zZ nX10_reads [.ref 52, .int (nI a), .int (nI b)] (hp I L) = some (some (.int r), hp J L) ∧ FL J e (sT B S j) ∧ FRf I J) ∨ (nuR (KT B S) (vN B S) a b j = .inr (j + 1, vN B S j) ∧ (a ≤ vN B S j ∧ vN B S j ≤ b) ∧ ∃ J, zcall zZ nX10_reads [.ref 52, .int (nI a), .int (nI b)] (hp I L) = some (some (.int (nI (vN B S j))), hp J L) ∧ RF J B S (j + 1) ∧ J 52 13 = nI (c + 1) ∧ FRn I J) := by
  unfold nuR
  by_cases z : KT B S j = 20
  · rw [if_pos z]
    by_cases y : vN B S j < a ∨ b < vN B S j
    · rw [if_pos y]
      obtain ⟨J, r, g1, g2, g3⟩ := s_rd_n L h h14 ha hb (Or.inr y)
      rw [if_pos z] at g2
      exact Or.inl ⟨2, rfl, J, r, g1, g2, g3⟩
    · rw [if_neg y]
      exact Or.inr ⟨rfl, by omega, s_rd_y L hB h h14 h13 ha hb z (by omega)⟩
  · rw [if_neg z]
    obtain ⟨J, r, g1, g2, g3⟩ := s_rd_n L h h14 ha hb (Or.inl z)
    rw [if_neg z] at g2
    exact Or.inl ⟨1, rfl, J, r, g1, g2, g3⟩
theorem or_00 (M : Int32) (fr N w P : Nat) : M ||| (nI (2 ^ fr - 2 ^ fr) &&& pds N w P) = M := by
  refine b_ext fun x hx => ?_
  rw [b_or, b_and, Nat.sub_self, show bt (nI 0) x = false from b_0 x, Bool.false_and, Bool.or_false]
def lstI (N a : Nat) (mo : Bool) : Int32 := cond mo (nI a - nI 1) (nI N)
def ToM (I : zI) (L : zL) (B : Nat → Nat) (S N w c j : Nat) (M : Int32) (P : Nat) (r : (Nat × Nat) ⊕ (Nat × Nat × Nat × Bool)) (x : Option (Option Value × zH × Nat × Nat)) : Prop := match r with
  | .inl (e, jf) => ∃ J v, x = some (some (.int v), hp J L, 0, 0) ∧ FL J e (sT B S jf) ∧ FRf I J
  | .inr (j2, fr, to, mo) => ∃ J, x = zrun zZ kX10_readsSpans (4, [some (.ref 52), some (.int (M ||| (nI (2 ^ (to + 1) - 2 ^ fr) &&& pds N w P))), some (.int (lstI N (to + 1) mo)), none, none, none, none, none], [], hp J L, 0, 0) ∧ j ≤ j2 ∧ fr ≤ to ∧ to < N ∧ RF J B S j2 ∧ J 52 13 = nI (c + (j2 - j)) ∧ FRn I J
theorem rs_to {I : zI} {L : zL} {B : Nat → Nat} {S N w j c P fr : Nat} (hB : BT I B S) (h : RF I B S j) (h14 : I 52 14 = nI 0) (h13 : I 52 13 = nI c) (h0 : I 53 0 = nI N) (h1 : I 53 1 = nI w) (hN : 1 ≤ N ∧ N ≤ 28) (hw : w < 7) (hP : P < 128) (hf : fr < N) (M : Int32) : ToM I L B S N w c j M P (toR (KT B S) (vN B S) N fr j) (zrun zZ kX10_readsSpans (125, [some (.ref 52), some (.int M), none, some (.int (nI P)), some (.int (nI fr)), some (.int (nI (N - 1))), none, none], [], hp I L, 0, 0)) := by
  have e12 := h.2.2.2.2
  have hk9 := kI_eq (k := KT B S j) (t := 9) (by omega)
  unfold toR
  by_cases z : KT B S j = 9
  · rw [if_pos z]
    rw [eq_true z] at hk9
    obtain ⟨J, n1, n2, n3, n4⟩ := s_need_y L hB h h14 h13
    have hBJ := hB.ff n4.f
    have j14 : J 52 14 = nI 0 := (n4 _ _ (by omega)).trans h14
    have j0 : J 53 0 = nI N := (n4 _ _ (by omega)).trans h0
    rcases s_rd L hBJ n2 j14 n3 (a := fr) (b := N - 1) (by omega) (by omega) with ⟨e, u1, J2, r, u2, u3, u4⟩ | ⟨u1, ⟨u2, u3⟩, J2, u4, u5, u6, u7⟩
    · rw [u1]
      have ho := sp_out174 L u3.1 M (nI P) (nI fr) r true
      rw [qz_t] at ho
      refine ⟨J2, M, ?_, u3, n4.f.trans u4⟩
      simp (disch := omega) only [e_X10_readsSpans_125, e_X10_readsSpans_146, e_X10_readsSpans_158, e_X10_readsSpans_172, h14, e12, hk9, n1, j0, q_sub, u2, ho, Option.bind_some, Option.toList_some, Option.toList_none, List.cons_append, List.nil_append, Option.map_some, cond_true, cond_false, Bool.not_true, Bool.not_false, Bool.true_and, Bool.and_true, Bool.false_and, Bool.and_false, Bool.true_or, Bool.or_true, Bool.false_or, Bool.or_false, Bool.not_not, decide_true, decide_false, Bool.decide_eq_true, Bool.decide_eq_false, qz_0, qz_1, qz_n, qz_n0, qz_n1, qz_t, qz_f, Nat.reduceAdd, q1000000, q0, q1, q2, q3, q4, q5, q6, q7, q8, q9, q10, q11, q12, q13, q14, q15, q16, q18, q19, q20, q21, q22, q23, q24, q25, q26, q27, q28, q29, q30, q31, q32, q38, q44, q45, q48, q57, q58, q59, q60, q63, q64, q97, q122, q126, q127, q128, q255, q256, q300, q580, q600, q1000, nI_add, q_lt_t, q_lt_f, q_eq_t, q_eq_f, q_clamp, q_in_t, q_in_f]
    · rw [u1]
      have k14 : J2 52 14 = nI 0 := (u7 _ _ (by omega)).trans j14
      have k1 : J2 53 1 = nI w := ((u7 _ _ (by omega)).trans (n4 _ _ (by omega))).trans h1
      have hl := sm_loop (fr := fr) L hN.2 hw k1 k14 hP (to := vN B S (j + 1)) (by omega) M (nI (vN B S (j + 1))) (vN B S (j + 1) + 1 - fr) fr (by omega) (by omega)
      rw [or_00] at hl
      have el : lstI N (vN B S (j + 1) + 1) true = nI (vN B S (j + 1)) := by
        show nI (vN B S (j + 1) + 1) - nI 1 = _
        rw [pk_sub (by omega), Nat.add_sub_cancel]
      refine ⟨J2, ?_, by omega, u2, by omega, u5, by rw [u6]; congr 1; omega, n4.trans u7⟩
      rw [el, ← hl]
      simp (disch := omega) only [e_X10_readsSpans_125, e_X10_readsSpans_146, e_X10_readsSpans_158, e_X10_readsSpans_172, e_X10_readsSpans_174, e_X10_readsSpans_190, h14, e12, hk9, n1, j0, q_sub, u4, Option.bind_some, Option.toList_some, Option.toList_none, List.cons_append, List.nil_append, Option.map_some, cond_true, cond_false, Bool.not_true, Bool.not_false, Bool.true_and, Bool.and_true, Bool.false_and, Bool.and_false, Bool.true_or, Bool.or_true, Bool.false_or, Bool.or_false, Bool.not_not, decide_true, decide_false, Bool.decide_eq_true, Bool.decide_eq_false, qz_0, qz_1, qz_n, qz_n0, qz_n1, qz_t, qz_f, Nat.reduceAdd, q1000000, q0, q1, q2, q3, q4, q5, q6, q7, q8, q9, q10, q11, q12, q13, q14, q15, q16, q18, q19, q20, q21, q22, q23, q24, q25, q26, q27, q28, q29, q30, q31, q32, q38, q44, q45, q48, q57, q58, q59, q60, q63, q64, q97, q122, q126, q127, q128, q255, q256, q300, q580, q600, q1000, nI_add, q_lt_t, q_lt_f, q_eq_t, q_eq_f, q_clamp, q_in_t, q_in_f]
  · rw [if_neg z]
    rw [eq_false z] at hk9
    have hl := sm_loop (fr := fr) L hN.2 hw h1 h14 hP (to := N - 1) (by omega) M (nI N) (N - 1 + 1 - fr) fr (by omega) (by omega)
    rw [or_00] at hl
    refine ⟨I, ?_, Nat.le_refl j, by omega, by omega, h, by rw [Nat.sub_self]; exact h13, fun _ _ _ => rfl⟩
    show _ = zrun zZ kX10_readsSpans (4, [some (.ref 52), some (.int (M ||| (nI (2 ^ (N - 1 + 1) - 2 ^ fr) &&& pds N w P))), some (.int (nI N)), none, none, none, none, none], [], hp I L, 0, 0)
    rw [← hl]
    simp (disch := omega) only [e_X10_readsSpans_125, e_X10_readsSpans_145, e_X10_readsSpans_146, e_X10_readsSpans_174, e_X10_readsSpans_190, h14, e12, hk9, h0, Option.bind_some, Option.toList_some, Option.toList_none, List.cons_append, List.nil_append, Option.map_some, cond_true, cond_false, Bool.not_true, Bool.not_false, Bool.true_and, Bool.and_true, Bool.false_and, Bool.and_false, Bool.true_or, Bool.or_true, Bool.false_or, Bool.or_false, Bool.not_not, decide_true, decide_false, Bool.decide_eq_true, Bool.decide_eq_false, qz_0, qz_1, qz_n, qz_n0, qz_n1, qz_t, qz_f, Nat.reduceAdd, q1000000, q0, q1, q2, q3, q4, q5, q6, q7, q8, q9, q10, q11, q12, q13, q14, q15, q16, q18, q19, q20, q21, q22, q23, q24, q25, q26, q27, q28, q29, q30, q31, q32, q38, q44, q45, q48, q57, q58, q59, q60, q63, q64, q97, q122, q126, q127, q128, q255, q256, q300, q580, q600, q1000, nI_add, q_lt_t, q_lt_f, q_eq_t, q_eq_f, q_clamp, q_in_t, q_in_f]
