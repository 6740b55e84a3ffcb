/-! a feast is read: reference -/
def VFy (I : zI) (L : zL) (B : Nat → Nat) (S F : Nat) (r : (Nat × Nat) ⊕ (Nat × Int32)) (x : Option (Option Value × zH)) : Prop := match r with
  | .inl (e, jf) => ∃ J V, x = some (none, hp (zup (zup J 53 (6 + F) V) 53 2 (nI (F + 1))) L) ∧ FL J e (sT B S jf) ∧ FRf I J
  | .inr (j', V) => ∃ J c, x = some (none, hp (zup (zup J 53 (6 + F) V) 53 2 (nI (F + 1))) L) ∧ RF J B S j' ∧ J 52 13 = nI c ∧ FRn I J
theorem VFy.cg {I I' : zI} {L : zL} {B : Nat → Nat} {S F : Nat} {r : (Nat × Nat) ⊕ (Nat × Int32)} {x : Option (Option Value × zH)} (h : VFy I' L B S F r x) (hc : FRn I I') : VFy I L B S F r x := by
  match r, h with
  | .inl (e, jf), ⟨J, v, h1, h2, h3⟩ => exact ⟨J, v, h1, h2, hc.f.trans h3⟩
  | .inr (j', V), ⟨J, c, h1, h2, h3, h4⟩ => exact ⟨J, c, h1, h2, h3, hc.trans h4⟩
theorem fe_out {I : zI} (L : zL) {F : Nat} (hF : F < 2) (h2 : I 53 2 = nI F) (x2 : Int32) : zrun zZ kX10_readsFeast (147, [some (.ref 52), some (.int (nI F)), some (.int x2), some (.int (nI 0)), none], [], hp I L, 0, 0) = some (none, hp (zup (zup I 53 (6 + F) x2) 53 2 (nI (F + 1))) L, 0, 0) := by
  rw [e_X10_readsFeast_147]
  simp (disch := omega) only [zu_same, zu_cell, zu_at, h2, Option.bind_some, Option.toList_some, Option.toList_none, List.cons_append, List.nil_append, Option.map_some, cond_true, cond_false, Bool.not_true, Bool.not_false, Bool.true_and, Bool.and_true, Bool.false_and, Bool.and_false, Bool.true_or, Bool.or_true, Bool.false_or, Bool.or_false, Bool.not_not, decide_true, decide_false, Bool.decide_eq_true, Bool.decide_eq_false, qz_0, qz_1, qz_n, qz_n0, qz_n1, qz_t, qz_f, Nat.reduceAdd, q1000000, q0, q1, q2, q3, q4, q5, q6, q7, q8, q9, q10, q11, q12, q13, q14, q15, q16, q18, q19, q20, q21, q22, q23, q24, q25, q26, q27, q28, q29, q30, q31, q32, q38, q44, q45, q48, q57, q58, q59, q60, q63, q64, q97, q122, q126, q127, q128, q255, q256, q300, q580, q600, q1000, nI_add, q_lt_t, q_lt_f, q_eq_t, q_eq_f, q_clamp, q_in_t, q_in_f]
theorem fr_loop {L : zL} {B : Nat → Nat} {S N F : Nat} (hN : 1 ≤ N ∧ N ≤ 28) (hF : F < 2) : ∀ m j c n M (I : zI), BT I B S → RF I B S j → I 52 14 = nI 0 → I 52 13 = nI c → I 53 0 = nI N → I 53 2 = nI F → n = cnt (bt M) N → N + 1 ≤ m + n → VFy I L B S F (fyF (KT B S) (vN B S) N m j M) ((zrun zZ kX10_readsFeast (147, [some (.ref 52), some (.int (nI F)), some (.int M), some (.int (nI 1)), none], [], hp I L, 0, 0)).map (fun r => (r.1, r.2.1)))
  | m, j, c, n, M, I, hB, h, h14, h13, h0, h2, hn, hm => by
    have cl := cnt_le (bt M) N
    match m, hm with
    | 0, hm => omega
    | m + 1, hm =>
      obtain ⟨r, hr⟩ : ∃ r, fyF (KT B S) (vN B S) N (m + 1) j M = r := ⟨_, rfl⟩
      rw [hr]
      unfold fyF at hr
      rw [e_X10_readsFeast_147]
      rcases s_rdDay L hB h h14 h13 h0 hN M with ⟨e, J, v, u1, u2, u3, u4, u5⟩ | ⟨v1, v2, v3, v4, J, v5, v6, v7, v8⟩
      · have j2 : J 53 2 = nI F := (u5 _ _ (by omega)).trans h2
        have run : (Option.map (fun r => (r.1, r.2.1)) (cond (decide (nI 1 = (0 : Int32))) (cond (zin ((6 : Int32) + nI F) 44) (some (none, (hp (zup (zup I 53 ((6 : Int32) + nI F).toNatClampNeg M) 53 2 (((zup I 53 ((6 : Int32) + nI F).toNatClampNeg M) 53 2) + (1 : Int32))) L), 0, 0)) none) ((zcall zZ nX10_readsDay [.ref 52, .int M] (hp I L)).bind (fun q => zrun zZ kX10_readsFeast (156, [some (.ref 52), some (.int (nI F)), some (.int M), none, none], q.1.toList ++ [], q.2, 0, 0))))) = some (none, hp (zup (zup J 53 (6 + F) (M ||| nI 0)) 53 2 (nI (F + 1))) L) := by
          simp (disch := omega) only [e_X10_readsFeast_156, e_X10_readsFeast_174, e_X10_readsFeast_195, e_X10_readsFeast_196, u3, u4.1, fe_out L hF j2, Option.bind_some, Option.toList_some, Option.toList_none, List.cons_append, List.nil_append, Option.map_some, cond_true, cond_false, Bool.not_true, Bool.not_false, Bool.true_and, Bool.and_true, Bool.false_and, Bool.and_false, Bool.true_or, Bool.or_true, Bool.false_or, Bool.or_false, Bool.not_not, decide_true, decide_false, Bool.decide_eq_true, Bool.decide_eq_false, qz_0, qz_1, qz_n, qz_n0, qz_n1, qz_t, qz_f, Nat.reduceAdd, q1000000, q0, q1, q2, q3, q4, q5, q6, q7, q8, q9, q10, q11, q12, q13, q14, q15, q16, q18, q19, q20, q21, q22, q23, q24, q25, q26, q27, q28, q29, q30, q31, q32, q38, q44, q45, q48, q57, q58, q59, q60, q63, q64, q97, q122, q126, q127, q128, q255, q256, q300, q580, q600, q1000, nI_add, q_lt_t, q_lt_f, q_eq_t, q_eq_f, q_clamp, q_in_t, q_in_f]
        rw [run]
        by_cases y : KT B S j = 20
        · rcases u1 y with a1 | ⟨a1, a2, a3⟩
          · rw [a1] at hr
            rw [← hr]
            exact ⟨J, _, rfl, u4, u5⟩
          · rw [a1] at hr
            have hr : (if bt M (vN B S j) = true then Sum.inl (2, j) else if KT B S (j + 1) = 20 then fyF (KT B S) (vN B S) N m (j + 1) (M ||| (nI 1 <<< (nI (vN B S j) &&& nI 31))) else Sum.inr (j + 1, M ||| (nI 1 <<< (nI (vN B S j) &&& nI 31)))) = r := hr
            rw [if_pos a2] at hr
            rw [← hr]
            subst a3
            exact ⟨J, _, rfl, u4, u5⟩
        · have hnu : nuR (KT B S) (vN B S) 0 (N - 1) j = .inl (1, j) := if_neg y
          rw [hnu] at hr
          rw [← hr]
          have := u2 y
          subst this
          exact ⟨J, _, rfl, u4, u5⟩
      · rw [v2] at hr
        have hr : (if bt M (vN B S j) = true then Sum.inl (2, j) else if KT B S (j + 1) = 20 then fyF (KT B S) (vN B S) N m (j + 1) (M ||| (nI 1 <<< (nI (vN B S j) &&& nI 31))) else Sum.inr (j + 1, M ||| (nI 1 <<< (nI (vN B S j) &&& nI 31)))) = r := hr
        rw [if_neg (by rw [v4]; decide)] at hr
        have hcn := cnt_bit hN.2 v3 v4
        have j14 : J 52 14 = nI 0 := (v8 _ _ (by omega)).trans h14
        have j2 : J 53 2 = nI F := (v8 _ _ (by omega)).trans h2
        have e10 := v6.2.2.1
        have hk := KT_le B S (j + 1)
        have ht := tyT_lt (KT B S (j + 1))
        by_cases z : KT B S (j + 1) = 20
        · rw [if_pos z] at hr
          rw [← hr]
          rw [(tyT_2 hk).mpr z] at e10
          have ih := fr_loop (L := L) hN hF m (j + 1) (c + 1) (n + 1) (M ||| (nI 1 <<< (nI (vN B S j) &&& nI 31))) J (hB.ff v8.f) v6 j14 v7 ((v8 _ _ (by omega)).trans h0) j2 (by omega) (by omega)
          have ih := ih.cg v8
          refine Eq.mp ?_ ih
          congr 1
          symm
          simp (disch := omega) only [e_X10_readsFeast_156, e_X10_readsFeast_174, e_X10_readsFeast_196, v5, j14, e10, Option.bind_some, Option.toList_some, Option.toList_none, List.cons_append, List.nil_append, Option.map_some, cond_true, cond_false, Bool.not_true, Bool.not_false, Bool.true_and, Bool.and_true, Bool.false_and, Bool.and_false, Bool.true_or, Bool.or_true, Bool.false_or, Bool.or_false, Bool.not_not, decide_true, decide_false, Bool.decide_eq_true, Bool.decide_eq_false, qz_0, qz_1, qz_n, qz_n0, qz_n1, qz_t, qz_f, Nat.reduceAdd, q1000000, q0, q1, q2, q3, q4, q5, q6, q7, q8, q9, q10, q11, q12, q13, q14, q15, q16, q18, q19, q20, q21, q22, q23, q24, q25, q26, q27, q28, q29, q30, q31, q32, q38, q44, q45, q48, q57, q58, q59, q60, q63, q64, q97, q122, q126, q127, q128, q255, q256, q300, q580, q600, q1000, q_eq_t, q_eq_f]
        · rw [if_neg z] at hr
          rw [← hr]
          have n2 : tyT (KT B S (j + 1)) ≠ 2 := fun q => z ((tyT_2 hk).mp q)
          refine ⟨J, c + 1, ?_, v6, v7, v8⟩
          simp (disch := omega) only [e_X10_readsFeast_156, e_X10_readsFeast_174, e_X10_readsFeast_195, e_X10_readsFeast_196, fe_out L hF j2, v5, j14, e10, Option.bind_some, Option.toList_some, Option.toList_none, List.cons_append, List.nil_append, Option.map_some, cond_true, cond_false, Bool.not_true, Bool.not_false, Bool.true_and, Bool.and_true, Bool.false_and, Bool.and_false, Bool.true_or, Bool.or_true, Bool.false_or, Bool.or_false, Bool.not_not, decide_true, decide_false, Bool.decide_eq_true, Bool.decide_eq_false, qz_0, qz_1, qz_n, qz_n0, qz_n1, qz_t, qz_f, Nat.reduceAdd, q1000000, q0, q1, q2, q3, q4, q5, q6, q7, q8, q9, q10, q11, q12, q13, q14, q15, q16, q18, q19, q20, q21, q22, q23, q24, q25, q26, q27, q28, q29, q30, q31, q32, q38, q44, q45, q48, q57, q58, q59, q60, q63, q64, q97, q122, q126, q127, q128, q255, q256, q300, q580, q600, q1000, q_eq_t, q_eq_f]
/-- letters of the name are kept -/
theorem fl_loop {L : zL} {B : Nat → Nat} {S F s len : Nat} (hF : F < 2) (hl : len ≤ 8) (hs : s + len ≤ S) (hS : S ≤ 600) : ∀ m i (I : zI), i + m = len → I 52 8 = nI (s + len) → I 52 9 = nI s → (∀ i, i < S → I 56 i = nI (B i)) → ∃ J, zrun zZ kX10_readsFeast (95, [some (.ref 52), some (.int (nI F)), some (.int (nI i)), none, none], [], hp I L, 0, 0) = zrun zZ kX10_readsFeast (139, [some (.ref 52), some (.int (nI F)), none, none, none], [], hp J L, 0, 0) ∧ (∀ t, i ≤ t → t < len → J 53 (10 + 8 * F + t) = nI (B (s + t))) ∧ (∀ x y, (x ≠ 53 ∨ y < 10 + 8 * F + i ∨ 10 + 8 * F + len ≤ y) → J x y = I x y)
  | 0, i, I, h, h8, h9, hb => by
    have hd : nI (s + len) - nI s = nI len := by
      rw [q_sub (by omega)]
      congr 1
      omega
    refine ⟨I, ?_, fun t h1 h2 => by omega, fun _ _ _ => rfl⟩
    rw [e_X10_readsFeast_95]
    simp (disch := omega) only [h8, h9, hd, Option.bind_some, Option.toList_some, Option.toList_none, List.cons_append, List.nil_append, Option.map_some, cond_true, cond_false, Bool.not_true, Bool.not_false, Bool.true_and, Bool.and_true, Bool.false_and, Bool.and_false, Bool.true_or, Bool.or_true, Bool.false_or, Bool.or_false, Bool.not_not, decide_true, decide_false, Bool.decide_eq_true, Bool.decide_eq_false, qz_0, qz_1, qz_n, qz_n0, qz_n1, qz_t, qz_f, Nat.reduceAdd, q1000000, q0, q1, q2, q3, q4, q5, q6, q7, q8, q9, q10, q11, q12, q13, q14, q15, q16, q18, q19, q20, q21, q22, q23, q24, q25, q26, q27, q28, q29, q30, q31, q32, q38, q44, q45, q48, q57, q58, q59, q60, q63, q64, q97, q122, q126, q127, q128, q255, q256, q300, q580, q600, q1000, nI_add, q_lt_t, q_lt_f, q_eq_t, q_eq_f, q_clamp, q_in_t, q_in_f]
  | m + 1, i, I, h, h8, h9, hb => by
    have hd : nI (s + len) - nI s = nI len := by
      rw [q_sub (by omega)]
      congr 1
      omega
    obtain ⟨J, g1, g2, g3⟩ := fl_loop (L := L) (B := B) hF hl hs hS m (i + 1) (zup I 53 (10 + 8 * F + i) (nI (B (s + i)))) (by omega) (by rw [zu_cell (by omega)]; exact h8) (by rw [zu_cell (by omega)]; exact h9) (fun t ht => by rw [zu_cell (by omega)]; exact hb t ht)
    refine ⟨J, ?_, fun t h1 h2 => ?_, fun x y p => ?_⟩
    · rw [← g1, e_X10_readsFeast_95]
      have hbi := hb (s + i) (by omega)
      simp (disch := omega) only [h8, h9, hd, q_mul, hbi, Option.bind_some, Option.toList_some, Option.toList_none, List.cons_append, List.nil_append, Option.map_some, cond_true, cond_false, Bool.not_true, Bool.not_false, Bool.true_and, Bool.and_true, Bool.false_and, Bool.and_false, Bool.true_or, Bool.or_true, Bool.false_or, Bool.or_false, Bool.not_not, decide_true, decide_false, Bool.decide_eq_true, Bool.decide_eq_false, qz_0, qz_1, qz_n, qz_n0, qz_n1, qz_t, qz_f, Nat.reduceAdd, q1000000, q0, q1, q2, q3, q4, q5, q6, q7, q8, q9, q10, q11, q12, q13, q14, q15, q16, q18, q19, q20, q21, q22, q23, q24, q25, q26, q27, q28, q29, q30, q31, q32, q38, q44, q45, q48, q57, q58, q59, q60, q63, q64, q97, q122, q126, q127, q128, q255, q256, q300, q580, q600, q1000, nI_add, q_lt_t, q_lt_f, q_eq_t, q_eq_f, q_clamp, q_in_t, q_in_f]
    · rcases Nat.lt_or_ge i t with q | q
      · exact g2 t q h2
      · obtain rfl : t = i := by omega
        rw [g3 _ _ (by omega), zu_same]
    · rw [g3 x y (by omega), up53 (by omega)]
