/-! a feast is read: class -/
theorem wN_az {B : Nat → Nat} {S j : Nat} (h : KT B S j ≤ 19) : sT B S j < S ∧ (wN B S j).length = ps B S (j + 1) - sT B S j ∧ sT B S j + 1 ≤ ps B S (j + 1) ∧ (∀ i, i < (wN B S j).length → 97 ≤ (wN B S j).getD i 0 ∧ (wN B S j).getD i 0 ≤ 122 ∧ (wN B S j).getD i 0 = B (sT B S j + i)) ∧ (KT B S j = 19 → kx (wN B S j) 19 0 = 19) := by
  have hs : sT B S j ≠ S := fun q => by
    rw [KT_24.mpr q] at h
    omega
  have hl : sT B S j < S := by
    have := (tS_le B (ps_le B S j)).2
    have : sT B S j ≤ S := this
    omega
  have hb : kb (B (sT B S j)) = 19 := by
    unfold KT at h
    rw [if_neg hs] at h
    by_cases y : kb (B (sT B S j)) = 19
    · exact y
    · rw [if_neg y] at h
      have := kb_all (B (sT B S j))
      omega
  have hp := ps_19 hl hb (Or.inl rfl)
  refine ⟨hl, let_len _ _ _, ps_s B S j hl, fun i hi => ?_, fun q => ?_⟩
  · have hi : i < ps B S (j + 1) - sT B S j := by
      rw [show (wN B S j).length = ps B S (j + 1) - sT B S j from let_len _ _ _] at hi
      exact hi
    have e : (wN B S j).getD i 0 = B (sT B S j + i) := let_get B hi
    have := kb_let.mp (rnk_in B 19 (S - sT B S j) (sT B S j) (sT B S j + i) (by omega) (by rw [← hp]; omega))
    rw [e]
    exact ⟨this.1, this.2, rfl⟩
  · unfold KT at q
    rw [if_neg hs, if_pos hb] at q
    exact q
theorem wv_m1 {ws : List Nat} (hx : ∀ x, x ∈ ws → 0 < x ∧ x < 128) : (lg_cmp (wv ws) (-1 : Int64) = nI 0) = (8 < ws.length) := by
  refine propext ((lg_cmp_eq _ _).trans ?_)
  unfold wv
  by_cases z : ws.length ≤ 8
  · rw [if_pos z]
    have h63 := wc_63 z hx
    constructor
    · intro h
      exfalso
      have h2 : (lN (wcode ws)).toBitVec.toNat = (-1 : Int64).toBitVec.toNat := by rw [h]
      rw [show (lN (wcode ws)).toBitVec.toNat = wcode ws from by
        show (BitVec.ofNat 64 (wcode ws)).toNat = _
        rw [BitVec.toNat_ofNat, Nat.mod_eq_of_lt (by omega)]] at h2
      rw [show (-1 : Int64).toBitVec.toNat = 18446744073709551615 from by decide +kernel] at h2
      omega
    · intro h
      omega
  · rw [if_neg z]
    exact ⟨fun _ => by omega, fun _ => rfl⟩
def fyF (K v : Nat → Nat) (N : Nat) : Nat → Nat → Int32 → (Nat × Nat) ⊕ (Nat × Int32)
  | 0, j, M => .inr (j, M)
  | m + 1, j, M => match nuR K v 0 (N - 1) j with
    | .inl e => .inl e
    | .inr (_, t) => if bt M t = true then .inl (2, j) else if K (j + 1) = 20 then fyF K v N m (j + 1) (M ||| (nI 1 <<< (nI t &&& nI 31))) else .inr (j + 1, M ||| (nI 1 <<< (nI t &&& nI 31)))
theorem fyF_ok {K v : Nat → Nat} {N : Nat} (hN : 1 ≤ N ∧ N ≤ 28) : ∀ m j M, sub N M → RO N (fyF K v N m j M)
  | 0, j, M, h => h
  | m + 1, j, M, h => by
    unfold fyF
    match hn : nuR K v 0 (N - 1) j with
    | .inl (e, jf) => exact nuR_e hn
    | .inr (j1, t) =>
      have hb := nuR_b hn
      have hs := sub_or h (sub_bit (t := t) (by omega) hN.2)
      show RO N (if bt M t = true then .inl (2, j) else if K (j + 1) = 20 then fyF K v N m (j + 1) (M ||| (nI 1 <<< (nI t &&& nI 31))) else .inr (j + 1, M ||| (nI 1 <<< (nI t &&& nI 31))))
      by_cases y : bt M t = true
      · rw [if_pos y]
        exact ⟨by omega, by omega⟩
      · rw [if_neg y]
        by_cases q : K (j + 1) = 20
        · rw [if_pos q]
          exact fyF_ok hN m _ _ hs
        · rw [if_neg q]
          exact hs
theorem cnt_bit {N t : Nat} {M : Int32} (hN : N ≤ 28) (ht : t < N) (h : bt M t = false) : cnt (bt (M ||| (nI 1 <<< (nI t &&& nI 31)))) N = cnt (bt M) N + 1 := by
  refine cnt_set (t := t) h (by rw [b_or, b_one (by omega) (by omega), decide_eq_true rfl, Bool.or_true]) (fun i hi => ?_) N ht
  rcases Nat.lt_or_ge i 32 with q | q
  · rw [b_or, b_one (by omega) q, decide_eq_false hi, Bool.or_false]
  · rw [b_big q, b_big q]
theorem fy_loop {d : Nat} (hd : d = 11 ∨ d = 18) {L : zL} {B : Nat → Nat} {S n N : Nat} (hN : 1 ≤ N ∧ N ≤ 28) : ∀ m j c M (I : zI), RD I L B S n → j ≤ n → I d 6 = nI N → I 5 9 = nI j → I 5 14 = M → c = cnt (bt M) N → N + 1 ≤ m + c → EnC I L B S n (fyF (KT B S) (vN B S) N m j M) ((zrun zZ kX4_readFeastDays (33, [some (.ref 5), some (.ref d), some (.int (nI c)), none], [], hp I L, 0, 0)).map (fun r => (r.1, r.2.1)))
  | m, j, c, M, I, hR, hj, h6, h9, h14, hc, hm => by
    have h0 := hR.1
    have cl := cnt_le (bt M) N
    have hsub : nI N - nI 1 = nI (N - 1) := q_sub (by omega)
    match m, hm with
    | 0, hm => omega
    | m + 1, hm =>
      obtain ⟨r, hr⟩ : ∃ r, fyF (KT B S) (vN B S) N (m + 1) j M = r := ⟨_, rfl⟩
      rw [hr]
      unfold fyF at hr
      rcases s_see hR hj h9 (a := 0) (b := N - 1) (by omega) (by omega) with ⟨e, s1, s2⟩ | ⟨s1, s2, s3, s4, s5, s6, s7⟩
      · rw [s1] at hr
        rw [← hr]
        refine ⟨fl I e (sT B S j), ?_, fl_ok _ _ (fun _ _ _ => rfl)⟩
        simp (disch := omega) only [e_X4_readFeastDays_33 hd, e_X4_readFeastDays_44 hd, h6, q1000000, q0, q1, q2, q3, q4, q5, q6, q7, q8, q9, q10, q11, q12, q13, q14, q15, q16, q18, q19, q20, q21, q22, q23, q24, q25, q26, q27, q28, q29, q30, q31, q32, q38, q44, q45, q48, q57, q58, q59, q60, q63, q64, q97, q122, q126, q127, q128, q255, q256, q300, q580, q600, q1000, hsub, s2, Option.bind_some, Option.toList_some, Option.toList_none, List.cons_append, List.nil_append, Option.map_some, cond_true, cond_false, Bool.not_true, Bool.not_false, Bool.true_and, Bool.and_true, Bool.false_and, Bool.and_false, Bool.true_or, Bool.or_true, Bool.false_or, Bool.or_false, Bool.not_not, decide_true, decide_false, Bool.decide_eq_true, Bool.decide_eq_false, qz_0, qz_1, qz_n, qz_n0, qz_n1, qz_t, qz_f, Nat.reduceAdd, q1000000, q0, q1, q2, q3, q4, q5, q6, q7, q8, q9, q10, q11, q12, q13, q14, q15, q16, q18, q19, q20, q21, q22, q23, q24, q25, q26, q27, q28, q29, q30, q31, q32, q38, q44, q45, q48, q57, q58, q59, q60, q63, q64, q97, q122, q126, q127, q128, q255, q256, q300, q580, q600, q1000, nI_add, q_lt_t, q_lt_f, q_eq_t, q_eq_f, q_clamp, q_in_t, q_in_f]
      · rw [s1] at hr
        have hr : (if bt M (vN B S j) = true then Sum.inl (2, j) else if KT B S (j + 1) = 20 then fyF (KT B S) (vN B S) N m (j + 1) (M ||| (nI 1 <<< (nI (vN B S j) &&& nI 31))) else Sum.inr (j + 1, M ||| (nI 1 <<< (nI (vN B S j) &&& nI 31)))) = r := hr
        have hab := and_bit M (t := vN B S j) (by omega)
        by_cases y : bt M (vN B S j) = true
        · rw [if_pos y] at hr
          rw [← hr]
          rw [eq_false (show ¬ bt M (vN B S j) = false by rw [y]; decide)] at hab
          have hf := s_fail hR hj h9 2
          refine ⟨fl I 2 (sT B S j), ?_, fl_ok _ _ (fun _ _ _ => rfl)⟩
          simp (disch := omega) only [e_X4_readFeastDays_33 hd, e_X4_readFeastDays_44 hd, e_X4_readFeastDays_76 hd, h6, h9, h14, q1000000, q0, q1, q2, q3, q4, q5, q6, q7, q8, q9, q10, q11, q12, q13, q14, q15, q16, q18, q19, q20, q21, q22, q23, q24, q25, q26, q27, q28, q29, q30, q31, q32, q38, q44, q45, q48, q57, q58, q59, q60, q63, q64, q97, q122, q126, q127, q128, q255, q256, q300, q580, q600, q1000, hsub, s6, s7, lN_i, hab, hf, Option.bind_some, Option.toList_some, Option.toList_none, List.cons_append, List.nil_append, Option.map_some, cond_true, cond_false, Bool.not_true, Bool.not_false, Bool.true_and, Bool.and_true, Bool.false_and, Bool.and_false, Bool.true_or, Bool.or_true, Bool.false_or, Bool.or_false, Bool.not_not, decide_true, decide_false, Bool.decide_eq_true, Bool.decide_eq_false, qz_0, qz_1, qz_n, qz_n0, qz_n1, qz_t, qz_f, Nat.reduceAdd, q1000000, q0, q1, q2, q3, q4, q5, q6, q7, q8, q9, q10, q11, q12, q13, q14, q15, q16, q18, q19, q20, q21, q22, q23, q24, q25, q26, q27, q28, q29, q30, q31, q32, q38, q44, q45, q48, q57, q58, q59, q60, q63, q64, q97, q122, q126, q127, q128, q255, q256, q300, q580, q600, q1000, nI_add, q_lt_t, q_lt_f, q_eq_t, q_eq_f, q_clamp, q_in_t, q_in_f]
        · rw [if_neg y] at hr
          have y' : bt M (vN B S j) = false := by simpa using y
          rw [eq_true y'] at hab
          have hcn := cnt_bit hN.2 (show vN B S j < N by omega) y'
          have cl2 := cnt_le (bt (M ||| (nI 1 <<< (nI (vN B S j) &&& nI 31)))) N
          obtain ⟨M', hM'⟩ : ∃ M', M' = M ||| (nI 1 <<< (nI (vN B S j) &&& nI 31)) := ⟨_, rfl⟩
          rw [← hM'] at hr hcn cl2
          have o1 : ∀ x y, (x ≠ 5 ∨ y ≠ 14) → zup I 5 14 M' x y = I x y := fun x y p => by
            by_cases u : x = 5
            · rw [zu_at (by omega)]
            · rw [zu_cell u]
          have hR1 : RD (zup I 5 14 M') L B S n := hR.cg (o1 _ _ (by omega)) (fun b => o1 _ _ (by omega)) (fun b => o1 _ _ (by omega)) (fun _ => rfl)
          obtain ⟨I2, a1, hR2, k2, o2⟩ := tk_s hR1 s5 ((o1 _ _ (by omega)).trans h9)
          have o : ∀ x y, (x ≠ 5 ∨ (y ≠ 9 ∧ y ≠ 14)) → I2 x y = I x y := fun x y p => (o2 x y (by omega)).trans (o1 x y (by omega))
          have k6 : I2 d 6 = nI N := (o _ _ (by omega)).trans h6
          have e6 := hR2.k (show j + 1 ≤ n by omega)
          have hk := KT_le B S (j + 1)
          have k14 : I2 5 14 = M' := (o2 _ _ (by omega)).trans (zu_same _ _ _ _)
          by_cases z : KT B S (j + 1) = 20
          · rw [if_pos z] at hr
            rw [← hr]
            rw [z] at e6
            have ih := fy_loop hd (L := L) hN m (j + 1) (c + 1) M' I2 hR2 (by omega) k6 k2 k14 (by omega) (by omega)
            have ih := ih.cg (I := I) o
            refine Eq.mp ?_ ih
            congr 1
            symm
            simp (disch := omega) only [e_X4_readFeastDays_33 hd, e_X4_readFeastDays_44 hd, e_X4_readFeastDays_91 hd, e_X4_readFeastDays_7 hd, h6, h9, h14, q1000000, q0, q1, q2, q3, q4, q5, q6, q7, q8, q9, q10, q11, q12, q13, q14, q15, q16, q18, q19, q20, q21, q22, q23, q24, q25, q26, q27, q28, q29, q30, q31, q32, q38, q44, q45, q48, q57, q58, q59, q60, q63, q64, q97, q122, q126, q127, q128, q255, q256, q300, q580, q600, q1000, hsub, s6, s7, lN_i, hab, ← hM', a1, k6, k2, e6, Option.bind_some, Option.toList_some, Option.toList_none, List.cons_append, List.nil_append, Option.map_some, cond_true, cond_false, Bool.not_true, Bool.not_false, Bool.true_and, Bool.and_true, Bool.false_and, Bool.and_false, Bool.true_or, Bool.or_true, Bool.false_or, Bool.or_false, Bool.not_not, decide_true, decide_false, Bool.decide_eq_true, Bool.decide_eq_false, qz_0, qz_1, qz_n, qz_n0, qz_n1, qz_t, qz_f, Nat.reduceAdd, nI_add, q_lt_t, q_lt_f, q_eq_t, q_eq_f, q_clamp, q_in_t, q_in_f]
          · rw [if_neg z] at hr
            rw [← hr]
            refine ⟨I2, ?_, by omega, k2, k14, o⟩
            simp (disch := omega) only [e_X4_readFeastDays_33 hd, e_X4_readFeastDays_44 hd, e_X4_readFeastDays_91 hd, e_X4_readFeastDays_7 hd, e_X4_readFeastDays_97 hd, h6, h9, h14, q1000000, q0, q1, q2, q3, q4, q5, q6, q7, q8, q9, q10, q11, q12, q13, q14, q15, q16, q18, q19, q20, q21, q22, q23, q24, q25, q26, q27, q28, q29, q30, q31, q32, q38, q44, q45, q48, q57, q58, q59, q60, q63, q64, q97, q122, q126, q127, q128, q255, q256, q300, q580, q600, q1000, hsub, s6, s7, lN_i, hab, ← hM', a1, k6, k2, e6, Option.bind_some, Option.toList_some, Option.toList_none, List.cons_append, List.nil_append, Option.map_some, cond_true, cond_false, Bool.not_true, Bool.not_false, Bool.true_and, Bool.and_true, Bool.false_and, Bool.and_false, Bool.true_or, Bool.or_true, Bool.false_or, Bool.or_false, Bool.not_not, decide_true, decide_false, Bool.decide_eq_true, Bool.decide_eq_false, qz_0, qz_1, qz_n, qz_n0, qz_n1, qz_t, qz_f, Nat.reduceAdd, nI_add, q_lt_t, q_lt_f, q_eq_t, q_eq_f, q_clamp, q_in_t, q_in_f]
