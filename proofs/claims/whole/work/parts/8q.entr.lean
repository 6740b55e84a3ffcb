theorem ce_loop {d : Nat} (hd : d = 11 ∨ d = 18) {L : zL} {B : Nat → Nat} {S n N F : Nat} (hN : 1 ≤ N ∧ N ≤ 28) (hF : F ≤ 2) {nm : Nat → List Nat} (hn : NMc L d F nm) {fd : Nat → Int32} : ∀ m j c fs ds M (I : zI), RD I L B S n → j ≤ n → I d 6 = nI N → I d 8 = nI F → (∀ f, f < F → I (d + 3) f = fd f) → I 5 9 = nI j → I 5 14 = M → fs < 4 → c = pc2 fs + cnt (bt ds) N → 31 ≤ m + c → EnC I L B S n (enF' (KT B S) (vN B S) (fiT B S F nm) N fd m j fs ds M (decide (0 < c))) ((zrun zZ kX4_readEntries (16, [some (.ref 5), some (.ref d), some (.int (nI fs)), some (.int ds), some (.int (nI 30)), some (.int (nI c)), none, none], [], hp I L, 0, 0)).map (fun r => (r.1, r.2.1)))
  | m, j, c, fs, ds, M, I, hR, hj, h6, h8, hfd, h9, h14, hfs, hc, hm => by
    have h0 := hR.1
    have e6 := hR.k hj
    have hk := KT_le B S j
    have cl := cnt_le (bt ds) N
    have pl := pc2_le fs hfs
    match m, hm with
    | 0, hm => omega
    | m + 1, hm =>
      rw [e_X4_readEntries_16 hd]
      -- what both kinds of entries do next
      have next : ∀ (fs' : Nat) (ds' M' : Int32), j < n → fs' < 4 → c + 1 = pc2 fs' + cnt (bt ds') N → EnC I L B S n (enF' (KT B S) (vN B S) (fiT B S F nm) N fd m (j + 1) fs' ds' M' true) ((zrun zZ kX4_readEntries (198, [some (.ref 5), some (.ref d), some (.int (nI fs')), some (.int ds'), some (.int (nI 30)), some (.int (nI c)), none, none], [], hp (zup I 5 14 M') L, 0, 0)).map (fun r => (r.1, r.2.1))) := fun fs' ds' M' hjn hfs' hc' => by
        have hR1 : RD (zup I 5 14 M') L B S n := hR.cg (zu_at (by omega)) (fun b => zu_cell (by omega)) (fun b => zu_cell (by omega)) (fun _ => rfl)
        have hst := s_step hR1 hjn (by rw [zu_at (by omega)]; exact h9)
        obtain ⟨I2, hI2⟩ : ∃ I2, I2 = zup (zup I 5 14 M') 5 9 (nI (j + 1)) := ⟨_, rfl⟩
        rw [← hI2] at hst
        have o : ∀ x y, (x ≠ 5 ∨ (y ≠ 9 ∧ y ≠ 14)) → I2 x y = I x y := fun x y p => by
          rw [hI2]
          by_cases u : x = 5
          · rw [zu_at (by omega), zu_at (by omega)]
          · rw [zu_cell u, zu_cell u]
        have ih := ce_loop hd hN hF hn (fd := fd) m (j + 1) (c + 1) fs' ds' M' I2 (hR.cg (o _ _ (by omega)) (fun b => o _ _ (by omega)) (fun b => o _ _ (by omega)) (fun _ => rfl)) (by omega) ((o _ _ (by omega)).trans h6) ((o _ _ (by omega)).trans h8) (fun f hf => (o _ _ (by omega)).trans (hfd f hf)) (by rw [hI2, zu_same]) (by rw [hI2, zu_at (by omega), zu_same]) hfs' hc' (by omega)
        rw [decide_eq_true (show 0 < c + 1 by omega)] at ih
        have ih := ih.cg (I := I) o
        refine Eq.mp ?_ ih
        congr 1
        symm
        simp (disch := omega) only [e_X4_readEntries_198 hd, e_X4_readEntries_202 hd, hst, Option.bind_some, Option.toList_some, Option.toList_none, List.cons_append, List.nil_append, Option.map_some, cond_true, cond_false, Bool.not_true, Bool.not_false, Bool.true_and, Bool.and_true, Bool.false_and, Bool.and_false, Bool.true_or, Bool.or_true, Bool.false_or, Bool.or_false, Bool.not_not, decide_true, decide_false, Bool.decide_eq_true, Bool.decide_eq_false, qz_0, qz_1, qz_n, qz_n0, qz_n1, qz_t, qz_f, Nat.reduceAdd, q1000000, q0, q1, q2, q3, q4, q5, q6, q7, q8, q9, q10, q11, q12, q13, q14, q15, q16, q18, q19, q20, q21, q22, q23, q24, q25, q26, q27, q28, q29, q30, q31, q32, q38, q44, q45, q48, q57, q58, q59, q60, q63, q64, q97, q122, q126, q127, q128, q255, q256, q300, q580, q600, q1000, nI_add, q_lt_t, q_lt_f, q_eq_t, q_eq_f, q_clamp, q_in_t, q_in_f]
      -- not a feast
      have other : fiT B S F nm j = none → EnC I L B S n (enF' (KT B S) (vN B S) (fiT B S F nm) N fd (m + 1) j fs ds M (decide (0 < c))) ((zrun zZ kX4_readEntries (54, [some (.ref 5), some (.ref d), some (.int (nI fs)), some (.int ds), some (.int (nI 30)), some (.int (nI c)), none, none], [.int (-nI 1)], hp I L, 0, 0)).map (fun r => (r.1, r.2.1))) := fun hfi => by
        unfold enF'
        rw [hfi]
        show EnC I L B S n (if KT B S j = 20 then _ else _) _
        by_cases z : KT B S j = 20
        · rw [if_pos z]
          rw [z] at e6
          have hjn := hR.lt hj (by omega)
          rcases s_see hR hj h9 (a := 0) (b := N - 1) (by omega) (by omega) with ⟨e, u1, u2⟩ | ⟨u1, u2, u3, u4, u5, u6, u7⟩
          · rw [u1]
            refine ⟨fl I e (sT B S j), ?_, fl_ok _ _ (fun _ _ _ => rfl)⟩
            simp (disch := omega) only [e_X4_readEntries_54 hd, e_X4_readEntries_128 hd, h9, e6, h6, q_sub, q1000000, q0, q1, q2, q3, q4, q5, q6, q7, q8, q9, q10, q11, q12, q13, q14, q15, q16, q18, q19, q20, q21, q22, q23, q24, q25, q26, q27, q28, q29, q30, q31, q32, q38, q44, q45, q48, q57, q58, q59, q60, q63, q64, q97, q122, q126, q127, q128, q255, q256, q300, q580, q600, q1000, u2, Option.bind_some, Option.toList_some, Option.toList_none, List.cons_append, List.nil_append, Option.map_some, cond_true, cond_false, Bool.not_true, Bool.not_false, Bool.true_and, Bool.and_true, Bool.false_and, Bool.and_false, Bool.true_or, Bool.or_true, Bool.false_or, Bool.or_false, Bool.not_not, decide_true, decide_false, Bool.decide_eq_true, Bool.decide_eq_false, qz_0, qz_1, qz_n, qz_n0, qz_n1, qz_t, qz_f, Nat.reduceAdd, q1000000, q0, q1, q2, q3, q4, q5, q6, q7, q8, q9, q10, q11, q12, q13, q14, q15, q16, q18, q19, q20, q21, q22, q23, q24, q25, q26, q27, q28, q29, q30, q31, q32, q38, q44, q45, q48, q57, q58, q59, q60, q63, q64, q97, q122, q126, q127, q128, q255, q256, q300, q580, q600, q1000, nI_add, q_lt_t, q_lt_f, q_eq_t, q_eq_f, q_clamp, q_in_t, q_in_f]
          · rw [u1]
            show EnC I L B S n (if bt ds (vN B S j) = true then _ else _) _
            have hab := and_bit ds (t := vN B S j) (by omega)
            by_cases y : bt ds (vN B S j) = true
            · rw [if_pos y]
              rw [eq_false (show ¬ bt ds (vN B S j) = false by rw [y]; decide)] at hab
              have hf := s_fail hR hj h9 2
              refine ⟨fl I 2 (sT B S j), ?_, fl_ok _ _ (fun _ _ _ => rfl)⟩
              simp (disch := omega) only [e_X4_readEntries_54 hd, e_X4_readEntries_128 hd, e_X4_readEntries_159 hd, h9, e6, h6, q_sub, q1000000, q0, q1, q2, q3, q4, q5, q6, q7, q8, q9, q10, q11, q12, q13, q14, q15, q16, q18, q19, q20, q21, q22, q23, q24, q25, q26, q27, q28, q29, q30, q31, q32, q38, q44, q45, q48, q57, q58, q59, q60, q63, q64, q97, q122, q126, q127, q128, q255, q256, q300, q580, q600, q1000, u6, u7, lN_i, hab, hf, Option.bind_some, Option.toList_some, Option.toList_none, List.cons_append, List.nil_append, Option.map_some, cond_true, cond_false, Bool.not_true, Bool.not_false, Bool.true_and, Bool.and_true, Bool.false_and, Bool.and_false, Bool.true_or, Bool.or_true, Bool.false_or, Bool.or_false, Bool.not_not, decide_true, decide_false, Bool.decide_eq_true, Bool.decide_eq_false, qz_0, qz_1, qz_n, qz_n0, qz_n1, qz_t, qz_f, Nat.reduceAdd, q1000000, q0, q1, q2, q3, q4, q5, q6, q7, q8, q9, q10, q11, q12, q13, q14, q15, q16, q18, q19, q20, q21, q22, q23, q24, q25, q26, q27, q28, q29, q30, q31, q32, q38, q44, q45, q48, q57, q58, q59, q60, q63, q64, q97, q122, q126, q127, q128, q255, q256, q300, q580, q600, q1000, nI_add, q_lt_t, q_lt_f, q_eq_t, q_eq_f, q_clamp, q_in_t, q_in_f]
            · rw [if_neg y]
              have y' : bt ds (vN B S j) = false := by simpa using y
              rw [eq_true y'] at hab
              have hcn : cnt (bt (ds ||| (nI 1 <<< (nI (vN B S j) &&& nI 31)))) N = cnt (bt ds) N + 1 := by
                refine cnt_set (t := vN B S j) y' (by rw [b_or, b_one (by omega) (by omega), decide_eq_true rfl, Bool.or_true]) (fun i hi => ?_) N (by omega)
                rcases Nat.lt_or_ge i 32 with q | q
                · rw [b_or, b_one (by omega) q, decide_eq_false hi, Bool.or_false]
                · rw [b_big q, b_big q]
              have nx := next fs (ds ||| (nI 1 <<< (nI (vN B S j) &&& nI 31))) (M ||| (nI 1 <<< (nI (vN B S j) &&& nI 31))) hjn hfs (by omega)
              refine Eq.mp ?_ nx
              congr 1
              symm
              simp (disch := omega) only [e_X4_readEntries_54 hd, e_X4_readEntries_128 hd, h9, e6, h6, h14, q_sub, q1000000, q0, q1, q2, q3, q4, q5, q6, q7, q8, q9, q10, q11, q12, q13, q14, q15, q16, q18, q19, q20, q21, q22, q23, q24, q25, q26, q27, q28, q29, q30, q31, q32, q38, q44, q45, q48, q57, q58, q59, q60, q63, q64, q97, q122, q126, q127, q128, q255, q256, q300, q580, q600, q1000, u6, u7, lN_i, hab, Option.bind_some, Option.toList_some, Option.toList_none, List.cons_append, List.nil_append, Option.map_some, cond_true, cond_false, Bool.not_true, Bool.not_false, Bool.true_and, Bool.and_true, Bool.false_and, Bool.and_false, Bool.true_or, Bool.or_true, Bool.false_or, Bool.or_false, Bool.not_not, decide_true, decide_false, Bool.decide_eq_true, Bool.decide_eq_false, qz_0, qz_1, qz_n, qz_n0, qz_n1, qz_t, qz_f, Nat.reduceAdd, q1000000, q0, q1, q2, q3, q4, q5, q6, q7, q8, q9, q10, q11, q12, q13, q14, q15, q16, q18, q19, q20, q21, q22, q23, q24, q25, q26, q27, q28, q29, q30, q31, q32, q38, q44, q45, q48, q57, q58, q59, q60, q63, q64, q97, q122, q126, q127, q128, q255, q256, q300, q580, q600, q1000, nI_add, q_lt_t, q_lt_f, q_eq_t, q_eq_f, q_clamp, q_in_t, q_in_f]
        · rw [if_neg z]
          by_cases y : 0 < c
          · rw [decide_eq_true y, if_pos rfl]
            refine ⟨I, ?_, hj, h9, h14, fun _ _ _ => rfl⟩
            simp (disch := omega) only [e_X4_readEntries_54 hd, e_X4_readEntries_192 hd, e_X4_readEntries_197 hd, h9, e6, q1000000, q0, q1, q2, q3, q4, q5, q6, q7, q8, q9, q10, q11, q12, q13, q14, q15, q16, q18, q19, q20, q21, q22, q23, q24, q25, q26, q27, q28, q29, q30, q31, q32, q38, q44, q45, q48, q57, q58, q59, q60, q63, q64, q97, q122, q126, q127, q128, q255, q256, q300, q580, q600, q1000, Option.bind_some, Option.toList_some, Option.toList_none, List.cons_append, List.nil_append, Option.map_some, cond_true, cond_false, Bool.not_true, Bool.not_false, Bool.true_and, Bool.and_true, Bool.false_and, Bool.and_false, Bool.true_or, Bool.or_true, Bool.false_or, Bool.or_false, Bool.not_not, decide_true, decide_false, Bool.decide_eq_true, Bool.decide_eq_false, qz_0, qz_1, qz_n, qz_n0, qz_n1, qz_t, qz_f, Nat.reduceAdd, q1000000, q0, q1, q2, q3, q4, q5, q6, q7, q8, q9, q10, q11, q12, q13, q14, q15, q16, q18, q19, q20, q21, q22, q23, q24, q25, q26, q27, q28, q29, q30, q31, q32, q38, q44, q45, q48, q57, q58, q59, q60, q63, q64, q97, q122, q126, q127, q128, q255, q256, q300, q580, q600, q1000, nI_add, q_lt_t, q_lt_f, q_eq_t, q_eq_f, q_clamp, q_in_t, q_in_f]
          · rw [decide_eq_false y, if_neg (by decide)]
            have hf := s_fail hR hj h9 1
            refine ⟨fl I 1 (sT B S j), ?_, fl_ok _ _ (fun _ _ _ => rfl)⟩
            simp (disch := omega) only [e_X4_readEntries_54 hd, e_X4_readEntries_189 hd, e_X4_readEntries_197 hd, h9, e6, q1000000, q0, q1, q2, q3, q4, q5, q6, q7, q8, q9, q10, q11, q12, q13, q14, q15, q16, q18, q19, q20, q21, q22, q23, q24, q25, q26, q27, q28, q29, q30, q31, q32, q38, q44, q45, q48, q57, q58, q59, q60, q63, q64, q97, q122, q126, q127, q128, q255, q256, q300, q580, q600, q1000, hf, Option.bind_some, Option.toList_some, Option.toList_none, List.cons_append, List.nil_append, Option.map_some, cond_true, cond_false, Bool.not_true, Bool.not_false, Bool.true_and, Bool.and_true, Bool.false_and, Bool.and_false, Bool.true_or, Bool.or_true, Bool.false_or, Bool.or_false, Bool.not_not, decide_true, decide_false, Bool.decide_eq_true, Bool.decide_eq_false, qz_0, qz_1, qz_n, qz_n0, qz_n1, qz_t, qz_f, Nat.reduceAdd, q1000000, q0, q1, q2, q3, q4, q5, q6, q7, q8, q9, q10, q11, q12, q13, q14, q15, q16, q18, q19, q20, q21, q22, q23, q24, q25, q26, q27, q28, q29, q30, q31, q32, q38, q44, q45, q48, q57, q58, q59, q60, q63, q64, q97, q122, q126, q127, q128, q255, q256, q300, q580, q600, q1000, nI_add, q_lt_t, q_lt_f, q_eq_t, q_eq_f, q_clamp, q_in_t, q_in_f]
      by_cases z : KT B S j = 19
      · have hjn := hR.lt hj (by omega)
        obtain ⟨w1, w2⟩ := hR.w hjn (by omega)
        have hfn := s_feastNamed (I := I) hd hF h8 hn w2
        have ef : fiT B S F nm j = fx nm (wN B S j) F 0 := if_pos z
        rw [z] at e6
        have st : ∀ x, fxI (fx nm (wN B S j) F 0) = x → (cond (decide (nI 30 < nI c)) (some (some (.int (1 : Int32)), (hp I L), 0, 0)) (cond (zin (I 5 9) 601) (cond (!decide ((I 6 (I 5 9).toNatClampNeg) = (19 : Int32))) (zrun zZ kX4_readEntries (54, [some (.ref 5), some (.ref d), some (.int (nI fs)), some (.int ds), some (.int (nI 30)), some (.int (nI c)), none, none], [.int (-1 : Int32)], (hp I L), 0, 0)) (cond (zin (I 5 9) 601) ((zcall zZ nX1_feastNamed [.ref d, .long (L 8 (I 5 9).toNatClampNeg)] (hp I L)).bind (fun q => zrun zZ kX4_readEntries (50, [some (.ref 5), some (.ref d), some (.int (nI fs)), some (.int ds), some (.int (nI 30)), some (.int (nI c)), none, none], q.1.toList ++ [], q.2, 0, 0))) none)) none)) = zrun zZ kX4_readEntries (54, [some (.ref 5), some (.ref d), some (.int (nI fs)), some (.int ds), some (.int (nI 30)), some (.int (nI c)), none, none], [.int x], (hp I L), 0, 0) := fun x hx => by
          rw [← hx]
          simp (disch := omega) only [e_X4_readEntries_50 hd, h9, e6, w1, hfn, Option.bind_some, Option.toList_some, Option.toList_none, List.cons_append, List.nil_append, Option.map_some, cond_true, cond_false, Bool.not_true, Bool.not_false, Bool.true_and, Bool.and_true, Bool.false_and, Bool.and_false, Bool.true_or, Bool.or_true, Bool.false_or, Bool.or_false, Bool.not_not, decide_true, decide_false, Bool.decide_eq_true, Bool.decide_eq_false, qz_0, qz_1, qz_n, qz_n0, qz_n1, qz_t, qz_f, Nat.reduceAdd, q1000000, q0, q1, q2, q3, q4, q5, q6, q7, q8, q9, q10, q11, q12, q13, q14, q15, q16, q18, q19, q20, q21, q22, q23, q24, q25, q26, q27, q28, q29, q30, q31, q32, q38, q44, q45, q48, q57, q58, q59, q60, q63, q64, q97, q122, q126, q127, q128, q255, q256, q300, q580, q600, q1000, nI_add, q_lt_t, q_lt_f, q_eq_t, q_eq_f, q_clamp, q_in_t, q_in_f]
        cases hfx : fx nm (wN B S j) F 0 with
        | none =>
          rw [hfx] at ef st
          rw [st (-nI 1) rfl]
          exact other ef
        | some f =>
          rw [hfx] at ef st
          rw [st (nI f) rfl]
          have hfl := fx_lt F 0 f hfx
          unfold enF'
          rw [ef]
          show EnC I L B S n (if fs.testBit f = true then _ else _) _
          have hne : (nI f = -nI 1) = False := eq_false (fun q => by
            have h : ∀ t, t < 2 → nI t ≠ -nI 1 := by decide +kernel
            exact h f (by omega) q)
          by_cases y : fs.testBit f = true
          · rw [if_pos y]
            have hf := s_fail hR hj h9 2
            refine ⟨fl I 2 (sT B S j), ?_, fl_ok _ _ (fun _ _ _ => rfl)⟩
            simp (disch := omega) only [e_X4_readEntries_54 hd, e_X4_readEntries_76 hd, q1000000, q0, q1, q2, q3, q4, q5, q6, q7, q8, q9, q10, q11, q12, q13, q14, q15, q16, q18, q19, q20, q21, q22, q23, q24, q25, q26, q27, q28, q29, q30, q31, q32, q38, q44, q45, q48, q57, q58, q59, q60, q63, q64, q97, q122, q126, q127, q128, q255, q256, q300, q580, q600, q1000, hne, q_bit, bt_nI, y, hf, Option.bind_some, Option.toList_some, Option.toList_none, List.cons_append, List.nil_append, Option.map_some, cond_true, cond_false, Bool.not_true, Bool.not_false, Bool.true_and, Bool.and_true, Bool.false_and, Bool.and_false, Bool.true_or, Bool.or_true, Bool.false_or, Bool.or_false, Bool.not_not, decide_true, decide_false, Bool.decide_eq_true, Bool.decide_eq_false, qz_0, qz_1, qz_n, qz_n0, qz_n1, qz_t, qz_f, Nat.reduceAdd, q1000000, q0, q1, q2, q3, q4, q5, q6, q7, q8, q9, q10, q11, q12, q13, q14, q15, q16, q18, q19, q20, q21, q22, q23, q24, q25, q26, q27, q28, q29, q30, q31, q32, q38, q44, q45, q48, q57, q58, q59, q60, q63, q64, q97, q122, q126, q127, q128, q255, q256, q300, q580, q600, q1000, nI_add, q_lt_t, q_lt_f, q_eq_t, q_eq_f, q_clamp, q_in_t, q_in_f]
          · have y' : fs.testBit f = false := by simpa using y
            rw [if_neg y]
            obtain ⟨p1, p2⟩ := pc2_set fs hfs f (by omega) y'
            have nx := next (fs ||| 2 ^ f) ds (M ||| fd f) hjn p2 (by omega)
            refine Eq.mp ?_ nx
            congr 1
            symm
            simp (disch := omega) only [e_X4_readEntries_54 hd, q1000000, q0, q1, q2, q3, q4, q5, q6, q7, q8, q9, q10, q11, q12, q13, q14, q15, q16, q18, q19, q20, q21, q22, q23, q24, q25, q26, q27, q28, q29, q30, q31, q32, q38, q44, q45, q48, q57, q58, q59, q60, q63, q64, q97, q122, q126, q127, q128, q255, q256, q300, q580, q600, q1000, hne, q_bit, bt_nI, y', q_shl1, nx_or, h14, hfd, Option.bind_some, Option.toList_some, Option.toList_none, List.cons_append, List.nil_append, Option.map_some, cond_true, cond_false, Bool.not_true, Bool.not_false, Bool.true_and, Bool.and_true, Bool.false_and, Bool.and_false, Bool.true_or, Bool.or_true, Bool.false_or, Bool.or_false, Bool.not_not, decide_true, decide_false, Bool.decide_eq_true, Bool.decide_eq_false, qz_0, qz_1, qz_n, qz_n0, qz_n1, qz_t, qz_f, Nat.reduceAdd, q1000000, q0, q1, q2, q3, q4, q5, q6, q7, q8, q9, q10, q11, q12, q13, q14, q15, q16, q18, q19, q20, q21, q22, q23, q24, q25, q26, q27, q28, q29, q30, q31, q32, q38, q44, q45, q48, q57, q58, q59, q60, q63, q64, q97, q122, q126, q127, q128, q255, q256, q300, q580, q600, q1000, nI_add, q_lt_t, q_lt_f, q_eq_t, q_eq_f, q_clamp, q_in_t, q_in_f]
      · have ef : fiT B S F nm j = none := if_neg z
        have st : (cond (decide (nI 30 < nI c)) (some (some (.int (1 : Int32)), (hp I L), 0, 0)) (cond (zin (I 5 9) 601) (cond (!decide ((I 6 (I 5 9).toNatClampNeg) = (19 : Int32))) (zrun zZ kX4_readEntries (54, [some (.ref 5), some (.ref d), some (.int (nI fs)), some (.int ds), some (.int (nI 30)), some (.int (nI c)), none, none], [.int (-1 : Int32)], (hp I L), 0, 0)) (cond (zin (I 5 9) 601) ((zcall zZ nX1_feastNamed [.ref d, .long (L 8 (I 5 9).toNatClampNeg)] (hp I L)).bind (fun q => zrun zZ kX4_readEntries (50, [some (.ref 5), some (.ref d), some (.int (nI fs)), some (.int ds), some (.int (nI 30)), some (.int (nI c)), none, none], q.1.toList ++ [], q.2, 0, 0))) none)) none)) = zrun zZ kX4_readEntries (54, [some (.ref 5), some (.ref d), some (.int (nI fs)), some (.int ds), some (.int (nI 30)), some (.int (nI c)), none, none], [.int (-nI 1)], (hp I L), 0, 0) := by
          simp (disch := omega) only [h9, e6, Option.bind_some, Option.toList_some, Option.toList_none, List.cons_append, List.nil_append, Option.map_some, cond_true, cond_false, Bool.not_true, Bool.not_false, Bool.true_and, Bool.and_true, Bool.false_and, Bool.and_false, Bool.true_or, Bool.or_true, Bool.false_or, Bool.or_false, Bool.not_not, decide_true, decide_false, Bool.decide_eq_true, Bool.decide_eq_false, qz_0, qz_1, qz_n, qz_n0, qz_n1, qz_t, qz_f, Nat.reduceAdd, q1000000, q0, q1, q2, q3, q4, q5, q6, q7, q8, q9, q10, q11, q12, q13, q14, q15, q16, q18, q19, q20, q21, q22, q23, q24, q25, q26, q27, q28, q29, q30, q31, q32, q38, q44, q45, q48, q57, q58, q59, q60, q63, q64, q97, q122, q126, q127, q128, q255, q256, q300, q580, q600, q1000, nI_add, q_lt_t, q_lt_f, q_eq_t, q_eq_f, q_clamp, q_in_t, q_in_f]
        rw [st]
        exact other ef
