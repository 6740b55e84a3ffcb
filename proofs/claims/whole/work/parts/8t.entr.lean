/-! the loop of entries, reference -/
theorem or_sw (a b c : Int32) : (a ||| b) ||| c = (a ||| c) ||| b := by
  rw [Int32.or_assoc, Int32.or_comm b c, ← Int32.or_assoc]
theorem re_loop {L : zL} {B : Nat → Nat} {S N F : Nat} (hN : 1 ≤ N ∧ N ≤ 28) (hF : F ≤ 2) {nm : Nat → List Nat} (hK : NK F nm) {fd : Nat → Int32} : ∀ m j c n fs ds x3 st (I : zI), BT I B S → RF I B S j → I 52 14 = nI 0 → I 52 13 = nI c → I 53 0 = nI N → I 53 2 = nI F → NMr I F nm → (∀ f, f < F → I 53 (6 + f) = fd f) → (st = true → KT B S j = 20 ∨ (KT B S j ≤ 19 ∧ KT B S j ≠ 11)) → fs < 4 → n = pc2 fs + cnt (bt ds) N → 31 ≤ m + n → VEn I L B S c j (enF' (KT B S) (vN B S) (fiT B S F nm) N fd m j fs ds (ds ||| x3) st) ((zrun zZ kX10_readsEntries (20, [some (.ref 52), some (.int ds), some (.int (nI fs)), some (.int x3), some (.int (nI 1)), none, none], [], hp I L, 0, 0)).map (fun r => (r.1, r.2.1)))
  | m, j, c, n, fs, ds, x3, st, I, hB, h, h14, h13, h0, h2, hn, hfd, hst, hfs, hc, hm => by
    have hk := KT_le B S j
    have cl := cnt_le (bt ds) N
    have pl := pc2_le fs hfs
    have ht := tyT_lt (KT B S j)
    have e10 := h.2.2.1
    match m, hm with
    | 0, hm => omega
    | m + 1, hm =>
      -- what both kinds of entries do next
      have next : ∀ (fs' : Nat) (ds' y3 : Int32) (J : zI), FRn I J → RF J B S (j + 1) → J 52 13 = nI (c + 1) → fs' < 4 → n + 1 = pc2 fs' + cnt (bt ds') N → VEn I L B S c j (enF' (KT B S) (vN B S) (fiT B S F nm) N fd m (j + 1) fs' ds' (ds' ||| y3) true) ((zrun zZ kX10_readsEntries (141, [some (.ref 52), some (.int ds'), some (.int (nI fs')), some (.int y3), none, none, none], [], hp J L, 0, 0)).map (fun r => (r.1, r.2.1))) := fun fs' ds' y3 J f1 hJ j13 hfs' hc' => by
        have hkk := KT_le B S (j + 1)
        have htt := tyT_lt (KT B S (j + 1))
        have g10 := hJ.2.2.1
        have g12 := hJ.2.2.2.2
        have g14 : J 52 14 = nI 0 := (f1 _ _ (by omega)).trans h14
        have k11 := kI_eq (k := KT B S (j + 1)) (t := 11) (by omega)
        refine VEn.cg (k := 1) ?_ f1
        by_cases z : KT B S (j + 1) = 20 ∨ (KT B S (j + 1) ≤ 19 ∧ KT B S (j + 1) ≠ 11)
        · have ih := re_loop hN hF hK (L := L) (fd := fd) m (j + 1) (c + 1) (n + 1) fs' ds' y3 true J (hB.ff f1.f) hJ g14 j13 ((f1 _ _ (by omega)).trans h0) ((f1 _ _ (by omega)).trans h2) (fun f hf => by
            obtain ⟨a1, a2, a3⟩ := hn f hf
            exact ⟨a1, (f1 _ _ (by omega)).trans a2, fun i hi => ⟨(a3 i hi).1, (f1 _ _ (by omega)).trans (a3 i hi).2⟩⟩) (fun f hf => (f1 _ _ (by omega)).trans (hfd f hf)) (fun _ => z) hfs' hc' (by omega)
          refine Eq.mp ?_ ih
          congr 1
          symm
          rcases z with z | ⟨z, y⟩
          · rw [(tyT_2 hkk).mpr z] at g10
            simp (disch := omega) only [e_X10_readsEntries_141, e_X10_readsEntries_173, e_X10_readsEntries_178, g14, g10, Option.bind_some, Option.toList_some, Option.toList_none, List.cons_append, List.nil_append, Option.map_some, cond_true, cond_false, Bool.not_true, Bool.not_false, Bool.true_and, Bool.and_true, Bool.false_and, Bool.and_false, Bool.true_or, Bool.or_true, Bool.false_or, Bool.or_false, Bool.not_not, decide_true, decide_false, Bool.decide_eq_true, Bool.decide_eq_false, qz_0, qz_1, qz_n, qz_n0, qz_n1, qz_t, qz_f, Nat.reduceAdd, q1000000, q0, q1, q2, q3, q4, q5, q6, q7, q8, q9, q10, q11, q12, q13, q14, q15, q16, q18, q19, q20, q21, q22, q23, q24, q25, q26, q27, q28, q29, q30, q31, q32, q38, q44, q45, q48, q57, q58, q59, q60, q63, q64, q97, q122, q126, q127, q128, q255, q256, q300, q580, q600, q1000, nI_add, q_lt_t, q_lt_f, q_eq_t, q_eq_f, q_clamp, q_in_t, q_in_f]
          · rw [(tyT_1 hkk).mpr z] at g10
            rw [eq_false y] at k11
            simp (disch := omega) only [e_X10_readsEntries_141, e_X10_readsEntries_173, e_X10_readsEntries_178, g14, g10, g12, k11, Option.bind_some, Option.toList_some, Option.toList_none, List.cons_append, List.nil_append, Option.map_some, cond_true, cond_false, Bool.not_true, Bool.not_false, Bool.true_and, Bool.and_true, Bool.false_and, Bool.and_false, Bool.true_or, Bool.or_true, Bool.false_or, Bool.or_false, Bool.not_not, decide_true, decide_false, Bool.decide_eq_true, Bool.decide_eq_false, qz_0, qz_1, qz_n, qz_n0, qz_n1, qz_t, qz_f, Nat.reduceAdd, q1000000, q0, q1, q2, q3, q4, q5, q6, q7, q8, q9, q10, q11, q12, q13, q14, q15, q16, q18, q19, q20, q21, q22, q23, q24, q25, q26, q27, q28, q29, q30, q31, q32, q38, q44, q45, q48, q57, q58, q59, q60, q63, q64, q97, q122, q126, q127, q128, q255, q256, q300, q580, q600, q1000, nI_add, q_lt_t, q_lt_f, q_eq_t, q_eq_f, q_clamp, q_in_t, q_in_f]
        · have es : enF' (KT B S) (vN B S) (fiT B S F nm) N fd m (j + 1) fs' ds' (ds' ||| y3) true = .inr (j + 1, ds' ||| y3) := by
            cases m with
            | zero => rfl
            | succ m =>
              unfold enF'
              rw [show fiT B S F nm (j + 1) = none from if_neg (by omega)]
              show (if KT B S (j + 1) = 20 then _ else if true = true then _ else _) = _
              rw [if_neg (by omega), if_pos rfl]
          rw [es]
          refine Or.inl ⟨J, ?_, Nat.le_refl _, hJ, by rw [Nat.sub_self]; exact j13, fun _ _ _ => rfl⟩
          have n2 : tyT (KT B S (j + 1)) ≠ 2 := fun q => by
            have := (tyT_2 hkk).mp q
            omega
          by_cases y : KT B S (j + 1) = 11
          · rw [y] at g10 k11 g12
            rw [eq_true rfl] at k11
            have g10 : J 52 10 = nI 1 := g10
            simp (disch := omega) only [e_X10_readsEntries_141, e_X10_readsEntries_177, e_X10_readsEntries_178, g14, g10, g12, k11, Option.bind_some, Option.toList_some, Option.toList_none, List.cons_append, List.nil_append, Option.map_some, cond_true, cond_false, Bool.not_true, Bool.not_false, Bool.true_and, Bool.and_true, Bool.false_and, Bool.and_false, Bool.true_or, Bool.or_true, Bool.false_or, Bool.or_false, Bool.not_not, decide_true, decide_false, Bool.decide_eq_true, Bool.decide_eq_false, qz_0, qz_1, qz_n, qz_n0, qz_n1, qz_t, qz_f, Nat.reduceAdd, q1000000, q0, q1, q2, q3, q4, q5, q6, q7, q8, q9, q10, q11, q12, q13, q14, q15, q16, q18, q19, q20, q21, q22, q23, q24, q25, q26, q27, q28, q29, q30, q31, q32, q38, q44, q45, q48, q57, q58, q59, q60, q63, q64, q97, q122, q126, q127, q128, q255, q256, q300, q580, q600, q1000, nI_add, q_lt_t, q_lt_f, q_eq_t, q_eq_f, q_clamp, q_in_t, q_in_f]
            rw [e_X10_readsEntries_20]
            simp (disch := omega) only [Option.bind_some, Option.toList_some, Option.toList_none, List.cons_append, List.nil_append, Option.map_some, cond_true, cond_false, Bool.not_true, Bool.not_false, Bool.true_and, Bool.and_true, Bool.false_and, Bool.and_false, Bool.true_or, Bool.or_true, Bool.false_or, Bool.or_false, Bool.not_not, decide_true, decide_false, Bool.decide_eq_true, Bool.decide_eq_false, qz_0, qz_1, qz_n, qz_n0, qz_n1, qz_t, qz_f, Nat.reduceAdd, q1000000, q0, q1, q2, q3, q4, q5, q6, q7, q8, q9, q10, q11, q12, q13, q14, q15, q16, q18, q19, q20, q21, q22, q23, q24, q25, q26, q27, q28, q29, q30, q31, q32, q38, q44, q45, q48, q57, q58, q59, q60, q63, q64, q97, q122, q126, q127, q128, q255, q256, q300, q580, q600, q1000, nI_add, q_lt_t, q_lt_f, q_eq_t, q_eq_f, q_clamp, q_in_t, q_in_f]
          · have n1 : tyT (KT B S (j + 1)) ≠ 1 := fun q => by
              have := (tyT_1 hkk).mp q
              omega
            simp (disch := omega) only [e_X10_readsEntries_141, e_X10_readsEntries_177, e_X10_readsEntries_178, g14, g10, Option.bind_some, Option.toList_some, Option.toList_none, List.cons_append, List.nil_append, Option.map_some, cond_true, cond_false, Bool.not_true, Bool.not_false, Bool.true_and, Bool.and_true, Bool.false_and, Bool.and_false, Bool.true_or, Bool.or_true, Bool.false_or, Bool.or_false, Bool.not_not, decide_true, decide_false, Bool.decide_eq_true, Bool.decide_eq_false, qz_0, qz_1, qz_n, qz_n0, qz_n1, qz_t, qz_f, Nat.reduceAdd, q1000000, q0, q1, q2, q3, q4, q5, q6, q7, q8, q9, q10, q11, q12, q13, q14, q15, q16, q18, q19, q20, q21, q22, q23, q24, q25, q26, q27, q28, q29, q30, q31, q32, q38, q44, q45, q48, q57, q58, q59, q60, q63, q64, q97, q122, q126, q127, q128, q255, q256, q300, q580, q600, q1000, nI_add, q_lt_t, q_lt_f, q_eq_t, q_eq_f, q_clamp, q_in_t, q_in_f]
            rw [e_X10_readsEntries_20]
            simp (disch := omega) only [Option.bind_some, Option.toList_some, Option.toList_none, List.cons_append, List.nil_append, Option.map_some, cond_true, cond_false, Bool.not_true, Bool.not_false, Bool.true_and, Bool.and_true, Bool.false_and, Bool.and_false, Bool.true_or, Bool.or_true, Bool.false_or, Bool.or_false, Bool.not_not, decide_true, decide_false, Bool.decide_eq_true, Bool.decide_eq_false, qz_0, qz_1, qz_n, qz_n0, qz_n1, qz_t, qz_f, Nat.reduceAdd, q1000000, q0, q1, q2, q3, q4, q5, q6, q7, q8, q9, q10, q11, q12, q13, q14, q15, q16, q18, q19, q20, q21, q22, q23, q24, q25, q26, q27, q28, q29, q30, q31, q32, q38, q44, q45, q48, q57, q58, q59, q60, q63, q64, q97, q122, q126, q127, q128, q255, q256, q300, q580, q600, q1000, nI_add, q_lt_t, q_lt_f, q_eq_t, q_eq_f, q_clamp, q_in_t, q_in_f]
      have hfh := s_feastHere L hB h hn hF h2
      rw [e_X10_readsEntries_20]
      by_cases z : KT B S j ≤ 19
      · rw [if_pos z, fi_ok hK z] at hfh
        rw [(tyT_1 hk).mpr z] at e10
        unfold enF'
        match hfi : fiT B S F nm j with
        | none =>
          rw [hfi] at hfh
          have hfh : zcall zZ nX10_feastHere [.ref 52] (hp I L) = some (some (.int (-nI 1)), hp I L) := hfh
          obtain ⟨J1, f1, f2, f3⟩ := s_flt L h h14 1
          have hlt : (-nI 1 < nI 0) = True := eq_true (by decide)
          have run : (Option.map (fun r => (r.1, r.2.1)) (cond (decide (nI 1 = (0 : Int32))) (some (some (.int (ds ||| x3)), hp I L, 0, 0)) ((zcall zZ nX10_feastHere [.ref 52] (hp I L)).bind (fun q => zrun zZ kX10_readsEntries (29, [some (.ref 52), some (.int ds), some (.int (nI fs)), some (.int x3), none, none, none], q.1.toList ++ [], q.2, 0, 0))))) = some (some (.int (ds ||| (x3 ||| nI 0))), hp J1 L) := by
            simp (disch := omega) only [e_X10_readsEntries_29, e_X10_readsEntries_49, hfh, e10, hlt, f1, en_out66 L f2.1, Option.bind_some, Option.toList_some, Option.toList_none, List.cons_append, List.nil_append, Option.map_some, cond_true, cond_false, Bool.not_true, Bool.not_false, Bool.true_and, Bool.and_true, Bool.false_and, Bool.and_false, Bool.true_or, Bool.or_true, Bool.false_or, Bool.or_false, Bool.not_not, decide_true, decide_false, Bool.decide_eq_true, Bool.decide_eq_false, qz_0, qz_1, qz_n, qz_n0, qz_n1, qz_t, qz_f, Nat.reduceAdd, q1000000, q0, q1, q2, q3, q4, q5, q6, q7, q8, q9, q10, q11, q12, q13, q14, q15, q16, q18, q19, q20, q21, q22, q23, q24, q25, q26, q27, q28, q29, q30, q31, q32, q38, q44, q45, q48, q57, q58, q59, q60, q63, q64, q97, q122, q126, q127, q128, q255, q256, q300, q580, q600, q1000, nI_add, q_lt_t, q_lt_f, q_eq_t, q_eq_f, q_clamp, q_in_t, q_in_f]
          rw [run]
          show VEn I L B S c j (if KT B S j = 20 then _ else if st = true then _ else _) _
          rw [if_neg (by omega)]
          cases hs : st with
          | true =>
            rw [if_pos rfl]
            have := hst hs
            exact Or.inr ⟨by omega, J1, _, rfl, f2, FRf.n f3⟩
          | false =>
            rw [if_neg (by decide)]
            exact ⟨J1, _, rfl, f2, FRf.n f3⟩
        | some f =>
          rw [hfi] at hfh
          have hfh : zcall zZ nX10_feastHere [.ref 52] (hp I L) = some (some (.int (nI f)), hp I L) := hfh
          have hfl : f < F := by
            unfold fiT at hfi
            by_cases y : KT B S j = 19
            · rw [if_pos y] at hfi
              have := fx_lt F 0 f hfi
              omega
            · rw [if_neg y] at hfi
              cases hfi
          show VEn I L B S c j (if fs.testBit f = true then _ else _) _
          have hh := s_has (hp I L) (nI fs) (k := f) (by omega)
          rw [show bt (nI fs) f = fs.testBit f from bt_nI (by omega) _] at hh
          by_cases y : fs.testBit f = true
          · rw [if_pos y]
            rw [y] at hh
            obtain ⟨J1, f1, f2, f3⟩ := s_flt L h h14 2
            refine ⟨J1, ds ||| (x3 ||| nI 0), ?_, f2, FRf.n f3⟩
            simp (disch := omega) only [e_X10_readsEntries_29, e_X10_readsEntries_58, hfh, hh, e10, f1, en_out66 L f2.1, Option.bind_some, Option.toList_some, Option.toList_none, List.cons_append, List.nil_append, Option.map_some, cond_true, cond_false, Bool.not_true, Bool.not_false, Bool.true_and, Bool.and_true, Bool.false_and, Bool.and_false, Bool.true_or, Bool.or_true, Bool.false_or, Bool.or_false, Bool.not_not, decide_true, decide_false, Bool.decide_eq_true, Bool.decide_eq_false, qz_0, qz_1, qz_n, qz_n0, qz_n1, qz_t, qz_f, Nat.reduceAdd, q1000000, q0, q1, q2, q3, q4, q5, q6, q7, q8, q9, q10, q11, q12, q13, q14, q15, q16, q18, q19, q20, q21, q22, q23, q24, q25, q26, q27, q28, q29, q30, q31, q32, q38, q44, q45, q48, q57, q58, q59, q60, q63, q64, q97, q122, q126, q127, q128, q255, q256, q300, q580, q600, q1000, nI_add, q_lt_t, q_lt_f, q_eq_t, q_eq_f, q_clamp, q_in_t, q_in_f]
          · have y' : fs.testBit f = false := by simpa using y
            rw [if_neg y]
            rw [y'] at hh
            obtain ⟨J1, f1, f2, f3, f4⟩ := s_need_y L hB h h14 h13
            obtain ⟨p1, p2⟩ := pc2_set fs hfs f (by omega) y'
            have nx := next (fs ||| 2 ^ f) ds (x3 ||| fd f) J1 f4 f2 f3 p2 (by omega)
            rw [← Int32.or_assoc] at nx
            have j14 : J1 52 14 = nI 0 := (f4 _ _ (by omega)).trans h14
            have jfd : J1 53 (6 + f) = fd f := (f4 _ _ (by omega)).trans (hfd f hfl)
            refine Eq.mp ?_ nx
            congr 1
            symm
            simp (disch := omega) only [e_X10_readsEntries_29, e_X10_readsEntries_58, e_X10_readsEntries_66, e_X10_readsEntries_71, e_X10_readsEntries_87, e_X10_readsEntries_111, hfh, hh, e10, f1, j14, jfd, q_shl1, nx_or, Option.bind_some, Option.toList_some, Option.toList_none, List.cons_append, List.nil_append, Option.map_some, cond_true, cond_false, Bool.not_true, Bool.not_false, Bool.true_and, Bool.and_true, Bool.false_and, Bool.and_false, Bool.true_or, Bool.or_true, Bool.false_or, Bool.or_false, Bool.not_not, decide_true, decide_false, Bool.decide_eq_true, Bool.decide_eq_false, qz_0, qz_1, qz_n, qz_n0, qz_n1, qz_t, qz_f, Nat.reduceAdd, q1000000, q0, q1, q2, q3, q4, q5, q6, q7, q8, q9, q10, q11, q12, q13, q14, q15, q16, q18, q19, q20, q21, q22, q23, q24, q25, q26, q27, q28, q29, q30, q31, q32, q38, q44, q45, q48, q57, q58, q59, q60, q63, q64, q97, q122, q126, q127, q128, q255, q256, q300, q580, q600, q1000, nI_add, q_lt_t, q_lt_f, q_eq_t, q_eq_f, q_clamp, q_in_t, q_in_f]
      · rw [if_neg z] at hfh
        have n1 : tyT (KT B S j) ≠ 1 := fun q => by
          have := (tyT_1 hk).mp q
          omega
        have efi : fiT B S F nm j = none := if_neg (by omega)
        unfold enF'
        rw [efi]
        show VEn I L B S c j (if KT B S j = 20 then _ else if st = true then _ else _) _
        rcases s_rdDay L hB h h14 h13 h0 hN ds with ⟨e, J, r, u1, u2, u3, u4, u5⟩ | ⟨v1, v2, v3, v4, J, v5, v6, v7, v8⟩
        · have run : (Option.map (fun r => (r.1, r.2.1)) (cond (decide (nI 1 = (0 : Int32))) (some (some (.int (ds ||| x3)), hp I L, 0, 0)) ((zcall zZ nX10_feastHere [.ref 52] (hp I L)).bind (fun q => zrun zZ kX10_readsEntries (29, [some (.ref 52), some (.int ds), some (.int (nI fs)), some (.int x3), none, none, none], q.1.toList ++ [], q.2, 0, 0))))) = some (some (.int (ds ||| nI 0 ||| x3)), hp J L) := by
            simp (disch := omega) only [e_X10_readsEntries_29, e_X10_readsEntries_121, e_X10_readsEntries_139, hfh, e10, u3, u4.1, en_out L u4.1, Option.bind_some, Option.toList_some, Option.toList_none, List.cons_append, List.nil_append, Option.map_some, cond_true, cond_false, Bool.not_true, Bool.not_false, Bool.true_and, Bool.and_true, Bool.false_and, Bool.and_false, Bool.true_or, Bool.or_true, Bool.false_or, Bool.or_false, Bool.not_not, decide_true, decide_false, Bool.decide_eq_true, Bool.decide_eq_false, qz_0, qz_1, qz_n, qz_n0, qz_n1, qz_t, qz_f, Nat.reduceAdd, q1000000, q0, q1, q2, q3, q4, q5, q6, q7, q8, q9, q10, q11, q12, q13, q14, q15, q16, q18, q19, q20, q21, q22, q23, q24, q25, q26, q27, q28, q29, q30, q31, q32, q38, q44, q45, q48, q57, q58, q59, q60, q63, q64, q97, q122, q126, q127, q128, q255, q256, q300, q580, q600, q1000, nI_add, q_lt_t, q_lt_f, q_eq_t, q_eq_f, q_clamp, q_in_t, q_in_f]
          rw [run]
          by_cases y : KT B S j = 20
          · rw [if_pos y]
            rcases u1 y with a1 | ⟨a1, a2, a3⟩
            · rw [a1]
              exact ⟨J, _, rfl, u4, u5⟩
            · rw [a1]
              show VEn I L B S c j (if bt ds (vN B S j) = true then _ else _) _
              rw [if_pos a2]
              subst a3
              exact ⟨J, _, rfl, u4, u5⟩
          · rw [if_neg y]
            cases hs : st with
            | true =>
              have := hst hs
              omega
            | false =>
              rw [if_neg (by decide)]
              have := u2 y
              subst this
              exact ⟨J, _, rfl, u4, u5⟩
        · rw [if_pos v1, v2]
          show VEn I L B S c j (if bt ds (vN B S j) = true then _ else _) _
          rw [if_neg (by rw [v4]; decide)]
          have hcn : cnt (bt (ds ||| (nI 1 <<< (nI (vN B S j) &&& nI 31)))) N = cnt (bt ds) N + 1 := by
            refine cnt_set (t := vN B S j) v4 (by rw [b_or, b_one (by omega) (by omega), decide_eq_true rfl, Bool.or_true]) (fun i hi => ?_) N (by omega)
            rcases Nat.lt_or_ge i 32 with q | q
            · rw [b_or, b_one (by omega) q, decide_eq_false hi, Bool.or_false]
            · rw [b_big q, b_big q]
          have nx := next fs (ds ||| (nI 1 <<< (nI (vN B S j) &&& nI 31))) x3 J v8 v6 v7 hfs (by omega)
          rw [or_sw ds _ x3] at nx
          have j14 : J 52 14 = nI 0 := (v8 _ _ (by omega)).trans h14
          refine Eq.mp ?_ nx
          congr 1
          symm
          simp (disch := omega) only [e_X10_readsEntries_29, e_X10_readsEntries_121, e_X10_readsEntries_139, hfh, e10, v5, j14, Option.bind_some, Option.toList_some, Option.toList_none, List.cons_append, List.nil_append, Option.map_some, cond_true, cond_false, Bool.not_true, Bool.not_false, Bool.true_and, Bool.and_true, Bool.false_and, Bool.and_false, Bool.true_or, Bool.or_true, Bool.false_or, Bool.or_false, Bool.not_not, decide_true, decide_false, Bool.decide_eq_true, Bool.decide_eq_false, qz_0, qz_1, qz_n, qz_n0, qz_n1, qz_t, qz_f, Nat.reduceAdd, q1000000, q0, q1, q2, q3, q4, q5, q6, q7, q8, q9, q10, q11, q12, q13, q14, q15, q16, q18, q19, q20, q21, q22, q23, q24, q25, q26, q27, q28, q29, q30, q31, q32, q38, q44, q45, q48, q57, q58, q59, q60, q63, q64, q97, q122, q126, q127, q128, q255, q256, q300, q580, q600, q1000, q_eq_t, q_eq_f]
theorem s_readsEntries {I : zI} {L : zL} {B : Nat → Nat} {S N F j c : Nat} (hN : 1 ≤ N ∧ N ≤ 28) (hF : F ≤ 2) {nm : Nat → List Nat} (hK : NK F nm) {fd : Nat → Int32} (hB : BT I B S) (h : RF I B S j) (h14 : I 52 14 = nI 0) (h13 : I 52 13 = nI c) (h0 : I 53 0 = nI N) (h2 : I 53 2 = nI F) (hn : NMr I F nm) (hfd : ∀ f, f < F → I 53 (6 + f) = fd f) : VEn I L B S c j (enF' (KT B S) (vN B S) (fiT B S F nm) N fd 31 j 0 (nI 0) (nI 0) false) (zcall zZ nX10_readsEntries [.ref 52] (hp I L)) := by
  have ih := re_loop hN hF hK (L := L) (fd := fd) 31 j c 0 0 (nI 0) (nI 0) false I hB h h14 h13 h0 h2 hn hfd (fun q => by cases q) (by omega) (by rw [cnt_n0]; rfl) (by omega)
  rw [show nI 0 ||| nI 0 = nI 0 from rfl] at ih
  refine Eq.mp ?_ ih
  congr 1
  symm
  simp (disch := omega) only [c_X10_readsEntries, e_X10_readsEntries_0, e_X10_readsEntries_18, h14, q1000000, q0, q1, q2, q3, q4, q5, q6, q7, q8, q9, q10, q11, q12, q13, q14, q15, q16, q18, q19, q20, q21, q22, q23, q24, q25, q26, q27, q28, q29, q30, q31, q32, q38, q44, q45, q48, q57, q58, q59, q60, q63, q64, q97, q122, q126, q127, q128, q255, q256, q300, q580, q600, q1000, Option.bind_some, Option.toList_some, Option.toList_none, List.cons_append, List.nil_append, Option.map_some, cond_true, cond_false, Bool.not_true, Bool.not_false, Bool.true_and, Bool.and_true, Bool.false_and, Bool.and_false, Bool.true_or, Bool.or_true, Bool.false_or, Bool.or_false, Bool.not_not, decide_true, decide_false, Bool.decide_eq_true, Bool.decide_eq_false, qz_0, qz_1, qz_n, qz_n0, qz_n1, qz_t, qz_f, Nat.reduceAdd, q_eq_t]
