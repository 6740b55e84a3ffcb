theorem ch_loop {L : zL} {N w F : Nat} {T : Int32} {fd : Nat → Int32} {nf af : Nat} {x2 : Int32} : ∀ n d s p (I : zI), N - d ≤ n → d ≤ N → p ≤ d → s < 4 → MS I N w F T fd nf af → STD I N w T (fdF fd nf F) (waS fd F T af) d s → R57 I N w T (fdF fd nf F) (waS fd F T af) d s → I 52 33 = nI p → ∃ J l, zrun zZ kX10_chooses (139, [some (.ref 52), none, some (.int x2), some (.int (nI d))], [], hp I L, 0, 0) = zrun zZ kX10_chooses (139, [some (.ref 52), none, some (.int x2), some (.int (nI N))], [], hp J L, 0, 0) ∧ PL N w T (fdF fd nf F) (waS fd F T af) n d s l ∧ J 52 33 = nI (p + l.length) ∧ WL 63 64 65 J p l ∧ (∀ x y, x ≠ 66 → x ≠ 67 → (x ≠ 52 ∨ y ≠ 33) → (x < 63 ∨ 65 < x ∨ y < p) → J x y = I x y)
  | n, d, s, p, I, hn, hdN, hpd, hs, hM, hS, hR, hp33 => by
    obtain ⟨⟨hN, hw, hF, hnf, haf⟩, ⟨h0, -, -⟩, -, h62⟩ := id hM
    by_cases hd : d < N
    · match n, hn with
      | 0, hn => omega
      | n + 1, hn =>
        rcases s_goesBare (L := L) hM hd hs hS hR with ⟨b1, J, b2, b3, b4, b5⟩ | ⟨b1, b2⟩
        · obtain ⟨J', l, g1, g2, g3, g4, g5⟩ := ch_loop (L := L) (x2 := x2) n (d + 1) (sbdF (waS fd F T af) d s) p J (by omega) (by omega) (by omega) (sbd_lt hs) (hM.cg (fun y => b5 _ _ (by omega) (by omega)) (fun y _ => b5 _ _ (by omega) (by omega)) (fun y => b5 _ _ (by omega) (by omega))) b3 b4 ((b5 _ _ (by omega) (by omega)).trans hp33)
          refine ⟨J', l, ?_, Or.inr (Or.inl ⟨hd, b1, g2⟩), g3, g4, fun x y p1 p2 p3 p4 => (g5 x y p1 p2 p3 p4).trans (b5 x y p1 p2)⟩
          refine Eq.trans ?_ g1
          rw [e_X10_chooses_139]
          simp (disch := omega) only [e_X10_chooses_154, e_X10_chooses_168, h0, b2, Option.bind_some, Option.toList_some, Option.toList_none, List.cons_append, List.nil_append, Option.map_some, cond_true, cond_false, Bool.not_true, Bool.not_false, Bool.true_and, Bool.and_true, Bool.false_and, Bool.and_false, Bool.true_or, Bool.or_true, Bool.false_or, Bool.or_false, Bool.not_not, decide_true, decide_false, Bool.decide_eq_true, Bool.decide_eq_false, qz_0, qz_1, qz_n, qz_n0, qz_n1, qz_t, qz_f, Nat.reduceAdd, q1000000, q0, q1, q2, q3, q4, q5, q6, q7, q8, q9, q10, q11, q12, q13, q14, q15, q16, q18, q19, q20, q21, q22, q23, q24, q25, q26, q27, q28, q29, q30, q31, q32, q38, q44, q45, q48, q57, q58, q59, q60, q63, q64, q97, q122, q126, q127, q128, q255, q256, q300, q580, q600, q1000, nI_add, q_lt_t, q_lt_f, q_eq_t, q_eq_f, q_clamp, q_in_t, q_in_f]
        · obtain ⟨i, P, J, t1, t2, t3, t4, t5⟩ := bg_last (L := L) hM hs hS hR hp33 (by omega) (kU_some hd b1) (N - d) 0 (by omega) (fun i' P' h _ _ => by omega)
          have hdi := t1.1
          have cg : ∀ x y, x ≠ 66 → x ≠ 67 → (x ≠ 52 ∨ y ≠ 33) → (x < 63 ∨ 65 < x ∨ y < p) → bgI J p d i P x y = I x y := fun x y p1 p2 p3 p4 => by
            unfold bgI
            have : zup (zup (zup (zup J 63 p (nI d)) 64 p (nI (d + i))) 65 p (nI P)) 52 33 (nI (p + 1)) x y = J x y := by
              by_cases z : x = 52
              · rw [zu_at (by omega), zu_cell (by omega), zu_cell (by omega), zu_cell (by omega)]
              · rw [zu_cell z]
                by_cases z3 : x = 63
                · rw [zu_cell (by omega), zu_cell (by omega), zu_at (by omega)]
                · by_cases z4 : x = 64
                  · rw [zu_cell (by omega), zu_at (by omega), zu_cell (by omega)]
                  · by_cases z5 : x = 65
                    · rw [zu_at (by omega), zu_cell (by omega), zu_cell (by omega)]
                    · rw [zu_cell z5, zu_cell z4, zu_cell z3]
            rw [this, t4 x y p1 p2]
          have c66 : ∀ x y, (x = 66 ∨ x = 67 ∨ x = 57) → bgI J p d i P x y = J x y := fun x y h => by
            unfold bgI
            rw [zu_cell (by omega), zu_cell (by omega), zu_cell (by omega), zu_cell (by omega)]
          have k33 : bgI J p d i P 52 33 = nI (p + 1) := zu_same _ _ _ _
          have k63 : bgI J p d i P 63 p = nI d ∧ bgI J p d i P 64 p = nI (d + i) ∧ bgI J p d i P 65 p = nI P := by
            unfold bgI
            refine ⟨?_, ?_, ?_⟩
            · rw [zu_cell (by omega), zu_cell (by omega), zu_cell (by omega), zu_same]
            · rw [zu_cell (by omega), zu_cell (by omega), zu_same]
            · rw [zu_cell (by omega), zu_same]
          obtain ⟨J', l, g1, g2, g3, g4, g5⟩ := ch_loop (L := L) (x2 := x2) n (d + i + 1) (s ||| tdF w T (fdF fd nf F) (waS fd F T af) d i P) (p + 1) (bgI J p d i P) (by omega) (by omega) (by omega) (or_lt4 s hs _ (tdF_lt ..)) (hM.cg (fun y => cg _ _ (by omega) (by omega) (by omega) (by omega)) (fun y _ => cg _ _ (by omega) (by omega) (by omega) (by omega)) (fun y => cg _ _ (by omega) (by omega) (by omega) (by omega))) (fun m hm => by
            rw [c66 67 m (by omega), c66 66 m (by omega)]
            exact t2 m hm) (fun m hm hSM e he => by
            rw [c66 57 _ (by omega)]
            exact t3 m hm hSM e he) k33
          refine ⟨J', (d, d + i, P) :: l, ?_, Or.inr (Or.inr ⟨hd, b1, i, P, l, t1, rfl, g2⟩), ?_, WL_cons ?_ g4, fun x y p1 p2 p3 p4 => ?_⟩
          · refine Eq.trans ?_ g1
            have hcall : zcall zZ nX10_begun [.ref 52, .int (nI d)] (hp I L) = some (some (.int (nI (d + i + 1))), hp (bgI J p d i P) L) := by
              rw [Nat.add_zero] at t5
              simp (disch := omega) only [c_X10_begun, e_X10_begun_0, t5, Option.bind_some, Option.toList_some, Option.toList_none, List.cons_append, List.nil_append, Option.map_some, cond_true, cond_false, Bool.not_true, Bool.not_false, Bool.true_and, Bool.and_true, Bool.false_and, Bool.and_false, Bool.true_or, Bool.or_true, Bool.false_or, Bool.or_false, Bool.not_not, decide_true, decide_false, Bool.decide_eq_true, Bool.decide_eq_false, qz_0, qz_1, qz_n, qz_n0, qz_n1, qz_t, qz_f, Nat.reduceAdd]
            rw [e_X10_chooses_139]
            simp (disch := omega) only [e_X10_chooses_154, e_X10_chooses_168, h0, b2, hcall, Option.bind_some, Option.toList_some, Option.toList_none, List.cons_append, List.nil_append, Option.map_some, cond_true, cond_false, Bool.not_true, Bool.not_false, Bool.true_and, Bool.and_true, Bool.false_and, Bool.and_false, Bool.true_or, Bool.or_true, Bool.false_or, Bool.or_false, Bool.not_not, decide_true, decide_false, Bool.decide_eq_true, Bool.decide_eq_false, qz_0, qz_1, qz_n, qz_n0, qz_n1, qz_t, qz_f, Nat.reduceAdd, q1000000, q0, q1, q2, q3, q4, q5, q6, q7, q8, q9, q10, q11, q12, q13, q14, q15, q16, q18, q19, q20, q21, q22, q23, q24, q25, q26, q27, q28, q29, q30, q31, q32, q38, q44, q45, q48, q57, q58, q59, q60, q63, q64, q97, q122, q126, q127, q128, q255, q256, q300, q580, q600, q1000, nI_add, q_lt_t, q_lt_f, q_eq_t, q_eq_f, q_clamp, q_in_t, q_in_f]
          · rw [g3, List.length_cons]
            congr 1
            omega
          · rw [g5 63 p (by omega) (by omega) (by omega) (by omega), g5 64 p (by omega) (by omega) (by omega) (by omega), g5 65 p (by omega) (by omega) (by omega) (by omega)]
            exact k63
          · rw [g5 x y p1 p2 p3 (by omega), cg x y p1 p2 p3 p4]
    · obtain rfl : d = N := by omega
      refine ⟨I, [], rfl, ?_, hp33, (fun j hj => absurd hj (Nat.not_lt_zero j)), fun _ _ _ _ _ _ => rfl⟩
      cases n with
      | zero => exact ⟨Nat.le_refl _, rfl⟩
      | succ n => exact Or.inl ⟨Nat.le_refl _, rfl⟩
/-! days that are left out, that are put to them -/
def inP (w : Nat) (l : List (Nat × Nat × Nat)) (x : Nat) : Bool := l.any (fun p => decide (p.1 ≤ x) && decide (x ≤ p.2.1) && p.2.2.testBit ((w + x) % 7))
theorem inS_inP (w : Nat) (H : Int32) (x : Nat) : ∀ l, inS w H l x = (inP w l x && !bt H x)
  | [] => rfl
  | a :: l => by
    have ih := inS_inP w H x l
    unfold inS inP at ih ⊢
    rw [List.any_cons, List.any_cons, ih]
    cases (decide (a.1 ≤ x) && decide (x ≤ a.2.1) && a.2.2.testBit ((w + x) % 7)) <;> cases bt H x <;> simp
theorem inP_app (w : Nat) (l k : List (Nat × Nat × Nat)) (x : Nat) : inP w (l ++ k) x = (inP w l x || inP w k x) := by
  unfold inP
  rw [List.any_append]
theorem rest_in {I : zI} {L : zL} {w k f e P : Nat} (h1 : I 53 1 = nI w) (hw : w < 7) (hk : k < 28) (he : e < 28) (hfe : f ≤ e) (hP : P < 128) (e64 : I 64 k = nI e) (e65 : I 65 k = nI P) {y : Int32} : ∀ r x (z : Int32), x + r = e + 1 → f ≤ x → (∀ q, q < 32 → bt z q = (bt y q || (decide (f ≤ q) && decide (q < x) && P.testBit ((w + q) % 7)))) → ∃ z', (∀ q, q < 32 → bt z' q = (bt y q || (decide (f ≤ q) && decide (q ≤ e) && P.testBit ((w + q) % 7)))) ∧ zrun zZ kX10_rests (19, [some (.ref 52), some (.int z), some (.int (nI k)), some (.int (nI x))], [], hp I L, 0, 0) = zrun zZ kX10_rests (4, [some (.ref 52), some (.int z'), some (.int (nI (k + 1))), none], [], hp I L, 0, 0)
  | 0, x, z, h, hx, hz => by
    obtain rfl : x = e + 1 := h
    refine ⟨z, fun q hq => ?_, ?_⟩
    · rw [hz q hq, show decide (q < e + 1) = decide (q ≤ e) from decide_eq_decide.mpr (by omega)]
    · rw [e_X10_rests_19]
      simp (disch := omega) only [e64, Option.bind_some, Option.toList_some, Option.toList_none, List.cons_append, List.nil_append, Option.map_some, cond_true, cond_false, Bool.not_true, Bool.not_false, Bool.true_and, Bool.and_true, Bool.false_and, Bool.and_false, Bool.true_or, Bool.or_true, Bool.false_or, Bool.or_false, Bool.not_not, decide_true, decide_false, Bool.decide_eq_true, Bool.decide_eq_false, qz_0, qz_1, qz_n, qz_n0, qz_n1, qz_t, qz_f, Nat.reduceAdd, q1000000, q0, q1, q2, q3, q4, q5, q6, q7, q8, q9, q10, q11, q12, q13, q14, q15, q16, q18, q19, q20, q21, q22, q23, q24, q25, q26, q27, q28, q29, q30, q31, q32, q38, q44, q45, q48, q57, q58, q59, q60, q63, q64, q97, q122, q126, q127, q128, q255, q256, q300, q580, q600, q1000, nI_add, q_lt_t, q_lt_f, q_eq_t, q_eq_f, q_clamp, q_in_t, q_in_f]
  | r + 1, x, z, h, hx, hz => by
    have hwk : zcall zZ nX10_weekdayOf [.ref 52, .int (nI x)] (hp I L) = some (some (.int (nI ((w + x) % 7))), hp I L) := s_MweekdayOf h1 (by omega)
    have h7 : (w + x) % 7 < 32 := by omega
    have eb : bt (nI P) ((w + x) % 7) = P.testBit ((w + x) % 7) := bt_nI (by omega) _
    cases hb : P.testBit ((w + x) % 7) with
    | false =>
      rw [hb] at eb
      obtain ⟨z', g1, g2⟩ := rest_in (L := L) h1 hw hk he hfe hP e64 e65 (y := y) r (x + 1) (z ||| nI 0) (by omega) (by omega) (fun q hq => by
        rw [or_nI0, hz q hq]
        by_cases t : q = x
        · subst t
          rw [hb]
          simp
        · rw [show decide (q < x + 1) = decide (q < x) from decide_eq_decide.mpr (by omega)])
      refine ⟨z', g1, ?_⟩
      refine Eq.trans ?_ g2
      rw [e_X10_rests_19]
      simp (disch := omega) only [e_X10_rests_41, e_X10_rests_44, e_X10_rests_54, e64, e65, hwk, s_has' _ _ h7, eb, Option.bind_some, Option.toList_some, Option.toList_none, List.cons_append, List.nil_append, Option.map_some, cond_true, cond_false, Bool.not_true, Bool.not_false, Bool.true_and, Bool.and_true, Bool.false_and, Bool.and_false, Bool.true_or, Bool.or_true, Bool.false_or, Bool.or_false, Bool.not_not, decide_true, decide_false, Bool.decide_eq_true, Bool.decide_eq_false, qz_0, qz_1, qz_n, qz_n0, qz_n1, qz_t, qz_f, Nat.reduceAdd, q1000000, q0, q1, q2, q3, q4, q5, q6, q7, q8, q9, q10, q11, q12, q13, q14, q15, q16, q18, q19, q20, q21, q22, q23, q24, q25, q26, q27, q28, q29, q30, q31, q32, q38, q44, q45, q48, q57, q58, q59, q60, q63, q64, q97, q122, q126, q127, q128, q255, q256, q300, q580, q600, q1000, nI_add, q_lt_t, q_lt_f, q_eq_t, q_eq_f, q_clamp, q_in_t, q_in_f]
    | true =>
      rw [hb] at eb
      obtain ⟨z', g1, g2⟩ := rest_in (L := L) h1 hw hk he hfe hP e64 e65 (y := y) r (x + 1) (z ||| (nI 1 <<< (nI x &&& nI 31))) (by omega) (by omega) (fun q hq => by
        rw [b_or, hz q hq, b_one (by omega) hq]
        by_cases t : q = x
        · subst t
          rw [hb, decide_eq_true rfl, decide_eq_true hx, decide_eq_true (show q < q + 1 by omega)]
          simp
        · rw [decide_eq_false t, show decide (q < x + 1) = decide (q < x) from decide_eq_decide.mpr (by omega), Bool.or_false])
      refine ⟨z', g1, ?_⟩
      refine Eq.trans ?_ g2
      rw [e_X10_rests_19]
      simp (disch := omega) only [e_X10_rests_41, e_X10_rests_44, e_X10_rests_54, e64, e65, hwk, s_has' _ _ h7, eb, Option.bind_some, Option.toList_some, Option.toList_none, List.cons_append, List.nil_append, Option.map_some, cond_true, cond_false, Bool.not_true, Bool.not_false, Bool.true_and, Bool.and_true, Bool.false_and, Bool.and_false, Bool.true_or, Bool.or_true, Bool.false_or, Bool.or_false, Bool.not_not, decide_true, decide_false, Bool.decide_eq_true, Bool.decide_eq_false, qz_0, qz_1, qz_n, qz_n0, qz_n1, qz_t, qz_f, Nat.reduceAdd, q1000000, q0, q1, q2, q3, q4, q5, q6, q7, q8, q9, q10, q11, q12, q13, q14, q15, q16, q18, q19, q20, q21, q22, q23, q24, q25, q26, q27, q28, q29, q30, q31, q32, q38, q44, q45, q48, q57, q58, q59, q60, q63, q64, q97, q122, q126, q127, q128, q255, q256, q300, q580, q600, q1000, nI_add, q_lt_t, q_lt_f, q_eq_t, q_eq_f, q_clamp, q_in_t, q_in_f]
theorem rest_loop {I : zI} {L : zL} {w : Nat} {l : List (Nat × Nat × Nat)} (h1 : I 53 1 = nI w) (hw : w < 7) (hl : l.length ≤ 28) (h33 : I 52 33 = nI l.length) (hWL : WL 63 64 65 I 0 l) (hin : ∀ p, p ∈ l → p.1 ≤ p.2.1 ∧ p.2.1 < 28 ∧ p.2.2 < 128) : ∀ r k (z : Int32), k + r = l.length → (∀ q, q < 32 → bt z q = inP w (l.take k) q) → ∃ z', (∀ q, q < 32 → bt z' q = inP w l q) ∧ zrun zZ kX10_rests (4, [some (.ref 52), some (.int z), some (.int (nI k)), none], [], hp I L, 0, 0) = zrun zZ kX10_rests (4, [some (.ref 52), some (.int z'), some (.int (nI l.length)), none], [], hp I L, 0, 0)
  | 0, k, z, h, hz => by
    obtain rfl : k = l.length := h
    refine ⟨z, fun q hq => ?_, rfl⟩
    rw [hz q hq, List.take_length]
  | r + 1, k, z, h, hz => by
    have hk : k < l.length := by omega
    obtain ⟨e63, e64, e65⟩ := hWL k hk
    rw [Nat.zero_add] at e63 e64 e65
    obtain ⟨pf, pe, pP, hp⟩ : ∃ pf pe pP, l.getD k (0, 0, 0) = (pf, pe, pP) := ⟨_, _, _, rfl⟩
    rw [hp] at e63 e64 e65
    have hmem : (pf, pe, pP) ∈ l := by
      rw [← hp, List.getD_eq_getElem?_getD, List.getElem?_eq_getElem hk]
      exact List.getElem_mem hk
    obtain ⟨i1, i2, i3⟩ := hin _ hmem
    have i1 : pf ≤ pe := i1
    have i2 : pe < 28 := i2
    have i3 : pP < 128 := i3
    obtain ⟨z1, y1, y2⟩ := rest_in (L := L) (k := k) h1 hw (by omega) i2 i1 i3 e64 e65 (y := z) (pe + 1 - pf) pf z (by omega) (Nat.le_refl _) (fun q hq => by
      by_cases t : pf ≤ q
      · rw [decide_eq_false (show ¬ q < pf by omega)]
        simp
      · rw [decide_eq_false t]
        simp)
    obtain ⟨z', g1, g2⟩ := rest_loop (L := L) h1 hw hl h33 hWL hin r (k + 1) z1 (by omega) (fun q hq => by
      have ht : l.take (k + 1) = l.take k ++ [(pf, pe, pP)] := by
        rw [List.take_succ, List.getElem?_eq_getElem hk]
        have : l[k] = (pf, pe, pP) := by
          rw [← hp, List.getD_eq_getElem?_getD, List.getElem?_eq_getElem hk]
          rfl
        rw [this]
        rfl
      rw [ht, inP_app, y1 q hq, hz q hq]
      unfold inP
      simp)
    refine ⟨z', g1, ?_⟩
    refine Eq.trans ?_ (y2.trans g2)
    rw [e_X10_rests_4]
    simp (disch := omega) only [h33, e63, Option.bind_some, Option.toList_some, Option.toList_none, List.cons_append, List.nil_append, Option.map_some, cond_true, cond_false, Bool.not_true, Bool.not_false, Bool.true_and, Bool.and_true, Bool.false_and, Bool.and_false, Bool.true_or, Bool.or_true, Bool.false_or, Bool.or_false, Bool.not_not, decide_true, decide_false, Bool.decide_eq_true, Bool.decide_eq_false, qz_0, qz_1, qz_n, qz_n0, qz_n1, qz_t, qz_f, Nat.reduceAdd, q1000000, q0, q1, q2, q3, q4, q5, q6, q7, q8, q9, q10, q11, q12, q13, q14, q15, q16, q18, q19, q20, q21, q22, q23, q24, q25, q26, q27, q28, q29, q30, q31, q32, q38, q44, q45, q48, q57, q58, q59, q60, q63, q64, q97, q122, q126, q127, q128, q255, q256, q300, q580, q600, q1000, nI_add, q_lt_t, q_lt_f, q_eq_t, q_eq_f, q_clamp, q_in_t, q_in_f]
theorem s_rests {I : zI} {L : zL} {N w F : Nat} {T : Int32} {fd : Nat → Int32} {nf af : Nat} {l : List (Nat × Nat × Nat)} (hM : MS I N w F T fd nf af) (hl : l.length ≤ 28) (h33 : I 52 33 = nI l.length) (h34 : I 52 34 = nI nf) (h35 : I 52 35 = nI af) (hWL : WL 63 64 65 I 0 l) (hin : ∀ p, p ∈ l → p.1 ≤ p.2.1 ∧ p.2.1 < 28 ∧ p.2.2 < 128) : ∃ J, zcall zZ nX10_rests [.ref 52] (hp I L) = some (none, hp J L) ∧ (∀ x, x < 32 → bt (J 52 36) x = (inS w (fdF fd nf F) l x && !bt T x)) ∧ (∀ x, x < 32 → bt (J 52 37) x = (bt (waS fd F T af) x && !inS w (fdF fd nf F) l x)) ∧ (∀ x y, (x ≠ 52 ∨ (y ≠ 36 ∧ y ≠ 37)) → J x y = I x y) := by
  obtain ⟨⟨hN, hw, hF, hnf, haf⟩, ⟨h0, h1, h2, hfd⟩, ⟨h17, h18, h19⟩, h62⟩ := id hM
  obtain ⟨z, z1, z2⟩ := rest_loop (L := L) h1 hw hl h33 hWL hin l.length 0 (nI 0) (by omega) (fun q hq => b_0 q)
  have ef := s_feastDays (I := I) (L := L) (nf4 hF hnf)
  rw [rfd_fd hF hnf hfd] at ef
  obtain ⟨v36, hv36⟩ : ∃ v, v = ((z &&& (fdF fd nf F ^^^ -nI 1)) &&& (T ^^^ -nI 1)) := ⟨_, rfl⟩
  have ef2 := s_feastDays (I := zup I 52 36 v36) (L := L) (nf4 hF haf)
  rw [rfd_fd hF haf (fun f hf => (zu_cell (by omega)).trans (hfd f hf))] at ef2
  have hv36b : ∀ x, x < 32 → bt v36 x = (inS w (fdF fd nf F) l x && !bt T x) := fun x hx => by rw [hv36, b_and, b_and, b_cpl hx, b_cpl hx, z1 x hx, inS_inP]
  have hrun : zcall zZ nX10_rests [.ref 52] (hp I L) = some (none, hp (zup (zup I 52 36 v36) 52 37 ((T &&& ((z &&& (fdF fd nf F ^^^ -nI 1)) ^^^ -nI 1)) &&& (fdF fd af F ^^^ -nI 1))) L) := by
    rw [c_X10_rests, e_X10_rests_0, q0, z2, e_X10_rests_4]
    simp (disch := omega) only [e_X10_rests_77, e_X10_rests_110, h33, h34, h35, h17, ef, ← hv36, ef2, zu_same, zu_cell, zu_at, Option.bind_some, Option.toList_some, Option.toList_none, List.cons_append, List.nil_append, Option.map_some, cond_true, cond_false, Bool.not_true, Bool.not_false, Bool.true_and, Bool.and_true, Bool.false_and, Bool.and_false, Bool.true_or, Bool.or_true, Bool.false_or, Bool.or_false, Bool.not_not, decide_true, decide_false, Bool.decide_eq_true, Bool.decide_eq_false, qz_0, qz_1, qz_n, qz_n0, qz_n1, qz_t, qz_f, Nat.reduceAdd, q1000000, q0, q1, q2, q3, q4, q5, q6, q7, q8, q9, q10, q11, q12, q13, q14, q15, q16, q18, q19, q20, q21, q22, q23, q24, q25, q26, q27, q28, q29, q30, q31, q32, q38, q44, q45, q48, q57, q58, q59, q60, q63, q64, q97, q122, q126, q127, q128, q255, q256, q300, q580, q600, q1000, nI_add, q_lt_t, q_lt_f, q_eq_t, q_eq_f, q_clamp, q_in_t, q_in_f]
  refine ⟨_, hrun, fun x hx => ?_, fun x hx => ?_, fun x y p => ?_⟩
  · rw [zu_at (by omega), zu_same]
    exact hv36b x hx
  · rw [zu_same]
    unfold waS
    rw [b_and, b_and, b_and, b_cpl hx, b_cpl hx, b_and, b_cpl hx, z1 x hx, inS_inP]
    cases bt T x <;> cases inP w l x <;> cases bt (fdF fd nf F) x <;> cases bt (fdF fd af F) x <;> rfl
  · by_cases z : x = 52
    · rw [zu_at (by omega), zu_at (by omega)]
    · rw [zu_cell z, zu_cell z]
