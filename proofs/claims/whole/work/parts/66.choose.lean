theorem cost_loop {I : zI} {L : zL} {N w F : Nat} {T : Int32} {fd : Nat → Int32} {nf af : Nat} (hM : MS I N w F T fd nf af) {m d i P c0 : Nat} (hm : m < 4) (hd : d + i < N) (hP : P < 128) : ∀ r j, j + r = i + 1 → zrun zZ kX10_costOf (19, [some (.ref 52), some (.int (nI m)), none, some (.int (nI (d + i))), some (.int (nI P)), some (.int (nI (c0 + tcF w T (fdF fd nf F) (waS fd F T af) (m.testBit 0) (m.testBit 1) d j P))), some (.int (nI (d + j)))], [], hp I L, 0, 0) = some (some (.int (nI (c0 + tcF w T (fdF fd nf F) (waS fd F T af) (m.testBit 0) (m.testBit 1) d (i + 1) P))), hp I L, 0, 0)
  | 0, j, h => by
    have hN := hM.1.1
    obtain rfl : j = i + 1 := h
    rw [e_X10_costOf_19]
    simp (disch := omega) only [Option.bind_some, Option.toList_some, Option.toList_none, List.cons_append, List.nil_append, Option.map_some, cond_true, cond_false, Bool.not_true, Bool.not_false, Bool.true_and, Bool.and_true, Bool.false_and, Bool.and_false, Bool.true_or, Bool.or_true, Bool.false_or, Bool.or_false, Bool.not_not, decide_true, decide_false, Bool.decide_eq_true, Bool.decide_eq_false, qz_0, qz_1, qz_n, qz_n0, qz_n1, qz_t, qz_f, Nat.reduceAdd, q1000000, q0, q1, q2, q3, q4, q5, q6, q7, q8, q9, q10, q11, q12, q13, q14, q15, q16, q18, q19, q20, q21, q22, q23, q24, q25, q26, q27, q28, q29, q30, q31, q32, q38, q44, q45, q48, q57, q58, q59, q60, q63, q64, q97, q122, q126, q127, q128, q255, q256, q300, q580, q600, q1000, nI_add, q_lt_t, q_lt_f, q_eq_t, q_eq_f, q_clamp, q_in_t, q_in_f]
  | r + 1, j, h => by
    obtain ⟨⟨hN, hw, hF, hnf, haf⟩, ⟨h0, h1, -⟩, -, h62⟩ := id hM
    have ih := cost_loop (L := L) (c0 := c0) hM hm hd hP r (j + 1) (by omega)
    have hwk : zcall zZ nX10_weekdayOf [.ref 52, .int (nI (d + j))] (hp I L) = some (some (.int (nI ((w + (d + j)) % 7))), hp I L) := s_MweekdayOf h1 (by omega)
    have h7 : (w + (d + j)) % 7 < 32 := by omega
    have eb : bt (nI P) ((w + (d + j)) % 7) = P.testBit ((w + (d + j)) % 7) := bt_nI (by omega) _
    have hbc := s_bare (L := L) hM hm (show d + j < 32 by omega)
    have hsc := s_spanC (L := L) hM hm (show d + j < 32 by omega)
    have et : tcF w T (fdF fd nf F) (waS fd F T af) (m.testBit 0) (m.testBit 1) d (j + 1) P = tcF w T (fdF fd nf F) (waS fd F T af) (m.testBit 0) (m.testBit 1) d j P + cond (P.testBit ((w + (d + j)) % 7)) (scF T (fdF fd nf F) (waS fd F T af) (m.testBit 0) (m.testBit 1) (d + j)) (bcF (waS fd F T af) (m.testBit 1) (d + j)) := rfl
    rw [et, ← Nat.add_assoc] at ih
    rw [e_X10_costOf_19]
    cases hb : P.testBit ((w + (d + j)) % 7) <;> rw [hb] at ih eb <;> simp (disch := omega) only [e_X10_costOf_35, e_X10_costOf_38, e_X10_costOf_48, e_X10_costOf_58, hwk, s_has' _ _ h7, eb, hbc, hsc, Option.bind_some, Option.toList_some, Option.toList_none, List.cons_append, List.nil_append, Option.map_some, cond_true, cond_false, Bool.not_true, Bool.not_false, Bool.true_and, Bool.and_true, Bool.false_and, Bool.and_false, Bool.true_or, Bool.or_true, Bool.false_or, Bool.or_false, Bool.not_not, decide_true, decide_false, Bool.decide_eq_true, Bool.decide_eq_false, qz_0, qz_1, qz_n, qz_n0, qz_n1, qz_t, qz_f, Nat.reduceAdd, q1000000, q0, q1, q2, q3, q4, q5, q6, q7, q8, q9, q10, q11, q12, q13, q14, q15, q16, q18, q19, q20, q21, q22, q23, q24, q25, q26, q27, q28, q29, q30, q31, q32, q38, q44, q45, q48, q57, q58, q59, q60, q63, q64, q97, q122, q126, q127, q128, q255, q256, q300, q580, q600, q1000, nI_add, q_lt_t, q_lt_f, q_eq_t, q_eq_f, q_clamp, q_in_t, q_in_f] <;> exact ih
def cmF (N w : Nat) (T H W : Int32) (d i P m : Nat) : Nat := pT P + enF N d i + tcF w T H W (m.testBit 0) (m.testBit 1) d (i + 1) P
theorem s_costOf {I : zI} {L : zL} {N w F : Nat} {T : Int32} {fd : Nat → Int32} {nf af : Nat} (hM : MS I N w F T fd nf af) {m d i P : Nat} (hm : m < 4) (hd : d + i < N) (h1 : 1 ≤ P) (hP : P < 128) : zcall zZ nX10_costOf [.ref 52, .int (nI m), .int (nI d), .int (nI (d + i)), .int (nI P)] (hp I L) = some (some (.int (nI (cmF N w T (fdF fd nf F) (waS fd F T af) d i P m))), hp I L) := by
  obtain ⟨⟨hN, hw, hF, hnf, haf⟩, ⟨h0, -, -⟩, -, h62⟩ := id hM
  have h := cost_loop (L := L) (c0 := pT P + enF N d i) hM hm hd hP (i + 1) 0 (by omega)
  rw [show tcF w T (fdF fd nf F) (waS fd F T af) (m.testBit 0) (m.testBit 1) d 0 P = 0 from rfl, Nat.add_zero, Nat.add_zero] at h
  simp (disch := omega) only [c_X10_costOf, e_X10_costOf_0, e_X10_costOf_13, h62 P h1 hP, s_ends hN h0 hd, Option.bind_some, Option.toList_some, Option.toList_none, List.cons_append, List.nil_append, Option.map_some, cond_true, cond_false, Bool.not_true, Bool.not_false, Bool.true_and, Bool.and_true, Bool.false_and, Bool.and_false, Bool.true_or, Bool.or_true, Bool.false_or, Bool.or_false, Bool.not_not, decide_true, decide_false, Bool.decide_eq_true, Bool.decide_eq_false, qz_0, qz_1, qz_n, qz_n0, qz_n1, qz_t, qz_f, Nat.reduceAdd, q1000000, q0, q1, q2, q3, q4, q5, q6, q7, q8, q9, q10, q11, q12, q13, q14, q15, q16, q18, q19, q20, q21, q22, q23, q24, q25, q26, q27, q28, q29, q30, q31, q32, q38, q44, q45, q48, q57, q58, q59, q60, q63, q64, q97, q122, q126, q127, q128, q255, q256, q300, q580, q600, q1000, nI_add, q_lt_t, q_lt_f, q_eq_t, q_eq_f, q_clamp, q_in_t, q_in_f, h]
  rfl
theorem cm_le (N w : Nat) (T H W : Int32) (d i P m : Nat) (hP : P < 128) : cmF N w T H W d i P m ≤ 10 + 1000 * (i + 1) := by
  have h1 := tc_le w T H W (m.testBit 0) (m.testBit 1) d P (i + 1)
  have h2 := (pT_b P hP).1
  have h3 := enF_le N d i
  unfold cmF
  omega
def smP (N w : Nat) (T H W : Int32) (d s i P m : Nat) : Prop := SM N w T H W d s m ∧ cmF N w T H W d i P m + kV N w T H W (d + i + 1) m = kV N w T H W d m
theorem tk_any {I : zI} {L : zL} {N w F : Nat} {T : Int32} {fd : Nat → Int32} {nf af d s i P : Nat} (hM : MS I N w F T fd nf af) (hd : d + i < N) (h1 : 1 ≤ P) (hP : P < 128) (hS : STD I N w T (fdF fd nf F) (waS fd F T af) d s) (hR : R57 I N w T (fdF fd nf F) (waS fd F T af) d s) : ∀ r m (b : Bool), m + r = 4 → (b = true ↔ ∃ m', m' < m ∧ smP N w T (fdF fd nf F) (waS fd F T af) d s i P m') → ∃ b' : Bool, zrun zZ kX10_takes (6, [some (.ref 52), some (.int (nI d)), some (.int (nI (d + i))), some (.int (nI P)), some (.int (zbo b)), some (.int (nI m)), none], [], hp I L, 0, 0) = zrun zZ kX10_takes (76, [some (.ref 52), some (.int (nI d)), some (.int (nI (d + i))), some (.int (nI P)), some (.int (zbo b')), some (.int (nI 0)), none], [], hp I L, 0, 0) ∧ (b' = true ↔ ∃ m', m' < 4 ∧ smP N w T (fdF fd nf F) (waS fd F T af) d s i P m')
  | 0, m, b, h, hb => by
    obtain rfl : m = 4 := h
    refine ⟨b, ?_, hb⟩
    rw [e_X10_takes_6]
    simp (disch := omega) only [q1000000, q0, q1, q2, q3, q4, q5, q6, q7, q8, q9, q10, q11, q12, q13, q14, q15, q16, q18, q19, q20, q21, q22, q23, q24, q25, q26, q27, q28, q29, q30, q31, q32, q38, q44, q45, q48, q57, q58, q59, q60, q63, q64, q97, q122, q126, q127, q128, q255, q256, q300, q580, q600, q1000, q_lt_f, Option.bind_some, Option.toList_some, Option.toList_none, List.cons_append, List.nil_append, Option.map_some, cond_true, cond_false, Bool.not_true, Bool.not_false, Bool.true_and, Bool.and_true, Bool.false_and, Bool.and_false, Bool.true_or, Bool.or_true, Bool.false_or, Bool.or_false, Bool.not_not, decide_true, decide_false, Bool.decide_eq_true, Bool.decide_eq_false, qz_0, qz_1, qz_n, qz_n0, qz_n1, qz_t, qz_f, Nat.reduceAdd]
  | r + 1, m, b, h, hb => by
    have hN := hM.1.1
    have hm : m < 4 := by omega
    have hWT := WT_wa fd F T af
    have hco := s_costOf (L := L) hM hm hd h1 hP
    have l1 := cm_le N w T (fdF fd nf F) (waS fd F T af) d i P m hP
    have l2 := kV_le hWT hN (w := w) (H := fdF fd nf F) (d + i + 1) m
    have l3 := kV_le hWT hN (w := w) (H := fdF fd nf F) d m
    cases b with
    | true =>
      obtain ⟨b', g1, g2⟩ := tk_any (L := L) hM hd h1 hP hS hR r (m + 1) true (by omega) ⟨fun _ => by
        obtain ⟨m', a1, a2⟩ := hb.mp rfl
        exact ⟨m', by omega, a2⟩, fun _ => rfl⟩
      refine ⟨b', ?_, g2⟩
      refine Eq.trans ?_ g1
      rw [e_X10_takes_6]
      simp (disch := omega) only [e_X10_takes_60, e_X10_takes_65, Option.bind_some, Option.toList_some, Option.toList_none, List.cons_append, List.nil_append, Option.map_some, cond_true, cond_false, Bool.not_true, Bool.not_false, Bool.true_and, Bool.and_true, Bool.false_and, Bool.and_false, Bool.true_or, Bool.or_true, Bool.false_or, Bool.or_false, Bool.not_not, decide_true, decide_false, Bool.decide_eq_true, Bool.decide_eq_false, qz_0, qz_1, qz_n, qz_n0, qz_n1, qz_t, qz_f, Nat.reduceAdd, q1000000, q0, q1, q2, q3, q4, q5, q6, q7, q8, q9, q10, q11, q12, q13, q14, q15, q16, q18, q19, q20, q21, q22, q23, q24, q25, q26, q27, q28, q29, q30, q31, q32, q38, q44, q45, q48, q57, q58, q59, q60, q63, q64, q97, q122, q126, q127, q128, q255, q256, q300, q580, q600, q1000, nI_add, q_lt_t, q_lt_f, q_eq_t, q_eq_f, q_clamp, q_in_t, q_in_f]
    | false =>
      have hno : ¬ ∃ m', m' < m ∧ smP N w T (fdF fd nf F) (waS fd F T af) d s i P m' := fun z => absurd (hb.mpr z) (by decide)
      rcases hS m hm with ⟨s1, s2, s3⟩ | ⟨s1, s2⟩
      · have e57 := hR m hm s2 (d + i + 1) (by omega)
        by_cases q : cmF N w T (fdF fd nf F) (waS fd F T af) d i P m + kV N w T (fdF fd nf F) (waS fd F T af) (d + i + 1) m = kV N w T (fdF fd nf F) (waS fd F T af) d m
        · obtain ⟨b', g1, g2⟩ := tk_any (L := L) hM hd h1 hP hS hR r (m + 1) true (by omega) ⟨fun _ => ⟨m, by omega, s2, q⟩, fun _ => rfl⟩
          refine ⟨b', ?_, g2⟩
          refine Eq.trans ?_ g1
          rw [e_X10_takes_6]
          simp (disch := omega) only [e_X10_takes_36, e_X10_takes_48, e_X10_takes_60, e_X10_takes_65, s1, s3, hco, s_place, e57, q, Option.bind_some, Option.toList_some, Option.toList_none, List.cons_append, List.nil_append, Option.map_some, cond_true, cond_false, Bool.not_true, Bool.not_false, Bool.true_and, Bool.and_true, Bool.false_and, Bool.and_false, Bool.true_or, Bool.or_true, Bool.false_or, Bool.or_false, Bool.not_not, decide_true, decide_false, Bool.decide_eq_true, Bool.decide_eq_false, qz_0, qz_1, qz_n, qz_n0, qz_n1, qz_t, qz_f, Nat.reduceAdd, q1000000, q0, q1, q2, q3, q4, q5, q6, q7, q8, q9, q10, q11, q12, q13, q14, q15, q16, q18, q19, q20, q21, q22, q23, q24, q25, q26, q27, q28, q29, q30, q31, q32, q38, q44, q45, q48, q57, q58, q59, q60, q63, q64, q97, q122, q126, q127, q128, q255, q256, q300, q580, q600, q1000, nI_add, q_lt_t, q_lt_f, q_eq_t, q_eq_f, q_clamp, q_in_t, q_in_f]
        · obtain ⟨b', g1, g2⟩ := tk_any (L := L) hM hd h1 hP hS hR r (m + 1) false (by omega) ⟨fun z => absurd z (by decide), fun ⟨m', a1, a2⟩ => by
            by_cases z : m' = m
            · rw [z] at a2
              exact absurd a2.2 q
            · exact absurd ⟨m', by omega, a2⟩ hno⟩
          refine ⟨b', ?_, g2⟩
          refine Eq.trans ?_ g1
          rw [e_X10_takes_6]
          simp (disch := omega) only [e_X10_takes_36, e_X10_takes_48, e_X10_takes_64, e_X10_takes_65, s1, s3, hco, s_place, e57, Option.bind_some, Option.toList_some, Option.toList_none, List.cons_append, List.nil_append, Option.map_some, cond_true, cond_false, Bool.not_true, Bool.not_false, Bool.true_and, Bool.and_true, Bool.false_and, Bool.and_false, Bool.true_or, Bool.or_true, Bool.false_or, Bool.or_false, Bool.not_not, decide_true, decide_false, Bool.decide_eq_true, Bool.decide_eq_false, qz_0, qz_1, qz_n, qz_n0, qz_n1, qz_t, qz_f, Nat.reduceAdd, q1000000, q0, q1, q2, q3, q4, q5, q6, q7, q8, q9, q10, q11, q12, q13, q14, q15, q16, q18, q19, q20, q21, q22, q23, q24, q25, q26, q27, q28, q29, q30, q31, q32, q38, q44, q45, q48, q57, q58, q59, q60, q63, q64, q97, q122, q126, q127, q128, q255, q256, q300, q580, q600, q1000, nI_add, q_lt_t, q_lt_f, q_eq_t, q_eq_f, q_clamp, q_in_t, q_in_f]
      · obtain ⟨b', g1, g2⟩ := tk_any (L := L) hM hd h1 hP hS hR r (m + 1) false (by omega) ⟨fun z => absurd z (by decide), fun ⟨m', a1, a2⟩ => by
          by_cases z : m' = m
          · rw [z] at a2
            exact absurd a2.1 s2
          · exact absurd ⟨m', by omega, a2⟩ hno⟩
        refine ⟨b', ?_, g2⟩
        refine Eq.trans ?_ g1
        rw [e_X10_takes_6]
        simp (disch := omega) only [e_X10_takes_64, e_X10_takes_65, s1, Option.bind_some, Option.toList_some, Option.toList_none, List.cons_append, List.nil_append, Option.map_some, cond_true, cond_false, Bool.not_true, Bool.not_false, Bool.true_and, Bool.and_true, Bool.false_and, Bool.and_false, Bool.true_or, Bool.or_true, Bool.false_or, Bool.or_false, Bool.not_not, decide_true, decide_false, Bool.decide_eq_true, Bool.decide_eq_false, qz_0, qz_1, qz_n, qz_n0, qz_n1, qz_t, qz_f, Nat.reduceAdd, q1000000, q0, q1, q2, q3, q4, q5, q6, q7, q8, q9, q10, q11, q12, q13, q14, q15, q16, q18, q19, q20, q21, q22, q23, q24, q25, q26, q27, q28, q29, q30, q31, q32, q38, q44, q45, q48, q57, q58, q59, q60, q63, q64, q97, q122, q126, q127, q128, q255, q256, q300, q580, q600, q1000, nI_add, q_lt_t, q_lt_f, q_eq_t, q_eq_f, q_clamp, q_in_t, q_in_f]
theorem tk_set {L : zL} {N w F : Nat} {T : Int32} {fd : Nat → Int32} {nf af d s i P : Nat} (hd : d + i < N) (h1 : 1 ≤ P) (hP : P < 128) : ∀ r m (I : zI), m + r = 4 → MS I N w F T fd nf af → (∀ m', m ≤ m' → m' < 4 → (I 67 m' = nI 1 ∧ SM N w T (fdF fd nf F) (waS fd F T af) d s m' ∧ I 66 m' = nI (kV N w T (fdF fd nf F) (waS fd F T af) d m')) ∨ (I 67 m' = nI 0 ∧ ¬ SM N w T (fdF fd nf F) (waS fd F T af) d s m')) → R57 I N w T (fdF fd nf F) (waS fd F T af) d s → ∃ J, zrun zZ kX10_takes (76, [some (.ref 52), some (.int (nI d)), some (.int (nI (d + i))), some (.int (nI P)), some (.int (nI 1)), some (.int (nI m)), none], [], hp I L, 0, 0) = some (some (.int (nI 1)), hp J L, 0, 0) ∧ (∀ m', m ≤ m' → m' < 4 → (J 67 m' = nI 1 ∧ smP N w T (fdF fd nf F) (waS fd F T af) d s i P m' ∧ J 66 m' = nI (kV N w T (fdF fd nf F) (waS fd F T af) (d + i + 1) m')) ∨ (J 67 m' = nI 0 ∧ ¬ smP N w T (fdF fd nf F) (waS fd F T af) d s i P m')) ∧ (∀ x y, ((x ≠ 66 ∧ x ≠ 67) ∨ y < m) → J x y = I x y)
  | 0, m, I, h, hM, hS, hR => by
    obtain rfl : m = 4 := h
    refine ⟨I, ?_, fun m' h1 h2 => by omega, fun _ _ _ => rfl⟩
    rw [e_X10_takes_76]
    simp (disch := omega) only [e_X10_takes_164, Option.bind_some, Option.toList_some, Option.toList_none, List.cons_append, List.nil_append, Option.map_some, cond_true, cond_false, Bool.not_true, Bool.not_false, Bool.true_and, Bool.and_true, Bool.false_and, Bool.and_false, Bool.true_or, Bool.or_true, Bool.false_or, Bool.or_false, Bool.not_not, decide_true, decide_false, Bool.decide_eq_true, Bool.decide_eq_false, qz_0, qz_1, qz_n, qz_n0, qz_n1, qz_t, qz_f, Nat.reduceAdd, q1000000, q0, q1, q2, q3, q4, q5, q6, q7, q8, q9, q10, q11, q12, q13, q14, q15, q16, q18, q19, q20, q21, q22, q23, q24, q25, q26, q27, q28, q29, q30, q31, q32, q38, q44, q45, q48, q57, q58, q59, q60, q63, q64, q97, q122, q126, q127, q128, q255, q256, q300, q580, q600, q1000, nI_add, q_lt_t, q_lt_f, q_eq_t, q_eq_f, q_clamp, q_in_t, q_in_f]
  | r + 1, m, I, h, hM, hS, hR => by
    have hN := hM.1.1
    have hm : m < 4 := by omega
    have hWT := WT_wa fd F T af
    have hco := s_costOf (L := L) hM hm hd h1 hP
    have l1 := cm_le N w T (fdF fd nf F) (waS fd F T af) d i P m hP
    have l2 := kV_le hWT hN (w := w) (H := fdF fd nf F) (d + i + 1) m
    have l3 := kV_le hWT hN (w := w) (H := fdF fd nf F) d m
    have key : ∃ (v u : Int32), zrun zZ kX10_takes (76, [some (.ref 52), some (.int (nI d)), some (.int (nI (d + i))), some (.int (nI P)), some (.int (nI 1)), some (.int (nI m)), none], [], hp I L, 0, 0) = zrun zZ kX10_takes (76, [some (.ref 52), some (.int (nI d)), some (.int (nI (d + i))), some (.int (nI P)), some (.int (nI 1)), some (.int (nI (m + 1))), none], [], hp (zup (zup I 67 m v) 66 m u) L, 0, 0) ∧ ((v = nI 1 ∧ smP N w T (fdF fd nf F) (waS fd F T af) d s i P m ∧ u = nI (kV N w T (fdF fd nf F) (waS fd F T af) (d + i + 1) m)) ∨ (v = nI 0 ∧ ¬ smP N w T (fdF fd nf F) (waS fd F T af) d s i P m)) := by
      rcases hS m (Nat.le_refl _) hm with ⟨s1, s2, s3⟩ | ⟨s1, s2⟩
      · have e57 := hR m hm s2 (d + i + 1) (by omega)
        by_cases q : cmF N w T (fdF fd nf F) (waS fd F T af) d i P m + kV N w T (fdF fd nf F) (waS fd F T af) (d + i + 1) m = kV N w T (fdF fd nf F) (waS fd F T af) d m
        · refine ⟨nI 1, nI (kV N w T (fdF fd nf F) (waS fd F T af) d m) - nI (cmF N w T (fdF fd nf F) (waS fd F T af) d i P m), ?_, Or.inl ⟨rfl, ⟨s2, q⟩, ?_⟩⟩
          · rw [e_X10_takes_76]
            simp (disch := omega) only [e_X10_takes_96, e_X10_takes_128, e_X10_takes_145, s1, s3, hco, s_place, e57, q, nar_b1, Option.bind_some, Option.toList_some, Option.toList_none, List.cons_append, List.nil_append, Option.map_some, cond_true, cond_false, Bool.not_true, Bool.not_false, Bool.true_and, Bool.and_true, Bool.false_and, Bool.and_false, Bool.true_or, Bool.or_true, Bool.false_or, Bool.or_false, Bool.not_not, decide_true, decide_false, Bool.decide_eq_true, Bool.decide_eq_false, qz_0, qz_1, qz_n, qz_n0, qz_n1, qz_t, qz_f, Nat.reduceAdd, q1000000, q0, q1, q2, q3, q4, q5, q6, q7, q8, q9, q10, q11, q12, q13, q14, q15, q16, q18, q19, q20, q21, q22, q23, q24, q25, q26, q27, q28, q29, q30, q31, q32, q38, q44, q45, q48, q57, q58, q59, q60, q63, q64, q97, q122, q126, q127, q128, q255, q256, q300, q580, q600, q1000, nI_add, q_lt_t, q_lt_f, q_eq_t, q_eq_f, q_clamp, q_in_t, q_in_f]
          · rw [pk_sub (by omega)]
            congr 1
            omega
        · refine ⟨nI 0, I 66 m - nI (cmF N w T (fdF fd nf F) (waS fd F T af) d i P m), ?_, Or.inr ⟨rfl, fun z => q z.2⟩⟩
          rw [e_X10_takes_76]
          simp (disch := omega) only [e_X10_takes_96, e_X10_takes_128, e_X10_takes_144, e_X10_takes_145, s1, s3, hco, s_place, e57, nar_b0, Option.bind_some, Option.toList_some, Option.toList_none, List.cons_append, List.nil_append, Option.map_some, cond_true, cond_false, Bool.not_true, Bool.not_false, Bool.true_and, Bool.and_true, Bool.false_and, Bool.and_false, Bool.true_or, Bool.or_true, Bool.false_or, Bool.or_false, Bool.not_not, decide_true, decide_false, Bool.decide_eq_true, Bool.decide_eq_false, qz_0, qz_1, qz_n, qz_n0, qz_n1, qz_t, qz_f, Nat.reduceAdd, q1000000, q0, q1, q2, q3, q4, q5, q6, q7, q8, q9, q10, q11, q12, q13, q14, q15, q16, q18, q19, q20, q21, q22, q23, q24, q25, q26, q27, q28, q29, q30, q31, q32, q38, q44, q45, q48, q57, q58, q59, q60, q63, q64, q97, q122, q126, q127, q128, q255, q256, q300, q580, q600, q1000, nI_add, q_lt_t, q_lt_f, q_eq_t, q_eq_f, q_clamp, q_in_t, q_in_f]
      · refine ⟨nI 0, I 66 m - nI (cmF N w T (fdF fd nf F) (waS fd F T af) d i P m), ?_, Or.inr ⟨rfl, fun z => s2 z.1⟩⟩
        rw [e_X10_takes_76]
        simp (disch := omega) only [e_X10_takes_96, e_X10_takes_144, e_X10_takes_145, s1, hco, nar_b0, Option.bind_some, Option.toList_some, Option.toList_none, List.cons_append, List.nil_append, Option.map_some, cond_true, cond_false, Bool.not_true, Bool.not_false, Bool.true_and, Bool.and_true, Bool.false_and, Bool.and_false, Bool.true_or, Bool.or_true, Bool.false_or, Bool.or_false, Bool.not_not, decide_true, decide_false, Bool.decide_eq_true, Bool.decide_eq_false, qz_0, qz_1, qz_n, qz_n0, qz_n1, qz_t, qz_f, Nat.reduceAdd, q1000000, q0, q1, q2, q3, q4, q5, q6, q7, q8, q9, q10, q11, q12, q13, q14, q15, q16, q18, q19, q20, q21, q22, q23, q24, q25, q26, q27, q28, q29, q30, q31, q32, q38, q44, q45, q48, q57, q58, q59, q60, q63, q64, q97, q122, q126, q127, q128, q255, q256, q300, q580, q600, q1000, nI_add, q_lt_t, q_lt_f, q_eq_t, q_eq_f, q_clamp, q_in_t, q_in_f]
    obtain ⟨v, u, k1, k2⟩ := key
    obtain ⟨J, g1, g2, g3⟩ := tk_set (L := L) hd h1 hP r (m + 1) (zup (zup I 67 m v) 66 m u) (by omega) (hM.cg (fun y => by rw [zu_cell (by omega), zu_cell (by omega)]) (fun y _ => by rw [zu_cell (by omega), zu_cell (by omega)]) (fun y => by rw [zu_cell (by omega), zu_cell (by omega)])) (fun m' h1 h2 => by
      rw [zu_cell (by omega), zu_at (by omega), zu_at (by omega), zu_cell (by omega)]
      exact hS m' (by omega) h2) (fun m' h1 h2 e he => by rw [zu_cell (by omega), zu_cell (by omega)]; exact hR m' h1 h2 e he)
    refine ⟨J, k1.trans g1, fun m' h1 h2 => ?_, fun x y p => ?_⟩
    · by_cases z : m' = m
      · subst z
        rw [g3 67 m' (by omega), g3 66 m' (by omega), zu_same, zu_cell (by omega), zu_same]
        exact k2
      · exact g2 m' (by omega) h2
    · rw [g3 x y (by omega)]
      by_cases z : x = 66
      · rw [zu_at (by omega), zu_cell (by omega)]
      · rw [zu_cell z]
        by_cases z2 : x = 67
        · rw [zu_at (by omega)]
        · rw [zu_cell z2]
theorem td_sup : ∀ m, m < 4 → ∀ a b : Bool, (m &&& (a.toNat + 2 * b.toNat) = a.toNat + 2 * b.toNat) ↔ ((a = true → m.testBit 0 = true) ∧ (b = true → m.testBit 1 = true)) := by decide +kernel
theorem span_law {N w : Nat} {T H W : Int32} (hw : WT T W) (hN : N ≤ 28) {d s i P : Nat} (hs : s < 4) (hd : d + i < N) (hP : P ∈ pats) : (spOK N w T H W d s i P ↔ ∃ m, m < 4 ∧ smP N w T H W d s i P m) ∧ (spOK N w T H W d s i P → ∀ m, m < 4 → (smP N w T H W d s i P m ↔ SM N w T H W (d + i + 1) (s ||| tdF w T H W d i P) m)) := by
  have ht := fun (m : Nat) (hm : m < 4) => td_sup m hm (foF w T H d i P) (fmF w H W d i P)
  have htc := fun nm am => tc_oc (w := w) (H := H) hw nm am d P (i + 1)
  have hoc : ocF w T H d i P = cnt (fun j => outF w T H P (d + j)) (i + 1) := rfl
  have hmc : mcF w H W d i P = cnt (fun j => morF w H W P (d + j)) (i + 1) := rfl
  have hcsv : csF N w T H W d i P = pT P + enF N d i + ocF w T H d i P + mcF w H W d i P := rfl
  have hfo : foF w T H d i P = true ↔ 0 < ocF w T H d i P := decide_eq_true_iff
  have hfm : fmF w H W d i P = true ↔ 0 < mcF w H W d i P := decide_eq_true_iff
  exact opt_law (w := w) (H := H) hw hN (d := d) (e := d + i + 1) (s := s) (t := tdF w T H W d i P) (c := csF N w T H W d i P) (cm := cmF N w T H W d i P) hs (tdF_lt ..) (fun m hm hmt => by
    obtain ⟨z1, z2⟩ := (ht m hm).mp hmt
    unfold cmF
    rw [htc, ← hoc, ← hmc]
    have y1 : ocF w T H d i P * cond (m.testBit 0) 1 1000 = ocF w T H d i P := by
      by_cases q : 0 < ocF w T H d i P
      · rw [z1 (hfo.mpr q)]
        exact Nat.mul_one _
      · rw [show ocF w T H d i P = 0 by omega, Nat.zero_mul]
    have y2 : mcF w H W d i P * cond (m.testBit 1) 1 1000 = mcF w H W d i P := by
      by_cases q : 0 < mcF w H W d i P
      · rw [z2 (hfm.mpr q)]
        exact Nat.mul_one _
      · rw [show mcF w H W d i P = 0 by omega, Nat.zero_mul]
    rw [y1, y2, hcsv]
    omega) (fun m hm hmt => by
    have hnt : ¬ ((foF w T H d i P = true → m.testBit 0 = true) ∧ (fmF w H W d i P = true → m.testBit 1 = true)) := fun z => hmt ((ht m hm).mpr z)
    unfold cmF
    rw [htc, ← hoc, ← hmc]
    by_cases q : foF w T H d i P = true → m.testBit 0 = true
    · have q2 : ¬ (fmF w H W d i P = true → m.testBit 1 = true) := fun z => hnt ⟨q, z⟩
      have e1 : 0 < mcF w H W d i P := by
        by_cases z : 0 < mcF w H W d i P
        · exact z
        · exact absurd (fun y => absurd (hfm.mp y) z) q2
      have e2 : m.testBit 1 = false := by
        cases z : m.testBit 1
        · rfl
        · exact absurd (fun _ => z) q2
      rw [e2]
      show 1000 ≤ _ + (_ + mcF w H W d i P * 1000)
      omega
    · have e1 : 0 < ocF w T H d i P := by
        by_cases z : 0 < ocF w T H d i P
        · exact z
        · exact absurd (fun y => absurd (hfo.mp y) z) q
      have e2 : m.testBit 0 = false := by
        cases z : m.testBit 0
        · rfl
        · exact absurd (fun _ => z) q
      rw [e2]
      show 1000 ≤ _ + (ocF w T H d i P * 1000 + _)
      omega) (fun m hm => by
    have := kV_span hw hN (w := w) (H := H) (m := m) hd hP
    unfold cmF
    omega) (kU_span hd hP)
theorem s_takes {I : zI} {L : zL} {N w F : Nat} {T : Int32} {fd : Nat → Int32} {nf af d s i P : Nat} (hM : MS I N w F T fd nf af) (hd : d + i < N) (h1 : 1 ≤ P) (hP : P < 128) (hs : s < 4) (hS : STD I N w T (fdF fd nf F) (waS fd F T af) d s) (hR : R57 I N w T (fdF fd nf F) (waS fd F T af) d s) : (spOK N w T (fdF fd nf F) (waS fd F T af) d s i P ∧ ∃ J, zcall zZ nX10_takes [.ref 52, .int (nI d), .int (nI (d + i)), .int (nI P)] (hp I L) = some (some (.int (nI 1)), hp J L) ∧ STD J N w T (fdF fd nf F) (waS fd F T af) (d + i + 1) (s ||| tdF w T (fdF fd nf F) (waS fd F T af) d i P) ∧ R57 J N w T (fdF fd nf F) (waS fd F T af) (d + i + 1) (s ||| tdF w T (fdF fd nf F) (waS fd F T af) d i P) ∧ (∀ x y, x ≠ 66 → x ≠ 67 → J x y = I x y)) ∨ (¬ spOK N w T (fdF fd nf F) (waS fd F T af) d s i P ∧ zcall zZ nX10_takes [.ref 52, .int (nI d), .int (nI (d + i)), .int (nI P)] (hp I L) = some (some (.int (nI 0)), hp I L)) := by
  have hN := hM.1.1
  have hWT := WT_wa fd F T af
  obtain ⟨b, g1, g2⟩ := tk_any (L := L) hM hd h1 hP hS hR 4 0 false (by omega) ⟨fun z => absurd z (by decide), fun ⟨m', h, _⟩ => by omega⟩
  obtain ⟨l1, l2⟩ := span_law (w := w) (H := fdF fd nf F) hWT hN hs hd (pats_mem.mpr ⟨h1, hP⟩)
  have hst : zcall zZ nX10_takes [.ref 52, .int (nI d), .int (nI (d + i)), .int (nI P)] (hp I L) = (zrun zZ kX10_takes (76, [some (.ref 52), some (.int (nI d)), some (.int (nI (d + i))), some (.int (nI P)), some (.int (zbo b)), some (.int (nI 0)), none], [], hp I L, 0, 0)).map (fun r => (r.1, r.2.1)) := by
    rw [c_X10_takes, e_X10_takes_0, q0]
    rw [show (zbo false) = nI 0 from rfl] at g1
    rw [g1]
  cases b with
  | true =>
    left
    have hba := l1.mpr (g2.mp rfl)
    obtain ⟨J, k1, k2, k3⟩ := tk_set (L := L) hd h1 hP 4 0 I (by omega) hM (fun m' _ h2 => hS m' h2) hR
    refine ⟨hba, J, ?_, fun m hm => ?_, fun m hm hSM e he => ?_, fun x y p1 p2 => k3 x y (by omega)⟩
    · rw [hst, show zbo true = nI 1 from rfl, k1]
      rfl
    · rcases k2 m (Nat.zero_le _) hm with ⟨a1, a2, a3⟩ | ⟨a1, a2⟩
      · exact Or.inl ⟨a1, (l2 hba m hm).mp a2, a3⟩
      · exact Or.inr ⟨a1, fun z => a2 ((l2 hba m hm).mpr z)⟩
    · rw [k3 57 _ (by omega)]
      exact hR m hm ((l2 hba m hm).mpr hSM).1 e he
  | false =>
    right
    refine ⟨fun z => absurd (g2.mpr (l1.mp z)) (by decide), ?_⟩
    rw [hst, show zbo false = nI 0 from rfl, e_X10_takes_76]
    simp (disch := omega) only [e_X10_takes_164, Option.bind_some, Option.toList_some, Option.toList_none, List.cons_append, List.nil_append, Option.map_some, cond_true, cond_false, Bool.not_true, Bool.not_false, Bool.true_and, Bool.and_true, Bool.false_and, Bool.and_false, Bool.true_or, Bool.or_true, Bool.false_or, Bool.or_false, Bool.not_not, decide_true, decide_false, Bool.decide_eq_true, Bool.decide_eq_false, qz_0, qz_1, qz_n, qz_n0, qz_n1, qz_t, qz_f, Nat.reduceAdd, q1000000, q0, q1, q2, q3, q4, q5, q6, q7, q8, q9, q10, q11, q12, q13, q14, q15, q16, q18, q19, q20, q21, q22, q23, q24, q25, q26, q27, q28, q29, q30, q31, q32, q38, q44, q45, q48, q57, q58, q59, q60, q63, q64, q97, q122, q126, q127, q128, q255, q256, q300, q580, q600, q1000, nI_add, q_lt_t, q_lt_f, q_eq_t, q_eq_f, q_clamp, q_in_t, q_in_f]
/-- the first span that may begin -/
def bgI (J : zI) (p d i P : Nat) : zI := zup (zup (zup (zup J 63 p (nI d)) 64 p (nI (d + i))) 65 p (nI P)) 52 33 (nI (p + 1))
theorem bg_pat {I : zI} {L : zL} {N w F : Nat} {T : Int32} {fd : Nat → Int32} {nf af d s i p : Nat} (hM : MS I N w F T fd nf af) (hd : d + i < N) (hs : s < 4) (hS : STD I N w T (fdF fd nf F) (waS fd F T af) d s) (hR : R57 I N w T (fdF fd nf F) (waS fd F T af) d s) (hp33 : I 52 33 = nI p) (hpl : p < 28) : ∀ r P, P + r = 128 → 1 ≤ P → (∀ P', 1 ≤ P' → P' < P → ¬ spOK N w T (fdF fd nf F) (waS fd F T af) d s i P') → (∃ P' J, P' < 128 ∧ 1 ≤ P' ∧ spOK N w T (fdF fd nf F) (waS fd F T af) d s i P' ∧ (∀ Q, 1 ≤ Q → Q < P' → ¬ spOK N w T (fdF fd nf F) (waS fd F T af) d s i Q) ∧ STD J N w T (fdF fd nf F) (waS fd F T af) (d + i + 1) (s ||| tdF w T (fdF fd nf F) (waS fd F T af) d i P') ∧ R57 J N w T (fdF fd nf F) (waS fd F T af) (d + i + 1) (s ||| tdF w T (fdF fd nf F) (waS fd F T af) d i P') ∧ (∀ x y, x ≠ 66 → x ≠ 67 → J x y = I x y) ∧ zrun zZ kX10_begun (14, [some (.ref 52), some (.int (nI d)), some (.int (nI (d + i))), some (.int (nI P))], [], hp I L, 0, 0) = some (some (.int (nI (d + i + 1))), hp (bgI J p d i P') L, 0, 0)) ∨ ((∀ P', 1 ≤ P' → P' < 128 → ¬ spOK N w T (fdF fd nf F) (waS fd F T af) d s i P') ∧ zrun zZ kX10_begun (14, [some (.ref 52), some (.int (nI d)), some (.int (nI (d + i))), some (.int (nI P))], [], hp I L, 0, 0) = zrun zZ kX10_begun (2, [some (.ref 52), some (.int (nI d)), some (.int (nI (d + i + 1))), none], [], hp I L, 0, 0))
  | 0, P, h, h1, hno => by
    obtain rfl : P = 128 := h
    right
    refine ⟨hno, ?_⟩
    rw [e_X10_begun_14]
    simp (disch := omega) only [Option.bind_some, Option.toList_some, Option.toList_none, List.cons_append, List.nil_append, Option.map_some, cond_true, cond_false, Bool.not_true, Bool.not_false, Bool.true_and, Bool.and_true, Bool.false_and, Bool.and_false, Bool.true_or, Bool.or_true, Bool.false_or, Bool.or_false, Bool.not_not, decide_true, decide_false, Bool.decide_eq_true, Bool.decide_eq_false, qz_0, qz_1, qz_n, qz_n0, qz_n1, qz_t, qz_f, Nat.reduceAdd, q1000000, q0, q1, q2, q3, q4, q5, q6, q7, q8, q9, q10, q11, q12, q13, q14, q15, q16, q18, q19, q20, q21, q22, q23, q24, q25, q26, q27, q28, q29, q30, q31, q32, q38, q44, q45, q48, q57, q58, q59, q60, q63, q64, q97, q122, q126, q127, q128, q255, q256, q300, q580, q600, q1000, nI_add, q_lt_t, q_lt_f, q_eq_t, q_eq_f, q_clamp, q_in_t, q_in_f]
  | r + 1, P, h, h1, hno => by
    rcases s_takes (L := L) hM hd h1 (show P < 128 by omega) hs hS hR with ⟨t1, J, t2, t3, t4, t5⟩ | ⟨t1, t2⟩
    · left
      refine ⟨P, J, by omega, h1, t1, hno, t3, t4, t5, ?_⟩
      have e33 : J 52 33 = nI p := (t5 _ _ (by omega) (by omega)).trans hp33
      rw [e_X10_begun_14]
      simp (disch := omega) only [e_X10_begun_28, t2, e33, Option.bind_some, Option.toList_some, Option.toList_none, List.cons_append, List.nil_append, Option.map_some, cond_true, cond_false, Bool.not_true, Bool.not_false, Bool.true_and, Bool.and_true, Bool.false_and, Bool.and_false, Bool.true_or, Bool.or_true, Bool.false_or, Bool.or_false, Bool.not_not, decide_true, decide_false, Bool.decide_eq_true, Bool.decide_eq_false, qz_0, qz_1, qz_n, qz_n0, qz_n1, qz_t, qz_f, Nat.reduceAdd, q1000000, q0, q1, q2, q3, q4, q5, q6, q7, q8, q9, q10, q11, q12, q13, q14, q15, q16, q18, q19, q20, q21, q22, q23, q24, q25, q26, q27, q28, q29, q30, q31, q32, q38, q44, q45, q48, q57, q58, q59, q60, q63, q64, q97, q122, q126, q127, q128, q255, q256, q300, q580, q600, q1000, nI_add, q_lt_t, q_lt_f, q_eq_t, q_eq_f, q_clamp, q_in_t, q_in_f]
      rfl
    · rcases bg_pat (L := L) hM hd hs hS hR hp33 hpl r (P + 1) (by omega) (by omega) (fun P' p1 p2 => by
        by_cases z : P' = P
        · rw [z]
          exact t1
        · exact hno P' p1 (by omega)) with ⟨P', J, a1, a2, a3, a4, a5, a6, a7, a8⟩ | ⟨a1, a2⟩
      · refine Or.inl ⟨P', J, a1, a2, a3, a4, a5, a6, a7, ?_⟩
        refine Eq.trans ?_ a8
        rw [e_X10_begun_14]
        simp (disch := omega) only [e_X10_begun_28, e_X10_begun_75, t2, Option.bind_some, Option.toList_some, Option.toList_none, List.cons_append, List.nil_append, Option.map_some, cond_true, cond_false, Bool.not_true, Bool.not_false, Bool.true_and, Bool.and_true, Bool.false_and, Bool.and_false, Bool.true_or, Bool.or_true, Bool.false_or, Bool.or_false, Bool.not_not, decide_true, decide_false, Bool.decide_eq_true, Bool.decide_eq_false, qz_0, qz_1, qz_n, qz_n0, qz_n1, qz_t, qz_f, Nat.reduceAdd, q1000000, q0, q1, q2, q3, q4, q5, q6, q7, q8, q9, q10, q11, q12, q13, q14, q15, q16, q18, q19, q20, q21, q22, q23, q24, q25, q26, q27, q28, q29, q30, q31, q32, q38, q44, q45, q48, q57, q58, q59, q60, q63, q64, q97, q122, q126, q127, q128, q255, q256, q300, q580, q600, q1000, nI_add, q_lt_t, q_lt_f, q_eq_t, q_eq_f, q_clamp, q_in_t, q_in_f]
      · refine Or.inr ⟨a1, ?_⟩
        refine Eq.trans ?_ a2
        rw [e_X10_begun_14]
        simp (disch := omega) only [e_X10_begun_28, e_X10_begun_75, t2, Option.bind_some, Option.toList_some, Option.toList_none, List.cons_append, List.nil_append, Option.map_some, cond_true, cond_false, Bool.not_true, Bool.not_false, Bool.true_and, Bool.and_true, Bool.false_and, Bool.and_false, Bool.true_or, Bool.or_true, Bool.false_or, Bool.or_false, Bool.not_not, decide_true, decide_false, Bool.decide_eq_true, Bool.decide_eq_false, qz_0, qz_1, qz_n, qz_n0, qz_n1, qz_t, qz_f, Nat.reduceAdd, q1000000, q0, q1, q2, q3, q4, q5, q6, q7, q8, q9, q10, q11, q12, q13, q14, q15, q16, q18, q19, q20, q21, q22, q23, q24, q25, q26, q27, q28, q29, q30, q31, q32, q38, q44, q45, q48, q57, q58, q59, q60, q63, q64, q97, q122, q126, q127, q128, q255, q256, q300, q580, q600, q1000, nI_add, q_lt_t, q_lt_f, q_eq_t, q_eq_f, q_clamp, q_in_t, q_in_f]
theorem bg_last {I : zI} {L : zL} {N w F : Nat} {T : Int32} {fd : Nat → Int32} {nf af d s p : Nat} (hM : MS I N w F T fd nf af) (hs : s < 4) (hS : STD I N w T (fdF fd nf F) (waS fd F T af) d s) (hR : R57 I N w T (fdF fd nf F) (waS fd F T af) d s) (hp33 : I 52 33 = nI p) (hpl : p < 28) (hex : ∃ i P, d + i < N ∧ P ∈ pats ∧ spOK N w T (fdF fd nf F) (waS fd F T af) d s i P) : ∀ r i, d + i + r = N → (∀ i' P', i' < i → 1 ≤ P' → P' < 128 → ¬ spOK N w T (fdF fd nf F) (waS fd F T af) d s i' P') → ∃ i' P' J, FST N w T (fdF fd nf F) (waS fd F T af) d s i' P' ∧ STD J N w T (fdF fd nf F) (waS fd F T af) (d + i' + 1) (s ||| tdF w T (fdF fd nf F) (waS fd F T af) d i' P') ∧ R57 J N w T (fdF fd nf F) (waS fd F T af) (d + i' + 1) (s ||| tdF w T (fdF fd nf F) (waS fd F T af) d i' P') ∧ (∀ x y, x ≠ 66 → x ≠ 67 → J x y = I x y) ∧ zrun zZ kX10_begun (2, [some (.ref 52), some (.int (nI d)), some (.int (nI (d + i))), none], [], hp I L, 0, 0) = some (some (.int (nI (d + i' + 1))), hp (bgI J p d i' P') L, 0, 0)
  | 0, i, h, hno => by
    obtain ⟨i0, P0, e1, e2, e3⟩ := hex
    have hP := pats_mem.mp e2
    exact absurd e3 (hno i0 P0 (by omega) hP.1 hP.2)
  | r + 1, i, h, hno => by
    have hN28 := hM.1.1
    have hd : d + i < N := by omega
    have h2 : zrun zZ kX10_begun (2, [some (.ref 52), some (.int (nI d)), some (.int (nI (d + i))), none], [], hp I L, 0, 0) = zrun zZ kX10_begun (14, [some (.ref 52), some (.int (nI d)), some (.int (nI (d + i))), some (.int (nI 1))], [], hp I L, 0, 0) := by
      rw [e_X10_begun_2]
      simp (disch := omega) only [hM.2.1.1, Option.bind_some, Option.toList_some, Option.toList_none, List.cons_append, List.nil_append, Option.map_some, cond_true, cond_false, Bool.not_true, Bool.not_false, Bool.true_and, Bool.and_true, Bool.false_and, Bool.and_false, Bool.true_or, Bool.or_true, Bool.false_or, Bool.or_false, Bool.not_not, decide_true, decide_false, Bool.decide_eq_true, Bool.decide_eq_false, qz_0, qz_1, qz_n, qz_n0, qz_n1, qz_t, qz_f, Nat.reduceAdd, q1000000, q0, q1, q2, q3, q4, q5, q6, q7, q8, q9, q10, q11, q12, q13, q14, q15, q16, q18, q19, q20, q21, q22, q23, q24, q25, q26, q27, q28, q29, q30, q31, q32, q38, q44, q45, q48, q57, q58, q59, q60, q63, q64, q97, q122, q126, q127, q128, q255, q256, q300, q580, q600, q1000, nI_add, q_lt_t, q_lt_f, q_eq_t, q_eq_f, q_clamp, q_in_t, q_in_f]
    rcases bg_pat (L := L) hM hd hs hS hR hp33 hpl 127 1 (by omega) (by omega) (fun P' p1 p2 => by omega) with ⟨P', J, a1, a2, a3, a4, a5, a6, a7, a8⟩ | ⟨a1, a2⟩
    · refine ⟨i, P', J, ⟨hd, ⟨a2, a1⟩, a3, fun i' Q hq p1 p2 => ?_⟩, a5, a6, a7, h2.trans a8⟩
      rcases hq with hq | ⟨rfl, hq⟩
      · exact hno i' Q hq p1 p2
      · exact a4 Q p1 hq
    · obtain ⟨i', P', J, g1, g2, g3, g4, g5⟩ := bg_last (L := L) hM hs hS hR hp33 hpl hex r (i + 1) (by omega) (fun i' Q hq p1 p2 => by
        by_cases z : i' = i
        · rw [z]
          exact a1 Q p1 p2
        · exact hno i' Q (by omega) p1 p2)
      exact ⟨i', P', J, g1, g2, g3, g4, (h2.trans a2).trans g5⟩
