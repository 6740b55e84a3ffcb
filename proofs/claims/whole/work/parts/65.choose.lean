/-! the reference follows the modes that stand -/
/-- cells 66, 67: what is left, which modes stand -/
def STD (I : zI) (N w : Nat) (T H W : Int32) (d s : Nat) : Prop := ∀ m, m < 4 → (I 67 m = nI 1 ∧ SM N w T H W d s m ∧ I 66 m = nI (kV N w T H W d m)) ∨ (I 67 m = nI 0 ∧ ¬ SM N w T H W d s m)
/-- rows of the modes that stand -/
def R57 (I : zI) (N w : Nat) (T H W : Int32) (d s : Nat) : Prop := ∀ m, m < 4 → SM N w T H W d s m → ∀ e, e ≤ N → I 57 (m * 29 + e) = nI (kV N w T H W e m)
theorem nar_b (b : Bool) : vp_nar .boolean (zbo b) = zbo b := by cases b <;> decide +kernel
theorem nar_b0 : vp_nar .boolean (nI 0) = nI 0 := nar_b false
theorem nar_b1 : vp_nar .boolean (nI 1) = nI 1 := nar_b true
/-- what a mode takes, bare -/
def bmP (N w : Nat) (T H W : Int32) (d s m : Nat) : Prop := SM N w T H W d s m ∧ bcF W (m.testBit 1) d + kV N w T H W (d + 1) m = kV N w T H W d m
theorem gb_any {I : zI} {L : zL} {N w F : Nat} {T : Int32} {fd : Nat → Int32} {nf af d s : Nat} (hM : MS I N w F T fd nf af) (hd : d < N) (hS : STD I N w T (fdF fd nf F) (waS fd F T af) d s) (hR : R57 I N w T (fdF fd nf F) (waS fd F T af) d s) : ∀ r m (b : Bool), m + r = 4 → (b = true ↔ ∃ m', m' < m ∧ bmP N w T (fdF fd nf F) (waS fd F T af) d s m') → ∃ b' : Bool, zrun zZ kX10_goesBare (4, [some (.ref 52), some (.int (nI d)), some (.int (zbo b)), some (.int (nI m))], [], hp I L, 0, 0) = zrun zZ kX10_goesBare (64, [some (.ref 52), some (.int (nI d)), some (.int (zbo b')), some (.int (nI 0))], [], hp I L, 0, 0) ∧ (b' = true ↔ ∃ m', m' < 4 ∧ bmP N w T (fdF fd nf F) (waS fd F T af) d s m')
  | 0, m, b, h, hb => by
    obtain rfl : m = 4 := h
    refine ⟨b, ?_, hb⟩
    rw [e_X10_goesBare_4]
    simp (disch := omega) only [q1000000, q0, q1, q2, q3, q4, q5, q6, q7, q8, q9, q10, q11, q12, q13, q14, q15, q16, q18, q19, q20, q21, q22, q23, q24, q25, q26, q27, q28, q29, q30, q31, q32, q38, q44, q45, q48, q57, q58, q59, q60, q63, q64, q97, q122, q126, q127, q128, q255, q256, q300, q580, q600, q1000, q_lt_f, Option.bind_some, Option.toList_some, Option.toList_none, List.cons_append, List.nil_append, Option.map_some, cond_true, cond_false, Bool.not_true, Bool.not_false, Bool.true_and, Bool.and_true, Bool.false_and, Bool.and_false, Bool.true_or, Bool.or_true, Bool.false_or, Bool.or_false, Bool.not_not, decide_true, decide_false, Bool.decide_eq_true, Bool.decide_eq_false, qz_0, qz_1, qz_n, qz_n0, qz_n1, qz_t, qz_f, Nat.reduceAdd]
  | r + 1, m, b, h, hb => by
    have hN := hM.1.1
    have hm : m < 4 := by omega
    have hWT := WT_wa fd F T af
    have hbc := s_bare (L := L) hM hm (show d < 32 by omega)
    have l1 := bcF_le (waS fd F T af) (m.testBit 1) d
    have l2 := kV_le hWT hN (w := w) (H := fdF fd nf F) (d + 1) m
    have l3 := kV_le hWT hN (w := w) (H := fdF fd nf F) d m
    cases b with
    | true =>
      obtain ⟨b', g1, g2⟩ := gb_any (L := L) hM hd hS hR r (m + 1) true (by omega) ⟨fun _ => by
        obtain ⟨m', a1, a2⟩ := hb.mp rfl
        exact ⟨m', by omega, a2⟩, fun _ => rfl⟩
      refine ⟨b', ?_, g2⟩
      refine Eq.trans ?_ g1
      rw [e_X10_goesBare_4]
      simp (disch := omega) only [e_X10_goesBare_50, e_X10_goesBare_55, Option.bind_some, Option.toList_some, Option.toList_none, List.cons_append, List.nil_append, Option.map_some, cond_true, cond_false, Bool.not_true, Bool.not_false, Bool.true_and, Bool.and_true, Bool.false_and, Bool.and_false, Bool.true_or, Bool.or_true, Bool.false_or, Bool.or_false, Bool.not_not, decide_true, decide_false, Bool.decide_eq_true, Bool.decide_eq_false, qz_0, qz_1, qz_n, qz_n0, qz_n1, qz_t, qz_f, Nat.reduceAdd, q1000000, q0, q1, q2, q3, q4, q5, q6, q7, q8, q9, q10, q11, q12, q13, q14, q15, q16, q18, q19, q20, q21, q22, q23, q24, q25, q26, q27, q28, q29, q30, q31, q32, q38, q44, q45, q48, q57, q58, q59, q60, q63, q64, q97, q122, q126, q127, q128, q255, q256, q300, q580, q600, q1000, nI_add, q_lt_t, q_lt_f, q_eq_t, q_eq_f, q_clamp, q_in_t, q_in_f]
    | false =>
      have hno : ¬ ∃ m', m' < m ∧ bmP N w T (fdF fd nf F) (waS fd F T af) d s m' := fun z => absurd (hb.mpr z) (by decide)
      rcases hS m hm with ⟨s1, s2, s3⟩ | ⟨s1, s2⟩
      · have e57 := hR m hm s2 (d + 1) (by omega)
        by_cases q : bcF (waS fd F T af) (m.testBit 1) d + kV N w T (fdF fd nf F) (waS fd F T af) (d + 1) m = kV N w T (fdF fd nf F) (waS fd F T af) d m
        · obtain ⟨b', g1, g2⟩ := gb_any (L := L) hM hd hS hR r (m + 1) true (by omega) ⟨fun _ => ⟨m, by omega, s2, q⟩, fun _ => rfl⟩
          refine ⟨b', ?_, g2⟩
          refine Eq.trans ?_ g1
          rw [e_X10_goesBare_4]
          simp (disch := omega) only [e_X10_goesBare_28, e_X10_goesBare_39, e_X10_goesBare_50, e_X10_goesBare_55, s1, s3, hbc, s_place, e57, q, Option.bind_some, Option.toList_some, Option.toList_none, List.cons_append, List.nil_append, Option.map_some, cond_true, cond_false, Bool.not_true, Bool.not_false, Bool.true_and, Bool.and_true, Bool.false_and, Bool.and_false, Bool.true_or, Bool.or_true, Bool.false_or, Bool.or_false, Bool.not_not, decide_true, decide_false, Bool.decide_eq_true, Bool.decide_eq_false, qz_0, qz_1, qz_n, qz_n0, qz_n1, qz_t, qz_f, Nat.reduceAdd, q1000000, q0, q1, q2, q3, q4, q5, q6, q7, q8, q9, q10, q11, q12, q13, q14, q15, q16, q18, q19, q20, q21, q22, q23, q24, q25, q26, q27, q28, q29, q30, q31, q32, q38, q44, q45, q48, q57, q58, q59, q60, q63, q64, q97, q122, q126, q127, q128, q255, q256, q300, q580, q600, q1000, nI_add, q_lt_t, q_lt_f, q_eq_t, q_eq_f, q_clamp, q_in_t, q_in_f]
        · obtain ⟨b', g1, g2⟩ := gb_any (L := L) hM hd hS hR r (m + 1) false (by omega) ⟨fun z => absurd z (by decide), fun ⟨m', a1, a2⟩ => by
            by_cases z : m' = m
            · rw [z] at a2
              exact absurd a2.2 q
            · exact absurd ⟨m', by omega, a2⟩ hno⟩
          refine ⟨b', ?_, g2⟩
          refine Eq.trans ?_ g1
          rw [e_X10_goesBare_4]
          simp (disch := omega) only [e_X10_goesBare_28, e_X10_goesBare_39, e_X10_goesBare_54, e_X10_goesBare_55, s1, s3, hbc, s_place, e57, Option.bind_some, Option.toList_some, Option.toList_none, List.cons_append, List.nil_append, Option.map_some, cond_true, cond_false, Bool.not_true, Bool.not_false, Bool.true_and, Bool.and_true, Bool.false_and, Bool.and_false, Bool.true_or, Bool.or_true, Bool.false_or, Bool.or_false, Bool.not_not, decide_true, decide_false, Bool.decide_eq_true, Bool.decide_eq_false, qz_0, qz_1, qz_n, qz_n0, qz_n1, qz_t, qz_f, Nat.reduceAdd, q1000000, q0, q1, q2, q3, q4, q5, q6, q7, q8, q9, q10, q11, q12, q13, q14, q15, q16, q18, q19, q20, q21, q22, q23, q24, q25, q26, q27, q28, q29, q30, q31, q32, q38, q44, q45, q48, q57, q58, q59, q60, q63, q64, q97, q122, q126, q127, q128, q255, q256, q300, q580, q600, q1000, nI_add, q_lt_t, q_lt_f, q_eq_t, q_eq_f, q_clamp, q_in_t, q_in_f]
      · obtain ⟨b', g1, g2⟩ := gb_any (L := L) hM hd hS hR r (m + 1) false (by omega) ⟨fun z => absurd z (by decide), fun ⟨m', a1, a2⟩ => by
          by_cases z : m' = m
          · rw [z] at a2
            exact absurd a2.1 s2
          · exact absurd ⟨m', by omega, a2⟩ hno⟩
        refine ⟨b', ?_, g2⟩
        refine Eq.trans ?_ g1
        rw [e_X10_goesBare_4]
        simp (disch := omega) only [e_X10_goesBare_54, e_X10_goesBare_55, s1, Option.bind_some, Option.toList_some, Option.toList_none, List.cons_append, List.nil_append, Option.map_some, cond_true, cond_false, Bool.not_true, Bool.not_false, Bool.true_and, Bool.and_true, Bool.false_and, Bool.and_false, Bool.true_or, Bool.or_true, Bool.false_or, Bool.or_false, Bool.not_not, decide_true, decide_false, Bool.decide_eq_true, Bool.decide_eq_false, qz_0, qz_1, qz_n, qz_n0, qz_n1, qz_t, qz_f, Nat.reduceAdd, q1000000, q0, q1, q2, q3, q4, q5, q6, q7, q8, q9, q10, q11, q12, q13, q14, q15, q16, q18, q19, q20, q21, q22, q23, q24, q25, q26, q27, q28, q29, q30, q31, q32, q38, q44, q45, q48, q57, q58, q59, q60, q63, q64, q97, q122, q126, q127, q128, q255, q256, q300, q580, q600, q1000, nI_add, q_lt_t, q_lt_f, q_eq_t, q_eq_f, q_clamp, q_in_t, q_in_f]
/-- the second turn: modes from m on are set anew -/
theorem gb_set {L : zL} {N w F : Nat} {T : Int32} {fd : Nat → Int32} {nf af d s : Nat} (hd : d < N) : ∀ r m (I : zI), m + r = 4 → MS I N w F T fd nf af → (∀ m', m ≤ m' → m' < 4 → (I 67 m' = nI 1 ∧ SM N w T (fdF fd nf F) (waS fd F T af) d s m' ∧ I 66 m' = nI (kV N w T (fdF fd nf F) (waS fd F T af) d m')) ∨ (I 67 m' = nI 0 ∧ ¬ SM N w T (fdF fd nf F) (waS fd F T af) d s m')) → R57 I N w T (fdF fd nf F) (waS fd F T af) d s → ∃ J, zrun zZ kX10_goesBare (64, [some (.ref 52), some (.int (nI d)), some (.int (nI 1)), some (.int (nI m))], [], hp I L, 0, 0) = some (some (.int (nI 1)), hp J L, 0, 0) ∧ (∀ m', m ≤ m' → m' < 4 → (J 67 m' = nI 1 ∧ bmP N w T (fdF fd nf F) (waS fd F T af) d s m' ∧ J 66 m' = nI (kV N w T (fdF fd nf F) (waS fd F T af) (d + 1) m')) ∨ (J 67 m' = nI 0 ∧ ¬ bmP N w T (fdF fd nf F) (waS fd F T af) d s m')) ∧ (∀ x y, ((x ≠ 66 ∧ x ≠ 67) ∨ y < m) → J x y = I x y)
  | 0, m, I, h, hM, hS, hR => by
    obtain rfl : m = 4 := h
    refine ⟨I, ?_, fun m' h1 h2 => by omega, fun _ _ _ => rfl⟩
    rw [e_X10_goesBare_64]
    simp (disch := omega) only [e_X10_goesBare_142, Option.bind_some, Option.toList_some, Option.toList_none, List.cons_append, List.nil_append, Option.map_some, cond_true, cond_false, Bool.not_true, Bool.not_false, Bool.true_and, Bool.and_true, Bool.false_and, Bool.and_false, Bool.true_or, Bool.or_true, Bool.false_or, Bool.or_false, Bool.not_not, decide_true, decide_false, Bool.decide_eq_true, Bool.decide_eq_false, qz_0, qz_1, qz_n, qz_n0, qz_n1, qz_t, qz_f, Nat.reduceAdd, q1000000, q0, q1, q2, q3, q4, q5, q6, q7, q8, q9, q10, q11, q12, q13, q14, q15, q16, q18, q19, q20, q21, q22, q23, q24, q25, q26, q27, q28, q29, q30, q31, q32, q38, q44, q45, q48, q57, q58, q59, q60, q63, q64, q97, q122, q126, q127, q128, q255, q256, q300, q580, q600, q1000, nI_add, q_lt_t, q_lt_f, q_eq_t, q_eq_f, q_clamp, q_in_t, q_in_f]
  | r + 1, m, I, h, hM, hS, hR => by
    have hN := hM.1.1
    have hm : m < 4 := by omega
    have hWT := WT_wa fd F T af
    have l1 := bcF_le (waS fd F T af) (m.testBit 1) d
    have l2 := kV_le hWT hN (w := w) (H := fdF fd nf F) (d + 1) m
    have l3 := kV_le hWT hN (w := w) (H := fdF fd nf F) d m
    have hbc := s_bare (L := L) hM hm (show d < 32 by omega)
    have key : ∃ (v u : Int32), zrun zZ kX10_goesBare (64, [some (.ref 52), some (.int (nI d)), some (.int (nI 1)), some (.int (nI m))], [], hp I L, 0, 0) = zrun zZ kX10_goesBare (64, [some (.ref 52), some (.int (nI d)), some (.int (nI 1)), some (.int (nI (m + 1)))], [], hp (zup (zup I 67 m v) 66 m u) L, 0, 0) ∧ ((v = nI 1 ∧ bmP N w T (fdF fd nf F) (waS fd F T af) d s m ∧ u = nI (kV N w T (fdF fd nf F) (waS fd F T af) (d + 1) m)) ∨ (v = nI 0 ∧ ¬ bmP N w T (fdF fd nf F) (waS fd F T af) d s m)) := by
      have hb1 : ∀ v, zcall zZ nX10_bareCost [.ref 52, .int (nI m), .int (nI d)] (hp (zup I 67 m v) L) = some (some (.int (nI (bcF (waS fd F T af) (m.testBit 1) d))), hp (zup I 67 m v) L) := fun v => s_bare (L := L) (hM.cg (fun y => zu_cell (by omega)) (fun y _ => zu_cell (by omega)) (fun y => zu_cell (by omega))) hm (by omega)
      rcases hS m (Nat.le_refl _) hm with ⟨s1, s2, s3⟩ | ⟨s1, s2⟩
      · have e57 := hR m hm s2 (d + 1) (by omega)
        by_cases q : bcF (waS fd F T af) (m.testBit 1) d + kV N w T (fdF fd nf F) (waS fd F T af) (d + 1) m = kV N w T (fdF fd nf F) (waS fd F T af) d m
        · refine ⟨nI 1, nI (kV N w T (fdF fd nf F) (waS fd F T af) d m) - nI (bcF (waS fd F T af) (m.testBit 1) d), ?_, Or.inl ⟨rfl, ⟨s2, q⟩, ?_⟩⟩
          · rw [e_X10_goesBare_64]
            simp (disch := omega) only [e_X10_goesBare_93, e_X10_goesBare_104, e_X10_goesBare_120, e_X10_goesBare_134, s1, s3, hbc, hb1, s_place, e57, q, nar_b1, Option.bind_some, Option.toList_some, Option.toList_none, List.cons_append, List.nil_append, Option.map_some, cond_true, cond_false, Bool.not_true, Bool.not_false, Bool.true_and, Bool.and_true, Bool.false_and, Bool.and_false, Bool.true_or, Bool.or_true, Bool.false_or, Bool.or_false, Bool.not_not, decide_true, decide_false, Bool.decide_eq_true, Bool.decide_eq_false, qz_0, qz_1, qz_n, qz_n0, qz_n1, qz_t, qz_f, Nat.reduceAdd, q1000000, q0, q1, q2, q3, q4, q5, q6, q7, q8, q9, q10, q11, q12, q13, q14, q15, q16, q18, q19, q20, q21, q22, q23, q24, q25, q26, q27, q28, q29, q30, q31, q32, q38, q44, q45, q48, q57, q58, q59, q60, q63, q64, q97, q122, q126, q127, q128, q255, q256, q300, q580, q600, q1000, nI_add, q_lt_t, q_lt_f, q_eq_t, q_eq_f, q_clamp, q_in_t, q_in_f]
          · rw [pk_sub (by omega)]
            congr 1
            omega
        · refine ⟨nI 0, I 66 m - nI (bcF (waS fd F T af) (m.testBit 1) d), ?_, Or.inr ⟨rfl, fun z => q z.2⟩⟩
          rw [e_X10_goesBare_64]
          simp (disch := omega) only [e_X10_goesBare_93, e_X10_goesBare_104, e_X10_goesBare_119, e_X10_goesBare_120, e_X10_goesBare_134, s1, s3, hbc, hb1, s_place, e57, nar_b0, Option.bind_some, Option.toList_some, Option.toList_none, List.cons_append, List.nil_append, Option.map_some, cond_true, cond_false, Bool.not_true, Bool.not_false, Bool.true_and, Bool.and_true, Bool.false_and, Bool.and_false, Bool.true_or, Bool.or_true, Bool.false_or, Bool.or_false, Bool.not_not, decide_true, decide_false, Bool.decide_eq_true, Bool.decide_eq_false, qz_0, qz_1, qz_n, qz_n0, qz_n1, qz_t, qz_f, Nat.reduceAdd, q1000000, q0, q1, q2, q3, q4, q5, q6, q7, q8, q9, q10, q11, q12, q13, q14, q15, q16, q18, q19, q20, q21, q22, q23, q24, q25, q26, q27, q28, q29, q30, q31, q32, q38, q44, q45, q48, q57, q58, q59, q60, q63, q64, q97, q122, q126, q127, q128, q255, q256, q300, q580, q600, q1000, nI_add, q_lt_t, q_lt_f, q_eq_t, q_eq_f, q_clamp, q_in_t, q_in_f]
      · refine ⟨nI 0, I 66 m - nI (bcF (waS fd F T af) (m.testBit 1) d), ?_, Or.inr ⟨rfl, fun z => s2 z.1⟩⟩
        rw [e_X10_goesBare_64]
        simp (disch := omega) only [e_X10_goesBare_119, e_X10_goesBare_120, e_X10_goesBare_134, s1, hb1, nar_b0, Option.bind_some, Option.toList_some, Option.toList_none, List.cons_append, List.nil_append, Option.map_some, cond_true, cond_false, Bool.not_true, Bool.not_false, Bool.true_and, Bool.and_true, Bool.false_and, Bool.and_false, Bool.true_or, Bool.or_true, Bool.false_or, Bool.or_false, Bool.not_not, decide_true, decide_false, Bool.decide_eq_true, Bool.decide_eq_false, qz_0, qz_1, qz_n, qz_n0, qz_n1, qz_t, qz_f, Nat.reduceAdd, q1000000, q0, q1, q2, q3, q4, q5, q6, q7, q8, q9, q10, q11, q12, q13, q14, q15, q16, q18, q19, q20, q21, q22, q23, q24, q25, q26, q27, q28, q29, q30, q31, q32, q38, q44, q45, q48, q57, q58, q59, q60, q63, q64, q97, q122, q126, q127, q128, q255, q256, q300, q580, q600, q1000, nI_add, q_lt_t, q_lt_f, q_eq_t, q_eq_f, q_clamp, q_in_t, q_in_f]
    obtain ⟨v, u, k1, k2⟩ := key
    obtain ⟨J, g1, g2, g3⟩ := gb_set (L := L) hd r (m + 1) (zup (zup I 67 m v) 66 m u) (by omega) (hM.cg (fun y => by rw [zu_cell (by omega), zu_cell (by omega)]) (fun y _ => by rw [zu_cell (by omega), zu_cell (by omega)]) (fun y => by rw [zu_cell (by omega), zu_cell (by omega)])) (fun m' h1 h2 => by
      rw [zu_cell (by omega), zu_at (by omega), zu_at (by omega), zu_cell (by omega)]
      exact hS m' (by omega) h2) (fun m' h1 h2 e he => by rw [zu_cell (by omega), zu_cell (by omega)]; exact hR m' h1 h2 e he)
    refine ⟨J, k1.trans g1, fun m' h1 h2 => ?_, fun x y p => ?_⟩
    · by_cases z : m' = m
      · subst z
        rw [g3 67 m' (by omega), g3 66 m' (by omega), zu_same, zu_cell (by omega), zu_same]
        exact k2
      · exact g2 m' (by omega) h2
    · rw [g3 x y (by omega)]
      by_cases z : x = 66
      · rw [zu_at (by omega), zu_cell (by omega)]
      · rw [zu_cell z]
        by_cases z2 : x = 67
        · rw [zu_at (by omega)]
        · rw [zu_cell z2]
/-- day by day: the law of a bare day -/
theorem bare_law {N w : Nat} {T H W : Int32} (hw : WT T W) (hN : N ≤ 28) {d s : Nat} (hs : s < 4) (hd : d < N) : (baOK N w T H W d s ↔ ∃ m, m < 4 ∧ bmP N w T H W d s m) ∧ (baOK N w T H W d s → ∀ m, m < 4 → (bmP N w T H W d s m ↔ SM N w T H W (d + 1) (sbdF W d s) m)) := by
  have ht : (bt W d).toNat * 2 < 4 := by cases bt W d <;> decide
  have hp : todF W d s = (bt W d).toNat + pcx ((bt W d).toNat * 2) s := by
    unfold todF pcx
    cases bt W d
    · rfl
    · show 1 + (!s.testBit 1).toNat = 1 + (((1 * 2 : Nat).testBit 0 && !s.testBit 0).toNat + ((1 * 2 : Nat).testBit 1 && !s.testBit 1).toNat)
      rw [show (1 * 2 : Nat).testBit 0 = false from rfl, show (1 * 2 : Nat).testBit 1 = true from rfl]
      simp
  have hb2 : ∀ m, m < 4 → (m &&& 2 = 2 ↔ m.testBit 1 = true) := by decide +kernel
  have hlaw := opt_law (w := w) (H := H) hw hN (d := d) (e := d + 1) (s := s) (t := (bt W d).toNat * 2) (c := (bt W d).toNat) (cm := fun m => bcF W (m.testBit 1) d) hs ht (fun m hm hmt => by
    show bcF W (m.testBit 1) d = _
    unfold bcF
    cases hb : bt W d with
    | false => rfl
    | true =>
      rw [hb] at hmt
      rw [(hb2 m hm).mp hmt]
      rfl) (fun m hm hmt => by
    show 1000 ≤ bcF W (m.testBit 1) d
    unfold bcF
    cases hb : bt W d with
    | false =>
      rw [hb] at hmt
      exact absurd (Nat.and_zero m) hmt
    | true =>
      rw [hb] at hmt
      have : m.testBit 1 = false := by
        cases h1 : m.testBit 1
        · rfl
        · exact absurd ((hb2 m hm).mpr h1) hmt
      rw [this]
      exact Nat.le_refl _) (fun m hm => kV_bare hw hN hd) (by
    rw [← hp]
    exact kU_bare hd)
  rw [← hp] at hlaw
  exact hlaw
theorem s_goesBare {I : zI} {L : zL} {N w F : Nat} {T : Int32} {fd : Nat → Int32} {nf af d s : Nat} (hM : MS I N w F T fd nf af) (hd : d < N) (hs : s < 4) (hS : STD I N w T (fdF fd nf F) (waS fd F T af) d s) (hR : R57 I N w T (fdF fd nf F) (waS fd F T af) d s) : (baOK N w T (fdF fd nf F) (waS fd F T af) d s ∧ ∃ J, zcall zZ nX10_goesBare [.ref 52, .int (nI d)] (hp I L) = some (some (.int (nI 1)), hp J L) ∧ STD J N w T (fdF fd nf F) (waS fd F T af) (d + 1) (sbdF (waS fd F T af) d s) ∧ R57 J N w T (fdF fd nf F) (waS fd F T af) (d + 1) (sbdF (waS fd F T af) d s) ∧ (∀ x y, x ≠ 66 → x ≠ 67 → J x y = I x y)) ∨ (¬ baOK N w T (fdF fd nf F) (waS fd F T af) d s ∧ zcall zZ nX10_goesBare [.ref 52, .int (nI d)] (hp I L) = some (some (.int (nI 0)), hp I L)) := by
  have hN := hM.1.1
  have hWT := WT_wa fd F T af
  obtain ⟨b, g1, g2⟩ := gb_any (L := L) hM hd hS hR 4 0 false (by omega) ⟨fun z => absurd z (by decide), fun ⟨m', h, _⟩ => by omega⟩
  obtain ⟨l1, l2⟩ := bare_law (w := w) (H := fdF fd nf F) hWT hN hs hd
  have hst : zcall zZ nX10_goesBare [.ref 52, .int (nI d)] (hp I L) = (zrun zZ kX10_goesBare (64, [some (.ref 52), some (.int (nI d)), some (.int (zbo b)), some (.int (nI 0))], [], hp I L, 0, 0)).map (fun r => (r.1, r.2.1)) := by
    rw [c_X10_goesBare, e_X10_goesBare_0, q0, show nI 0 = zbo false from rfl]
    rw [show (zbo false) = nI 0 from rfl] at g1 ⊢
    rw [g1]
  cases b with
  | true =>
    left
    have hba := l1.mpr (g2.mp rfl)
    obtain ⟨J, k1, k2, k3⟩ := gb_set (L := L) hd 4 0 I (by omega) hM (fun m' _ h2 => hS m' h2) hR
    refine ⟨hba, J, ?_, fun m hm => ?_, fun m hm hSM e he => ?_, fun x y p1 p2 => k3 x y (by omega)⟩
    · rw [hst, show zbo true = nI 1 from rfl, k1]
      rfl
    · rcases k2 m (Nat.zero_le _) hm with ⟨a1, a2, a3⟩ | ⟨a1, a2⟩
      · exact Or.inl ⟨a1, (l2 hba m hm).mp a2, a3⟩
      · exact Or.inr ⟨a1, fun z => a2 ((l2 hba m hm).mpr z)⟩
    · rw [k3 57 _ (by omega)]
      exact hR m hm ((l2 hba m hm).mpr hSM).1 e he
  | false =>
    right
    refine ⟨fun z => absurd (g2.mpr (l1.mp z)) (by decide), ?_⟩
    rw [hst, show zbo false = nI 0 from rfl, e_X10_goesBare_64]
    simp (disch := omega) only [e_X10_goesBare_142, Option.bind_some, Option.toList_some, Option.toList_none, List.cons_append, List.nil_append, Option.map_some, cond_true, cond_false, Bool.not_true, Bool.not_false, Bool.true_and, Bool.and_true, Bool.false_and, Bool.and_false, Bool.true_or, Bool.or_true, Bool.false_or, Bool.or_false, Bool.not_not, decide_true, decide_false, Bool.decide_eq_true, Bool.decide_eq_false, qz_0, qz_1, qz_n, qz_n0, qz_n1, qz_t, qz_f, Nat.reduceAdd, q1000000, q0, q1, q2, q3, q4, q5, q6, q7, q8, q9, q10, q11, q12, q13, q14, q15, q16, q18, q19, q20, q21, q22, q23, q24, q25, q26, q27, q28, q29, q30, q31, q32, q38, q44, q45, q48, q57, q58, q59, q60, q63, q64, q97, q122, q126, q127, q128, q255, q256, q300, q580, q600, q1000, nI_add, q_lt_t, q_lt_f, q_eq_t, q_eq_f, q_clamp, q_in_t, q_in_f]
