/-! which modes stand at first -/
theorem st_blk {n a m : Nat} (hm : m < 4) : ((0 < n ∧ m.testBit 0 = false) ∨ (0 < a ∧ m.testBit 1 = false)) ↔ ¬ m &&& stF n a = stF n a := by
  have h : ∀ m, m < 4 → ((m &&& 0 = 0) ∧ (m &&& 1 = 1 ↔ m.testBit 0 = true) ∧ (m &&& 2 = 2 ↔ m.testBit 1 = true) ∧ (m &&& 3 = 3 ↔ (m.testBit 0 = true ∧ m.testBit 1 = true))) := by decide +kernel
  obtain ⟨h0, h1, h2, h3⟩ := h m hm
  unfold stF
  by_cases z1 : n = 0
  · by_cases z2 : a = 0
    · rw [if_pos z1, if_pos z2, show (0 ||| 0 : Nat) = 0 from rfl]
      constructor
      · rintro (⟨q, _⟩ | ⟨q, _⟩) <;> omega
      · intro q
        exact absurd h0 q
    · rw [if_pos z1, if_neg z2, show (0 ||| 2 : Nat) = 2 from rfl, h2]
      constructor
      · rintro (⟨q, _⟩ | ⟨_, q⟩)
        · omega
        · rw [q]
          decide
      · intro q
        exact Or.inr ⟨by omega, by cases z : m.testBit 1 <;> simp_all⟩
  · by_cases z2 : a = 0
    · rw [if_neg z1, if_pos z2, show (1 ||| 0 : Nat) = 1 from rfl, h1]
      constructor
      · rintro (⟨_, q⟩ | ⟨q, _⟩)
        · rw [q]
          decide
        · omega
      · intro q
        exact Or.inl ⟨by omega, by cases z : m.testBit 0 <;> simp_all⟩
    · rw [if_neg z1, if_neg z2, show (1 ||| 2 : Nat) = 3 from rfl, h3]
      constructor
      · rintro (⟨_, q⟩ | ⟨_, q⟩)
        · rw [q]
          simp
        · rw [q]
          simp
      · intro q
        by_cases y : m.testBit 0 = true
        · exact Or.inr ⟨by omega, by cases z : m.testBit 1 <;> simp_all⟩
        · exact Or.inl ⟨by omega, by cases z : m.testBit 0 <;> simp_all⟩
theorem pc2_pcx : ∀ m, m < 4 → ∀ s, s < 4 → m &&& s = s → pc2 m = pc2 s + pcx m s := by decide +kernel
theorem modes_loop {N w F : Nat} {T : Int32} {fd : Nat → Int32} {n a : Nat} {k : Nat} (hk : k = pc2 n + pc2 a + pc2 (stF n a) + kU N w T (fdF fd n F) (waS fd F T a) 0 (stF n a)) : ∀ r m (I : zI) (L : zL), m + r = 4 → MS I N w F T fd n a → (∀ m', m' < m → (I 67 m' = nI 1 ∧ SM N w T (fdF fd n F) (waS fd F T a) 0 (stF n a) m' ∧ I 66 m' = nI (kV N w T (fdF fd n F) (waS fd F T a) 0 m') ∧ ∀ e, e ≤ N → I 57 (m' * 29 + e) = nI (kV N w T (fdF fd n F) (waS fd F T a) e m')) ∨ (I 67 m' = nI 0 ∧ ¬ SM N w T (fdF fd n F) (waS fd F T a) 0 (stF n a) m')) → ∃ J M, zrun zZ kX10_chooses (62, [some (.ref 52), none, some (.int (nI k)), some (.int (nI m))], [], hp I L, 0, 0) = zrun zZ kX10_chooses (139, [some (.ref 52), none, some (.int (nI k)), some (.int (nI 0))], [], hp J M, 0, 0) ∧ STD J N w T (fdF fd n F) (waS fd F T a) 0 (stF n a) ∧ R57 J N w T (fdF fd n F) (waS fd F T a) 0 (stF n a) ∧ (∀ x y, x ≠ 57 → x ≠ 60 → x ≠ 61 → x ≠ 66 → x ≠ 67 → J x y = I x y) ∧ (∀ x y, x ≠ 58 → M x y = L x y)
  | 0, m, I, L, h, hM, hS => by
    obtain rfl : m = 4 := h
    refine ⟨I, L, ?_, fun m' hm' => ?_, fun m' hm' hSM e he => ?_, fun _ _ _ _ _ _ _ => rfl, fun _ _ _ => rfl⟩
    · rw [e_X10_chooses_62]
      simp (disch := omega) only [Option.bind_some, Option.toList_some, Option.toList_none, List.cons_append, List.nil_append, Option.map_some, cond_true, cond_false, Bool.not_true, Bool.not_false, Bool.true_and, Bool.and_true, Bool.false_and, Bool.and_false, Bool.true_or, Bool.or_true, Bool.false_or, Bool.or_false, Bool.not_not, decide_true, decide_false, Bool.decide_eq_true, Bool.decide_eq_false, qz_0, qz_1, qz_n, qz_n0, qz_n1, qz_t, qz_f, Nat.reduceAdd, q1000000, q0, q1, q2, q3, q4, q5, q6, q7, q8, q9, q10, q11, q12, q13, q14, q15, q16, q18, q19, q20, q21, q22, q23, q24, q25, q26, q27, q28, q29, q30, q31, q32, q38, q44, q45, q48, q57, q58, q59, q60, q63, q64, q97, q122, q126, q127, q128, q255, q256, q300, q580, q600, q1000, nI_add, q_lt_t, q_lt_f, q_eq_t, q_eq_f, q_clamp, q_in_t, q_in_f]
    · rcases hS m' hm' with ⟨a1, a2, a3, _⟩ | q
      · exact Or.inl ⟨a1, a2, a3⟩
      · exact Or.inr q
    · rcases hS m' hm' with ⟨_, _, _, a4⟩ | ⟨_, q⟩
      · exact a4 e he
      · exact absurd hSM q
  | r + 1, m, I, L, h, hM, hS => by
    obtain ⟨⟨hN, hw, hF, hnf, haf⟩, -, -, -⟩ := id hM
    have hm : m < 4 := by omega
    have hWT := WT_wa fd F T a
    have hmc := s_mode (L := L) hM hm
    have l1 := kU_le (w := w) (T := T) (H := fdF fd n F) (W := waS fd F T a) hN 0 (stF n a)
    have p1 := pc2_le2 n
    have p2 := pc2_le2 a
    have p3 := pc2_le2 (stF n a)
    have p4 := pc2_le2 m
    have l3 := kV_le hWT hN (w := w) (H := fdF fd n F) 0 m
    -- a mode that does not stand, without a row
    have skip : (¬ SM N w T (fdF fd n F) (waS fd F T a) 0 (stF n a) m) → (∃ z : Int, -2000 ≤ z ∧ z < 0 ∧ nI k - nI (moF n a m) = iz z) → ∃ J M, zrun zZ kX10_chooses (62, [some (.ref 52), none, some (.int (nI k)), some (.int (nI m))], [], hp I L, 0, 0) = zrun zZ kX10_chooses (139, [some (.ref 52), none, some (.int (nI k)), some (.int (nI 0))], [], hp J M, 0, 0) ∧ STD J N w T (fdF fd n F) (waS fd F T a) 0 (stF n a) ∧ R57 J N w T (fdF fd n F) (waS fd F T a) 0 (stF n a) ∧ (∀ x y, x ≠ 57 → x ≠ 60 → x ≠ 61 → x ≠ 66 → x ≠ 67 → J x y = I x y) ∧ (∀ x y, x ≠ 58 → M x y = L x y) := by
      rintro hno ⟨z, z1, z2, z3⟩
      have hlt : (iz z < nI 0) = True := by
        rw [iz_ltn (by omega) (by omega) (by omega)]
        exact eq_true z2
      obtain ⟨J, M, g1, g2, g3, g4, g5⟩ := modes_loop hk r (m + 1) (zup (zup I 66 m (iz z)) 67 m (nI 0)) L (by omega) (hM.cg (fun y => by rw [zu_cell (by omega), zu_cell (by omega)]) (fun y _ => by rw [zu_cell (by omega), zu_cell (by omega)]) (fun y => by rw [zu_cell (by omega), zu_cell (by omega)])) (fun m' hm' => by
        by_cases q : m' = m
        · subst q
          rw [zu_same]
          exact Or.inr ⟨rfl, hno⟩
        · rw [zu_at q, zu_cell (by omega), zu_cell (by omega), zu_at q]
          have := hS m' (by omega)
          rcases this with ⟨a1, a2, a3, a4⟩ | this
          · exact Or.inl ⟨a1, a2, a3, fun e he => by rw [zu_cell (by omega), zu_cell (by omega)]; exact a4 e he⟩
          · exact Or.inr this)
      refine ⟨J, M, ?_, g2, g3, fun x y q1 q2 q3 q4 q5 => by rw [g4 x y q1 q2 q3 q4 q5, zu_cell q5, zu_cell q4], g5⟩
      refine Eq.trans ?_ g1
      rw [e_X10_chooses_62]
      simp (disch := omega) only [e_X10_chooses_78, e_X10_chooses_131, hmc, z3, nar_b0, zu_same, zu_cell, zu_at, hlt, Option.bind_some, Option.toList_some, Option.toList_none, List.cons_append, List.nil_append, Option.map_some, cond_true, cond_false, Bool.not_true, Bool.not_false, Bool.true_and, Bool.and_true, Bool.false_and, Bool.and_false, Bool.true_or, Bool.or_true, Bool.false_or, Bool.or_false, Bool.not_not, decide_true, decide_false, Bool.decide_eq_true, Bool.decide_eq_false, qz_0, qz_1, qz_n, qz_n0, qz_n1, qz_t, qz_f, Nat.reduceAdd, q1000000, q0, q1, q2, q3, q4, q5, q6, q7, q8, q9, q10, q11, q12, q13, q14, q15, q16, q18, q19, q20, q21, q22, q23, q24, q25, q26, q27, q28, q29, q30, q31, q32, q38, q44, q45, q48, q57, q58, q59, q60, q63, q64, q97, q122, q126, q127, q128, q255, q256, q300, q580, q600, q1000, nI_add, q_lt_t, q_lt_f, q_eq_t, q_eq_f, q_clamp, q_in_t, q_in_f]
    by_cases hb : (0 < n ∧ m.testBit 0 = false) ∨ (0 < a ∧ m.testBit 1 = false)
    · refine skip (fun hSM => (st_blk hm).mp hb hSM.1) ⟨(k : Int) - 1000, by omega, by omega, ?_⟩
      rw [moF_no hb, nI_subz]
      rfl
    · have hms : m &&& stF n a = stF n a := by
        by_cases q : m &&& stF n a = stF n a
        · exact q
        · exact absurd ((st_blk hm).mpr q) hb
      have hpc := pc2_pcx m hm _ (stF_lt n a) hms
      have emo := moF_ok hb
      by_cases hneg : kU N w T (fdF fd n F) (waS fd F T a) 0 (stF n a) < pcx m (stF n a)
      · refine skip (fun hSM => by have := hSM.2; omega) ⟨(kU N w T (fdF fd n F) (waS fd F T a) 0 (stF n a) : Int) - pcx m (stF n a), by have := pcx_le m hm _ (stF_lt n a); omega, by omega, ?_⟩
        rw [emo, nI_subz, hk]
        congr 1
        omega
      · obtain ⟨lf, hlf⟩ : ∃ lf, lf = kU N w T (fdF fd n F) (waS fd F T a) 0 (stF n a) - pcx m (stF n a) := ⟨_, rfl⟩
        have elf : nI k - nI (pc2 m + pc2 n + pc2 a) = nI lf := by
          rw [pk_sub (by omega)]
          congr 1
          omega
        rw [emo] at hmc
        have hM1 : MS (zup (zup I 66 m (nI lf)) 67 m (nI 0)) N w F T fd n a := hM.cg (fun y => by rw [zu_cell (by omega), zu_cell (by omega)]) (fun y _ => by rw [zu_cell (by omega), zu_cell (by omega)]) (fun y => by rw [zu_cell (by omega), zu_cell (by omega)])
        obtain ⟨J, M, w1, w2, w3, w4, w5⟩ := s_weighs (L := L) hM1 hm
        have hrow : ∀ e, e ≤ N → J 57 (m * 29 + e) = nI (kV N w T (fdF fd n F) (waS fd F T a) e m) := fun e he => by
          obtain ⟨kk, nn, c1, c2, c3, c4⟩ := w2 e he
          have : WB kk (VS N w T (fdF fd n F) (waS fd F T a) false 0 e m) := by
            rcases c4 with ⟨y1, y2⟩ | ⟨y1, y2⟩
            · exact Or.inl ⟨y1, nn, y2⟩
            · exact Or.inr ⟨by omega, y2⟩
          rw [kV_eq hWT hN this]
          exact c2
        have j66 : J 66 m = nI lf := by rw [w3 _ _ (by omega) (by omega) (by omega), zu_cell (by omega), zu_same]
        have hMJ : MS J N w F T fd n a := hM1.cg (fun y => w3 _ _ (by omega) (by omega) (by omega)) (fun y _ => w3 _ _ (by omega) (by omega) (by omega)) (fun y => w3 _ _ (by omega) (by omega) (by omega))
        have hold : ∀ m', m' < m → (J 67 m' = nI 1 ∧ SM N w T (fdF fd n F) (waS fd F T a) 0 (stF n a) m' ∧ J 66 m' = nI (kV N w T (fdF fd n F) (waS fd F T a) 0 m') ∧ ∀ e, e ≤ N → J 57 (m' * 29 + e) = nI (kV N w T (fdF fd n F) (waS fd F T a) e m')) ∨ (J 67 m' = nI 0 ∧ ¬ SM N w T (fdF fd n F) (waS fd F T a) 0 (stF n a) m') := fun m' hm' => by
          rw [w3 67 _ (by omega) (by omega) (by omega), w3 66 _ (by omega) (by omega) (by omega), zu_at (by omega), zu_cell (by omega), zu_cell (by omega), zu_at (by omega)]
          rcases hS m' hm' with ⟨a1, a2, a3, a4⟩ | q
          · exact Or.inl ⟨a1, a2, a3, fun e he => by rw [w4 _ (by omega), zu_cell (by omega), zu_cell (by omega)]; exact a4 e he⟩
          · exact Or.inr q
        have key : ∃ v, zrun zZ kX10_chooses (62, [some (.ref 52), none, some (.int (nI k)), some (.int (nI m))], [], hp I L, 0, 0) = zrun zZ kX10_chooses (62, [some (.ref 52), none, some (.int (nI k)), some (.int (nI (m + 1)))], [], hp (zup J 67 m v) M, 0, 0) ∧ ((v = nI 1 ∧ SM N w T (fdF fd n F) (waS fd F T a) 0 (stF n a) m ∧ lf = kV N w T (fdF fd n F) (waS fd F T a) 0 m) ∨ (v = nI 0 ∧ ¬ SM N w T (fdF fd n F) (waS fd F T a) 0 (stF n a) m)) := by
          have e57 := hrow 0 (Nat.zero_le _)
          by_cases q : kV N w T (fdF fd n F) (waS fd F T a) 0 m = lf
          · refine ⟨nI 1, ?_, Or.inl ⟨rfl, ⟨hms, by omega⟩, q.symm⟩⟩
            rw [e_X10_chooses_62]
            simp (disch := omega) only [e_X10_chooses_78, e_X10_chooses_101, e_X10_chooses_115, e_X10_chooses_130, e_X10_chooses_131, hmc, elf, nar_b0, nar_b1, zu_same, zu_cell, zu_at, w1, s_place, e57, j66, q, Option.bind_some, Option.toList_some, Option.toList_none, List.cons_append, List.nil_append, Option.map_some, cond_true, cond_false, Bool.not_true, Bool.not_false, Bool.true_and, Bool.and_true, Bool.false_and, Bool.and_false, Bool.true_or, Bool.or_true, Bool.false_or, Bool.or_false, Bool.not_not, decide_true, decide_false, Bool.decide_eq_true, Bool.decide_eq_false, qz_0, qz_1, qz_n, qz_n0, qz_n1, qz_t, qz_f, Nat.reduceAdd, q1000000, q0, q1, q2, q3, q4, q5, q6, q7, q8, q9, q10, q11, q12, q13, q14, q15, q16, q18, q19, q20, q21, q22, q23, q24, q25, q26, q27, q28, q29, q30, q31, q32, q38, q44, q45, q48, q57, q58, q59, q60, q63, q64, q97, q122, q126, q127, q128, q255, q256, q300, q580, q600, q1000, nI_add, q_lt_t, q_lt_f, q_eq_t, q_eq_f, q_clamp, q_in_t, q_in_f]
          · refine ⟨nI 0, ?_, Or.inr ⟨rfl, fun hSM => q (by have := hSM.2; omega)⟩⟩
            rw [e_X10_chooses_62]
            simp (disch := omega) only [e_X10_chooses_78, e_X10_chooses_101, e_X10_chooses_115, e_X10_chooses_130, e_X10_chooses_131, hmc, elf, nar_b0, zu_same, zu_cell, zu_at, w1, s_place, e57, j66, Option.bind_some, Option.toList_some, Option.toList_none, List.cons_append, List.nil_append, Option.map_some, cond_true, cond_false, Bool.not_true, Bool.not_false, Bool.true_and, Bool.and_true, Bool.false_and, Bool.and_false, Bool.true_or, Bool.or_true, Bool.false_or, Bool.or_false, Bool.not_not, decide_true, decide_false, Bool.decide_eq_true, Bool.decide_eq_false, qz_0, qz_1, qz_n, qz_n0, qz_n1, qz_t, qz_f, Nat.reduceAdd, q1000000, q0, q1, q2, q3, q4, q5, q6, q7, q8, q9, q10, q11, q12, q13, q14, q15, q16, q18, q19, q20, q21, q22, q23, q24, q25, q26, q27, q28, q29, q30, q31, q32, q38, q44, q45, q48, q57, q58, q59, q60, q63, q64, q97, q122, q126, q127, q128, q255, q256, q300, q580, q600, q1000, nI_add, q_lt_t, q_lt_f, q_eq_t, q_eq_f, q_clamp, q_in_t, q_in_f]
        obtain ⟨v, k1, k2⟩ := key
        obtain ⟨J2, M2, g1, g2, g3, g4, g5⟩ := modes_loop hk r (m + 1) (zup J 67 m v) M (by omega) (hMJ.cg (fun y => zu_cell (by omega)) (fun y _ => zu_cell (by omega)) (fun y => zu_cell (by omega))) (fun m' hm' => by
          by_cases q : m' = m
          · subst q
            rw [zu_same, zu_cell (by omega), j66]
            rcases k2 with ⟨y1, y2, y3⟩ | y
            · exact Or.inl ⟨y1, y2, by rw [y3], fun e he => by rw [zu_cell (by omega)]; exact hrow e he⟩
            · exact Or.inr y
          · rw [zu_at q, zu_cell (by omega)]
            rcases hold m' (by omega) with ⟨a1, a2, a3, a4⟩ | y
            · exact Or.inl ⟨a1, a2, a3, fun e he => by rw [zu_cell (by omega)]; exact a4 e he⟩
            · exact Or.inr y)
        refine ⟨J2, M2, k1.trans g1, g2, g3, fun x y q1 q2 q3 q4 q5 => ?_, fun x y q1 => by rw [g5 x y q1, w5 x y (by omega)]⟩
        rw [g4 x y q1 q2 q3 q4 q5, zu_cell q5, w3 x y q1 q2 q3, zu_cell q5, zu_cell q4]
/-- the tokens of the choice that is first -/
theorem OK3_tok {N w F : Nat} {fd : Nat → Int32} {T : Int32} {k n : Nat} {c : Nat × Nat} (h : OK3 N w F fd T true k n c) : k = pc2 c.1 + pc2 c.2 + pc2 (stF c.1 c.2) + kU N w T (fdF fd c.1 F) (waS fd F T c.2) 0 (stF c.1 c.2) ∧ c ∈ chC F (inN fd T F) := by
  obtain ⟨h1, h2⟩ := h
  have h2 : (chC F (inN fd T F)).find? (fun c => decide (chG N w F fd T false 0 c k ≠ 0)) = some c := h2
  have hmem := List.mem_of_find?_eq_some h2
  have hp := List.find?_some h2
  have hp : chG N w F fd T false 0 c k ≠ 0 := of_decide_eq_true hp
  refine ⟨?_, hmem⟩
  obtain ⟨⟨n', hu⟩, -⟩ := kU_spec N w T (fdF fd c.1 F) (waS fd F T c.2) 0 (stF c.1 c.2)
  have hg := MW_gs (pc2 c.1 + pc2 c.2 + pc2 (stF c.1 c.2)) hu
  have hg : MW (chG N w F fd T false 0 c) (pc2 c.1 + pc2 c.2 + pc2 (stF c.1 c.2) + kU N w T (fdF fd c.1 F) (waS fd F T c.2) 0 (stF c.1 c.2)) n' := hg
  have e1 := MW_ne hg hp
  have h1 : MW (gsum (chG N w F fd T false 0) (chC F (inN fd T F))) k n := h1
  rcases Nat.lt_or_ge (pc2 c.1 + pc2 c.2 + pc2 (stF c.1 c.2) + kU N w T (fdF fd c.1 F) (waS fd F T c.2) 0 (stF c.1 c.2)) k with q | q
  · have z := gsum_zero _ (h1.2.2 _ q) c hmem
    have y1 := hg.1
    have y2 := hg.2.1
    omega
  · omega
theorem chC_lt : ∀ F, F < 3 → ∀ i, i < 2 ^ F → ∀ c, c ∈ chC F i → c.1 < 2 ^ F ∧ c.2 < 2 ^ F := by decide +kernel
/-- cells in which the reference chooses -/
def FCH (I J : zI) : Prop := ∀ x y, x ≠ 57 → x ≠ 60 → x ≠ 61 → x ≠ 62 → x ≠ 63 → x ≠ 64 → x ≠ 65 → x ≠ 66 → x ≠ 67 → (x ≠ 52 ∨ y < 17 ∨ 38 ≤ y) → J x y = I x y
theorem s_chooses {I : zI} {L : zL} {N w F : Nat} {fd : Nat → Int32} (hb : N ≤ 28 ∧ w < 7 ∧ F ≤ 2) (hm : I 53 0 = nI N ∧ I 53 1 = nI w ∧ I 53 2 = nI F ∧ (∀ f, f < F → I 53 (6 + f) = fd f)) (T : Int32) (hT : T ≠ nI 0) {k n : Nat} {c : Nat × Nat} (hk : k ≤ 100) (hO : OK3 N w F fd T true k n c) : ∃ J M l, zcall zZ nX10_chooses [.ref 52, .int T] (hp I L) = some (some (.int (nI k)), hp J M) ∧ PL N w T (fdF fd c.1 F) (waS fd F T c.2) N 0 (stF c.1 c.2) l ∧ J 52 33 = nI l.length ∧ WL 63 64 65 J 0 l ∧ J 52 34 = nI c.1 ∧ J 52 35 = nI c.2 ∧ (∀ x, x < 32 → bt (J 52 36) x = (inS w (fdF fd c.1 F) l x && !bt T x)) ∧ (∀ x, x < 32 → bt (J 52 37) x = (bt (waS fd F T c.2) x && !inS w (fdF fd c.1 F) l x)) ∧ FCH I J ∧ FML L M := by
  obtain ⟨J0, M0, s1, s2, s3, s4, s5, s6, s7, s8⟩ := s_solM (L := L) hb hm T hT true hk hO
  obtain ⟨ek, hmem⟩ := OK3_tok hO
  obtain ⟨-, i2, -⟩ := inN_ok fd T hb.2.2
  obtain ⟨c1, c2⟩ := chC_lt F (by omega) _ i2 c hmem
  obtain ⟨J1, hJ1⟩ : ∃ J1, J1 = zup (zup (zup (zup (zup (zup (zup J0 52 33 (nI 0)) 52 36 (nI 0)) 52 37 (nI 0)) 52 34 (nI c.1)) 52 35 (nI c.2)) 52 18 (nI c.1)) 52 19 (nI c.2) := ⟨_, rfl⟩
  have cg1 : ∀ x y, (x ≠ 52 ∨ (y ≠ 33 ∧ y ≠ 36 ∧ y ≠ 37 ∧ y ≠ 34 ∧ y ≠ 35 ∧ y ≠ 18 ∧ y ≠ 19)) → J1 x y = J0 x y := fun x y p => by
    rw [hJ1]
    by_cases z : x = 52
    · rw [zu_at (by omega), zu_at (by omega), zu_at (by omega), zu_at (by omega), zu_at (by omega), zu_at (by omega), zu_at (by omega)]
    · rw [zu_cell z, zu_cell z, zu_cell z, zu_cell z, zu_cell z, zu_cell z, zu_cell z]
  have hZ1 : MZ J1 N w F T fd := s6.cg (fun y => cg1 _ _ (by omega)) (cg1 _ _ (by omega)) (fun y => cg1 _ _ (by omega))
  have e18 : J1 52 18 = nI c.1 := by rw [hJ1, zu_at (by omega), zu_same]
  have e19 : J1 52 19 = nI c.2 := by rw [hJ1, zu_same]
  have e33 : J1 52 33 = nI 0 := by rw [hJ1, zu_at (by omega), zu_at (by omega), zu_at (by omega), zu_at (by omega), zu_at (by omega), zu_at (by omega), zu_same]
  have e34 : J1 52 34 = nI c.1 := by rw [hJ1, zu_at (by omega), zu_at (by omega), zu_at (by omega), zu_same]
  have e35 : J1 52 35 = nI c.2 := by rw [hJ1, zu_at (by omega), zu_at (by omega), zu_same]
  have hM1 := hZ1.ms e18 e19 c1 c2
  obtain ⟨J2, M2, m1, m2, m3, m4, m5⟩ := modes_loop ek 4 0 J1 M0 (by omega) hM1 (fun m' h => by omega)
  have hM2 : MS J2 N w F T fd c.1 c.2 := hM1.cg (fun y => m4 _ _ (by omega) (by omega) (by omega) (by omega) (by omega)) (fun y _ => m4 _ _ (by omega) (by omega) (by omega) (by omega) (by omega)) (fun y => m4 _ _ (by omega) (by omega) (by omega) (by omega) (by omega))
  obtain ⟨J3, l, h1, h2, h3, h4, h5⟩ := ch_loop (L := M2) (x2 := nI k) N 0 (stF c.1 c.2) 0 J2 (by omega) (by omega) (by omega) (stF_lt ..) hM2 m2 m3 ((m4 _ _ (by omega) (by omega) (by omega) (by omega) (by omega)).trans e33)
  rw [Nat.zero_add] at h3
  have c3 : ∀ x y, x ≠ 66 → x ≠ 67 → (x ≠ 52 ∨ y ≠ 33) → (x < 63 ∨ 65 < x) → J3 x y = J2 x y := fun x y p1 p2 p3 p4 => h5 x y p1 p2 p3 (by omega)
  have hM3 : MS J3 N w F T fd c.1 c.2 := hM2.cg (fun y => c3 _ _ (by omega) (by omega) (by omega) (by omega)) (fun y hy => c3 _ _ (by omega) (by omega) (by omega) (by omega)) (fun y => c3 _ _ (by omega) (by omega) (by omega) (by omega))
  have hlen := PL_len N 0 _ l h2
  have f34 : J3 52 34 = nI c.1 := by rw [c3 _ _ (by omega) (by omega) (by omega) (by omega), m4 _ _ (by omega) (by omega) (by omega) (by omega) (by omega)]; exact e34
  have f35 : J3 52 35 = nI c.2 := by rw [c3 _ _ (by omega) (by omega) (by omega) (by omega), m4 _ _ (by omega) (by omega) (by omega) (by omega) (by omega)]; exact e35
  obtain ⟨J4, r1, r2, r3, r4⟩ := s_rests (L := M2) hM3 (by omega) h3 f34 f35 h4 (fun p hp => by
    have := PL_from N 0 _ l h2 p hp
    omega)
  refine ⟨J4, M2, l, ?_, h2, by rw [r4 _ _ (by omega)]; exact h3, fun j hj => ?_, by rw [r4 _ _ (by omega)]; exact f34, by rw [r4 _ _ (by omega)]; exact f35, r2, r3, fun x y p1 p2 p3 p4 p5 p6 p7 p8 p9 p10 => ?_, fun x y p1 p2 => ?_⟩
  · have h0 : (T = nI 0) = False := eq_false hT
    have s1 : zcall zZ nX10_solves [.ref 52, .int T, .int (nI 1)] (hp I L) = _ := s1
    have hput : zcall zZ nX10_chooses [.ref 52, .int T] (hp I L) = (zrun zZ kX10_chooses (62, [some (.ref 52), none, some (.int (nI k)), some (.int (nI 0))], [], hp J1 M0, 0, 0)).map (fun r => (r.1, r.2.1)) := by
      rw [c_X10_chooses, e_X10_chooses_0, q1, s1]
      simp (disch := omega) only [e_X10_chooses_6, e_X10_chooses_52, h0, s4, s5, zu_same, zu_cell, zu_at, Option.bind_some, Option.toList_some, Option.toList_none, List.cons_append, List.nil_append, Option.map_some, cond_true, cond_false, Bool.not_true, Bool.not_false, Bool.true_and, Bool.and_true, Bool.false_and, Bool.and_false, Bool.true_or, Bool.or_true, Bool.false_or, Bool.or_false, Bool.not_not, decide_true, decide_false, Bool.decide_eq_true, Bool.decide_eq_false, qz_0, qz_1, qz_n, qz_n0, qz_n1, qz_t, qz_f, Nat.reduceAdd, q1000000, q0, q1, q2, q3, q4, q5, q6, q7, q8, q9, q10, q11, q12, q13, q14, q15, q16, q18, q19, q20, q21, q22, q23, q24, q25, q26, q27, q28, q29, q30, q31, q32, q38, q44, q45, q48, q57, q58, q59, q60, q63, q64, q97, q122, q126, q127, q128, q255, q256, q300, q580, q600, q1000, ← hJ1]
    rw [hput, m1, h1, e_X10_chooses_139]
    simp (disch := omega) only [e_X10_chooses_176, hM3.2.1.1, r1, Option.bind_some, Option.toList_some, Option.toList_none, List.cons_append, List.nil_append, Option.map_some, cond_true, cond_false, Bool.not_true, Bool.not_false, Bool.true_and, Bool.and_true, Bool.false_and, Bool.and_false, Bool.true_or, Bool.or_true, Bool.false_or, Bool.or_false, Bool.not_not, decide_true, decide_false, Bool.decide_eq_true, Bool.decide_eq_false, qz_0, qz_1, qz_n, qz_n0, qz_n1, qz_t, qz_f, Nat.reduceAdd, q1000000, q0, q1, q2, q3, q4, q5, q6, q7, q8, q9, q10, q11, q12, q13, q14, q15, q16, q18, q19, q20, q21, q22, q23, q24, q25, q26, q27, q28, q29, q30, q31, q32, q38, q44, q45, q48, q57, q58, q59, q60, q63, q64, q97, q122, q126, q127, q128, q255, q256, q300, q580, q600, q1000, nI_add, q_lt_t, q_lt_f, q_eq_t, q_eq_f, q_clamp, q_in_t, q_in_f]
  · rw [r4 _ _ (by omega), r4 _ _ (by omega), r4 _ _ (by omega)]
    exact h4 j hj
  · rw [r4 x y (by omega), c3 x y p8 p9 (by omega) (by omega), m4 x y p1 p2 p3 p8 p9, cg1 x y (by omega)]
    exact s7 x y p1 p2 p3 p4 (by omega)
  · rw [m5 x y p1]
    exact s8 x y p1 p2
