/-! the search -/
def SB (I : zI) (N w F : Nat) (T : Int32) (fd : Nat → Int32) : Prop := (N ≤ 28 ∧ w < 7 ∧ F ≤ 2) ∧ (I 11 6 = nI N ∧ I 11 7 = nI w ∧ I 11 8 = nI F) ∧ (∀ P, P < 128 → I 12 P = pds N w P) ∧ KC I ∧ I 25 8 = T ∧ (∀ y, I 14 y = fd y)
theorem SB.cg {I J : zI} {N w F : Nat} {T : Int32} {fd : Nat → Int32} (h : SB I N w F T fd) (hc : ∀ x y, x < 35 → (x ≠ 25 ∨ y < 9) → J x y = I x y) : SB J N w F T fd := by
  obtain ⟨h1, ⟨h2, h3, h4⟩, h5, h6, h7, h8⟩ := h
  refine ⟨h1, ⟨(hc _ _ (by omega) (by omega)).trans h2, (hc _ _ (by omega) (by omega)).trans h3, (hc _ _ (by omega) (by omega)).trans h4⟩, fun P hP => (hc _ _ (by omega) (by omega)).trans (h5 P hP), h6.cg (fun b => hc _ _ (by omega) (by omega)) (fun b => hc _ _ (by omega) (by omega)) (fun b => hc _ _ (by omega) (by omega)), (hc _ _ (by omega) (by omega)).trans h7, fun y => (hc _ _ (by omega) (by omega)).trans (h8 y)⟩
theorem WT_wa (fd : Nat → Int32) (F : Nat) (T : Int32) (a : Nat) : WT T (waS fd F T a) := by
  intro i h
  unfold waS at h
  rw [b_and, Bool.and_eq_true] at h
  exact h.1
def ONEP (x2 x6 : Int32) (bl : Bool) (k : Nat) : Prop := ∀ (I : zI) (L : zL) (N w F : Nat) (T : Int32) (fd : Nat → Int32) (n a : Nat) (cs : List (Nat × Nat)), n < 4 → a < 4 → ∀ (x4 x5 : Int32), FS I N w T (fdF fd n F) (waS fd F T a) (stF n a) → BST I L (chG N w F fd T bl k) cs → ∃ I' L', zrun zZ kX2_search (111, [some (.ref 25), none, some (.int x2), none, some (.int x4), some (.int x5), some (.int x6), some (.int (nI n)), some (.int (nI a)), none, none], [], hp I L, 0, 0) = zrun zZ kX2_search (180, [some (.ref 25), none, some (.int x2), none, some (.int x4), some (.int x5), some (.int x6), some (.int (nI n)), some (.int (nI a)), none, none], [], hp I' L', 0, 0) ∧ BST I' L' (chG N w F fd T bl k) (cs ++ [(n, a)]) ∧ (∀ x y, x < 35 → (x ≠ 25 ∨ y < 12) → I' x y = I x y) ∧ (∀ x y, 35 < x → (x < 37 ∨ 52 ≤ x) → I' x y = I x y) ∧ (∀ x y, (x ≠ 25 ∨ y ≠ 13) → (x < 37 ∨ 52 ≤ x) → L' x y = L x y)
theorem ONE_unl : ONEP (-1) (nI 0) false 0 := fun _ _ _ _ _ _ _ _ _ _ h1 h2 x4 x5 h3 h4 => one_unl h1 h2 x4 x5 h3 h4
theorem ONE_lim : ∀ k, k < 5 → ONEP (nI k) (nI k) true k
  | 0, _ => fun _ _ _ _ _ _ _ _ _ _ h1 h2 x4 x5 h3 h4 => one_lim0 h1 h2 x4 x5 h3 h4
  | 1, _ => fun _ _ _ _ _ _ _ _ _ _ h1 h2 x4 x5 h3 h4 => one_lim1 h1 h2 x4 x5 h3 h4
  | 2, _ => fun _ _ _ _ _ _ _ _ _ _ h1 h2 x4 x5 h3 h4 => one_lim2 h1 h2 x4 x5 h3 h4
  | 3, _ => fun _ _ _ _ _ _ _ _ _ _ h1 h2 x4 x5 h3 h4 => one_lim3 h1 h2 x4 x5 h3 h4
  | 4, _ => fun _ _ _ _ _ _ _ _ _ _ h1 h2 x4 x5 h3 h4 => one_lim4 h1 h2 x4 x5 h3 h4
  | k + 5, h => by omega
def chA (o i n : Nat) : Nat → Nat → List (Nat × Nat)
  | 0, _ => []
  | m + 1, a => if n &&& o = n ∧ a &&& i = a then (n, a) :: chA o i n m (a + 1) else chA o i n m (a + 1)
def chR (o i : Nat) : Nat → Nat → List (Nat × Nat)
  | 0, _ => []
  | m + 1, n => chA o i n (i + 1) 0 ++ chR o i m (n + 1)
theorem sub4 : ∀ n, n < 4 → ∀ o, o < 4 → decide (nI n &&& (nI o ^^^ -nI 1) = nI 0) = decide (n &&& o = n) := by decide +kernel
theorem sub4' {n o : Nat} (hn : n < 4) (ho : o < 4) : (nI n &&& (nI o ^^^ -nI 1) = nI 0) = (n &&& o = n) := propext (decide_eq_decide.mp (sub4 n hn o ho))
theorem also_loop {x2 x6 : Int32} {bl : Bool} {k : Nat} (hO : ONEP x2 x6 bl k) {N w F : Nat} {T : Int32} {fd : Nat → Int32} {o i n : Nat} (ho : o < 4) (hi : i < 4) (hn : n < 4) : ∀ m a (I : zI) (L : zL) (cs : List (Nat × Nat)), a + m = i + 1 → SB I N w F T fd → BST I L (chG N w F fd T bl k) cs → ∃ I' L', zrun zZ kX2_search (76, [some (.ref 25), none, some (.int x2), none, some (.int (nI i)), some (.int (nI o)), some (.int x6), some (.int (nI n)), some (.int (nI a)), none, none], [], hp I L, 0, 0) = zrun zZ kX2_search (66, [some (.ref 25), none, some (.int x2), none, some (.int (nI i)), some (.int (nI o)), some (.int x6), some (.int (nI (n + 1))), none, none, none], [], hp I' L', 0, 0) ∧ BST I' L' (chG N w F fd T bl k) (cs ++ chA o i n m a) ∧ (∀ x y, x < 35 → (x ≠ 25 ∨ y < 9) → I' x y = I x y) ∧ (∀ x y, 35 < x → (x < 37 ∨ 52 ≤ x) → I' x y = I x y) ∧ (∀ x y, (x ≠ 25 ∨ y ≠ 13) → (x < 37 ∨ 52 ≤ x) → L' x y = L x y)
  | 0, a, I, L, cs, h, hS, hB => by
    obtain rfl : a = i + 1 := h
    refine ⟨I, L, ?_, by rw [show chA o i n 0 (i + 1) = [] from rfl, List.append_nil]; exact hB, fun _ _ _ _ => rfl, fun _ _ _ _ => rfl, fun _ _ _ _ => rfl⟩
    rw [e_X2_search_76]
    simp (disch := omega) only [Option.bind_some, Option.toList_some, Option.toList_none, List.cons_append, List.nil_append, Option.map_some, cond_true, cond_false, Bool.not_true, Bool.not_false, Bool.true_and, Bool.and_true, Bool.false_and, Bool.and_false, Bool.true_or, Bool.or_true, Bool.false_or, Bool.or_false, Bool.not_not, decide_true, decide_false, Bool.decide_eq_true, Bool.decide_eq_false, qz_0, qz_1, qz_n, qz_n0, qz_n1, qz_t, qz_f, Nat.reduceAdd, q1000000, q0, q1, q2, q3, q4, q5, q6, q7, q8, q9, q10, q11, q12, q13, q14, q15, q16, q18, q19, q20, q21, q22, q23, q24, q25, q26, q27, q28, q29, q30, q31, q32, q38, q44, q45, q48, q57, q58, q59, q60, q63, q64, q97, q122, q126, q127, q128, q255, q256, q300, q580, q600, q1000, nI_add, q_lt_t, q_lt_f, q_eq_t, q_eq_f, q_clamp, q_in_t, q_in_f]
  | m + 1, a, I, L, cs, h, hS, hB => by
    have ha : a < 4 := by omega
    by_cases q : n &&& o = n ∧ a &&& i = a
    · obtain ⟨⟨b1, b2, b3⟩, ⟨s1, s2, s3⟩, s4, s5, s6, s7⟩ := id hS
      have e14 : I 14 = fd := funext s7
      have hp1 := s_prepare (L := L) b3 s3 hn ha
      rw [e14, s6] at hp1
      have hSJ : SB (zup (zup (zup I 25 9 (fdF fd n F)) 25 10 (waS fd F T a)) 25 11 (nI (stF n a))) N w F T fd := hS.cg (fun x y p1 p2 => by
        by_cases z : x = 25
        · rw [zu_at (by omega), zu_at (by omega), zu_at (by omega)]
        · rw [zu_cell z, zu_cell z, zu_cell z])
      have hFS : FS (zup (zup (zup I 25 9 (fdF fd n F)) 25 10 (waS fd F T a)) 25 11 (nI (stF n a))) N w T (fdF fd n F) (waS fd F T a) (stF n a) := by
        obtain ⟨-, ⟨t1, t2, t3⟩, t4, t5, t6, t7⟩ := hSJ
        exact ⟨⟨b1, b2, stF_lt n a, WT_wa fd F T a⟩, ⟨t1, t2, t4, t5⟩, t6, by rw [zu_at (by omega), zu_at (by omega), zu_same], by rw [zu_at (by omega), zu_same], zu_same _ _ _ _⟩
      have hBJ : BST (zup (zup (zup I 25 9 (fdF fd n F)) 25 10 (waS fd F T a)) 25 11 (nI (stF n a))) L (chG N w F fd T bl k) cs := by
        unfold BST
        rw [zu_at (by omega), zu_at (by omega), zu_at (by omega), zu_at (by omega), zu_at (by omega), zu_at (by omega), zu_at (by omega), zu_at (by omega), zu_at (by omega)]
        exact hB
      obtain ⟨J, M, o1, o2, o3, o4, o5⟩ := hO _ L N w F T fd n a cs hn ha (nI i) (nI o) hFS hBJ
      have cgJ : ∀ x y, x < 35 → (x ≠ 25 ∨ y < 9) → J x y = I x y := fun x y p1 p2 => by
        rw [o3 x y p1 (by omega)]
        by_cases z : x = 25
        · rw [zu_at (by omega), zu_at (by omega), zu_at (by omega)]
        · rw [zu_cell z, zu_cell z, zu_cell z]
      obtain ⟨I', L', g1, g2, g3, g4, g5⟩ := also_loop hO ho hi hn m (a + 1) J M (cs ++ [(n, a)]) (by omega) (hS.cg cgJ) o2
      refine ⟨I', L', ?_, ?_, fun x y p1 p2 => (g3 x y p1 p2).trans (cgJ x y p1 p2), fun x y p1 p2 => ?_, fun x y p1 p2 => (g5 x y p1 p2).trans (o5 x y p1 p2)⟩
      · rw [e_X2_search_76]
        simp (disch := omega) only [sub4', q.1, q.2, hp1, Option.bind_some, Option.toList_some, Option.toList_none, List.cons_append, List.nil_append, Option.map_some, cond_true, cond_false, Bool.not_true, Bool.not_false, Bool.true_and, Bool.and_true, Bool.false_and, Bool.and_false, Bool.true_or, Bool.or_true, Bool.false_or, Bool.or_false, Bool.not_not, decide_true, decide_false, Bool.decide_eq_true, Bool.decide_eq_false, qz_0, qz_1, qz_n, qz_n0, qz_n1, qz_t, qz_f, Nat.reduceAdd, q1000000, q0, q1, q2, q3, q4, q5, q6, q7, q8, q9, q10, q11, q12, q13, q14, q15, q16, q18, q19, q20, q21, q22, q23, q24, q25, q26, q27, q28, q29, q30, q31, q32, q38, q44, q45, q48, q57, q58, q59, q60, q63, q64, q97, q122, q126, q127, q128, q255, q256, q300, q580, q600, q1000, nI_add, q_lt_t, q_lt_f, q_eq_t, q_eq_f, q_clamp, q_in_t, q_in_f]
        rw [o1, e_X2_search_180, nI_1]
        exact g1
      · rw [show chA o i n (m + 1) a = (n, a) :: chA o i n m (a + 1) from if_pos q]
        rw [List.append_assoc] at g2
        exact g2
      · rw [g4 x y p1 p2, o4 x y p1 p2, zu_cell (by omega), zu_cell (by omega), zu_cell (by omega)]
    · obtain ⟨I', L', g1, g2, g3, g4, g5⟩ := also_loop hO ho hi hn m (a + 1) I L cs (by omega) hS hB
      refine ⟨I', L', ?_, by rw [show chA o i n (m + 1) a = chA o i n m (a + 1) from if_neg q]; exact g2, g3, g4, g5⟩
      rw [e_X2_search_76]
      by_cases z : n &&& o = n
      · have z2 : ¬ a &&& i = a := fun e => q ⟨z, e⟩
        simp (disch := omega) only [e_X2_search_180, sub4', z, z2, Option.bind_some, Option.toList_some, Option.toList_none, List.cons_append, List.nil_append, Option.map_some, cond_true, cond_false, Bool.not_true, Bool.not_false, Bool.true_and, Bool.and_true, Bool.false_and, Bool.and_false, Bool.true_or, Bool.or_true, Bool.false_or, Bool.or_false, Bool.not_not, decide_true, decide_false, Bool.decide_eq_true, Bool.decide_eq_false, qz_0, qz_1, qz_n, qz_n0, qz_n1, qz_t, qz_f, Nat.reduceAdd, q1000000, q0, q1, q2, q3, q4, q5, q6, q7, q8, q9, q10, q11, q12, q13, q14, q15, q16, q18, q19, q20, q21, q22, q23, q24, q25, q26, q27, q28, q29, q30, q31, q32, q38, q44, q45, q48, q57, q58, q59, q60, q63, q64, q97, q122, q126, q127, q128, q255, q256, q300, q580, q600, q1000, nI_add, q_lt_t, q_lt_f, q_eq_t, q_eq_f, q_clamp, q_in_t, q_in_f]
        exact g1
      · simp (disch := omega) only [e_X2_search_180, sub4', z, Option.bind_some, Option.toList_some, Option.toList_none, List.cons_append, List.nil_append, Option.map_some, cond_true, cond_false, Bool.not_true, Bool.not_false, Bool.true_and, Bool.and_true, Bool.false_and, Bool.and_false, Bool.true_or, Bool.or_true, Bool.false_or, Bool.or_false, Bool.not_not, decide_true, decide_false, Bool.decide_eq_true, Bool.decide_eq_false, qz_0, qz_1, qz_n, qz_n0, qz_n1, qz_t, qz_f, Nat.reduceAdd, q1000000, q0, q1, q2, q3, q4, q5, q6, q7, q8, q9, q10, q11, q12, q13, q14, q15, q16, q18, q19, q20, q21, q22, q23, q24, q25, q26, q27, q28, q29, q30, q31, q32, q38, q44, q45, q48, q57, q58, q59, q60, q63, q64, q97, q122, q126, q127, q128, q255, q256, q300, q580, q600, q1000, nI_add, q_lt_t, q_lt_f, q_eq_t, q_eq_f, q_clamp, q_in_t, q_in_f]
        exact g1
theorem not_loop {x2 x6 : Int32} {bl : Bool} {k : Nat} (hO : ONEP x2 x6 bl k) {N w F : Nat} {T : Int32} {fd : Nat → Int32} {o i : Nat} (ho : o < 4) (hi : i < 4) : ∀ m n (I : zI) (L : zL) (cs : List (Nat × Nat)), n + m = o + 1 → SB I N w F T fd → BST I L (chG N w F fd T bl k) cs → ∃ I' L', zrun zZ kX2_search (66, [some (.ref 25), none, some (.int x2), none, some (.int (nI i)), some (.int (nI o)), some (.int x6), some (.int (nI n)), none, none, none], [], hp I L, 0, 0) = some (none, hp I' L', 0, 0) ∧ BST I' L' (chG N w F fd T bl k) (cs ++ chR o i m n) ∧ (∀ x y, x < 35 → (x ≠ 25 ∨ y < 9) → I' x y = I x y) ∧ (∀ x y, 35 < x → (x < 37 ∨ 52 ≤ x) → I' x y = I x y) ∧ (∀ x y, (x ≠ 25 ∨ y ≠ 13) → (x < 37 ∨ 52 ≤ x) → L' x y = L x y)
  | 0, n, I, L, cs, h, hS, hB => by
    obtain rfl : n = o + 1 := h
    refine ⟨I, L, ?_, by rw [show chR o i 0 (o + 1) = [] from rfl, List.append_nil]; exact hB, fun _ _ _ _ => rfl, fun _ _ _ _ => rfl, fun _ _ _ _ => rfl⟩
    rw [e_X2_search_66]
    simp (disch := omega) only [Option.bind_some, Option.toList_some, Option.toList_none, List.cons_append, List.nil_append, Option.map_some, cond_true, cond_false, Bool.not_true, Bool.not_false, Bool.true_and, Bool.and_true, Bool.false_and, Bool.and_false, Bool.true_or, Bool.or_true, Bool.false_or, Bool.or_false, Bool.not_not, decide_true, decide_false, Bool.decide_eq_true, Bool.decide_eq_false, qz_0, qz_1, qz_n, qz_n0, qz_n1, qz_t, qz_f, Nat.reduceAdd, q1000000, q0, q1, q2, q3, q4, q5, q6, q7, q8, q9, q10, q11, q12, q13, q14, q15, q16, q18, q19, q20, q21, q22, q23, q24, q25, q26, q27, q28, q29, q30, q31, q32, q38, q44, q45, q48, q57, q58, q59, q60, q63, q64, q97, q122, q126, q127, q128, q255, q256, q300, q580, q600, q1000, nI_add, q_lt_t, q_lt_f, q_eq_t, q_eq_f, q_clamp, q_in_t, q_in_f]
  | m + 1, n, I, L, cs, h, hS, hB => by
    obtain ⟨J, M, a1, a2, a3, a4, a5⟩ := also_loop hO ho hi (show n < 4 by omega) (i + 1) 0 I L cs (by omega) hS hB
    obtain ⟨I', L', g1, g2, g3, g4, g5⟩ := not_loop hO ho hi m (n + 1) J M (cs ++ chA o i n (i + 1) 0) (by omega) (hS.cg a3) a2
    refine ⟨I', L', ?_, ?_, fun x y p1 p2 => (g3 x y p1 p2).trans (a3 x y p1 p2), fun x y p1 p2 => (g4 x y p1 p2).trans (a4 x y p1 p2), fun x y p1 p2 => (g5 x y p1 p2).trans (a5 x y p1 p2)⟩
    · rw [e_X2_search_66]
      simp (disch := omega) only [Option.bind_some, Option.toList_some, Option.toList_none, List.cons_append, List.nil_append, Option.map_some, cond_true, cond_false, Bool.not_true, Bool.not_false, Bool.true_and, Bool.and_true, Bool.false_and, Bool.and_false, Bool.true_or, Bool.or_true, Bool.false_or, Bool.or_false, Bool.not_not, decide_true, decide_false, Bool.decide_eq_true, Bool.decide_eq_false, qz_0, qz_1, qz_n, qz_n0, qz_n1, qz_t, qz_f, Nat.reduceAdd, q1000000, q0, q1, q2, q3, q4, q5, q6, q7, q8, q9, q10, q11, q12, q13, q14, q15, q16, q18, q19, q20, q21, q22, q23, q24, q25, q26, q27, q28, q29, q30, q31, q32, q38, q44, q45, q48, q57, q58, q59, q60, q63, q64, q97, q122, q126, q127, q128, q255, q256, q300, q580, q600, q1000, nI_add, q_lt_t, q_lt_f, q_eq_t, q_eq_f, q_clamp, q_in_t, q_in_f]
      rw [a1]
      exact g1
    · rw [List.append_assoc] at g2
      exact g2
/-- feasts inside the days, as bits of a number -/
def inN (fd : Nat → Int32) (T : Int32) (F : Nat) : Nat := (dset (insF fd T) F).toBitVec.toNat
theorem inN_ok (fd : Nat → Int32) (T : Int32) {F : Nat} (hF : F ≤ 2) : dset (insF fd T) F = nI (inN fd T F) ∧ inN fd T F < 2 ^ F ∧ ∀ f, (inN fd T F).testBit f = (decide (f < F) && insF fd T f) := by
  obtain ⟨k, h1, h2, h3⟩ := dset_num (insF fd T) (n := F) (by omega)
  have e : inN fd T F = k := by
    unfold inN
    rw [h2]
    refine nI_bv ?_
    have : 2 ^ F ≤ 2 ^ 2 := Nat.pow_le_pow_right (by decide) hF
    omega
  rw [e]
  exact ⟨h2, h1, h3⟩
theorem out4 : ∀ F, F < 3 → ∀ i, i < 2 ^ F → (nI (2 ^ F) - nI 1) &&& (nI i ^^^ -nI 1) = nI (2 ^ F - 1 - i) := by decide +kernel
theorem pow_F {F : Nat} (hF : F ≤ 2) : 2 ^ F ≤ 4 := Nat.pow_le_pow_right (by decide) hF
/-- the class' own search: over these choices -/
def chC (F i : Nat) : List (Nat × Nat) := chR (2 ^ F - 1 - i) i (2 ^ F - 1 - i + 1) 0
theorem s_search {x2 x6 : Int32} {bl : Bool} {k : Nat} (hO : ONEP x2 x6 bl k) (hmx : ∀ h : zH, (zcall zZ nJ9_max_7cf53 [.int x2, .int 0] h).bind (fun q => (zcall zZ nJ9_min_7cf53 (q.1.toList ++ [.int 4]) q.2)) = some (some (.int x6), h)) {N w F : Nat} {T : Int32} {fd : Nat → Int32} (nm : Bool) {I : zI} {L : zL} (hS : SB I N w F (I 25 8) fd) : ∃ I' L', zcall zZ nX2_search [.ref 25, .int T, .int x2, .int (zbo nm)] (hp I L) = some (none, hp I' L') ∧ BST I' L' (chG N w F fd T bl k) (cond nm (chC F (inN fd T F)) [(0, 0)]) ∧ (∀ x y, x < 35 → (x ≠ 25 ∨ y < 8) → I' x y = I x y) ∧ I' 25 8 = T ∧ (∀ x y, 35 < x → (x < 37 ∨ 52 ≤ x) → I' x y = I x y) ∧ (∀ x y, (x ≠ 25 ∨ y ≠ 13) → (x < 37 ∨ 52 ≤ x) → L' x y = L x y) := by
  have hF := hS.1.2.2
  have hp4 := pow_F hF
  obtain ⟨n1, n2, n3⟩ := inN_ok fd T hF
  have cg0 : ∀ x y, (x ≠ 25 ∨ (y ≠ 8 ∧ y ≠ 12)) → zup (zup I 25 8 T) 25 12 (nI 1000000) x y = I x y := fun x y p => by
    by_cases z : x = 25
    · rw [zu_at (by omega), zu_at (by omega)]
    · rw [zu_cell z, zu_cell z]
  have e8 : zup (zup I 25 8 T) 25 12 (nI 1000000) 25 8 = T := by rw [zu_at (by omega), zu_same]
  have hS0 : SB (zup (zup I 25 8 T) 25 12 (nI 1000000)) N w F T fd := by
    obtain ⟨h1, ⟨h2, h3, h4⟩, h5, h6, h7, h8⟩ := hS
    exact ⟨h1, ⟨(cg0 _ _ (by omega)).trans h2, (cg0 _ _ (by omega)).trans h3, (cg0 _ _ (by omega)).trans h4⟩, fun P hP => (cg0 _ _ (by omega)).trans (h5 P hP), h6.cg (fun b => cg0 _ _ (by omega)) (fun b => cg0 _ _ (by omega)) (fun b => cg0 _ _ (by omega)), e8, fun y => (cg0 _ _ (by omega)).trans (h8 y)⟩
  have hB0 : BST (zup (zup I 25 8 T) 25 12 (nI 1000000)) L (chG N w F fd T bl k) [] := Or.inl ⟨rfl, zu_same _ _ _ _⟩
  have fin : ∀ (o i : Nat), o < 4 → i < 4 → ∃ I' L', zrun zZ kX2_search (50, [some (.ref 25), none, some (.int x2), none, some (.int (nI i)), none, none, none, none, none, none], [.int (nI o)], hp (zup (zup I 25 8 T) 25 12 (nI 1000000)) L, 0, 0) = some (none, hp I' L', 0, 0) ∧ BST I' L' (chG N w F fd T bl k) (chR o i (o + 1) 0) ∧ (∀ x y, x < 35 → (x ≠ 25 ∨ y < 8) → I' x y = I x y) ∧ I' 25 8 = T ∧ (∀ x y, 35 < x → (x < 37 ∨ 52 ≤ x) → I' x y = I x y) ∧ (∀ x y, (x ≠ 25 ∨ y ≠ 13) → (x < 37 ∨ 52 ≤ x) → L' x y = L x y) := by
    intro o i ho hi
    obtain ⟨I', L', g1, g2, g3, g4, g5⟩ := not_loop hO ho hi (o + 1) 0 _ L [] (by omega) hS0 hB0
    refine ⟨I', L', ?_, g2, fun x y p1 p2 => (g3 x y p1 (by omega)).trans (cg0 x y (by omega)), (g3 25 8 (by omega) (by omega)).trans e8, fun x y p1 p2 => (g4 x y p1 p2).trans (cg0 x y (by omega)), g5⟩
    rw [e_X2_search_50]
    have hm := hmx (hp (zup (zup I 25 8 T) 25 12 (nI 1000000)) L)
    obtain ⟨⟨v, h'⟩, z1, z2⟩ := Option.bind_eq_some_iff.mp hm
    rw [j_max] at z1
    injection z1 with z1
    injection z1 with z1 z3
    rw [j_max, Option.bind_some]
    subst z3
    subst z1
    have z2 : zcall zZ nJ9_min_7cf53 [.int (if x2 < 0 then 0 else x2), .int 4] (hp (zup (zup I 25 8 T) 25 12 (nI 1000000)) L) = some (some (.int x6), hp (zup (zup I 25 8 T) 25 12 (nI 1000000)) L) := z2
    simp only [Option.toList_some, List.cons_append, List.nil_append]
    rw [e_X2_search_57, z2, Option.bind_some]
    simp only [Option.toList_some, List.cons_append, List.nil_append]
    rw [e_X2_search_61, show (0 : Int32) = nI 0 from rfl]
    exact g1
  cases nm with
  | false =>
    obtain ⟨I', L', g1, g2, g3, g4, g5, g6⟩ := fin 0 0 (by decide) (by decide)
    refine ⟨I', L', ?_, g2, g3, g4, g5, g6⟩
    simp (disch := omega) only [c_X2_search, e_X2_search_0, e_X2_search_24, Option.bind_some, Option.toList_some, Option.toList_none, List.cons_append, List.nil_append, Option.map_some, cond_true, cond_false, Bool.not_true, Bool.not_false, Bool.true_and, Bool.and_true, Bool.false_and, Bool.and_false, Bool.true_or, Bool.or_true, Bool.false_or, Bool.or_false, Bool.not_not, decide_true, decide_false, Bool.decide_eq_true, Bool.decide_eq_false, qz_0, qz_1, qz_n, qz_n0, qz_n1, qz_t, qz_f, Nat.reduceAdd, q1000000, q0, q1, q2, q3, q4, q5, q6, q7, q8, q9, q10, q11, q12, q13, q14, q15, q16, q18, q19, q20, q21, q22, q23, q24, q25, q26, q27, q28, q29, q30, q31, q32, q38, q44, q45, q48, q57, q58, q59, q60, q63, q64, q97, q122, q126, q127, q128, q255, q256, q300, q580, q600, q1000, nI_add, q_lt_t, q_lt_f, q_eq_t, q_eq_f, q_clamp, q_in_t, q_in_f, g1]
  | true =>
    obtain ⟨I', L', g1, g2, g3, g4, g5, g6⟩ := fin (2 ^ F - 1 - inN fd T F) (inN fd T F) (by omega) (by omega)
    refine ⟨I', L', ?_, g2, g3, g4, g5, g6⟩
    have hi := s_inside (L := L) (T := T) hF hS0.2.1.2.2
    rw [show (zup (zup I 25 8 T) 25 12 (nI 1000000)) 14 = fd from funext hS0.2.2.2.2.2, n1] at hi
    have eo := out4 F (by omega) (inN fd T F) n2
    simp (disch := omega) only [c_X2_search, e_X2_search_0, e_X2_search_20, e_X2_search_24, hi, hS0.2.1.2.2, q_shl1, eo, Option.bind_some, Option.toList_some, Option.toList_none, List.cons_append, List.nil_append, Option.map_some, cond_true, cond_false, Bool.not_true, Bool.not_false, Bool.true_and, Bool.and_true, Bool.false_and, Bool.and_false, Bool.true_or, Bool.or_true, Bool.false_or, Bool.or_false, Bool.not_not, decide_true, decide_false, Bool.decide_eq_true, Bool.decide_eq_false, qz_0, qz_1, qz_n, qz_n0, qz_n1, qz_t, qz_f, Nat.reduceAdd, q1000000, q0, q1, q2, q3, q4, q5, q6, q7, q8, q9, q10, q11, q12, q13, q14, q15, q16, q18, q19, q20, q21, q22, q23, q24, q25, q26, q27, q28, q29, q30, q31, q32, q38, q44, q45, q48, q57, q58, q59, q60, q63, q64, q97, q122, q126, q127, q128, q255, q256, q300, q580, q600, q1000, nI_add, q_lt_t, q_lt_f, q_eq_t, q_eq_f, q_clamp, q_in_t, q_in_f, g1]
theorem mx_unl (h : zH) : (zcall zZ nJ9_max_7cf53 [.int (-1), .int 0] h).bind (fun q => (zcall zZ nJ9_min_7cf53 (q.1.toList ++ [.int 4]) q.2)) = some (some (.int (nI 0)), h) := by
  rw [j_max]
  show zcall zZ nJ9_min_7cf53 [.int (if (-1 : Int32) < 0 then 0 else -1), .int 4] h = _
  rw [if_pos (by decide), j_min, if_neg (by decide)]
  rfl
theorem mx_lim (k : Nat) (hk : k < 5) (h : zH) : (zcall zZ nJ9_max_7cf53 [.int (nI k), .int 0] h).bind (fun q => (zcall zZ nJ9_min_7cf53 (q.1.toList ++ [.int 4]) q.2)) = some (some (.int (nI k)), h) := by
  rw [j_max]
  show zcall zZ nJ9_min_7cf53 [.int (if nI k < 0 then 0 else nI k), .int 4] h = _
  rw [if_neg (nI_pos (by omega)), j_min, if_neg (show ¬ (4 : Int32) < nI k from nI_nlt (a := 4) (by omega) (by omega))]
