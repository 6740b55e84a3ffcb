/-! the choices of feasts are weighed -/
def pc2 (n : Nat) : Nat := (n.testBit 0).toNat + (n.testBit 1).toNat
theorem pc2_ok : ∀ n, n < 4 → pop (nI n) = pc2 n := by decide +kernel
theorem pc2_le : ∀ n, n < 4 → pc2 n ≤ 2 := by decide +kernel
/-- all ways of a choice: feasts behind not, behind also -/
def chG (N w F : Nat) (fd : Nat → Int32) (T : Int32) (bl : Bool) (k : Nat) (c : Nat × Nat) : GF := gs (pc2 c.1 + pc2 c.2 + pc2 (stF c.1 c.2)) (US N w T (fdF fd c.1 F) (waS fd F T c.2) bl k 0 (stF c.1 c.2))
/-- the best so far -/
def BST (I : zI) (L : zL) (G : Nat × Nat → GF) (cs : List (Nat × Nat)) : Prop := (cs = [] ∧ I 25 12 = nI 1000000) ∨ ∃ k n c, k ≤ 100 ∧ I 25 12 = nI k ∧ L 25 13 = lN n ∧ I 25 14 = nI (c : Nat × Nat).1 ∧ I 25 15 = nI c.2 ∧ MW (gsum G cs) k n ∧ cs.find? (fun c => decide (G c k ≠ 0)) = some c
theorem BST.cg {I J : zI} {L M : zL} {G : Nat × Nat → GF} {cs : List (Nat × Nat)} (h : BST I L G cs) (h1 : ∀ y, J 25 y = I 25 y) (h2 : ∀ y, M 25 y = L 25 y) : BST J M G cs := by
  unfold BST
  rw [h1, h2, h1, h1]
  exact h
theorem FS.cgL {I J : zI} {N w : Nat} {T H W : Int32} {st c1 : Nat} (h : FS I N w T H W st) (hc : ∀ x y, x ≠ 35 → x ≠ c1 → J x y = I x y) (h1 : 35 ≤ c1) : FS J N w T H W st := h.cg (fun x y hx => hc x y (by omega) (by omega))
theorem gsum_zero {α : Type} {F : α → GF} {c : Nat} : ∀ l, gsum F l c = 0 → ∀ a, a ∈ l → F a c = 0
  | [], _, a, h => by cases h
  | b :: l, h, a, ha => by
    have h : F b c + gsum F l c = 0 := h
    rcases List.mem_cons.mp ha with q | q
    · rw [q]
      omega
    · exact gsum_zero l (by omega) a q
theorem s_compare {r : Nat} (ha : hA r) {I : zI} {L : zL} {N w F : Nat} {T : Int32} {fd : Nat → Int32} {n a : Nat} {bl : Bool} {k : Nat} {cs : List (Nat × Nat)} (hn : n < 4) (ha4 : a < 4) (hFS : FS I N w T (fdF fd n F) (waS fd F T a) (stF n a)) (hC : CL I L r (0 * 4 + stF n a) (US N w T (fdF fd n F) (waS fd F T a) bl k 0 (stF n a)) (2 * (N - 0))) (hB : BST I L (chG N w F fd T bl k) cs) : ∃ I' L', zcall zZ nX2_compare [.ref 25, .int (nI n), .int (nI a), .ref r] (hp I L) = some (none, hp I' L') ∧ BST I' L' (chG N w F fd T bl k) (cs ++ [(n, a)]) ∧ (∀ x y, (x ≠ 25 ∨ y < 12) → I' x y = I x y) ∧ (∀ x y, (x ≠ 25 ∨ y ≠ 13) → L' x y = L x y) := by
  obtain ⟨⟨hN28, hw7, hst4, hWT⟩, -, h8, h9, h10, h11⟩ := hFS
  obtain ⟨k1, n1, c1, c2, c3, c4⟩ := hC
  rw [Nat.zero_mul, Nat.zero_add] at c2 c3
  have p1 := pc2_le n hn
  have p2 := pc2_le a ha4
  have p3 := pc2_le _ hst4
  have e1 : MW (chG N w F fd T bl k (n, a)) (pc2 n + pc2 a + pc2 (stF n a) + k1) n1 := MW_gs _ c4
  have ek : k1 + (pc2 n + pc2 a) + pc2 (stF n a) = pc2 n + pc2 a + pc2 (stF n a) + k1 := by omega
  have efind : (chG N w F fd T bl k (n, a)) (pc2 n + pc2 a + pc2 (stF n a) + k1) ≠ 0 := by
    have := e1.1
    have := e1.2.1
    omega
  rcases hB with ⟨rfl, hb⟩ | ⟨kb, nb, cb, b1, b2, b3, b4, b5, b6, b7⟩
  · refine ⟨zup (zup (zup I 25 12 (nI (pc2 n + pc2 a + pc2 (stF n a) + k1))) 25 14 (nI n)) 25 15 (nI a), zup L 25 13 (lN n1), ?_, Or.inr ⟨pc2 n + pc2 a + pc2 (stF n a) + k1, n1, (n, a), by omega, ?_, zu_same _ _ _ _, ?_, zu_same _ _ _ _, ?_, ?_⟩, fun x y p => ?_, fun x y p => ?_⟩
    · simp (disch := omega) only [c_X2_compare ha, e_X2_compare_0 ha, e_X2_compare_4 ha, e_X2_compare_8 ha, e_X2_compare_30 ha, e_X2_compare_101 ha, e_X2_compare_83 ha, j_bitCount, pc2_ok, h11, c2, c3, ek, hb, Option.bind_some, Option.toList_some, Option.toList_none, List.cons_append, List.nil_append, Option.map_some, cond_true, cond_false, Bool.not_true, Bool.not_false, Bool.true_and, Bool.and_true, Bool.false_and, Bool.and_false, Bool.true_or, Bool.or_true, Bool.false_or, Bool.or_false, Bool.not_not, decide_true, decide_false, Bool.decide_eq_true, Bool.decide_eq_false, qz_0, qz_1, qz_n, qz_n0, qz_n1, qz_t, qz_f, Nat.reduceAdd, q1000000, q0, q1, q2, q3, q4, q5, q6, q7, q8, q9, q10, q11, q12, q13, q14, q15, q16, q18, q19, q20, q21, q22, q23, q24, q25, q26, q27, q28, q29, q30, q31, q32, q38, q44, q45, q48, q57, q58, q59, q60, q63, q64, q97, q122, q126, q127, q128, q255, q256, q300, q580, q600, q1000, nI_add, q_lt_t, q_lt_f, q_eq_t, q_eq_f, q_clamp, q_in_t, q_in_f]
    · rw [zu_at (by omega), zu_at (by omega), zu_same]
    · rw [zu_at (by omega), zu_same]
    · show MW (gadd (chG N w F fd T bl k (n, a)) g0) _ _
      rw [gadd_0]
      exact e1
    · show List.find? _ [(n, a)] = _
      rw [List.find?_cons_of_pos (by rw [decide_eq_true_iff]; exact efind)]
    · by_cases z : x = 25
      · rw [zu_at (by omega), zu_at (by omega), zu_at (by omega)]
      · rw [zu_cell z, zu_cell z, zu_cell z]
    · by_cases z : x = 25
      · rw [zu_at (by omega)]
      · rw [zu_cell z]
  · rcases Nat.lt_trichotomy (pc2 n + pc2 a + pc2 (stF n a) + k1) kb with q | q | q
    · refine ⟨zup (zup (zup I 25 12 (nI (pc2 n + pc2 a + pc2 (stF n a) + k1))) 25 14 (nI n)) 25 15 (nI a), zup L 25 13 (lN n1), ?_, Or.inr ⟨pc2 n + pc2 a + pc2 (stF n a) + k1, n1, (n, a), by omega, ?_, zu_same _ _ _ _, ?_, zu_same _ _ _ _, ?_, ?_⟩, fun x y p => ?_, fun x y p => ?_⟩
      · simp (disch := omega) only [c_X2_compare ha, e_X2_compare_0 ha, e_X2_compare_4 ha, e_X2_compare_8 ha, e_X2_compare_30 ha, e_X2_compare_101 ha, e_X2_compare_83 ha, j_bitCount, pc2_ok, h11, c2, c3, ek, b2, Option.bind_some, Option.toList_some, Option.toList_none, List.cons_append, List.nil_append, Option.map_some, cond_true, cond_false, Bool.not_true, Bool.not_false, Bool.true_and, Bool.and_true, Bool.false_and, Bool.and_false, Bool.true_or, Bool.or_true, Bool.false_or, Bool.or_false, Bool.not_not, decide_true, decide_false, Bool.decide_eq_true, Bool.decide_eq_false, qz_0, qz_1, qz_n, qz_n0, qz_n1, qz_t, qz_f, Nat.reduceAdd, q1000000, q0, q1, q2, q3, q4, q5, q6, q7, q8, q9, q10, q11, q12, q13, q14, q15, q16, q18, q19, q20, q21, q22, q23, q24, q25, q26, q27, q28, q29, q30, q31, q32, q38, q44, q45, q48, q57, q58, q59, q60, q63, q64, q97, q122, q126, q127, q128, q255, q256, q300, q580, q600, q1000, nI_add, q_lt_t, q_lt_f, q_eq_t, q_eq_f, q_clamp, q_in_t, q_in_f]
      · rw [zu_at (by omega), zu_at (by omega), zu_same]
      · rw [zu_at (by omega), zu_same]
      · rw [gsum_append]
        refine MW_lt b6 ?_ q
        show MW (gadd (chG N w F fd T bl k (n, a)) g0) _ _
        rw [gadd_0]
        exact e1
      · rw [List.find?_append]
        have z : cs.find? (fun c => decide (chG N w F fd T bl k c (pc2 n + pc2 a + pc2 (stF n a) + k1) ≠ 0)) = none := by
          rw [List.find?_eq_none]
          intro c hc
          rw [gsum_zero cs (b6.2.2 _ q) c hc]
          decide
        rw [z, Option.none_or, List.find?_cons_of_pos (by rw [decide_eq_true_iff]; exact efind)]
      · by_cases z : x = 25
        · rw [zu_at (by omega), zu_at (by omega), zu_at (by omega)]
        · rw [zu_cell z, zu_cell z, zu_cell z]
      · by_cases z : x = 25
        · rw [zu_at (by omega)]
        · rw [zu_cell z]
    · refine ⟨I, zup L 25 13 (lN (nb + n1)), ?_, Or.inr ⟨kb, nb + n1, cb, b1, b2, zu_same _ _ _ _, b4, b5, ?_, ?_⟩, fun x y p => rfl, fun x y p => ?_⟩
      · simp (disch := omega) only [c_X2_compare ha, e_X2_compare_0 ha, e_X2_compare_4 ha, e_X2_compare_8 ha, e_X2_compare_30 ha, e_X2_compare_101 ha, e_X2_compare_83 ha, j_bitCount, pc2_ok, h11, c2, c3, ek, b2, b3, lN_add, Option.bind_some, Option.toList_some, Option.toList_none, List.cons_append, List.nil_append, Option.map_some, cond_true, cond_false, Bool.not_true, Bool.not_false, Bool.true_and, Bool.and_true, Bool.false_and, Bool.and_false, Bool.true_or, Bool.or_true, Bool.false_or, Bool.or_false, Bool.not_not, decide_true, decide_false, Bool.decide_eq_true, Bool.decide_eq_false, qz_0, qz_1, qz_n, qz_n0, qz_n1, qz_t, qz_f, Nat.reduceAdd, q1000000, q0, q1, q2, q3, q4, q5, q6, q7, q8, q9, q10, q11, q12, q13, q14, q15, q16, q18, q19, q20, q21, q22, q23, q24, q25, q26, q27, q28, q29, q30, q31, q32, q38, q44, q45, q48, q57, q58, q59, q60, q63, q64, q97, q122, q126, q127, q128, q255, q256, q300, q580, q600, q1000, nI_add, q_lt_t, q_lt_f, q_eq_t, q_eq_f, q_clamp, q_in_t, q_in_f]
      · rw [gsum_append]
        refine MW_eq b6 ?_
        show MW (gadd (chG N w F fd T bl k (n, a)) g0) _ _
        rw [gadd_0, ← q]
        exact e1
      · rw [List.find?_append, b7, Option.some_or]
      · by_cases z : x = 25
        · rw [zu_at (by omega)]
        · rw [zu_cell z]
    · refine ⟨I, L, ?_, Or.inr ⟨kb, nb, cb, b1, b2, b3, b4, b5, ?_, ?_⟩, fun x y p => rfl, fun x y p => rfl⟩
      · simp (disch := omega) only [c_X2_compare ha, e_X2_compare_0 ha, e_X2_compare_4 ha, e_X2_compare_8 ha, e_X2_compare_30 ha, e_X2_compare_101 ha, e_X2_compare_83 ha, j_bitCount, pc2_ok, h11, c2, c3, ek, b2, b3, Option.bind_some, Option.toList_some, Option.toList_none, List.cons_append, List.nil_append, Option.map_some, cond_true, cond_false, Bool.not_true, Bool.not_false, Bool.true_and, Bool.and_true, Bool.false_and, Bool.and_false, Bool.true_or, Bool.or_true, Bool.false_or, Bool.or_false, Bool.not_not, decide_true, decide_false, Bool.decide_eq_true, Bool.decide_eq_false, qz_0, qz_1, qz_n, qz_n0, qz_n1, qz_t, qz_f, Nat.reduceAdd, q1000000, q0, q1, q2, q3, q4, q5, q6, q7, q8, q9, q10, q11, q12, q13, q14, q15, q16, q18, q19, q20, q21, q22, q23, q24, q25, q26, q27, q28, q29, q30, q31, q32, q38, q44, q45, q48, q57, q58, q59, q60, q63, q64, q97, q122, q126, q127, q128, q255, q256, q300, q580, q600, q1000, nI_add, q_lt_t, q_lt_f, q_eq_t, q_eq_f, q_clamp, q_in_t, q_in_f]
      · rw [gsum_append]
        refine MW_gt (n' := n1) b6 ?_ q
        show MW (gadd (chG N w F fd T bl k (n, a)) g0) _ _
        rw [gadd_0]
        exact e1
      · rw [List.find?_append, b7, Option.some_or]
theorem one_unl {I : zI} {L : zL} {N w F : Nat} {T : Int32} {fd : Nat → Int32} {n a : Nat} {cs : List (Nat × Nat)} (hn : n < 4) (ha4 : a < 4) (x4 x5 : Int32) (hFS : FS I N w T (fdF fd n F) (waS fd F T a) (stF n a)) (hB : BST I L (chG N w F fd T false 0) cs) : ∃ I' L', zrun zZ kX2_search (111, [some (.ref 25), none, some (.int (-1 : Int32)), none, some (.int x4), some (.int x5), some (.int (nI 0)), some (.int (nI n)), some (.int (nI a)), none, none], [], hp I L, 0, 0) = zrun zZ kX2_search (180, [some (.ref 25), none, some (.int (-1 : Int32)), none, some (.int x4), some (.int x5), some (.int (nI 0)), some (.int (nI n)), some (.int (nI a)), none, none], [], hp I' L', 0, 0) ∧ BST I' L' (chG N w F fd T false 0) (cs ++ [(n, a)]) ∧ (∀ x y, x < 35 → (x ≠ 25 ∨ y < 12) → I' x y = I x y) ∧ (∀ x y, 35 < x → (x < 37 ∨ 52 ≤ x) → I' x y = I x y) ∧ (∀ x y, (x ≠ 25 ∨ y ≠ 13) → (x < 37 ∨ 52 ≤ x) → L' x y = L x y) := by
  obtain ⟨J, M, f1, f2, f3, f4⟩ := s_fill (a := 37) (b := 37) (Or.inl ⟨rfl, rfl⟩) (bl := false) (k := 0) rfl (fun _ => rfl) hFS (fun q => absurd rfl q) (L := L)
  obtain ⟨I', L', c1, c2, c3, c4⟩ := s_compare (r := 37) (Or.inl rfl) hn ha4 (hFS.cgL f3 (by decide)) (f2 0 (Nat.le_refl _) (Nat.zero_le _) _ (stF_lt n a) (sup_self _ (stF_lt n a))) (hB.cg (fun y => f3 25 y (by decide) (by decide)) (fun y => f4 25 y (by decide)))
  refine ⟨I', L', ?_, c2, fun x y p1 p2 => ?_, fun x y p1 p2 => ?_, fun x y p1 p2 => ?_⟩
  · rw [e_X2_search_111, show (!decide ((-1 : Int32) < 0)) = false from rfl, cond_false, e_X2_search_125v1, e_X2_search_130v1, show decide (nI 0 < (0 : Int32)) = false from rfl, cond_false, f1]
    show zrun zZ kX2_search (150, [some (.ref 25), none, some (.int (-1 : Int32)), none, some (.int x4), some (.int x5), some (.int (nI 0)), some (.int (nI n)), some (.int (nI a)), none, some (.int 0)], [], hp J M, 0, 0) = _
    rw [e_X2_search_150, e_X2_search_130v2, show decide (nI 0 < (1 : Int32)) = true from rfl, cond_true, show zin (nI 0) 5 = true from rfl, cond_true, show va_rf (zRR 34 (nI 0).toNatClampNeg) = Value.ref 37 from rfl, c1]
    rfl
  · rw [c3 x y (by omega), f3 x y (by omega) (by omega)]
  · rw [c3 x y (by omega), f3 x y (by omega) (by omega)]
  · rw [c4 x y (by omega), f4 x y (by omega)]
theorem one_lim0 {I : zI} {L : zL} {N w F : Nat} {T : Int32} {fd : Nat → Int32} {n a : Nat} {cs : List (Nat × Nat)} (hn : n < 4) (ha4 : a < 4) (x4 x5 : Int32) (hFS : FS I N w T (fdF fd n F) (waS fd F T a) (stF n a)) (hB : BST I L (chG N w F fd T true 0) cs) : ∃ I' L', zrun zZ kX2_search (111, [some (.ref 25), none, some (.int (nI 0)), none, some (.int x4), some (.int x5), some (.int (nI 0)), some (.int (nI n)), some (.int (nI a)), none, none], [], hp I L, 0, 0) = zrun zZ kX2_search (180, [some (.ref 25), none, some (.int (nI 0)), none, some (.int x4), some (.int x5), some (.int (nI 0)), some (.int (nI n)), some (.int (nI a)), none, none], [], hp I' L', 0, 0) ∧ BST I' L' (chG N w F fd T true 0) (cs ++ [(n, a)]) ∧ (∀ x y, x < 35 → (x ≠ 25 ∨ y < 12) → I' x y = I x y) ∧ (∀ x y, 35 < x → (x < 37 ∨ 52 ≤ x) → I' x y = I x y) ∧ (∀ x y, (x ≠ 25 ∨ y ≠ 13) → (x < 37 ∨ 52 ≤ x) → L' x y = L x y) := by
  obtain ⟨J0, M0, f1_0, f2_0, f3_0, f4_0⟩ := s_filln (a := 37) (Or.inl rfl) hFS (L := L)
  have hS0 : FS J0 N w T (fdF fd n F) (waS fd F T a) (stF n a) := hFS.cg (fun x y hx => f3_0 x y (by omega))
  obtain ⟨I', L', c1, c2, c3, c4⟩ := s_compare (r := 37) (Or.inl rfl) hn ha4 hS0 (f2_0 0 (Nat.le_refl _) (Nat.zero_le _) _ (stF_lt n a) (sup_self _ (stF_lt n a))) (hB.cg (fun y => by rw [f3_0 25 y (by omega)]) (fun y => by rw [f4_0 25 y (by omega)]))
  refine ⟨I', L', ?_, c2, fun x y p1 p2 => ?_, fun x y p1 p2 => ?_, fun x y p1 p2 => ?_⟩
  · rw [e_X2_search_111, show (!decide (nI 0 < (0 : Int32))) = true from rfl, cond_true, e_X2_search_125, e_X2_search_130, show decide (nI 0 < (0 : Int32)) = false from rfl, cond_false, f1_0]
    show zrun zZ kX2_search (150, [some (.ref 25), none, some (.int (nI 0)), none, some (.int x4), some (.int x5), some (.int (nI 0)), some (.int (nI n)), some (.int (nI a)), none, some (.int 0)], [], hp J0 M0, 0, 0) = _
    rw [e_X2_search_150, e_X2_search_130v2]
    rw [show decide (nI 0 < (1 : Int32)) = true from rfl, cond_true, show zin (nI 0) 5 = true from rfl, cond_true, show va_rf (zRR 34 (nI 0).toNatClampNeg) = Value.ref 37 from rfl, c1]
    rfl
  · rw [c3 x y (by omega), f3_0 x y (by omega)]
  · rw [c3 x y (by omega), f3_0 x y (by omega)]
  · rw [c4 x y (by omega), f4_0 x y (by omega)]
theorem one_lim1 {I : zI} {L : zL} {N w F : Nat} {T : Int32} {fd : Nat → Int32} {n a : Nat} {cs : List (Nat × Nat)} (hn : n < 4) (ha4 : a < 4) (x4 x5 : Int32) (hFS : FS I N w T (fdF fd n F) (waS fd F T a) (stF n a)) (hB : BST I L (chG N w F fd T true 1) cs) : ∃ I' L', zrun zZ kX2_search (111, [some (.ref 25), none, some (.int (nI 1)), none, some (.int x4), some (.int x5), some (.int (nI 1)), some (.int (nI n)), some (.int (nI a)), none, none], [], hp I L, 0, 0) = zrun zZ kX2_search (180, [some (.ref 25), none, some (.int (nI 1)), none, some (.int x4), some (.int x5), some (.int (nI 1)), some (.int (nI n)), some (.int (nI a)), none, none], [], hp I' L', 0, 0) ∧ BST I' L' (chG N w F fd T true 1) (cs ++ [(n, a)]) ∧ (∀ x y, x < 35 → (x ≠ 25 ∨ y < 12) → I' x y = I x y) ∧ (∀ x y, 35 < x → (x < 37 ∨ 52 ≤ x) → I' x y = I x y) ∧ (∀ x y, (x ≠ 25 ∨ y ≠ 13) → (x < 37 ∨ 52 ≤ x) → L' x y = L x y) := by
  obtain ⟨J0, M0, f1_0, f2_0, f3_0, f4_0⟩ := s_filln (a := 37) (Or.inl rfl) hFS (L := L)
  have hS0 : FS J0 N w T (fdF fd n F) (waS fd F T a) (stF n a) := hFS.cg (fun x y hx => f3_0 x y (by omega))
  obtain ⟨J1, M1, f1_1, f2_1, f3_1, f4_1⟩ := s_fill (a := 40) (b := 37) (Or.inr (Or.inl ⟨rfl, rfl⟩)) (bl := true) (k := 1) rfl (fun q => absurd q (by decide)) hS0 (fun _ => f2_0) (L := M0)
  have hS1 : FS J1 N w T (fdF fd n F) (waS fd F T a) (stF n a) := hS0.cg (fun x y hx => f3_1 x y (by omega) (by omega))
  obtain ⟨I', L', c1, c2, c3, c4⟩ := s_compare (r := 40) (Or.inr (Or.inl rfl)) hn ha4 hS1 (f2_1 0 (Nat.le_refl _) (Nat.zero_le _) _ (stF_lt n a) (sup_self _ (stF_lt n a))) (hB.cg (fun y => by rw [f3_1 25 y (by omega) (by omega), f3_0 25 y (by omega)]) (fun y => by rw [f4_1 25 y (by omega), f4_0 25 y (by omega)]))
  refine ⟨I', L', ?_, c2, fun x y p1 p2 => ?_, fun x y p1 p2 => ?_, fun x y p1 p2 => ?_⟩
  · rw [e_X2_search_111, show (!decide (nI 1 < (0 : Int32))) = true from rfl, cond_true, e_X2_search_125, e_X2_search_130, show decide (nI 1 < (0 : Int32)) = false from rfl, cond_false, f1_0]
    show zrun zZ kX2_search (150, [some (.ref 25), none, some (.int (nI 1)), none, some (.int x4), some (.int x5), some (.int (nI 1)), some (.int (nI n)), some (.int (nI a)), none, some (.int 0)], [], hp J0 M0, 0, 0) = _
    rw [e_X2_search_150, e_X2_search_130v2]
    rw [show decide (nI 1 < (1 : Int32)) = false from rfl, cond_false, f1_1]
    show zrun zZ kX2_search (150, [some (.ref 25), none, some (.int (nI 1)), none, some (.int x4), some (.int x5), some (.int (nI 1)), some (.int (nI n)), some (.int (nI a)), none, some (.int 1)], [], hp J1 M1, 0, 0) = _
    rw [e_X2_search_150v1, e_X2_search_130v3]
    rw [show decide (nI 1 < (2 : Int32)) = true from rfl, cond_true, show zin (nI 1) 5 = true from rfl, cond_true, show va_rf (zRR 34 (nI 1).toNatClampNeg) = Value.ref 40 from rfl, c1]
    rfl
  · rw [c3 x y (by omega), f3_1 x y (by omega) (by omega), f3_0 x y (by omega)]
  · rw [c3 x y (by omega), f3_1 x y (by omega) (by omega), f3_0 x y (by omega)]
  · rw [c4 x y (by omega), f4_1 x y (by omega), f4_0 x y (by omega)]
theorem one_lim2 {I : zI} {L : zL} {N w F : Nat} {T : Int32} {fd : Nat → Int32} {n a : Nat} {cs : List (Nat × Nat)} (hn : n < 4) (ha4 : a < 4) (x4 x5 : Int32) (hFS : FS I N w T (fdF fd n F) (waS fd F T a) (stF n a)) (hB : BST I L (chG N w F fd T true 2) cs) : ∃ I' L', zrun zZ kX2_search (111, [some (.ref 25), none, some (.int (nI 2)), none, some (.int x4), some (.int x5), some (.int (nI 2)), some (.int (nI n)), some (.int (nI a)), none, none], [], hp I L, 0, 0) = zrun zZ kX2_search (180, [some (.ref 25), none, some (.int (nI 2)), none, some (.int x4), some (.int x5), some (.int (nI 2)), some (.int (nI n)), some (.int (nI a)), none, none], [], hp I' L', 0, 0) ∧ BST I' L' (chG N w F fd T true 2) (cs ++ [(n, a)]) ∧ (∀ x y, x < 35 → (x ≠ 25 ∨ y < 12) → I' x y = I x y) ∧ (∀ x y, 35 < x → (x < 37 ∨ 52 ≤ x) → I' x y = I x y) ∧ (∀ x y, (x ≠ 25 ∨ y ≠ 13) → (x < 37 ∨ 52 ≤ x) → L' x y = L x y) := by
  obtain ⟨J0, M0, f1_0, f2_0, f3_0, f4_0⟩ := s_filln (a := 37) (Or.inl rfl) hFS (L := L)
  have hS0 : FS J0 N w T (fdF fd n F) (waS fd F T a) (stF n a) := hFS.cg (fun x y hx => f3_0 x y (by omega))
  obtain ⟨J1, M1, f1_1, f2_1, f3_1, f4_1⟩ := s_fill (a := 40) (b := 37) (Or.inr (Or.inl ⟨rfl, rfl⟩)) (bl := true) (k := 1) rfl (fun q => absurd q (by decide)) hS0 (fun _ => f2_0) (L := M0)
  have hS1 : FS J1 N w T (fdF fd n F) (waS fd F T a) (stF n a) := hS0.cg (fun x y hx => f3_1 x y (by omega) (by omega))
  obtain ⟨J2, M2, f1_2, f2_2, f3_2, f4_2⟩ := s_fill (a := 43) (b := 40) (Or.inr (Or.inr (Or.inl ⟨rfl, rfl⟩))) (bl := true) (k := 2) rfl (fun q => absurd q (by decide)) hS1 (fun _ => f2_1) (L := M1)
  have hS2 : FS J2 N w T (fdF fd n F) (waS fd F T a) (stF n a) := hS1.cg (fun x y hx => f3_2 x y (by omega) (by omega))
  obtain ⟨I', L', c1, c2, c3, c4⟩ := s_compare (r := 43) (Or.inr (Or.inr (Or.inl rfl))) hn ha4 hS2 (f2_2 0 (Nat.le_refl _) (Nat.zero_le _) _ (stF_lt n a) (sup_self _ (stF_lt n a))) (hB.cg (fun y => by rw [f3_2 25 y (by omega) (by omega), f3_1 25 y (by omega) (by omega), f3_0 25 y (by omega)]) (fun y => by rw [f4_2 25 y (by omega), f4_1 25 y (by omega), f4_0 25 y (by omega)]))
  refine ⟨I', L', ?_, c2, fun x y p1 p2 => ?_, fun x y p1 p2 => ?_, fun x y p1 p2 => ?_⟩
  · rw [e_X2_search_111, show (!decide (nI 2 < (0 : Int32))) = true from rfl, cond_true, e_X2_search_125, e_X2_search_130, show decide (nI 2 < (0 : Int32)) = false from rfl, cond_false, f1_0]
    show zrun zZ kX2_search (150, [some (.ref 25), none, some (.int (nI 2)), none, some (.int x4), some (.int x5), some (.int (nI 2)), some (.int (nI n)), some (.int (nI a)), none, some (.int 0)], [], hp J0 M0, 0, 0) = _
    rw [e_X2_search_150, e_X2_search_130v2]
    rw [show decide (nI 2 < (1 : Int32)) = false from rfl, cond_false, f1_1]
    show zrun zZ kX2_search (150, [some (.ref 25), none, some (.int (nI 2)), none, some (.int x4), some (.int x5), some (.int (nI 2)), some (.int (nI n)), some (.int (nI a)), none, some (.int 1)], [], hp J1 M1, 0, 0) = _
    rw [e_X2_search_150v1, e_X2_search_130v3]
    rw [show decide (nI 2 < (2 : Int32)) = false from rfl, cond_false, f1_2]
    show zrun zZ kX2_search (150, [some (.ref 25), none, some (.int (nI 2)), none, some (.int x4), some (.int x5), some (.int (nI 2)), some (.int (nI n)), some (.int (nI a)), none, some (.int 2)], [], hp J2 M2, 0, 0) = _
    rw [e_X2_search_150v2, e_X2_search_130v4]
    rw [show decide (nI 2 < (3 : Int32)) = true from rfl, cond_true, show zin (nI 2) 5 = true from rfl, cond_true, show va_rf (zRR 34 (nI 2).toNatClampNeg) = Value.ref 43 from rfl, c1]
    rfl
  · rw [c3 x y (by omega), f3_2 x y (by omega) (by omega), f3_1 x y (by omega) (by omega), f3_0 x y (by omega)]
  · rw [c3 x y (by omega), f3_2 x y (by omega) (by omega), f3_1 x y (by omega) (by omega), f3_0 x y (by omega)]
  · rw [c4 x y (by omega), f4_2 x y (by omega), f4_1 x y (by omega), f4_0 x y (by omega)]
theorem one_lim3 {I : zI} {L : zL} {N w F : Nat} {T : Int32} {fd : Nat → Int32} {n a : Nat} {cs : List (Nat × Nat)} (hn : n < 4) (ha4 : a < 4) (x4 x5 : Int32) (hFS : FS I N w T (fdF fd n F) (waS fd F T a) (stF n a)) (hB : BST I L (chG N w F fd T true 3) cs) : ∃ I' L', zrun zZ kX2_search (111, [some (.ref 25), none, some (.int (nI 3)), none, some (.int x4), some (.int x5), some (.int (nI 3)), some (.int (nI n)), some (.int (nI a)), none, none], [], hp I L, 0, 0) = zrun zZ kX2_search (180, [some (.ref 25), none, some (.int (nI 3)), none, some (.int x4), some (.int x5), some (.int (nI 3)), some (.int (nI n)), some (.int (nI a)), none, none], [], hp I' L', 0, 0) ∧ BST I' L' (chG N w F fd T true 3) (cs ++ [(n, a)]) ∧ (∀ x y, x < 35 → (x ≠ 25 ∨ y < 12) → I' x y = I x y) ∧ (∀ x y, 35 < x → (x < 37 ∨ 52 ≤ x) → I' x y = I x y) ∧ (∀ x y, (x ≠ 25 ∨ y ≠ 13) → (x < 37 ∨ 52 ≤ x) → L' x y = L x y) := by
  obtain ⟨J0, M0, f1_0, f2_0, f3_0, f4_0⟩ := s_filln (a := 37) (Or.inl rfl) hFS (L := L)
  have hS0 : FS J0 N w T (fdF fd n F) (waS fd F T a) (stF n a) := hFS.cg (fun x y hx => f3_0 x y (by omega))
  obtain ⟨J1, M1, f1_1, f2_1, f3_1, f4_1⟩ := s_fill (a := 40) (b := 37) (Or.inr (Or.inl ⟨rfl, rfl⟩)) (bl := true) (k := 1) rfl (fun q => absurd q (by decide)) hS0 (fun _ => f2_0) (L := M0)
  have hS1 : FS J1 N w T (fdF fd n F) (waS fd F T a) (stF n a) := hS0.cg (fun x y hx => f3_1 x y (by omega) (by omega))
  obtain ⟨J2, M2, f1_2, f2_2, f3_2, f4_2⟩ := s_fill (a := 43) (b := 40) (Or.inr (Or.inr (Or.inl ⟨rfl, rfl⟩))) (bl := true) (k := 2) rfl (fun q => absurd q (by decide)) hS1 (fun _ => f2_1) (L := M1)
  have hS2 : FS J2 N w T (fdF fd n F) (waS fd F T a) (stF n a) := hS1.cg (fun x y hx => f3_2 x y (by omega) (by omega))
  obtain ⟨J3, M3, f1_3, f2_3, f3_3, f4_3⟩ := s_fill (a := 46) (b := 43) (Or.inr (Or.inr (Or.inr (Or.inl ⟨rfl, rfl⟩)))) (bl := true) (k := 3) rfl (fun q => absurd q (by decide)) hS2 (fun _ => f2_2) (L := M2)
  have hS3 : FS J3 N w T (fdF fd n F) (waS fd F T a) (stF n a) := hS2.cg (fun x y hx => f3_3 x y (by omega) (by omega))
  obtain ⟨I', L', c1, c2, c3, c4⟩ := s_compare (r := 46) (Or.inr (Or.inr (Or.inr (Or.inl rfl)))) hn ha4 hS3 (f2_3 0 (Nat.le_refl _) (Nat.zero_le _) _ (stF_lt n a) (sup_self _ (stF_lt n a))) (hB.cg (fun y => by rw [f3_3 25 y (by omega) (by omega), f3_2 25 y (by omega) (by omega), f3_1 25 y (by omega) (by omega), f3_0 25 y (by omega)]) (fun y => by rw [f4_3 25 y (by omega), f4_2 25 y (by omega), f4_1 25 y (by omega), f4_0 25 y (by omega)]))
  refine ⟨I', L', ?_, c2, fun x y p1 p2 => ?_, fun x y p1 p2 => ?_, fun x y p1 p2 => ?_⟩
  · rw [e_X2_search_111, show (!decide (nI 3 < (0 : Int32))) = true from rfl, cond_true, e_X2_search_125, e_X2_search_130, show decide (nI 3 < (0 : Int32)) = false from rfl, cond_false, f1_0]
    show zrun zZ kX2_search (150, [some (.ref 25), none, some (.int (nI 3)), none, some (.int x4), some (.int x5), some (.int (nI 3)), some (.int (nI n)), some (.int (nI a)), none, some (.int 0)], [], hp J0 M0, 0, 0) = _
    rw [e_X2_search_150, e_X2_search_130v2]
    rw [show decide (nI 3 < (1 : Int32)) = false from rfl, cond_false, f1_1]
    show zrun zZ kX2_search (150, [some (.ref 25), none, some (.int (nI 3)), none, some (.int x4), some (.int x5), some (.int (nI 3)), some (.int (nI n)), some (.int (nI a)), none, some (.int 1)], [], hp J1 M1, 0, 0) = _
    rw [e_X2_search_150v1, e_X2_search_130v3]
    rw [show decide (nI 3 < (2 : Int32)) = false from rfl, cond_false, f1_2]
    show zrun zZ kX2_search (150, [some (.ref 25), none, some (.int (nI 3)), none, some (.int x4), some (.int x5), some (.int (nI 3)), some (.int (nI n)), some (.int (nI a)), none, some (.int 2)], [], hp J2 M2, 0, 0) = _
    rw [e_X2_search_150v2, e_X2_search_130v4]
    rw [show decide (nI 3 < (3 : Int32)) = false from rfl, cond_false, f1_3]
    show zrun zZ kX2_search (150, [some (.ref 25), none, some (.int (nI 3)), none, some (.int x4), some (.int x5), some (.int (nI 3)), some (.int (nI n)), some (.int (nI a)), none, some (.int 3)], [], hp J3 M3, 0, 0) = _
    rw [e_X2_search_150v3, e_X2_search_130v5]
    rw [show decide (nI 3 < (4 : Int32)) = true from rfl, cond_true, show zin (nI 3) 5 = true from rfl, cond_true, show va_rf (zRR 34 (nI 3).toNatClampNeg) = Value.ref 46 from rfl, c1]
    rfl
  · rw [c3 x y (by omega), f3_3 x y (by omega) (by omega), f3_2 x y (by omega) (by omega), f3_1 x y (by omega) (by omega), f3_0 x y (by omega)]
  · rw [c3 x y (by omega), f3_3 x y (by omega) (by omega), f3_2 x y (by omega) (by omega), f3_1 x y (by omega) (by omega), f3_0 x y (by omega)]
  · rw [c4 x y (by omega), f4_3 x y (by omega), f4_2 x y (by omega), f4_1 x y (by omega), f4_0 x y (by omega)]
theorem one_lim4 {I : zI} {L : zL} {N w F : Nat} {T : Int32} {fd : Nat → Int32} {n a : Nat} {cs : List (Nat × Nat)} (hn : n < 4) (ha4 : a < 4) (x4 x5 : Int32) (hFS : FS I N w T (fdF fd n F) (waS fd F T a) (stF n a)) (hB : BST I L (chG N w F fd T true 4) cs) : ∃ I' L', zrun zZ kX2_search (111, [some (.ref 25), none, some (.int (nI 4)), none, some (.int x4), some (.int x5), some (.int (nI 4)), some (.int (nI n)), some (.int (nI a)), none, none], [], hp I L, 0, 0) = zrun zZ kX2_search (180, [some (.ref 25), none, some (.int (nI 4)), none, some (.int x4), some (.int x5), some (.int (nI 4)), some (.int (nI n)), some (.int (nI a)), none, none], [], hp I' L', 0, 0) ∧ BST I' L' (chG N w F fd T true 4) (cs ++ [(n, a)]) ∧ (∀ x y, x < 35 → (x ≠ 25 ∨ y < 12) → I' x y = I x y) ∧ (∀ x y, 35 < x → (x < 37 ∨ 52 ≤ x) → I' x y = I x y) ∧ (∀ x y, (x ≠ 25 ∨ y ≠ 13) → (x < 37 ∨ 52 ≤ x) → L' x y = L x y) := by
  obtain ⟨J0, M0, f1_0, f2_0, f3_0, f4_0⟩ := s_filln (a := 37) (Or.inl rfl) hFS (L := L)
  have hS0 : FS J0 N w T (fdF fd n F) (waS fd F T a) (stF n a) := hFS.cg (fun x y hx => f3_0 x y (by omega))
  obtain ⟨J1, M1, f1_1, f2_1, f3_1, f4_1⟩ := s_fill (a := 40) (b := 37) (Or.inr (Or.inl ⟨rfl, rfl⟩)) (bl := true) (k := 1) rfl (fun q => absurd q (by decide)) hS0 (fun _ => f2_0) (L := M0)
  have hS1 : FS J1 N w T (fdF fd n F) (waS fd F T a) (stF n a) := hS0.cg (fun x y hx => f3_1 x y (by omega) (by omega))
  obtain ⟨J2, M2, f1_2, f2_2, f3_2, f4_2⟩ := s_fill (a := 43) (b := 40) (Or.inr (Or.inr (Or.inl ⟨rfl, rfl⟩))) (bl := true) (k := 2) rfl (fun q => absurd q (by decide)) hS1 (fun _ => f2_1) (L := M1)
  have hS2 : FS J2 N w T (fdF fd n F) (waS fd F T a) (stF n a) := hS1.cg (fun x y hx => f3_2 x y (by omega) (by omega))
  obtain ⟨J3, M3, f1_3, f2_3, f3_3, f4_3⟩ := s_fill (a := 46) (b := 43) (Or.inr (Or.inr (Or.inr (Or.inl ⟨rfl, rfl⟩)))) (bl := true) (k := 3) rfl (fun q => absurd q (by decide)) hS2 (fun _ => f2_2) (L := M2)
  have hS3 : FS J3 N w T (fdF fd n F) (waS fd F T a) (stF n a) := hS2.cg (fun x y hx => f3_3 x y (by omega) (by omega))
  obtain ⟨J4, M4, f1_4, f2_4, f3_4, f4_4⟩ := s_fill (a := 49) (b := 46) (Or.inr (Or.inr (Or.inr (Or.inr (⟨rfl, rfl⟩))))) (bl := true) (k := 4) rfl (fun q => absurd q (by decide)) hS3 (fun _ => f2_3) (L := M3)
  have hS4 : FS J4 N w T (fdF fd n F) (waS fd F T a) (stF n a) := hS3.cg (fun x y hx => f3_4 x y (by omega) (by omega))
  obtain ⟨I', L', c1, c2, c3, c4⟩ := s_compare (r := 49) (Or.inr (Or.inr (Or.inr (Or.inr (rfl))))) hn ha4 hS4 (f2_4 0 (Nat.le_refl _) (Nat.zero_le _) _ (stF_lt n a) (sup_self _ (stF_lt n a))) (hB.cg (fun y => by rw [f3_4 25 y (by omega) (by omega), f3_3 25 y (by omega) (by omega), f3_2 25 y (by omega) (by omega), f3_1 25 y (by omega) (by omega), f3_0 25 y (by omega)]) (fun y => by rw [f4_4 25 y (by omega), f4_3 25 y (by omega), f4_2 25 y (by omega), f4_1 25 y (by omega), f4_0 25 y (by omega)]))
  refine ⟨I', L', ?_, c2, fun x y p1 p2 => ?_, fun x y p1 p2 => ?_, fun x y p1 p2 => ?_⟩
  · rw [e_X2_search_111, show (!decide (nI 4 < (0 : Int32))) = true from rfl, cond_true, e_X2_search_125, e_X2_search_130, show decide (nI 4 < (0 : Int32)) = false from rfl, cond_false, f1_0]
    show zrun zZ kX2_search (150, [some (.ref 25), none, some (.int (nI 4)), none, some (.int x4), some (.int x5), some (.int (nI 4)), some (.int (nI n)), some (.int (nI a)), none, some (.int 0)], [], hp J0 M0, 0, 0) = _
    rw [e_X2_search_150, e_X2_search_130v2]
    rw [show decide (nI 4 < (1 : Int32)) = false from rfl, cond_false, f1_1]
    show zrun zZ kX2_search (150, [some (.ref 25), none, some (.int (nI 4)), none, some (.int x4), some (.int x5), some (.int (nI 4)), some (.int (nI n)), some (.int (nI a)), none, some (.int 1)], [], hp J1 M1, 0, 0) = _
    rw [e_X2_search_150v1, e_X2_search_130v3]
    rw [show decide (nI 4 < (2 : Int32)) = false from rfl, cond_false, f1_2]
    show zrun zZ kX2_search (150, [some (.ref 25), none, some (.int (nI 4)), none, some (.int x4), some (.int x5), some (.int (nI 4)), some (.int (nI n)), some (.int (nI a)), none, some (.int 2)], [], hp J2 M2, 0, 0) = _
    rw [e_X2_search_150v2, e_X2_search_130v4]
    rw [show decide (nI 4 < (3 : Int32)) = false from rfl, cond_false, f1_3]
    show zrun zZ kX2_search (150, [some (.ref 25), none, some (.int (nI 4)), none, some (.int x4), some (.int x5), some (.int (nI 4)), some (.int (nI n)), some (.int (nI a)), none, some (.int 3)], [], hp J3 M3, 0, 0) = _
    rw [e_X2_search_150v3, e_X2_search_130v5]
    rw [show decide (nI 4 < (4 : Int32)) = false from rfl, cond_false, f1_4]
    show zrun zZ kX2_search (150, [some (.ref 25), none, some (.int (nI 4)), none, some (.int x4), some (.int x5), some (.int (nI 4)), some (.int (nI n)), some (.int (nI a)), none, some (.int 4)], [], hp J4 M4, 0, 0) = _
    rw [e_X2_search_150v4, e_X2_search_130v6]
    rw [show decide (nI 4 < (5 : Int32)) = true from rfl, cond_true, show zin (nI 4) 5 = true from rfl, cond_true, show va_rf (zRR 34 (nI 4).toNatClampNeg) = Value.ref 49 from rfl, c1]
    rfl
  · rw [c3 x y (by omega), f3_4 x y (by omega) (by omega), f3_3 x y (by omega) (by omega), f3_2 x y (by omega) (by omega), f3_1 x y (by omega) (by omega), f3_0 x y (by omega)]
  · rw [c3 x y (by omega), f3_4 x y (by omega) (by omega), f3_3 x y (by omega) (by omega), f3_2 x y (by omega) (by omega), f3_1 x y (by omega) (by omega), f3_0 x y (by omega)]
  · rw [c4 x y (by omega), f4_4 x y (by omega), f4_3 x y (by omega), f4_2 x y (by omega), f4_1 x y (by omega), f4_0 x y (by omega)]
