/-! tokens as both see them -/
def KT (B : Nat → Nat) (S j : Nat) : Nat := if sT B S j = S then 24 else if kb (B (sT B S j)) = 19 then kx (let' B (sT B S j) (ps B S (j + 1))) 19 0 else kb (B (sT B S j))
def vN (B : Nat → Nat) (S j : Nat) : Nat := numC B (ps B S (j + 1) - sT B S j) (sT B S j) 0
def wN (B : Nat → Nat) (S j : Nat) : List Nat := let' B (sT B S j) (ps B S (j + 1))
theorem ps_19 {B : Nat → Nat} {S j k : Nat} (h : sT B S j < S) (hk : kb (B (sT B S j)) = k) (h2 : k = 19 ∨ k = 20) : ps B S (j + 1) = rnk B k (S - sT B S j) (sT B S j) := by
  have hE : ps B S (j + 1) = if sT B S j = S then S else if kb (B (sT B S j)) = 19 ∨ kb (B (sT B S j)) = 20 then rnk B (kb (B (sT B S j))) (S - sT B S j) (sT B S j) else sT B S j + 1 := rfl
  rw [hE, if_neg (by omega), hk, if_pos h2]
theorem wN_x {B : Nat → Nat} {S j : Nat} (h : sT B S j < S) (hk : kb (B (sT B S j)) = 19) : ∀ x, x ∈ wN B S j → 0 < x ∧ x < 128 := let_x (fun i p1 p2 => by
  rw [ps_19 h hk (Or.inl rfl)] at p2
  exact rnk_in B 19 _ _ i p1 p2)
theorem k2_loop {B : Nat → Nat} {S n : Nat} (hn : n ≤ 600) {L : zL} (hL : LX L) (hA : ∀ i, i < n → sT B S i < S ∧ L 8 i = tV B (sT B S i) (ps B S (i + 1)) (kb (B (sT B S i)))) : ∀ m i (I : zI), i + m = n → I 5 8 = nI n → (∀ t, t < i → I 6 t = nI (KT B S t)) → (∀ t, i ≤ t → t ≤ n → I 6 t = nI (kd0 B S t)) → ∃ J, zrun zZ kX4_scan (111, [some (.ref 5), none, none, some (.int (nI i)), none, none], [], hp I L, 0, 0) = some (none, hp J L, 0, 0) ∧ (∀ t, t < n → J 6 t = nI (KT B S t)) ∧ J 6 n = nI (kd0 B S n) ∧ (∀ a b, a ≠ 6 → J a b = I a b)
  | 0, i, I, h, h8, h1, h2 => by
    refine ⟨I, ?_, fun t ht => h1 t (by omega), h2 n (by omega) (by omega), fun _ _ _ => rfl⟩
    rw [e_X4_scan_111]
    simp (disch := omega) only [h8, Option.bind_some, Option.toList_some, Option.toList_none, List.cons_append, List.nil_append, Option.map_some, cond_true, cond_false, Bool.not_true, Bool.not_false, Bool.true_and, Bool.and_true, Bool.false_and, Bool.and_false, Bool.true_or, Bool.or_true, Bool.false_or, Bool.or_false, Bool.not_not, decide_true, decide_false, Bool.decide_eq_true, Bool.decide_eq_false, qz_0, qz_1, qz_n, qz_n0, qz_n1, qz_t, qz_f, Nat.reduceAdd, q1000000, q0, q1, q2, q3, q4, q5, q6, q7, q8, q9, q10, q11, q12, q13, q14, q15, q16, q18, q19, q20, q21, q22, q23, q24, q25, q26, q27, q28, q29, q30, q31, q32, q38, q44, q45, q48, q57, q58, q59, q60, q63, q64, q97, q122, q126, q127, q128, q255, q256, q300, q580, q600, q1000, nI_add, q_lt_t, q_lt_f, q_eq_t, q_eq_f, q_clamp, q_in_t, q_in_f]
  | m + 1, i, I, h, h8, h1, h2 => by
    obtain ⟨a1, a2⟩ := hA i (by omega)
    have e6 := h2 i (by omega) (by omega)
    have ek : kd0 B S i = kb (B (sT B S i)) := if_neg (by omega)
    rw [ek] at e6
    have hall := kb_all (B (sT B S i))
    by_cases z : kb (B (sT B S i)) = 19
    · have ev : L 8 i = wv (wN B S i) := by
        rw [a2]
        unfold tV
        rw [if_pos z]
        rfl
      have hk := s_kindOf (I := I) hL (wN_x a1 z)
      have eK : KT B S i = kx (wN B S i) 19 0 := by
        unfold KT
        rw [if_neg (by omega), if_pos z]
        rfl
      rw [z] at e6
      obtain ⟨J, g1, g2, g3, g4⟩ := k2_loop hn hL hA m (i + 1) (zup I 6 i (nI (KT B S i))) (by omega) (by rw [zu_cell (by omega)]; exact h8) (fun t ht => by
        by_cases u : t = i
        · rw [u, zu_same]
        · rw [zu_at u]
          exact h1 t (by omega)) (fun t p1 p2 => by
        rw [zu_at (by omega)]
        exact h2 t (by omega) p2)
      refine ⟨J, ?_, g2, g3, fun a b p => by rw [g4 a b p, zu_cell p]⟩
      rw [← g1, eK, e_X4_scan_111]
      simp (disch := omega) only [e_X4_scan_148, e_X4_scan_149, h8, e6, ev, hk, Option.bind_some, Option.toList_some, Option.toList_none, List.cons_append, List.nil_append, Option.map_some, cond_true, cond_false, Bool.not_true, Bool.not_false, Bool.true_and, Bool.and_true, Bool.false_and, Bool.and_false, Bool.true_or, Bool.or_true, Bool.false_or, Bool.or_false, Bool.not_not, decide_true, decide_false, Bool.decide_eq_true, Bool.decide_eq_false, qz_0, qz_1, qz_n, qz_n0, qz_n1, qz_t, qz_f, Nat.reduceAdd, q1000000, q0, q1, q2, q3, q4, q5, q6, q7, q8, q9, q10, q11, q12, q13, q14, q15, q16, q18, q19, q20, q21, q22, q23, q24, q25, q26, q27, q28, q29, q30, q31, q32, q38, q44, q45, q48, q57, q58, q59, q60, q63, q64, q97, q122, q126, q127, q128, q255, q256, q300, q580, q600, q1000, nI_add, q_lt_t, q_lt_f, q_eq_t, q_eq_f, q_clamp, q_in_t, q_in_f]
    · have eK : KT B S i = kb (B (sT B S i)) := by
        unfold KT
        rw [if_neg (by omega), if_neg z]
      obtain ⟨J, g1, g2, g3, g4⟩ := k2_loop hn hL hA m (i + 1) I (by omega) h8 (fun t ht => by
        by_cases u : t = i
        · rw [u, eK]
          exact e6
        · exact h1 t (by omega)) (fun t p1 p2 => h2 t (by omega) p2)
      refine ⟨J, ?_, g2, g3, g4⟩
      rw [← g1, e_X4_scan_111]
      simp (disch := omega) only [e_X4_scan_149, h8, e6, Option.bind_some, Option.toList_some, Option.toList_none, List.cons_append, List.nil_append, Option.map_some, cond_true, cond_false, Bool.not_true, Bool.not_false, Bool.true_and, Bool.and_true, Bool.false_and, Bool.and_false, Bool.true_or, Bool.or_true, Bool.false_or, Bool.or_false, Bool.not_not, decide_true, decide_false, Bool.decide_eq_true, Bool.decide_eq_false, qz_0, qz_1, qz_n, qz_n0, qz_n1, qz_t, qz_f, Nat.reduceAdd, q1000000, q0, q1, q2, q3, q4, q5, q6, q7, q8, q9, q10, q11, q12, q13, q14, q15, q16, q18, q19, q20, q21, q22, q23, q24, q25, q26, q27, q28, q29, q30, q31, q32, q38, q44, q45, q48, q57, q58, q59, q60, q63, q64, q97, q122, q126, q127, q128, q255, q256, q300, q580, q600, q1000, nI_add, q_lt_t, q_lt_f, q_eq_t, q_eq_f, q_clamp, q_in_t, q_in_f]
/-- the reader's cells after a scan -/
def RD (I : zI) (L : zL) (B : Nat → Nat) (S n : Nat) : Prop := (n ≤ S ∧ S ≤ 600 ∧ sT B S n = S ∧ ∀ i, i < n → sT B S i < S) ∧ I 5 8 = nI n ∧ (∀ i, i ≤ n → I 6 i = nI (KT B S i) ∧ I 7 i = nI (sT B S i)) ∧ (∀ i, i < n → L 8 i = tV B (sT B S i) (ps B S (i + 1)) (kb (B (sT B S i))))
theorem s_scan {I : zI} {L : zL} {B : Nat → Nat} {S : Nat} (hB : SCI I B S) (hL : LX L) : ∃ n J M, zcall zZ nX4_scan [.ref 5, .ref 3] (hp I L) = some (none, hp J M) ∧ RD J M B S n ∧ J 5 9 = nI 0 ∧ J 5 0 = nI 0 ∧ J 5 1 = -nI 1 ∧ (∀ a b, (a < 5 ∨ (a = 5 ∧ b ≠ 0 ∧ b ≠ 1 ∧ b ≠ 8 ∧ b ≠ 9) ∨ 7 < a) → J a b = I a b) ∧ (∀ a b, a ≠ 8 → M a b = L a b) := by
  obtain ⟨I1, hI1⟩ : ∃ I1, I1 = zup (zup (zup (zup I 5 0 (nI 0)) 5 1 (-nI 1)) 5 9 (nI 0)) 5 8 (-nI 1) := ⟨_, rfl⟩
  have o1 : ∀ a b, a ≠ 5 → I1 a b = I a b := fun a b p => by rw [hI1, zu_cell p, zu_cell p, zu_cell p, zu_cell p]
  have hB1 : SCI I1 B S := hB.cg (o1 _ _ (by omega)) (fun b => o1 _ _ (by omega))
  have v8 : I1 5 8 = nI 0 - nI 1 := by
    rw [hI1, zu_same]
    rfl
  obtain ⟨n, J, M, g1, g2, g3, g4, g5, g6, g7, g8⟩ := sc_all S 0 26 I1 L (by omega) (Nat.zero_le _) hB1 (by omega) v8 (fun _ _ _ => ⟨by omega, by omega⟩) (fun i hi => by omega)
  have hLM : LX M := fun k hk => (g8 _ _ (by omega)).trans (hL k hk)
  have hS := hB.1
  obtain ⟨K, k1, k2, k3, k4⟩ := k2_loop (by omega) hLM (fun i hi => ⟨(g5 i hi).1, (g5 i hi).2.2⟩) n 0 J (by omega) g4 (fun t ht => by omega) (fun t _ p => (g6 t p).1)
  refine ⟨n, K, M, ?_, ⟨⟨g2, hS, g3, fun i hi => (g5 i hi).1⟩, (k4 _ _ (by omega)).trans g4, fun i hi => ⟨?_, (k4 _ _ (by omega)).trans (g6 i hi).2⟩, fun i hi => (g5 i hi).2.2⟩, ?_, ?_, ?_, fun a b p => ?_, g8⟩
  · have e : zrun zZ kX4_scan (25, [some (.ref 5), some (.ref 3), some (.int (nI 26)), some (.int (nI 0)), none, none], [], hp I1 L, 0, 0) = _ := g1.trans k1
    rw [c_X4_scan, e_X4_scan_0]
    simp (disch := omega) only [q1000000, q0, q1, q2, q3, q4, q5, q6, q7, q8, q9, q10, q11, q12, q13, q14, q15, q16, q18, q19, q20, q21, q22, q23, q24, q25, q26, q27, q28, q29, q30, q31, q32, q38, q44, q45, q48, q57, q58, q59, q60, q63, q64, q97, q122, q126, q127, q128, q255, q256, q300, q580, q600, q1000, show (26 : Int32) = nI 26 from rfl, ← hI1, e, Option.bind_some, Option.toList_some, Option.toList_none, List.cons_append, List.nil_append, Option.map_some, cond_true, cond_false, Bool.not_true, Bool.not_false, Bool.true_and, Bool.and_true, Bool.false_and, Bool.and_false, Bool.true_or, Bool.or_true, Bool.false_or, Bool.or_false, Bool.not_not, decide_true, decide_false, Bool.decide_eq_true, Bool.decide_eq_false, qz_0, qz_1, qz_n, qz_n0, qz_n1, qz_t, qz_f, Nat.reduceAdd]
  · rcases Nat.lt_or_ge i n with q | q
    · exact k2 i q
    · rw [show i = n by omega, k3]
      unfold kd0 KT
      rw [if_pos g3, if_pos g3]
  · rw [k4 _ _ (by omega), g7 _ _ (by omega), hI1, zu_at (by omega), zu_same]
  · rw [k4 _ _ (by omega), g7 _ _ (by omega), hI1, zu_at (by omega), zu_at (by omega), zu_at (by omega), zu_same]
  · rw [k4 _ _ (by omega), g7 _ _ (by omega), hI1, zu_at (by omega), zu_at (by omega), zu_same]
  · rw [k4 _ _ (by omega), g7 _ _ (by omega)]
    rcases p with p | ⟨rfl, p⟩ | p
    · exact o1 _ _ (by omega)
    · rw [hI1, zu_at (by omega), zu_at (by omega), zu_at (by omega), zu_at (by omega)]
    · exact o1 _ _ (by omega)
