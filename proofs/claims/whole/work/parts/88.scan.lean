/-! the whole tape -/
def ps (B : Nat → Nat) (S : Nat) : Nat → Nat
  | 0 => 0
  | j + 1 => tE B S (ps B S j)
def sT (B : Nat → Nat) (S j : Nat) : Nat := tS B S (ps B S j)
theorem tE_le (B : Nat → Nat) {S p : Nat} (h : p ≤ S) : tE B S p ≤ S ∧ (tS B S p < S → tS B S p + 1 ≤ tE B S p) := by
  obtain ⟨l1, l2⟩ := tS_le B h
  unfold tE
  by_cases z : tS B S p = S
  · rw [if_pos z]
    omega
  · rw [if_neg z]
    by_cases y : kb (B (tS B S p)) = 19 ∨ kb (B (tS B S p)) = 20
    · rw [if_pos y]
      have hr := rnk_le B (kb (B (tS B S p))) (S - tS B S p) (tS B S p)
      refine ⟨by omega, fun q => ?_⟩
      have e : rnk B (kb (B (tS B S p))) (S - tS B S p) (tS B S p) = rnk B (kb (B (tS B S p))) (S - tS B S p - 1) (tS B S p + 1) := by
        rw [show S - tS B S p = (S - tS B S p - 1) + 1 by omega]
        show (if kb (B (tS B S p)) = kb (B (tS B S p)) then _ else _) = _
        rw [if_pos rfl, Nat.add_sub_cancel]
      have hr2 := rnk_le B (kb (B (tS B S p))) (S - tS B S p - 1) (tS B S p + 1)
      omega
    · rw [if_neg y]
      omega
theorem ps_le (B : Nat → Nat) (S : Nat) : ∀ j, ps B S j ≤ S
  | 0 => Nat.zero_le S
  | j + 1 => (tE_le B (ps_le B S j)).1
theorem sT_le (B : Nat → Nat) (S j : Nat) : ps B S j ≤ sT B S j ∧ sT B S j ≤ S := tS_le B (ps_le B S j)
theorem ps_s (B : Nat → Nat) (S j : Nat) (h : sT B S j < S) : sT B S j + 1 ≤ ps B S (j + 1) := (tE_le B (ps_le B S j)).2 h
theorem sT_nb (B : Nat → Nat) (S j : Nat) (h : sT B S j < S) : kb (B (sT B S j)) ≠ 26 := skp_end B (S - ps B S j) (ps B S j) (by
  have h : skp B (S - ps B S j) (ps B S j) < S := h
  have := ps_le B S j
  omega)
theorem sc_tok {I : zI} {L : zL} {B : Nat → Nat} {S : Nat} (hB : SCI I B S) {j x : Nat} (hj : j ≤ 600) (hx : x < 100) (h8 : I 5 8 = nI j - nI 1) (hs : sT B S j < S) (hb : sT B S j = ps B S j → x = kb (B (sT B S j)) → x ≠ 19 ∧ x ≠ 20) : ∃ M, zrun zZ kX4_scan (25, [some (.ref 5), some (.ref 3), some (.int (nI x)), some (.int (nI (ps B S j))), none, none], [], hp I L, 0, 0) = zrun zZ kX4_scan (25, [some (.ref 5), some (.ref 3), some (.int (nI (kb (B (sT B S j))))), some (.int (nI (ps B S (j + 1)))), none, none], [], hp (zup (zup (zup I 5 8 (nI j)) 6 j (nI (kb (B (sT B S j))))) 7 j (nI (sT B S j))) M, 0, 0) ∧ M 8 j = tV B (sT B S j) (ps B S (j + 1)) (kb (B (sT B S j))) ∧ (∀ a b, (a ≠ 8 ∨ b ≠ j) → M a b = L a b) := by
  obtain ⟨b1, b2, b3⟩ := id hB
  have hps := ps_le B S j
  have hk26 := sT_nb B S j hs
  have hall := kb_all (B (sT B S j))
  have eE : ps B S (j + 1) = tE B S (ps B S j) := rfl
  have hsk := sc_skip (L := L) hB (S - ps B S j) (ps B S j) x (by omega)
  have e0 : skp B (S - ps B S j) (ps B S j) = sT B S j := rfl
  rw [e0] at hsk
  have hE2 : tE B S (ps B S j) = if sT B S j = S then S else if kb (B (sT B S j)) = 19 ∨ kb (B (sT B S j)) = 20 then rnk B (kb (B (sT B S j))) (S - sT B S j) (sT B S j) else sT B S j + 1 := rfl
  rw [if_neg (by omega)] at hE2
  obtain ⟨s, hs'⟩ : ∃ s, s = sT B S j := ⟨_, rfl⟩
  rw [← hs'] at hs hk26 hall hsk hb hE2 ⊢
  obtain ⟨x', hx'⟩ : ∃ x', x' = if s = ps B S j then x else 26 := ⟨_, rfl⟩
  rw [← hx'] at hsk
  obtain ⟨c1, c2⟩ := b3 s hs
  obtain ⟨k, hk⟩ : ∃ k, k = kb (B s) := ⟨_, rfl⟩
  have hkos := s_kos (hp I L) c1
  rw [← hk] at hkos hk26 hall hb hE2 ⊢
  have hxl : x' < 100 := by
    rw [hx']
    split <;> omega
  have hgo : k ≠ x' ∨ (k ≠ 19 ∧ k ≠ 20) := by
    by_cases z : k = x'
    · right
      rw [hx'] at z
      by_cases y : s = ps B S j
      · rw [if_pos y] at z
        have := hb y z.symm
        omega
      · rw [if_neg y] at z
        omega
    · exact Or.inl z
  obtain ⟨J, hJ⟩ : ∃ J, J = zup (zup (zup I 5 8 (nI j)) 6 j (nI k)) 7 j (nI s) := ⟨_, rfl⟩
  rw [← hJ]
  have hopen := s_open (L := L) hj h8 (nI k) (nI s)
  rw [← hJ] at hopen
  have j8 : J 5 8 = nI j := by rw [hJ, zu_cell (by omega), zu_cell (by omega), zu_same]
  have hBJ : SCI J B S := hB.cg (by rw [hJ, zu_cell (by omega), zu_cell (by omega), zu_cell (by omega)]) (fun b => by rw [hJ, zu_cell (by omega), zu_cell (by omega), zu_cell (by omega)])
  have st75 : zrun zZ kX4_scan (25, [some (.ref 5), some (.ref 3), some (.int (nI x)), some (.int (nI (ps B S j))), none, none], [], hp I L, 0, 0) = ((zcall zZ nX4_widenToken [.ref 5, .int (nI k), .int (sby (B s))] (hp J (zup L 8 j 0))).bind (fun q => zrun zZ kX4_scan (90, [some (.ref 5), some (.ref 3), none, some (.int (nI s)), none, some (.int (nI k))], q.1.toList ++ [], q.2, 0, 0))) := by
    rw [hsk, e_X4_scan_25]
    rcases hgo with z | ⟨z1, z2⟩
    · simp (disch := omega) only [e_X4_scan_46, e_X4_scan_75, e_X4_scan_82, b2, c2, hkos, hopen, show (26 : Int32) = nI 26 from rfl, Option.bind_some, Option.toList_some, Option.toList_none, List.cons_append, List.nil_append, Option.map_some, cond_true, cond_false, Bool.not_true, Bool.not_false, Bool.true_and, Bool.and_true, Bool.false_and, Bool.and_false, Bool.true_or, Bool.or_true, Bool.false_or, Bool.or_false, Bool.not_not, decide_true, decide_false, Bool.decide_eq_true, Bool.decide_eq_false, qz_0, qz_1, qz_n, qz_n0, qz_n1, qz_t, qz_f, Nat.reduceAdd, q1000000, q0, q1, q2, q3, q4, q5, q6, q7, q8, q9, q10, q11, q12, q13, q14, q15, q16, q18, q19, q20, q21, q22, q23, q24, q25, q26, q27, q28, q29, q30, q31, q32, q38, q44, q45, q48, q57, q58, q59, q60, q63, q64, q97, q122, q126, q127, q128, q255, q256, q300, q580, q600, q1000, nI_add, q_lt_t, q_lt_f, q_eq_t, q_eq_f, q_clamp, q_in_t, q_in_f]
    · by_cases z : k = x'
      · simp (disch := omega) only [e_X4_scan_46, e_X4_scan_75, e_X4_scan_82, b2, c2, hkos, hopen, show (26 : Int32) = nI 26 from rfl, Option.bind_some, Option.toList_some, Option.toList_none, List.cons_append, List.nil_append, Option.map_some, cond_true, cond_false, Bool.not_true, Bool.not_false, Bool.true_and, Bool.and_true, Bool.false_and, Bool.and_false, Bool.true_or, Bool.or_true, Bool.false_or, Bool.or_false, Bool.not_not, decide_true, decide_false, Bool.decide_eq_true, Bool.decide_eq_false, qz_0, qz_1, qz_n, qz_n0, qz_n1, qz_t, qz_f, Nat.reduceAdd, q1000000, q0, q1, q2, q3, q4, q5, q6, q7, q8, q9, q10, q11, q12, q13, q14, q15, q16, q18, q19, q20, q21, q22, q23, q24, q25, q26, q27, q28, q29, q30, q31, q32, q38, q44, q45, q48, q57, q58, q59, q60, q63, q64, q97, q122, q126, q127, q128, q255, q256, q300, q580, q600, q1000, nI_add, q_lt_t, q_lt_f, q_eq_t, q_eq_f, q_clamp, q_in_t, q_in_f]
      · simp (disch := omega) only [e_X4_scan_46, e_X4_scan_75, e_X4_scan_82, b2, c2, hkos, hopen, show (26 : Int32) = nI 26 from rfl, Option.bind_some, Option.toList_some, Option.toList_none, List.cons_append, List.nil_append, Option.map_some, cond_true, cond_false, Bool.not_true, Bool.not_false, Bool.true_and, Bool.and_true, Bool.false_and, Bool.and_false, Bool.true_or, Bool.or_true, Bool.false_or, Bool.or_false, Bool.not_not, decide_true, decide_false, Bool.decide_eq_true, Bool.decide_eq_false, qz_0, qz_1, qz_n, qz_n0, qz_n1, qz_t, qz_f, Nat.reduceAdd, q1000000, q0, q1, q2, q3, q4, q5, q6, q7, q8, q9, q10, q11, q12, q13, q14, q15, q16, q18, q19, q20, q21, q22, q23, q24, q25, q26, q27, q28, q29, q30, q31, q32, q38, q44, q45, q48, q57, q58, q59, q60, q63, q64, q97, q122, q126, q127, q128, q255, q256, q300, q580, q600, q1000, nI_add, q_lt_t, q_lt_f, q_eq_t, q_eq_f, q_clamp, q_in_t, q_in_f]
  rw [st75, eE, hE2]
  by_cases k19 : k = 19
  · rw [k19] at hk hJ
    have hl := kb_let.mp hk.symm
    have hw := s_widW (L := zup L 8 j 0) (cs := []) hj j8 (fun x hx => by cases hx) (zu_same _ _ _ _) hl
    have e1 : let' B s (s + 1) = [] ++ [B s] := by
      rw [let_s B (Nat.le_refl s)]
      congr 1
      unfold let'
      rw [Nat.sub_self]
      rfl
    rw [← e1] at hw
    obtain ⟨M, g1, g2, g3⟩ := sc_word hBJ hj j8 (s := s) (S - (s + 1)) (s + 1) (zup (zup L 8 j 0) 8 j (wv (let' B s (s + 1)))) (by omega) (by omega) (fun i p1 p2 => by rw [show i = s by omega]; exact hk.symm) (zu_same _ _ _ _)
    have e2 : rnk B 19 (S - s) s = rnk B 19 (S - (s + 1)) (s + 1) := by
      rw [show S - s = (S - (s + 1)) + 1 by omega]
      show (if kb (B s) = 19 then _ else _) = _
      rw [if_pos hk.symm]
    rw [k19, if_pos (Or.inl rfl), e2]
    refine ⟨M, ?_, ?_, fun a b p => ?_⟩
    · rw [← g1, sby_lo _ (by omega), hw]
      simp (disch := omega) only [e_X4_scan_90, Option.bind_some, Option.toList_some, Option.toList_none, List.cons_append, List.nil_append, Option.map_some, cond_true, cond_false, Bool.not_true, Bool.not_false, Bool.true_and, Bool.and_true, Bool.false_and, Bool.and_false, Bool.true_or, Bool.or_true, Bool.false_or, Bool.or_false, Bool.not_not, decide_true, decide_false, Bool.decide_eq_true, Bool.decide_eq_false, qz_0, qz_1, qz_n, qz_n0, qz_n1, qz_t, qz_f, Nat.reduceAdd, q1000000, q0, q1, q2, q3, q4, q5, q6, q7, q8, q9, q10, q11, q12, q13, q14, q15, q16, q18, q19, q20, q21, q22, q23, q24, q25, q26, q27, q28, q29, q30, q31, q32, q38, q44, q45, q48, q57, q58, q59, q60, q63, q64, q97, q122, q126, q127, q128, q255, q256, q300, q580, q600, q1000, nI_add, q_lt_t, q_lt_f, q_eq_t, q_eq_f, q_clamp, q_in_t, q_in_f]
    · unfold tV
      rw [if_pos rfl]
      exact g2
    · rw [g3 a b p]
      by_cases u : a = 8
      · rw [zu_at (by omega), zu_at (by omega)]
      · rw [zu_cell u, zu_cell u]
  · by_cases k20 : k = 20
    · rw [k20] at hk hJ
      have hl := kb_dig.mp hk.symm
      have hw := s_widN (L := zup L 8 j 0) (v := 0) hj j8 (by omega) (zu_same _ _ _ _) hl
      have e1 : min 1000000 (10 * 0 + (B s - 48)) = numC B (s + 1 - s) s 0 := by
        rw [show s + 1 - s = 1 by omega]
        rfl
      rw [e1] at hw
      obtain ⟨M, g1, g2, g3⟩ := sc_num hBJ hj j8 (s := s) (S - (s + 1)) (s + 1) (zup (zup L 8 j 0) 8 j (lN (numC B (s + 1 - s) s 0))) (by omega) (by omega) (zu_same _ _ _ _)
      have e2 : rnk B 20 (S - s) s = rnk B 20 (S - (s + 1)) (s + 1) := by
        rw [show S - s = (S - (s + 1)) + 1 by omega]
        show (if kb (B s) = 20 then _ else _) = _
        rw [if_pos hk.symm]
      rw [k20, if_pos (Or.inr rfl), e2]
      refine ⟨M, ?_, ?_, fun a b p => ?_⟩
      · rw [← g1, sby_lo _ (by omega), hw]
        simp (disch := omega) only [e_X4_scan_90, Option.bind_some, Option.toList_some, Option.toList_none, List.cons_append, List.nil_append, Option.map_some, cond_true, cond_false, Bool.not_true, Bool.not_false, Bool.true_and, Bool.and_true, Bool.false_and, Bool.and_false, Bool.true_or, Bool.or_true, Bool.false_or, Bool.or_false, Bool.not_not, decide_true, decide_false, Bool.decide_eq_true, Bool.decide_eq_false, qz_0, qz_1, qz_n, qz_n0, qz_n1, qz_t, qz_f, Nat.reduceAdd, q1000000, q0, q1, q2, q3, q4, q5, q6, q7, q8, q9, q10, q11, q12, q13, q14, q15, q16, q18, q19, q20, q21, q22, q23, q24, q25, q26, q27, q28, q29, q30, q31, q32, q38, q44, q45, q48, q57, q58, q59, q60, q63, q64, q97, q122, q126, q127, q128, q255, q256, q300, q580, q600, q1000, nI_add, q_lt_t, q_lt_f, q_eq_t, q_eq_f, q_clamp, q_in_t, q_in_f]
      · unfold tV
        rw [if_neg (by omega), if_pos rfl]
        exact g2
      · rw [g3 a b p]
        by_cases u : a = 8
        · rw [zu_at (by omega), zu_at (by omega)]
        · rw [zu_cell u, zu_cell u]
    · rw [if_neg (by omega)]
      refine ⟨zup L 8 j 0, ?_, ?_, fun a b p => ?_⟩
      · rw [s_widO hj j8 k19 k20 (by omega)]
        simp (disch := omega) only [e_X4_scan_90, Option.bind_some, Option.toList_some, Option.toList_none, List.cons_append, List.nil_append, Option.map_some, cond_true, cond_false, Bool.not_true, Bool.not_false, Bool.true_and, Bool.and_true, Bool.false_and, Bool.and_false, Bool.true_or, Bool.or_true, Bool.false_or, Bool.or_false, Bool.not_not, decide_true, decide_false, Bool.decide_eq_true, Bool.decide_eq_false, qz_0, qz_1, qz_n, qz_n0, qz_n1, qz_t, qz_f, Nat.reduceAdd, q1000000, q0, q1, q2, q3, q4, q5, q6, q7, q8, q9, q10, q11, q12, q13, q14, q15, q16, q18, q19, q20, q21, q22, q23, q24, q25, q26, q27, q28, q29, q30, q31, q32, q38, q44, q45, q48, q57, q58, q59, q60, q63, q64, q97, q122, q126, q127, q128, q255, q256, q300, q580, q600, q1000, nI_add, q_lt_t, q_lt_f, q_eq_t, q_eq_f, q_clamp, q_in_t, q_in_f]
      · unfold tV
        rw [zu_same, if_neg k19, if_neg k20]
      · by_cases u : a = 8
        · rw [zu_at (by omega)]
        · rw [zu_cell u]
