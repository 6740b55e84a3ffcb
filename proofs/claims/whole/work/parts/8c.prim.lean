/-! the reference: one token -/
def tyT (k : Nat) : Nat := if k = 24 then 0 else if k ≤ 19 then 1 else if k = 20 then 2 else if k = 25 then 4 else 3
def kI (k : Nat) : Int32 := if k < 19 then nI k else -nI 1
def RF (J : zI) (B : Nat → Nat) (S j : Nat) : Prop := J 52 9 = nI (sT B S j) ∧ J 52 8 = nI (ps B S (j + 1)) ∧ J 52 10 = nI (tyT (KT B S j)) ∧ J 52 11 = nI (if KT B S j = 20 then min 99999 (vN B S j) else 0) ∧ J 52 12 = kI (KT B S j)
theorem RF_of {J : zI} {B : Nat → Nat} {S j : Nat} (h : RT J B S (ps B S j)) : RF J B S j := by
  obtain ⟨h1, h2, h3, h4⟩ := h
  have h1 : J 52 9 = nI (sT B S j) := h1
  have h2 : J 52 8 = nI (ps B S (j + 1)) := h2
  have h3 : sT B S j = S → J 52 10 = nI 0 ∧ J 52 11 = nI 0 ∧ J 52 12 = -nI 1 := h3
  have h4 : sT B S j < S → J 52 10 = nI (tyK (kb (B (sT B S j)))) ∧ J 52 11 = nI (if kb (B (sT B S j)) = 20 then numR B (ps B S (j + 1) - sT B S j) (sT B S j) 0 else 0) ∧ J 52 12 = if kb (B (sT B S j)) = 19 then kxI (kx (wN B S j) 19 0) else -nI 1 := h4
  have hle := (sT_le B S j).2
  refine ⟨h1, h2, ?_⟩
  by_cases z : sT B S j = S
  · obtain ⟨a1, a2, a3⟩ := h3 z
    have e : KT B S j = 24 := KT_24.mpr z
    rw [e, a1, a2, a3]
    exact ⟨rfl, rfl, rfl⟩
  · have hs : sT B S j < S := by omega
    obtain ⟨a1, a2, a3⟩ := h4 hs
    have hn := sT_nb B S j hs
    have hall := kb_all (B (sT B S j))
    by_cases k19 : kb (B (sT B S j)) = 19
    · have eK : KT B S j = kx (wN B S j) 19 0 := by
        unfold KT
        rw [if_neg z, if_pos k19]
        rfl
      have hk := kx_le (wN B S j) 19 0 (by omega)
      rw [a1, a2, a3, k19, if_pos rfl, if_neg (by omega), eK]
      refine ⟨?_, ?_, ?_⟩
      · unfold tyT tyK
        rw [if_pos rfl, if_neg (by omega), if_pos hk]
      · rw [if_neg (by omega)]
      · unfold kxI kI
        by_cases y : kx (wN B S j) 19 0 = 19
        · rw [if_pos y, if_neg (by omega)]
        · rw [if_neg y, if_pos (by omega)]
    · have eK : KT B S j = kb (B (sT B S j)) := by
        unfold KT
        rw [if_neg z, if_neg k19]
      rw [a1, a2, a3, if_neg k19, eK]
      refine ⟨?_, ?_, ?_⟩
      · rcases hall with q | q | q | q | q | q | q <;> first | omega | (rw [q]; rfl)
      · by_cases k20 : kb (B (sT B S j)) = 20
        · rw [if_pos k20, if_pos k20]
          have hp' := ps_19 hs k20 (Or.inr rfl)
          have hr := rnk_le B 20 (S - sT B S j) (sT B S j)
          congr 1
          refine numR_C B _ _ 0 0 rfl (fun i p1 p2 => ?_)
          have := rnk_in B 20 (S - sT B S j) (sT B S j) i p1 (by omega)
          exact (kb_dig.mp this).1
        · rw [if_neg k20, if_neg k20]
      · unfold kI
        rw [if_neg (by omega)]
def FRn (I J : zI) : Prop := ∀ x y, (x ≠ 52 ∨ y < 8 ∨ 13 < y) → J x y = I x y
def FRf (I J : zI) : Prop := ∀ x y, (x ≠ 52 ∨ y < 8 ∨ 16 < y) → J x y = I x y
theorem FRn.f {I J : zI} (h : FRn I J) : FRf I J := fun x y p => h x y (by omega)
theorem FRf.refl (I : zI) : FRf I I := fun _ _ _ => rfl
theorem FRf.trans {I J K : zI} (h : FRf I J) (h2 : FRf J K) : FRf I K := fun x y p => (h2 x y p).trans (h x y p)
theorem BT.ff {I J : zI} {B : Nat → Nat} {S : Nat} (h : BT I B S) (h1 : FRf I J) : BT J B S := h.cg (h1 _ _ (by omega)) (fun b => h1 _ _ (by omega))
theorem RF.cg {I J : zI} {B : Nat → Nat} {S j : Nat} (h : RF I B S j) (h1 : ∀ y, 8 ≤ y → y ≤ 12 → J 52 y = I 52 y) : RF J B S j := by
  obtain ⟨a, b, c, d, e⟩ := h
  exact ⟨(h1 _ (by omega) (by omega)).trans a, (h1 _ (by omega) (by omega)).trans b, (h1 _ (by omega) (by omega)).trans c, (h1 _ (by omega) (by omega)).trans d, (h1 _ (by omega) (by omega)).trans e⟩
theorem s_nextJ {I : zI} {B : Nat → Nat} {S j : Nat} (L : zL) (hB : BT I B S) (h : RF I B S j) : ∃ J, zcall zZ nX10_next [.ref 52] (hp I L) = some (none, hp J L) ∧ RF J B S (j + 1) ∧ (∀ x y, (x ≠ 52 ∨ y < 8 ∨ 12 < y) → J x y = I x y) := by
  obtain ⟨J, g1, g2, g3⟩ := s_next L hB h.2.1 (ps_le B S (j + 1))
  exact ⟨J, g1, RF_of g2, g3⟩
/-- the fault is set -/
def FL (J : zI) (e s : Nat) : Prop := J 52 14 = nI 1 ∧ J 52 15 = nI e ∧ J 52 16 = nI s
theorem s_flt {I : zI} {B : Nat → Nat} {S j : Nat} (L : zL) (h : RF I B S j) (h14 : I 52 14 = nI 0) (e : Nat) : ∃ J, zcall zZ nX10_faults [.ref 52, .int (nI e)] (hp I L) = some (none, hp J L) ∧ FL J e (sT B S j) ∧ (∀ x y, (x ≠ 52 ∨ y < 14 ∨ 16 < y) → J x y = I x y) := by
  refine ⟨zup (zup (zup I 52 14 (nI 1)) 52 15 (nI e)) 52 16 (nI (sT B S j)), ?_, ⟨?_, ?_, zu_same _ _ _ _⟩, fun x y p => ?_⟩
  · simp (disch := omega) only [c_X10_faults, e_X10_faults_0, e_X10_faults_25, h14, h.1, zu_same, zu_cell, zu_at, Option.bind_some, Option.toList_some, Option.toList_none, List.cons_append, List.nil_append, Option.map_some, cond_true, cond_false, Bool.not_true, Bool.not_false, Bool.true_and, Bool.and_true, Bool.false_and, Bool.and_false, Bool.true_or, Bool.or_true, Bool.false_or, Bool.or_false, Bool.not_not, decide_true, decide_false, Bool.decide_eq_true, Bool.decide_eq_false, qz_0, qz_1, qz_n, qz_n0, qz_n1, qz_t, qz_f, Nat.reduceAdd, q1000000, q0, q1, q2, q3, q4, q5, q6, q7, q8, q9, q10, q11, q12, q13, q14, q15, q16, q18, q19, q20, q21, q22, q23, q24, q25, q26, q27, q28, q29, q30, q31, q32, q38, q44, q45, q48, q57, q58, q59, q60, q63, q64, q97, q122, q126, q127, q128, q255, q256, q300, q580, q600, q1000, nI_add, q_lt_t, q_lt_f, q_eq_t, q_eq_f, q_clamp, q_in_t, q_in_f]
  · rw [zu_at (by omega), zu_at (by omega), zu_same]
  · rw [zu_at (by omega), zu_same]
  · by_cases u : x = 52
    · rw [zu_at (by omega), zu_at (by omega), zu_at (by omega)]
    · rw [zu_cell u, zu_cell u, zu_cell u]
theorem s_flt1 {I : zI} (L : zL) (h14 : I 52 14 = nI 1) (e : Int32) : zcall zZ nX10_faults [.ref 52, .int e] (hp I L) = some (none, hp I L) := by
  simp (disch := omega) only [c_X10_faults, e_X10_faults_0, e_X10_faults_25, h14, Option.bind_some, Option.toList_some, Option.toList_none, List.cons_append, List.nil_append, Option.map_some, cond_true, cond_false, Bool.not_true, Bool.not_false, Bool.true_and, Bool.and_true, Bool.false_and, Bool.and_false, Bool.true_or, Bool.or_true, Bool.false_or, Bool.or_false, Bool.not_not, decide_true, decide_false, Bool.decide_eq_true, Bool.decide_eq_false, qz_0, qz_1, qz_n, qz_n0, qz_n1, qz_t, qz_f, Nat.reduceAdd, q1000000, q0, q1, q2, q3, q4, q5, q6, q7, q8, q9, q10, q11, q12, q13, q14, q15, q16, q18, q19, q20, q21, q22, q23, q24, q25, q26, q27, q28, q29, q30, q31, q32, q38, q44, q45, q48, q57, q58, q59, q60, q63, q64, q97, q122, q126, q127, q128, q255, q256, q300, q580, q600, q1000, nI_add, q_lt_t, q_lt_f, q_eq_t, q_eq_f, q_clamp, q_in_t, q_in_f]
theorem s_need1 {I : zI} (L : zL) (h14 : I 52 14 = nI 1) (b : Bool) : zcall zZ nX10_needs [.ref 52, .int (zbo b)] (hp I L) = some (none, hp I L) := by
  have := s_flt1 L h14 (nI 1)
  cases b with
  | false => simp (disch := omega) only [c_X10_needs, e_X10_needs_0, e_X10_needs_9, e_X10_needs_30, e_X10_needs_20, h14, this, Option.bind_some, Option.toList_some, Option.toList_none, List.cons_append, List.nil_append, Option.map_some, cond_true, cond_false, Bool.not_true, Bool.not_false, Bool.true_and, Bool.and_true, Bool.false_and, Bool.and_false, Bool.true_or, Bool.or_true, Bool.false_or, Bool.or_false, Bool.not_not, decide_true, decide_false, Bool.decide_eq_true, Bool.decide_eq_false, qz_0, qz_1, qz_n, qz_n0, qz_n1, qz_t, qz_f, Nat.reduceAdd, q1000000, q0, q1, q2, q3, q4, q5, q6, q7, q8, q9, q10, q11, q12, q13, q14, q15, q16, q18, q19, q20, q21, q22, q23, q24, q25, q26, q27, q28, q29, q30, q31, q32, q38, q44, q45, q48, q57, q58, q59, q60, q63, q64, q97, q122, q126, q127, q128, q255, q256, q300, q580, q600, q1000, nI_add, q_lt_t, q_lt_f, q_eq_t, q_eq_f, q_clamp, q_in_t, q_in_f]
  | true => simp (disch := omega) only [c_X10_needs, e_X10_needs_0, e_X10_needs_9, e_X10_needs_30, e_X10_needs_20, h14, Option.bind_some, Option.toList_some, Option.toList_none, List.cons_append, List.nil_append, Option.map_some, cond_true, cond_false, Bool.not_true, Bool.not_false, Bool.true_and, Bool.and_true, Bool.false_and, Bool.and_false, Bool.true_or, Bool.or_true, Bool.false_or, Bool.or_false, Bool.not_not, decide_true, decide_false, Bool.decide_eq_true, Bool.decide_eq_false, qz_0, qz_1, qz_n, qz_n0, qz_n1, qz_t, qz_f, Nat.reduceAdd, q1000000, q0, q1, q2, q3, q4, q5, q6, q7, q8, q9, q10, q11, q12, q13, q14, q15, q16, q18, q19, q20, q21, q22, q23, q24, q25, q26, q27, q28, q29, q30, q31, q32, q38, q44, q45, q48, q57, q58, q59, q60, q63, q64, q97, q122, q126, q127, q128, q255, q256, q300, q580, q600, q1000, nI_add, q_lt_t, q_lt_f, q_eq_t, q_eq_f, q_clamp, q_in_t, q_in_f]
theorem s_need_y {I : zI} {B : Nat → Nat} {S j : Nat} (L : zL) (hB : BT I B S) (h : RF I B S j) (h14 : I 52 14 = nI 0) {c : Nat} (h13 : I 52 13 = nI c) : ∃ J, zcall zZ nX10_needs [.ref 52, .int (nI 1)] (hp I L) = some (none, hp J L) ∧ RF J B S (j + 1) ∧ J 52 13 = nI (c + 1) ∧ FRn I J := by
  obtain ⟨J, g1, g2, g3⟩ := s_nextJ L hB h
  have j13 : J 52 13 = nI c := (g3 _ _ (by omega)).trans h13
  refine ⟨zup J 52 13 (nI (c + 1)), ?_, g2.cg (fun y _ _ => zu_at (by omega)), zu_same _ _ _ _, fun x y p => ?_⟩
  · simp (disch := omega) only [c_X10_needs, e_X10_needs_0, e_X10_needs_9, e_X10_needs_30, e_X10_needs_20, h14, g1, j13, Option.bind_some, Option.toList_some, Option.toList_none, List.cons_append, List.nil_append, Option.map_some, cond_true, cond_false, Bool.not_true, Bool.not_false, Bool.true_and, Bool.and_true, Bool.false_and, Bool.and_false, Bool.true_or, Bool.or_true, Bool.false_or, Bool.or_false, Bool.not_not, decide_true, decide_false, Bool.decide_eq_true, Bool.decide_eq_false, qz_0, qz_1, qz_n, qz_n0, qz_n1, qz_t, qz_f, Nat.reduceAdd, q1000000, q0, q1, q2, q3, q4, q5, q6, q7, q8, q9, q10, q11, q12, q13, q14, q15, q16, q18, q19, q20, q21, q22, q23, q24, q25, q26, q27, q28, q29, q30, q31, q32, q38, q44, q45, q48, q57, q58, q59, q60, q63, q64, q97, q122, q126, q127, q128, q255, q256, q300, q580, q600, q1000, nI_add, q_lt_t, q_lt_f, q_eq_t, q_eq_f, q_clamp, q_in_t, q_in_f]
  · rw [← g3 x y (by omega)]
    by_cases u : x = 52
    · rw [zu_at (by omega)]
    · rw [zu_cell u]
theorem s_need_n {I : zI} {B : Nat → Nat} {S j : Nat} (L : zL) (h : RF I B S j) (h14 : I 52 14 = nI 0) : ∃ J, zcall zZ nX10_needs [.ref 52, .int (nI 0)] (hp I L) = some (none, hp J L) ∧ FL J 1 (sT B S j) ∧ FRf I J := by
  obtain ⟨J, g1, g2, g3⟩ := s_flt L h h14 1
  refine ⟨J, ?_, g2, fun x y p => g3 x y (by omega)⟩
  simp (disch := omega) only [c_X10_needs, e_X10_needs_0, e_X10_needs_9, e_X10_needs_30, e_X10_needs_20, g1, g2.1, Option.bind_some, Option.toList_some, Option.toList_none, List.cons_append, List.nil_append, Option.map_some, cond_true, cond_false, Bool.not_true, Bool.not_false, Bool.true_and, Bool.and_true, Bool.false_and, Bool.and_false, Bool.true_or, Bool.or_true, Bool.false_or, Bool.or_false, Bool.not_not, decide_true, decide_false, Bool.decide_eq_true, Bool.decide_eq_false, qz_0, qz_1, qz_n, qz_n0, qz_n1, qz_t, qz_f, Nat.reduceAdd, q1000000, q0, q1, q2, q3, q4, q5, q6, q7, q8, q9, q10, q11, q12, q13, q14, q15, q16, q18, q19, q20, q21, q22, q23, q24, q25, q26, q27, q28, q29, q30, q31, q32, q38, q44, q45, q48, q57, q58, q59, q60, q63, q64, q97, q122, q126, q127, q128, q255, q256, q300, q580, q600, q1000, nI_add, q_lt_t, q_lt_f, q_eq_t, q_eq_f, q_clamp, q_in_t, q_in_f]
theorem s_Mwkd {I : zI} {B : Nat → Nat} {S j : Nat} (L : zL) (h : RF I B S j) : zcall zZ nX10_isWeekday [.ref 52] (hp I L) = some (some (.int (zbo (isW (KT B S j)))), hp I L) := by
  have e12 := h.2.2.2.2
  unfold kI at e12
  unfold isW
  by_cases z : KT B S j < 19
  · rw [if_pos z] at e12
    by_cases y : 12 ≤ KT B S j
    · rw [decide_eq_true z, decide_eq_true y]
      simp (disch := omega) only [c_X10_isWeekday, e_X10_isWeekday_0, e_X10_isWeekday_14, e12, Option.bind_some, Option.toList_some, Option.toList_none, List.cons_append, List.nil_append, Option.map_some, cond_true, cond_false, Bool.not_true, Bool.not_false, Bool.true_and, Bool.and_true, Bool.false_and, Bool.and_false, Bool.true_or, Bool.or_true, Bool.false_or, Bool.or_false, Bool.not_not, decide_true, decide_false, Bool.decide_eq_true, Bool.decide_eq_false, qz_0, qz_1, qz_n, qz_n0, qz_n1, qz_t, qz_f, Nat.reduceAdd, q1000000, q0, q1, q2, q3, q4, q5, q6, q7, q8, q9, q10, q11, q12, q13, q14, q15, q16, q18, q19, q20, q21, q22, q23, q24, q25, q26, q27, q28, q29, q30, q31, q32, q38, q44, q45, q48, q57, q58, q59, q60, q63, q64, q97, q122, q126, q127, q128, q255, q256, q300, q580, q600, q1000, nI_add, q_lt_t, q_lt_f, q_eq_t, q_eq_f, q_clamp, q_in_t, q_in_f]
    · rw [decide_eq_false y]
      simp (disch := omega) only [c_X10_isWeekday, e_X10_isWeekday_0, e_X10_isWeekday_14, e12, Option.bind_some, Option.toList_some, Option.toList_none, List.cons_append, List.nil_append, Option.map_some, cond_true, cond_false, Bool.not_true, Bool.not_false, Bool.true_and, Bool.and_true, Bool.false_and, Bool.and_false, Bool.true_or, Bool.or_true, Bool.false_or, Bool.or_false, Bool.not_not, decide_true, decide_false, Bool.decide_eq_true, Bool.decide_eq_false, qz_0, qz_1, qz_n, qz_n0, qz_n1, qz_t, qz_f, Nat.reduceAdd, q1000000, q0, q1, q2, q3, q4, q5, q6, q7, q8, q9, q10, q11, q12, q13, q14, q15, q16, q18, q19, q20, q21, q22, q23, q24, q25, q26, q27, q28, q29, q30, q31, q32, q38, q44, q45, q48, q57, q58, q59, q60, q63, q64, q97, q122, q126, q127, q128, q255, q256, q300, q580, q600, q1000, nI_add, q_lt_t, q_lt_f, q_eq_t, q_eq_f, q_clamp, q_in_t, q_in_f]
  · rw [if_neg z] at e12
    have hl : (-nI 1 < nI 12) = True := eq_true (by decide +kernel)
    rw [decide_eq_false z, Bool.and_false]
    simp (disch := omega) only [c_X10_isWeekday, e_X10_isWeekday_0, e_X10_isWeekday_14, e12, hl, Option.bind_some, Option.toList_some, Option.toList_none, List.cons_append, List.nil_append, Option.map_some, cond_true, cond_false, Bool.not_true, Bool.not_false, Bool.true_and, Bool.and_true, Bool.false_and, Bool.and_false, Bool.true_or, Bool.or_true, Bool.false_or, Bool.or_false, Bool.not_not, decide_true, decide_false, Bool.decide_eq_true, Bool.decide_eq_false, qz_0, qz_1, qz_n, qz_n0, qz_n1, qz_t, qz_f, Nat.reduceAdd, q1000000, q0, q1, q2, q3, q4, q5, q6, q7, q8, q9, q10, q11, q12, q13, q14, q15, q16, q18, q19, q20, q21, q22, q23, q24, q25, q26, q27, q28, q29, q30, q31, q32, q38, q44, q45, q48, q57, q58, q59, q60, q63, q64, q97, q122, q126, q127, q128, q255, q256, q300, q580, q600, q1000, nI_add, q_lt_t, q_lt_f, q_eq_t, q_eq_f, q_clamp, q_in_t, q_in_f]
