/-! signs of the tape -/
def kb (c : Nat) : Nat := if 97 ≤ c ∧ c ≤ 122 then 19 else if 48 ≤ c ∧ c ≤ 57 then 20 else if c = 10 ∨ c = 32 then 26 else if c = 45 then 23 else if c = 58 then 22 else if c = 59 then 21 else 25
def BT (I : zI) (B : Nat → Nat) (S : Nat) : Prop := S ≤ 600 ∧ True ∧ I 52 5 = nI S ∧ ∀ i, i < S → B i < 256 ∧ I 56 i = nI (B i) ∧ True
theorem TP.bt {I : zI} {S : Nat} (h : TP I S) : ∃ B, BT I B S ∧ I 3 1 = nI S ∧ ∀ i, i < S → B i < 256 ∧ I 4 i = sby (B i) := by
  obtain ⟨h1, h2, h3, h4⟩ := h
  have e : ∀ i, i < S → Classical.epsilon (fun c => c < 256 ∧ I 56 i = nI c ∧ I 4 i = sby c) < 256 ∧ I 56 i = nI (Classical.epsilon (fun c => c < 256 ∧ I 56 i = nI c ∧ I 4 i = sby c)) ∧ I 4 i = sby (Classical.epsilon (fun c => c < 256 ∧ I 56 i = nI c ∧ I 4 i = sby c)) := fun i hi => Classical.epsilon_spec (p := fun c => c < 256 ∧ I 56 i = nI c ∧ I 4 i = sby c) (h4 i hi)
  exact ⟨fun i => Classical.epsilon (fun c => c < 256 ∧ I 56 i = nI c ∧ I 4 i = sby c), ⟨h1, trivial, h3, fun i hi => ⟨(e i hi).1, (e i hi).2.1, trivial⟩⟩, h2, fun i hi => ⟨(e i hi).1, (e i hi).2.2⟩⟩
theorem BT.cg {I J : zI} {B : Nat → Nat} {S : Nat} (h : BT I B S) (h2 : J 52 5 = I 52 5) (h4 : ∀ b, J 56 b = I 56 b) : BT J B S := by
  obtain ⟨a, b, c, d⟩ := h
  refine ⟨a, b, h2.trans c, fun i hi => ?_⟩
  rw [h4]
  exact d i hi
/-- blanks are passed over -/
def skp (B : Nat → Nat) : Nat → Nat → Nat
  | 0, p => p
  | m + 1, p => if kb (B p) = 26 then skp B m (p + 1) else p
/-- signs of one kind are passed over -/
def rnk (B : Nat → Nat) (k : Nat) : Nat → Nat → Nat
  | 0, p => p
  | m + 1, p => if kb (B p) = k then rnk B k m (p + 1) else p
theorem skp_le (B : Nat → Nat) : ∀ m p, p ≤ skp B m p ∧ skp B m p ≤ p + m
  | 0, p => ⟨Nat.le_refl p, Nat.le_refl p⟩
  | m + 1, p => by
    have := skp_le B m (p + 1)
    unfold skp
    by_cases h : kb (B p) = 26
    · rw [if_pos h]
      omega
    · rw [if_neg h]
      omega
theorem rnk_le (B : Nat → Nat) (k : Nat) : ∀ m p, p ≤ rnk B k m p ∧ rnk B k m p ≤ p + m
  | 0, p => ⟨Nat.le_refl p, Nat.le_refl p⟩
  | m + 1, p => by
    have := rnk_le B k m (p + 1)
    unfold rnk
    by_cases h : kb (B p) = k
    · rw [if_pos h]
      omega
    · rw [if_neg h]
      omega
theorem skp_end (B : Nat → Nat) : ∀ m p, skp B m p < p + m → kb (B (skp B m p)) ≠ 26
  | 0, p, h => by
    have h : p < p := h
    omega
  | m + 1, p, h => by
    unfold skp at h ⊢
    by_cases z : kb (B p) = 26
    · rw [if_pos z] at h ⊢
      exact skp_end B m (p + 1) (by omega)
    · rw [if_neg z]
      exact z
theorem rnk_end (B : Nat → Nat) (k : Nat) : ∀ m p, rnk B k m p < p + m → kb (B (rnk B k m p)) ≠ k
  | 0, p, h => by
    have h : p < p := h
    omega
  | m + 1, p, h => by
    unfold rnk at h ⊢
    by_cases z : kb (B p) = k
    · rw [if_pos z] at h ⊢
      exact rnk_end B k m (p + 1) (by omega)
    · rw [if_neg z]
      exact z
theorem rnk_in (B : Nat → Nat) (k : Nat) : ∀ m p i, p ≤ i → i < rnk B k m p → kb (B i) = k
  | 0, p, i, h1, h2 => by
    have h2 : i < p := h2
    omega
  | m + 1, p, i, h1, h2 => by
    unfold rnk at h2
    by_cases z : kb (B p) = k
    · rw [if_pos z] at h2
      by_cases y : i = p
      · rw [y]
        exact z
      · exact rnk_in B k m (p + 1) i (by omega) h2
    · rw [if_neg z] at h2
      omega
theorem kb_let {c : Nat} : kb c = 19 ↔ (97 ≤ c ∧ c ≤ 122) := by
  unfold kb
  repeat (first | omega | split)
theorem kb_dig {c : Nat} : kb c = 20 ↔ (48 ≤ c ∧ c ≤ 57) := by
  unfold kb
  repeat (first | omega | split)
theorem kb_blk {c : Nat} : kb c = 26 ↔ (c = 10 ∨ c = 32) := by
  unfold kb
  repeat (first | omega | split)
theorem kb_21 {c : Nat} : kb c = 21 ↔ c = 59 := by
  unfold kb
  repeat (first | omega | split)
theorem kb_22 {c : Nat} : kb c = 22 ↔ c = 58 := by
  unfold kb
  repeat (first | omega | split)
theorem kb_23 {c : Nat} : kb c = 23 ↔ c = 45 := by
  unfold kb
  repeat (first | omega | split)
theorem kb_all (c : Nat) : kb c = 19 ∨ kb c = 20 ∨ kb c = 26 ∨ kb c = 23 ∨ kb c = 22 ∨ kb c = 21 ∨ kb c = 25 := by
  unfold kb
  repeat (first | omega | split)
/-- where a token that is looked for from p on begins, and where it ends -/
def tS (B : Nat → Nat) (S p : Nat) : Nat := skp B (S - p) p
def tE (B : Nat → Nat) (S p : Nat) : Nat := if tS B S p = S then S else if kb (B (tS B S p)) = 19 ∨ kb (B (tS B S p)) = 20 then rnk B (kb (B (tS B S p))) (S - tS B S p) (tS B S p) else tS B S p + 1
def tyK (k : Nat) : Nat := if k = 19 then 1 else if k = 20 then 2 else if k = 25 then 4 else 3
def let' (B : Nat → Nat) (s e : Nat) : List Nat := (List.range (e - s)).map (fun i => B (s + i))
def numR (B : Nat → Nat) : Nat → Nat → Nat → Nat
  | 0, _, v => v
  | m + 1, p, v => numR B m (p + 1) (min 99999 (10 * v + B p - 48))
theorem tS_le (B : Nat → Nat) {S p : Nat} (h : p ≤ S) : p ≤ tS B S p ∧ tS B S p ≤ S := by
  have := skp_le B (S - p) p
  unfold tS
  omega
/-! the reference -/
theorem s_isAt {I : zI} {B : Nat → Nat} {S : Nat} (L : zL) (hB : BT I B S) {p : Nat} (hp8 : I 52 8 = nI p) (hpS : p ≤ S) {a b : Nat} (ha : a < 300) (hb : b < 300) : zcall zZ nX10_isAt [.ref 52, .int (nI a), .int (nI b)] (hp I L) = some (some (.int (zbo (decide (p < S) && (decide (a ≤ B p) && decide (B p ≤ b))))), hp I L) := by
  obtain ⟨b1, b2, b3, b4⟩ := hB
  by_cases h : p < S
  · obtain ⟨c1, c2, c3⟩ := b4 p h
    have hin : zcall zZ nX10_in [.long (nI (B p)).toInt64, .long (nI a).toInt64, .long (nI b).toInt64] (hp I L) = some (some (.int (zbo (decide (a ≤ B p) && decide (B p ≤ b)))), hp I L) := by
      rw [s_in, nI_l (by omega), nI_l (by omega), nI_l (by omega)]
      rw [show decide (lN a ≤ lN (B p)) = decide (a ≤ B p) from decide_eq_decide.mpr (lN_le (by omega) (by omega)), show decide (lN (B p) ≤ lN b) = decide (B p ≤ b) from decide_eq_decide.mpr (lN_le (by omega) (by omega))]
    rw [decide_eq_true h, Bool.true_and]
    cases z : (decide (a ≤ B p) && decide (B p ≤ b)) with
    | false =>
      rw [z] at hin
      simp (disch := omega) only [c_X10_isAt, e_X10_isAt_0, e_X10_isAt_35, e_X10_isAt_28, e_X10_isAt_36, hp8, b3, c2, hin, Option.bind_some, Option.toList_some, Option.toList_none, List.cons_append, List.nil_append, Option.map_some, cond_true, cond_false, Bool.not_true, Bool.not_false, Bool.true_and, Bool.and_true, Bool.false_and, Bool.and_false, Bool.true_or, Bool.or_true, Bool.false_or, Bool.or_false, Bool.not_not, decide_true, decide_false, Bool.decide_eq_true, Bool.decide_eq_false, qz_0, qz_1, qz_n, qz_n0, qz_n1, qz_t, qz_f, Nat.reduceAdd, q1000000, q0, q1, q2, q3, q4, q5, q6, q7, q8, q9, q10, q11, q12, q13, q14, q15, q16, q18, q19, q20, q21, q22, q23, q24, q25, q26, q27, q28, q29, q30, q31, q32, q38, q44, q45, q48, q57, q58, q59, q60, q63, q64, q97, q122, q126, q127, q128, q255, q256, q300, q580, q600, q1000, nI_add, q_lt_t, q_lt_f, q_eq_t, q_eq_f, q_clamp, q_in_t, q_in_f]
    | true =>
      rw [z] at hin
      simp (disch := omega) only [c_X10_isAt, e_X10_isAt_0, e_X10_isAt_35, e_X10_isAt_28, e_X10_isAt_36, hp8, b3, c2, hin, Option.bind_some, Option.toList_some, Option.toList_none, List.cons_append, List.nil_append, Option.map_some, cond_true, cond_false, Bool.not_true, Bool.not_false, Bool.true_and, Bool.and_true, Bool.false_and, Bool.and_false, Bool.true_or, Bool.or_true, Bool.false_or, Bool.or_false, Bool.not_not, decide_true, decide_false, Bool.decide_eq_true, Bool.decide_eq_false, qz_0, qz_1, qz_n, qz_n0, qz_n1, qz_t, qz_f, Nat.reduceAdd, q1000000, q0, q1, q2, q3, q4, q5, q6, q7, q8, q9, q10, q11, q12, q13, q14, q15, q16, q18, q19, q20, q21, q22, q23, q24, q25, q26, q27, q28, q29, q30, q31, q32, q38, q44, q45, q48, q57, q58, q59, q60, q63, q64, q97, q122, q126, q127, q128, q255, q256, q300, q580, q600, q1000, nI_add, q_lt_t, q_lt_f, q_eq_t, q_eq_f, q_clamp, q_in_t, q_in_f]
  · rw [decide_eq_false h, Bool.false_and]
    simp (disch := omega) only [c_X10_isAt, e_X10_isAt_0, e_X10_isAt_35, e_X10_isAt_28, e_X10_isAt_36, hp8, b3, Option.bind_some, Option.toList_some, Option.toList_none, List.cons_append, List.nil_append, Option.map_some, cond_true, cond_false, Bool.not_true, Bool.not_false, Bool.true_and, Bool.and_true, Bool.false_and, Bool.and_false, Bool.true_or, Bool.or_true, Bool.false_or, Bool.or_false, Bool.not_not, decide_true, decide_false, Bool.decide_eq_true, Bool.decide_eq_false, qz_0, qz_1, qz_n, qz_n0, qz_n1, qz_t, qz_f, Nat.reduceAdd, q1000000, q0, q1, q2, q3, q4, q5, q6, q7, q8, q9, q10, q11, q12, q13, q14, q15, q16, q18, q19, q20, q21, q22, q23, q24, q25, q26, q27, q28, q29, q30, q31, q32, q38, q44, q45, q48, q57, q58, q59, q60, q63, q64, q97, q122, q126, q127, q128, q255, q256, q300, q580, q600, q1000, nI_add, q_lt_t, q_lt_f, q_eq_t, q_eq_f, q_clamp, q_in_t, q_in_f]
