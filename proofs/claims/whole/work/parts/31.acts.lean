/-! an act is noted -/
theorem keeps_loop {L : zL} {A : Nat} (ha : A < 20) : ∀ m k (J : zI), k + m = 6 → J 52 3 = nI A → ∃ J', zrun zZ kX10_keeps (2, [some (.ref 52), some (.int (nI k))], [], hp J L, 0, 0) = some (none, hp J' L, 0, 0) ∧ (∀ t, k ≤ t → t < 6 → J' 55 (6 * A + t) = J 53 (38 + t)) ∧ J' 52 3 = nI (A + 1) ∧ (∀ x y, (x ≠ 55 ∨ y < 6 * A + k) → (x ≠ 52 ∨ y ≠ 3) → J' x y = J x y)
  | 0, k, J, h, hJ => by
    obtain rfl : k = 6 := h
    refine ⟨zup J 52 3 (nI (A + 1)), ?_, fun t h1 h2 => by omega, zu_same _ _ _ _, fun x y g1 g2 => ?_⟩
    · rw [e_X10_keeps_2]
      simp (disch := omega) only [e_X10_keeps_47, hJ, Option.bind_some, Option.toList_some, Option.toList_none, List.cons_append, List.nil_append, Option.map_some, cond_true, cond_false, Bool.not_true, Bool.not_false, Bool.true_and, Bool.and_true, Bool.false_and, Bool.and_false, Bool.true_or, Bool.or_true, Bool.false_or, Bool.or_false, Bool.not_not, decide_true, decide_false, Bool.decide_eq_true, Bool.decide_eq_false, qz_0, qz_1, qz_n, qz_n0, qz_n1, qz_t, qz_f, Nat.reduceAdd, q0, q1, q2, q3, q4, q5, q6, q7, q8, q9, q10, q11, q12, q13, q14, q15, q16, q18, q19, q20, q21, q22, q23, q24, q25, q26, q27, q28, q29, q30, q31, q32, q38, q44, q45, q48, q57, q58, q59, q60, q63, q64, q97, q122, q126, q127, q128, q255, q256, q300, q580, q600, q1000, nI_add, q_lt_t, q_lt_f, q_eq_t, q_eq_f, q_clamp, q_in_t, q_in_f]
    · by_cases q : x = 52
      · rw [zu_at (by omega)]
      · rw [zu_cell q]
  | m + 1, k, J, h, hJ => by
    obtain ⟨J', h1, h2, h3, h4⟩ := keeps_loop (L := L) ha m (k + 1) (zup J 55 (6 * A + k) (J 53 (38 + k))) (by omega) (by rw [zu_cell (by omega)]; exact hJ)
    refine ⟨J', ?_, fun t g1 g2 => ?_, h3, fun x y g1 g2 => ?_⟩
    · rw [e_X10_keeps_2]
      simp (disch := omega) only [hJ, q_mul, Option.bind_some, Option.toList_some, Option.toList_none, List.cons_append, List.nil_append, Option.map_some, cond_true, cond_false, Bool.not_true, Bool.not_false, Bool.true_and, Bool.and_true, Bool.false_and, Bool.and_false, Bool.true_or, Bool.or_true, Bool.false_or, Bool.or_false, Bool.not_not, decide_true, decide_false, Bool.decide_eq_true, Bool.decide_eq_false, qz_0, qz_1, qz_n, qz_n0, qz_n1, qz_t, qz_f, Nat.reduceAdd, q0, q1, q2, q3, q4, q5, q6, q7, q8, q9, q10, q11, q12, q13, q14, q15, q16, q18, q19, q20, q21, q22, q23, q24, q25, q26, q27, q28, q29, q30, q31, q32, q38, q44, q45, q48, q57, q58, q59, q60, q63, q64, q97, q122, q126, q127, q128, q255, q256, q300, q580, q600, q1000, nI_add, q_lt_t, q_lt_f, q_eq_t, q_eq_f, q_clamp, q_in_t, q_in_f]
      exact h1
    · rcases Nat.lt_or_ge k t with q | q
      · rw [h2 t (by omega) g2, zu_cell (by omega)]
      · obtain rfl : t = k := by omega
        rw [h4 55 (6 * A + t) (by omega) (by omega), zu_same]
    · rw [h4 x y (by omega) g2]
      by_cases q : x = 55
      · rw [zu_at (by omega)]
      · rw [zu_cell q]
theorem s_keeps {J : zI} {L : zL} {A : Nat} (ha : A < 20) (hJ : J 52 3 = nI A) : ∃ J', zcall zZ nX10_keeps [.ref 52] (hp J L) = some (none, hp J' L) ∧ (∀ t, t < 6 → J' 55 (6 * A + t) = J 53 (38 + t)) ∧ J' 52 3 = nI (A + 1) ∧ (∀ x y, (x ≠ 55 ∨ y < 6 * A) → (x ≠ 52 ∨ y ≠ 3) → J' x y = J x y) := by
  obtain ⟨J', h1, h2, h3, h4⟩ := keeps_loop (L := L) ha 6 0 J (by omega) hJ
  refine ⟨J', ?_, fun t ht => h2 t (by omega) ht, h3, fun x y g1 g2 => h4 x y (by omega) g2⟩
  simp (disch := omega) only [c_X10_keeps, e_X10_keeps_0, Option.bind_some, Option.toList_some, Option.toList_none, List.cons_append, List.nil_append, Option.map_some, cond_true, cond_false, Bool.not_true, Bool.not_false, Bool.true_and, Bool.and_true, Bool.false_and, Bool.and_false, Bool.true_or, Bool.or_true, Bool.false_or, Bool.or_false, Bool.not_not, decide_true, decide_false, Bool.decide_eq_true, Bool.decide_eq_false, qz_0, qz_1, qz_n, qz_n0, qz_n1, qz_t, qz_f, Nat.reduceAdd, q0, q1, q2, q3, q4, q5, q6, q7, q8, q9, q10, q11, q12, q13, q14, q15, q16, q18, q19, q20, q21, q22, q23, q24, q25, q26, q27, q28, q29, q30, q31, q32, q38, q44, q45, q48, q57, q58, q59, q60, q63, q64, q97, q122, q126, q127, q128, q255, q256, q300, q580, q600, q1000, nI_add, q_lt_t, q_lt_f, q_eq_t, q_eq_f, q_clamp, q_in_t, q_in_f, h1]
theorem s_note {I : zI} {L : zL} {A : Nat} (ha : A < 20) (h9 : I 9 1 = nI A) : zcall zZ nX0_note [.ref 9, .ref 11] (hp I L) = some (none, hp (zup (zcpy I 17 0 10 (A * 6) 6) 9 1 (nI (A + 1))) L) := by
  have e1 : Nat.ble (A * 6 + 6) 120 = true := Nat.ble_eq_true_of_le (by omega)
  have e2 : Nat.ble (0 + 6) 6 = true := rfl
  have e3 : zcpy I 17 0 10 (A * 6) 6 9 1 = nI A := by
    rw [zc_cell (by omega)]
    exact h9
  simp (disch := omega) only [c_X0_note, e_X0_note_0, e_X0_note_40, h9, q_mul, e1, e2, e3, Option.bind_some, Option.toList_some, Option.toList_none, List.cons_append, List.nil_append, Option.map_some, cond_true, cond_false, Bool.not_true, Bool.not_false, Bool.true_and, Bool.and_true, Bool.false_and, Bool.and_false, Bool.true_or, Bool.or_true, Bool.false_or, Bool.or_false, Bool.not_not, decide_true, decide_false, Bool.decide_eq_true, Bool.decide_eq_false, qz_0, qz_1, qz_n, qz_n0, qz_n1, qz_t, qz_f, Nat.reduceAdd, q0, q1, q2, q3, q4, q5, q6, q7, q8, q9, q10, q11, q12, q13, q14, q15, q16, q18, q19, q20, q21, q22, q23, q24, q25, q26, q27, q28, q29, q30, q31, q32, q38, q44, q45, q48, q57, q58, q59, q60, q63, q64, q97, q122, q126, q127, q128, q255, q256, q300, q580, q600, q1000, nI_add, q_lt_t, q_lt_f, q_eq_t, q_eq_f, q_clamp, q_in_t, q_in_f]
/-- both note an act; what the class has done between (J of I) touches neither -/
theorem both_note {I : zI} {L : zL} {N w F T ln A S : Nat} (E : EV I L N w F T ln A S) (hA : A < 20) : ∃ J, zcall zZ nX0_note [.ref 9, .ref 11] (hp I L) = some (none, hp J L) ∧ J 9 1 = nI (A + 1) ∧ (∀ t, t < 6 → J 10 (6 * A + t) = I 17 t) ∧ (∀ x y, (x ≠ 10 ∨ y < 6 * A) → (x ≠ 9 ∨ y ≠ 1) → J x y = I x y) := by
  obtain ⟨D, -, ⟨a1, a2, a3, a4⟩, -, -⟩ := E
  refine ⟨_, s_note hA a2, zu_same _ _ _ _, fun t ht => ?_, fun x y g1 g2 => ?_⟩
  · rw [zu_cell (by omega), zc_in (by omega) (by omega)]
    congr 1
    omega
  · have : zup (zcpy I 17 0 10 (A * 6) 6) 9 1 (nI (A + 1)) x y = zcpy I 17 0 10 (A * 6) 6 x y := by
      rcases g2 with g2 | g2
      · exact zu_cell g2
      · exact zu_at g2
    rw [this]
    rcases g1 with g1 | g1
    · exact zc_cell g1
    · exact zc_out (by omega)
/-! merges -/
theorem mts_symm (I : zI) (t k : Nat) : mts I t k = mts I k t := by
  unfold mts
  rw [show decide (I 15 t = I 15 k) = decide (I 15 k = I 15 t) from decide_eq_decide.mpr eq_comm, show decide (I 16 t = I 16 k) = decide (I 16 k = I 16 t) from decide_eq_decide.mpr eq_comm]
theorem mts_iff {I : zI} {t k : Nat} : mts I t k = true ↔ I 15 t = I 15 k ∧ I 16 t = I 16 k := by
  unfold mts
  rw [Bool.and_eq_true, decide_eq_true_iff, decide_eq_true_iff]
theorem ldF_spec (f : Nat → Bool) : ∀ m j, (ldF f j m = j + m ∨ f (ldF f j m) = true) ∧ ∀ i, j ≤ i → i < ldF f j m → f i = false
  | 0, j => ⟨Or.inl rfl, fun i h1 h2 => by unfold ldF at h2; omega⟩
  | m + 1, j => by
    have ih := ldF_spec f m (j + 1)
    unfold ldF
    cases hf : f j with
    | false =>
      show (ldF f (j + 1) m = j + (m + 1) ∨ f (ldF f (j + 1) m) = true) ∧ ∀ i, j ≤ i → i < ldF f (j + 1) m → f i = false
      refine ⟨ih.1.imp (fun h => by omega) id, fun i h1 h2 => ?_⟩
      rcases Nat.lt_or_ge j i with q | q
      · exact ih.2 i q h2
      · rw [show i = j by omega]
        exact hf
    | true => exact ⟨Or.inr hf, fun i h1 h2 => by have h2 : i < j := h2; omega⟩
def ld (I : zI) (t : Nat) : Nat := ldF (mts I t) 0 t
theorem ld_le (I : zI) (t : Nat) : ld I t ≤ t := by
  have := ldF_le (mts I t) t 0
  unfold ld
  omega
theorem ld_mate (I : zI) (t : Nat) : mts I t (ld I t) = true := by
  rcases (ldF_spec (mts I t) t 0).1 with h | h
  · unfold ld
    rw [h, Nat.zero_add]
    exact mts_self I t
  · exact h
theorem ld_first {I : zI} {t i : Nat} (h : i < ld I t) : mts I t i = false := (ldF_spec (mts I t) t 0).2 i (by omega) h
theorem ld_mates {I : zI} {t k : Nat} (h : mts I t k = true) : ld I t = ld I k := by
  have g : ∀ {t k : Nat}, mts I t k = true → ld I t ≤ ld I k := fun {t k} h => by
    rcases Nat.lt_or_ge (ld I k) (ld I t) with q | q
    · have h1 := ld_first q
      have h2 := mts_iff.mp (ld_mate I k)
      have h3 := mts_iff.mp h
      rw [mts_iff.mpr ⟨h3.1.trans h2.1, h3.2.trans h2.2⟩] at h1
      cases h1
    · exact q
  exact Nat.le_antisymm (g h) (g (by rw [mts_symm]; exact h))
theorem ld_ld (I : zI) (t : Nat) : ld I (ld I t) = ld I t := (ld_mates (ld_mate I t)).symm
theorem onF_congr {f : Nat → Bool} {r r' : Nat → Int32} : ∀ n, (∀ u, u < n → f u = true → r u = r' u) → onF f r n = onF f r' n
  | 0, _ => rfl
  | n + 1, h => by
    rw [onF_s, onF_s, onF_congr n (fun u hu => h u (by omega))]
    cases hf : f n with
    | false => rfl
    | true =>
      rw [h n (by omega) hf]
theorem mts_cg {I J : zI} (h : ∀ a b, 11 ≤ a → a ≤ 16 → J a b = I a b) (t k : Nat) : mts J t k = mts I t k := by
  unfold mts
  rw [h 15 t (by omega) (by omega), h 15 k (by omega) (by omega), h 16 t (by omega) (by omega), h 16 k (by omega) (by omega)]
theorem ld_cg {I J : zI} (h : ∀ a b, 11 ≤ a → a ≤ 16 → J a b = I a b) (t : Nat) : ld J t = ld I t := by
  unfold ld
  rw [show mts J t = mts I t from funext (mts_cg h t)]
/-- what a train runs by when all are merged -/
def mgF (I : zI) (T t : Nat) : Int32 := if ld I t = t then onF (mts I t) (I 17) T else nI 0
theorem mgF_sub {I : zI} {N T : Nat} (h : ∀ t, t < T → sub N (I 17 t)) (t : Nat) : sub N (mgF I T t) := by
  unfold mgF
  split
  · exact onF_sub _ T h
  · exact sub_0 N
/-- the class: from train k on; J is I but for what runs ahead of k -/
theorem mergesX_loop {I : zI} {L : zL} {N w F T ln : Nat} (D : DK I L N w F T ln) : ∀ m k (J : zI), k + m = T → DK J L N w F T ln ∨ True → (∀ a b, a ≠ 17 → J a b = I a b) → (∀ t, t < k → J 17 t = mgF I T t) → (∀ t, k ≤ t → J 17 t = I 17 t) → ∃ J', zrun zZ kX9_merges (43, [some (.ref 0), some (.int (nI (cnt (fun t => !decide (mgF I T t = I 17 t)) k))), some (.int (nI k)), none], [], hp J L, 0, 0) = some (some (.int (nI (cnt (fun t => !decide (mgF I T t = I 17 t)) T))), hp J' L, 0, 0) ∧ (∀ a b, a ≠ 17 → J' a b = I a b) ∧ (∀ t, t < T → J' 17 t = mgF I T t) ∧ (∀ t, T ≤ t → J' 17 t = I 17 t)
  | 0, k, J, h, _, h1, h2, h3 => by
    have hb := D.b
    obtain rfl : k = T := h
    refine ⟨J, ?_, h1, h2, h3⟩
    rw [e_X9_merges_43]
    simp (disch := omega) only [h1, D.x.2.2.2.1, Option.bind_some, Option.toList_some, Option.toList_none, List.cons_append, List.nil_append, Option.map_some, cond_true, cond_false, Bool.not_true, Bool.not_false, Bool.true_and, Bool.and_true, Bool.false_and, Bool.and_false, Bool.true_or, Bool.or_true, Bool.false_or, Bool.or_false, Bool.not_not, decide_true, decide_false, Bool.decide_eq_true, Bool.decide_eq_false, qz_0, qz_1, qz_n, qz_n0, qz_n1, qz_t, qz_f, Nat.reduceAdd, q0, q1, q2, q3, q4, q5, q6, q7, q8, q9, q10, q11, q12, q13, q14, q15, q16, q18, q19, q20, q21, q22, q23, q24, q25, q26, q27, q28, q29, q30, q31, q32, q38, q44, q45, q48, q57, q58, q59, q60, q63, q64, q97, q122, q126, q127, q128, q255, q256, q300, q580, q600, q1000, nI_add, q_lt_t, q_lt_f, q_eq_t, q_eq_f, q_clamp, q_in_t, q_in_f]
  | m + 1, k, J, h, _, h1, h2, h3 => by
    have hb := D.b
    have hk : k < T := by omega
    obtain ⟨J', g1, g2, g3, g4⟩ := mergesX_loop D m (k + 1) (zup J 17 k (mgF I T k)) (by omega) (Or.inr trivial) (fun a b q => by rw [zu_cell q]; exact h1 a b q) (fun t ht => by
      by_cases q : t = k
      · rw [q, zu_same]
      · rw [zu_at q]
        exact h2 t (by omega)) (fun t ht => by rw [zu_at (by omega)]; exact h3 t (by omega))
    refine ⟨J', ?_, g2, g3, g4⟩
    rw [show cnt (fun t => !decide (mgF I T t = I 17 t)) (k + 1) = cnt (fun t => !decide (mgF I T t = I 17 t)) k + (!decide (mgF I T k = I 17 k)).toNat from rfl] at g1
    have hc := cnt_le (fun t => !decide (mgF I T t = I 17 t)) k
    have cg : ∀ a b, 11 ≤ a → a ≤ 16 → J a b = I a b := fun a b _ _ => h1 a b (by omega)
    have el : zcall zZ nX1_leader [.ref 11, .int (nI k)] (hp J L) = some (some (.int (nI (ld I k))), hp J L) := by
      rw [s_leader (by omega)]
      show some (some (Value.int (nI (ld J k))), hp J L) = _
      rw [ld_cg cg]
    have e9 : J 11 9 = nI T := (h1 11 9 (by omega)).trans D.x.2.2.2.1
    have hld := ld_le I k
    rw [e_X9_merges_43]
    by_cases q : ld I k = k
    · have em : mgF I T k = onF (mts I k) (I 17) T := if_pos q
      have ej : zcall zZ nX1_jointDays [.ref 11, .int (nI k)] (hp J L) = some (some (.int (mgF I T k)), hp J L) := by
        have hx : ∀ m j, j + m = T → zrun zZ kX1_jointDays (4, [some (.ref 11), some (.int (nI k)), some (.int (onF (mts I k) (I 17) j)), some (.int (nI j))], [], hp J L, 0, 0) = some (some (.int (mgF I T k)), hp J L, 0, 0) := by
          intro m
          induction m with
          | zero =>
            intro j hj
            obtain rfl : j = T := by omega
            rw [e_X1_jointDays_4 hd11]
            simp (disch := omega) only [e9, Option.bind_some, Option.toList_some, Option.toList_none, List.cons_append, List.nil_append, Option.map_some, cond_true, cond_false, Bool.not_true, Bool.not_false, Bool.true_and, Bool.and_true, Bool.false_and, Bool.and_false, Bool.true_or, Bool.or_true, Bool.false_or, Bool.or_false, Bool.not_not, decide_true, decide_false, Bool.decide_eq_true, Bool.decide_eq_false, qz_0, qz_1, qz_n, qz_n0, qz_n1, qz_t, qz_f, Nat.reduceAdd, q0, q1, q2, q3, q4, q5, q6, q7, q8, q9, q10, q11, q12, q13, q14, q15, q16, q18, q19, q20, q21, q22, q23, q24, q25, q26, q27, q28, q29, q30, q31, q32, q38, q44, q45, q48, q57, q58, q59, q60, q63, q64, q97, q122, q126, q127, q128, q255, q256, q300, q580, q600, q1000, nI_add, q_lt_t, q_lt_f, q_eq_t, q_eq_f, q_clamp, q_in_t, q_in_f, em]
          | succ m ih =>
            intro j hj
            have ih := ih (j + 1) (by omega)
            rw [onF_s] at ih
            rw [e_X1_jointDays_4 hd11]
            have es : zcall zZ nX1_areMates [.ref 11, .int (nI k), .int (nI j)] (hp J L) = some (some (.int (zbo (mts I k j))), hp J L) := by
              rw [s_mates (by omega) (by omega), mts_cg cg]
            cases h2 : mts I k j with
            | false =>
              rw [h2] at ih
              simp (disch := omega) only [c_X1_jointDays hd11, e_X1_jointDays_0 hd11, e_X1_jointDays_18 hd11, e_X1_jointDays_30 hd11, e9, es, h2, Option.bind_some, Option.toList_some, Option.toList_none, List.cons_append, List.nil_append, Option.map_some, cond_true, cond_false, Bool.not_true, Bool.not_false, Bool.true_and, Bool.and_true, Bool.false_and, Bool.and_false, Bool.true_or, Bool.or_true, Bool.false_or, Bool.or_false, Bool.not_not, decide_true, decide_false, Bool.decide_eq_true, Bool.decide_eq_false, qz_0, qz_1, qz_n, qz_n0, qz_n1, qz_t, qz_f, Nat.reduceAdd, q0, q1, q2, q3, q4, q5, q6, q7, q8, q9, q10, q11, q12, q13, q14, q15, q16, q18, q19, q20, q21, q22, q23, q24, q25, q26, q27, q28, q29, q30, q31, q32, q38, q44, q45, q48, q57, q58, q59, q60, q63, q64, q97, q122, q126, q127, q128, q255, q256, q300, q580, q600, q1000, nI_add, q_lt_t, q_lt_f, q_eq_t, q_eq_f, q_clamp, q_in_t, q_in_f]
              exact ih
            | true =>
              rw [h2] at ih
              have hkj : k ≤ j := by
                rcases Nat.lt_or_ge j k with z | z
                · rw [ld_first (by omega)] at h2
                  cases h2
                · exact z
              simp (disch := omega) only [c_X1_jointDays hd11, e_X1_jointDays_0 hd11, e_X1_jointDays_18 hd11, e_X1_jointDays_30 hd11, e9, es, h2, h3 j hkj, Option.bind_some, Option.toList_some, Option.toList_none, List.cons_append, List.nil_append, Option.map_some, cond_true, cond_false, Bool.not_true, Bool.not_false, Bool.true_and, Bool.and_true, Bool.false_and, Bool.and_false, Bool.true_or, Bool.or_true, Bool.false_or, Bool.or_false, Bool.not_not, decide_true, decide_false, Bool.decide_eq_true, Bool.decide_eq_false, qz_0, qz_1, qz_n, qz_n0, qz_n1, qz_t, qz_f, Nat.reduceAdd, q0, q1, q2, q3, q4, q5, q6, q7, q8, q9, q10, q11, q12, q13, q14, q15, q16, q18, q19, q20, q21, q22, q23, q24, q25, q26, q27, q28, q29, q30, q31, q32, q38, q44, q45, q48, q57, q58, q59, q60, q63, q64, q97, q122, q126, q127, q128, q255, q256, q300, q580, q600, q1000, nI_add, q_lt_t, q_lt_f, q_eq_t, q_eq_f, q_clamp, q_in_t, q_in_f]
              exact ih
        have hx := hx T 0 (by omega)
        rw [show onF (mts I k) (I 17) 0 = nI 0 from rfl] at hx
        simp (disch := omega) only [c_X1_jointDays hd11, e_X1_jointDays_0 hd11, e_X1_jointDays_18 hd11, e_X1_jointDays_30 hd11, Option.bind_some, Option.toList_some, Option.toList_none, List.cons_append, List.nil_append, Option.map_some, cond_true, cond_false, Bool.not_true, Bool.not_false, Bool.true_and, Bool.and_true, Bool.false_and, Bool.and_false, Bool.true_or, Bool.or_true, Bool.false_or, Bool.or_false, Bool.not_not, decide_true, decide_false, Bool.decide_eq_true, Bool.decide_eq_false, qz_0, qz_1, qz_n, qz_n0, qz_n1, qz_t, qz_f, Nat.reduceAdd, q0, q1, q2, q3, q4, q5, q6, q7, q8, q9, q10, q11, q12, q13, q14, q15, q16, q18, q19, q20, q21, q22, q23, q24, q25, q26, q27, q28, q29, q30, q31, q32, q38, q44, q45, q48, q57, q58, q59, q60, q63, q64, q97, q122, q126, q127, q128, q255, q256, q300, q580, q600, q1000, nI_add, q_lt_t, q_lt_f, q_eq_t, q_eq_f, q_clamp, q_in_t, q_in_f, hx]
      by_cases p : mgF I T k = I 17 k
      · rw [decide_eq_true p] at g1
        have p' : decide (mgF I T k = I 17 k) = true := decide_eq_true p
        simp (disch := omega) only [e_X9_merges_62, e_X9_merges_78, e_X9_merges_74, e_X9_merges_95, e9, el, q, ej, h3 k (Nat.le_refl k), p', Option.bind_some, Option.toList_some, Option.toList_none, List.cons_append, List.nil_append, Option.map_some, cond_true, cond_false, Bool.not_true, Bool.not_false, Bool.true_and, Bool.and_true, Bool.false_and, Bool.and_false, Bool.true_or, Bool.or_true, Bool.false_or, Bool.or_false, Bool.not_not, decide_true, decide_false, Bool.decide_eq_true, Bool.decide_eq_false, qz_0, qz_1, qz_n, qz_n0, qz_n1, qz_t, qz_f, Nat.reduceAdd, q0, q1, q2, q3, q4, q5, q6, q7, q8, q9, q10, q11, q12, q13, q14, q15, q16, q18, q19, q20, q21, q22, q23, q24, q25, q26, q27, q28, q29, q30, q31, q32, q38, q44, q45, q48, q57, q58, q59, q60, q63, q64, q97, q122, q126, q127, q128, q255, q256, q300, q580, q600, q1000, nI_add, q_lt_t, q_lt_f, q_eq_t, q_eq_f, q_clamp, q_in_t, q_in_f]
        exact g1
      · rw [decide_eq_false p] at g1
        have p' : decide (mgF I T k = I 17 k) = false := decide_eq_false p
        simp (disch := omega) only [e_X9_merges_62, e_X9_merges_78, e_X9_merges_74, e_X9_merges_95, e9, el, q, ej, h3 k (Nat.le_refl k), p', Option.bind_some, Option.toList_some, Option.toList_none, List.cons_append, List.nil_append, Option.map_some, cond_true, cond_false, Bool.not_true, Bool.not_false, Bool.true_and, Bool.and_true, Bool.false_and, Bool.and_false, Bool.true_or, Bool.or_true, Bool.false_or, Bool.or_false, Bool.not_not, decide_true, decide_false, Bool.decide_eq_true, Bool.decide_eq_false, qz_0, qz_1, qz_n, qz_n0, qz_n1, qz_t, qz_f, Nat.reduceAdd, q0, q1, q2, q3, q4, q5, q6, q7, q8, q9, q10, q11, q12, q13, q14, q15, q16, q18, q19, q20, q21, q22, q23, q24, q25, q26, q27, q28, q29, q30, q31, q32, q38, q44, q45, q48, q57, q58, q59, q60, q63, q64, q97, q122, q126, q127, q128, q255, q256, q300, q580, q600, q1000, nI_add, q_lt_t, q_lt_f, q_eq_t, q_eq_f, q_clamp, q_in_t, q_in_f]
        exact g1
    · have em : mgF I T k = nI 0 := if_neg q
      rw [em] at g1
      by_cases p : nI 0 = I 17 k
      · rw [decide_eq_true p] at g1
        have p' : decide (nI 0 = I 17 k) = true := decide_eq_true p
        simp (disch := omega) only [e_X9_merges_62, e_X9_merges_78, e_X9_merges_74, e_X9_merges_95, e9, el, h3 k (Nat.le_refl k), p', Option.bind_some, Option.toList_some, Option.toList_none, List.cons_append, List.nil_append, Option.map_some, cond_true, cond_false, Bool.not_true, Bool.not_false, Bool.true_and, Bool.and_true, Bool.false_and, Bool.and_false, Bool.true_or, Bool.or_true, Bool.false_or, Bool.or_false, Bool.not_not, decide_true, decide_false, Bool.decide_eq_true, Bool.decide_eq_false, qz_0, qz_1, qz_n, qz_n0, qz_n1, qz_t, qz_f, Nat.reduceAdd, q0, q1, q2, q3, q4, q5, q6, q7, q8, q9, q10, q11, q12, q13, q14, q15, q16, q18, q19, q20, q21, q22, q23, q24, q25, q26, q27, q28, q29, q30, q31, q32, q38, q44, q45, q48, q57, q58, q59, q60, q63, q64, q97, q122, q126, q127, q128, q255, q256, q300, q580, q600, q1000, nI_add, q_lt_t, q_lt_f, q_eq_t, q_eq_f, q_clamp, q_in_t, q_in_f]
        exact g1
      · rw [decide_eq_false p] at g1
        have p' : decide (nI 0 = I 17 k) = false := decide_eq_false p
        simp (disch := omega) only [e_X9_merges_62, e_X9_merges_78, e_X9_merges_74, e_X9_merges_95, e9, el, h3 k (Nat.le_refl k), p', Option.bind_some, Option.toList_some, Option.toList_none, List.cons_append, List.nil_append, Option.map_some, cond_true, cond_false, Bool.not_true, Bool.not_false, Bool.true_and, Bool.and_true, Bool.false_and, Bool.and_false, Bool.true_or, Bool.or_true, Bool.false_or, Bool.or_false, Bool.not_not, decide_true, decide_false, Bool.decide_eq_true, Bool.decide_eq_false, qz_0, qz_1, qz_n, qz_n0, qz_n1, qz_t, qz_f, Nat.reduceAdd, q0, q1, q2, q3, q4, q5, q6, q7, q8, q9, q10, q11, q12, q13, q14, q15, q16, q18, q19, q20, q21, q22, q23, q24, q25, q26, q27, q28, q29, q30, q31, q32, q38, q44, q45, q48, q57, q58, q59, q60, q63, q64, q97, q122, q126, q127, q128, q255, q256, q300, q580, q600, q1000, nI_add, q_lt_t, q_lt_f, q_eq_t, q_eq_f, q_clamp, q_in_t, q_in_f]
        exact g1
