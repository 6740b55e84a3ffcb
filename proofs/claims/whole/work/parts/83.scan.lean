/-! which word of the lexicon -/
def kpl : List Nat := [1, 6, 11, 17, 23, 29, 32, 38, 44, 49, 52, 56, 61, 64, 67, 70, 73, 76, 79, 82]
def kp (k : Nat) : Nat := kpl.getD k 82
theorem kp_ok : ∀ k, k < 19 → kp k + (kw k).length < 82 ∧ lxc (kp k + (kw k).length) = 32 ∧ kp (k + 1) = kp k + (kw k).length + 1 := by decide +kernel
theorem kp_let : ∀ k, k < 19 → (List.range (kw k).length).all (fun i => decide (lxc (kp k + i) = (kw k).getD i 0) && decide (lxc (kp k + i) ≠ 32)) = true := by decide +kernel
theorem kp_l {k i : Nat} (hk : k < 19) (hi : i < (kw k).length) : lxc (kp k + i) = (kw k).getD i 0 ∧ lxc (kp k + i) ≠ 32 := by
  have := List.all_eq_true.mp (kp_let k hk) i (List.mem_range.mpr hi)
  simpa using this
def kx (ws : List Nat) : Nat → Nat → Nat
  | 0, _ => 19
  | m + 1, k => if kw k = ws then k else kx ws m (k + 1)
theorem kx_le (ws : List Nat) : ∀ m k, k + m = 19 → kx ws m k ≤ 19
  | 0, k, _ => Nat.le_refl 19
  | m + 1, k, h => by
    unfold kx
    by_cases z : kw k = ws
    · rw [if_pos z]
      omega
    · rw [if_neg z]
      exact kx_le ws m (k + 1) (by omega)
def kxI (k : Nat) : Int32 := if k = 19 then -nI 1 else nI k
theorem let_len (B : Nat → Nat) (s e : Nat) : (let' B s e).length = e - s := by
  unfold let'
  rw [List.length_map, List.length_range]
theorem let_get (B : Nat → Nat) {s e i : Nat} (h : i < e - s) : (let' B s e).getD i 0 = B (s + i) := by
  unfold let'
  rw [List.getD_eq_getElem?_getD, List.getElem?_map, List.getElem?_range h]
  rfl
theorem list_eq {a b : List Nat} (h : a.length = b.length) (h2 : ∀ i, i < a.length → a.getD i 0 = b.getD i 0) : a = b := by
  apply List.ext_getElem h
  intro i h1 h3
  have := h2 i h1
  rw [List.getD_eq_getElem?_getD, List.getD_eq_getElem?_getD, List.getElem?_eq_getElem h1, List.getElem?_eq_getElem h3] at this
  exact this
def cmB (k : Nat) (B : Nat → Nat) (s : Nat) : Nat → Nat → Bool
  | 0, _ => true
  | m + 1, i => decide ((kw k).getD i 0 = B (s + i)) && cmB k B s m (i + 1)
theorem cmB_all {k : Nat} {B : Nat → Nat} {s : Nat} : ∀ m i, cmB k B s m i = true ↔ ∀ t, i ≤ t → t < i + m → (kw k).getD t 0 = B (s + t)
  | 0, i => ⟨fun _ t h1 h2 => by omega, fun _ => rfl⟩
  | m + 1, i => by
    unfold cmB
    rw [Bool.and_eq_true, decide_eq_true_iff, cmB_all m (i + 1)]
    constructor
    · rintro ⟨h1, h2⟩ t p1 p2
      by_cases z : t = i
      · rw [z]
        exact h1
      · exact h2 t (by omega) (by omega)
    · intro h
      exact ⟨h i (by omega) (by omega), fun t p1 p2 => h t (by omega) (by omega)⟩
theorem cmB_eq {k : Nat} {B : Nat → Nat} {s e : Nat} : decide (kw k = let' B s e) = (decide ((kw k).length = e - s) && cmB k B s (kw k).length 0) := by
  rw [Bool.eq_iff_iff, decide_eq_true_iff, Bool.and_eq_true, decide_eq_true_iff, cmB_all]
  constructor
  · intro h
    have hl : (kw k).length = e - s := by rw [h, let_len]
    refine ⟨hl, fun t _ p => ?_⟩
    rw [← let_get B (e := e) (by omega), ← h]
  · rintro ⟨h1, h2⟩
    refine list_eq (by rw [h1, let_len]) (fun i hi => ?_)
    rw [h2 i (by omega) (by omega), let_get B (by omega)]
theorem wh_len {I : zI} (L : zL) {k : Nat} (hk : k < 19) (x1 : Int32) : ∀ m i, i + m = (kw k).length → zrun zZ kX10_wordHere (15, [some (.ref 52), some (.int x1), some (.int (nI (kp k))), some (.int (nI (kp k + i))), none, none], [], hp I L, 0, 0) = zrun zZ kX10_wordHere (15, [some (.ref 52), some (.int x1), some (.int (nI (kp k))), some (.int (nI (kp k + (kw k).length))), none, none], [], hp I L, 0, 0)
  | 0, i, h => by
    rw [show i = (kw k).length by omega]
  | m + 1, i, h => by
    have h1 := kp_ok k hk
    obtain ⟨-, h3⟩ := kp_l hk (show i < (kw k).length by omega)
    have ez := zch1 (kp k + i) (by omega)
    have lc := lxc_lt (kp k + i) (by omega)
    rw [e_X10_wordHere_15]
    simp (disch := omega) only [ez, Option.bind_some, Option.toList_some, Option.toList_none, List.cons_append, List.nil_append, Option.map_some, cond_true, cond_false, Bool.not_true, Bool.not_false, Bool.true_and, Bool.and_true, Bool.false_and, Bool.and_false, Bool.true_or, Bool.or_true, Bool.false_or, Bool.or_false, Bool.not_not, decide_true, decide_false, Bool.decide_eq_true, Bool.decide_eq_false, qz_0, qz_1, qz_n, qz_n0, qz_n1, qz_t, qz_f, Nat.reduceAdd, q1000000, q0, q1, q2, q3, q4, q5, q6, q7, q8, q9, q10, q11, q12, q13, q14, q15, q16, q18, q19, q20, q21, q22, q23, q24, q25, q26, q27, q28, q29, q30, q31, q32, q38, q44, q45, q48, q57, q58, q59, q60, q63, q64, q97, q122, q126, q127, q128, q255, q256, q300, q580, q600, q1000, nI_add, q_lt_t, q_lt_f, q_eq_t, q_eq_f, q_clamp, q_in_t, q_in_f]
    rw [Nat.add_assoc, wh_len L hk x1 m (i + 1) (by omega)]
theorem wh_cmp {I : zI} {B : Nat → Nat} {S : Nat} (L : zL) (hB : BT I B S) {s e : Nat} (h9 : I 52 9 = nI s) (hse : s ≤ e) (heS : e ≤ S) {k : Nat} (hk : k < 19) (x1 : Int32) : ∀ m i (b : Bool), i + m = (kw k).length → (b = true → (kw k).length = e - s) → zrun zZ kX10_wordHere (57, [some (.ref 52), some (.int x1), some (.int (nI (kp k))), some (.int (nI (kp k + (kw k).length))), some (.int (zbo b)), some (.int (nI i))], [], hp I L, 0, 0) = zrun zZ kX10_wordHere (107, [some (.ref 52), some (.int x1), none, some (.int (nI (kp k + (kw k).length))), some (.int (zbo (b && cmB k B s m i))), none], [], hp I L, 0, 0)
  | 0, i, b, h, hb => by
    have h1 := kp_ok k hk
    rw [e_X10_wordHere_57, show cmB k B s 0 i = true from rfl, Bool.and_true]
    simp (disch := omega) only [q_sub, Option.bind_some, Option.toList_some, Option.toList_none, List.cons_append, List.nil_append, Option.map_some, cond_true, cond_false, Bool.not_true, Bool.not_false, Bool.true_and, Bool.and_true, Bool.false_and, Bool.and_false, Bool.true_or, Bool.or_true, Bool.false_or, Bool.or_false, Bool.not_not, decide_true, decide_false, Bool.decide_eq_true, Bool.decide_eq_false, qz_0, qz_1, qz_n, qz_n0, qz_n1, qz_t, qz_f, Nat.reduceAdd, q1000000, q0, q1, q2, q3, q4, q5, q6, q7, q8, q9, q10, q11, q12, q13, q14, q15, q16, q18, q19, q20, q21, q22, q23, q24, q25, q26, q27, q28, q29, q30, q31, q32, q38, q44, q45, q48, q57, q58, q59, q60, q63, q64, q97, q122, q126, q127, q128, q255, q256, q300, q580, q600, q1000, nI_add, q_lt_t, q_lt_f, q_eq_t, q_eq_f, q_clamp, q_in_t, q_in_f]
  | m + 1, i, b, h, hb => by
    have h1 := kp_ok k hk
    rw [e_X10_wordHere_57]
    cases b with
    | false =>
      rw [Bool.false_and]
      simp (disch := omega) only [q_sub, Option.bind_some, Option.toList_some, Option.toList_none, List.cons_append, List.nil_append, Option.map_some, cond_true, cond_false, Bool.not_true, Bool.not_false, Bool.true_and, Bool.and_true, Bool.false_and, Bool.and_false, Bool.true_or, Bool.or_true, Bool.false_or, Bool.or_false, Bool.not_not, decide_true, decide_false, Bool.decide_eq_true, Bool.decide_eq_false, qz_0, qz_1, qz_n, qz_n0, qz_n1, qz_t, qz_f, Nat.reduceAdd, q1000000, q0, q1, q2, q3, q4, q5, q6, q7, q8, q9, q10, q11, q12, q13, q14, q15, q16, q18, q19, q20, q21, q22, q23, q24, q25, q26, q27, q28, q29, q30, q31, q32, q38, q44, q45, q48, q57, q58, q59, q60, q63, q64, q97, q122, q126, q127, q128, q255, q256, q300, q580, q600, q1000, nI_add, q_lt_t, q_lt_f, q_eq_t, q_eq_f, q_clamp, q_in_t, q_in_f]
    | true =>
      have hl := hb rfl
      obtain ⟨b1, b2, b3, b4⟩ := id hB
      obtain ⟨c1, c2, c3⟩ := b4 (s + i) (by omega)
      obtain ⟨l1, l2⟩ := kp_l hk (show i < (kw k).length by omega)
      have ez := zch1 (kp k + i) (by omega)
      have lc := lxc_lt (kp k + i) (by omega)
      rw [l1] at ez lc
      rw [Bool.true_and]
      unfold cmB
      have ih := wh_cmp L hB h9 hse heS hk x1 m (i + 1) (decide ((kw k).getD i 0 = B (s + i))) (by omega) (fun _ => hl)
      rw [← ih]
      by_cases z : (kw k).getD i 0 = B (s + i)
      · rw [decide_eq_true z, qz_t]
        rw [z] at ez
        simp (disch := omega) only [e_X10_wordHere_99, q_sub, ez, h9, c2, Option.bind_some, Option.toList_some, Option.toList_none, List.cons_append, List.nil_append, Option.map_some, cond_true, cond_false, Bool.not_true, Bool.not_false, Bool.true_and, Bool.and_true, Bool.false_and, Bool.and_false, Bool.true_or, Bool.or_true, Bool.false_or, Bool.or_false, Bool.not_not, decide_true, decide_false, Bool.decide_eq_true, Bool.decide_eq_false, qz_0, qz_1, qz_n, qz_n0, qz_n1, qz_t, qz_f, Nat.reduceAdd, q1000000, q0, q1, q2, q3, q4, q5, q6, q7, q8, q9, q10, q11, q12, q13, q14, q15, q16, q18, q19, q20, q21, q22, q23, q24, q25, q26, q27, q28, q29, q30, q31, q32, q38, q44, q45, q48, q57, q58, q59, q60, q63, q64, q97, q122, q126, q127, q128, q255, q256, q300, q580, q600, q1000, nI_add, q_lt_t, q_lt_f, q_eq_t, q_eq_f, q_clamp, q_in_t, q_in_f]
      · rw [decide_eq_false z, qz_f]
        simp (disch := omega) only [e_X10_wordHere_99, q_sub, ez, h9, c2, Option.bind_some, Option.toList_some, Option.toList_none, List.cons_append, List.nil_append, Option.map_some, cond_true, cond_false, Bool.not_true, Bool.not_false, Bool.true_and, Bool.and_true, Bool.false_and, Bool.and_false, Bool.true_or, Bool.or_true, Bool.false_or, Bool.or_false, Bool.not_not, decide_true, decide_false, Bool.decide_eq_true, Bool.decide_eq_false, qz_0, qz_1, qz_n, qz_n0, qz_n1, qz_t, qz_f, Nat.reduceAdd, q1000000, q0, q1, q2, q3, q4, q5, q6, q7, q8, q9, q10, q11, q12, q13, q14, q15, q16, q18, q19, q20, q21, q22, q23, q24, q25, q26, q27, q28, q29, q30, q31, q32, q38, q44, q45, q48, q57, q58, q59, q60, q63, q64, q97, q122, q126, q127, q128, q255, q256, q300, q580, q600, q1000, nI_add, q_lt_t, q_lt_f, q_eq_t, q_eq_f, q_clamp, q_in_t, q_in_f]
theorem wh_loop {I : zI} {B : Nat → Nat} {S : Nat} (L : zL) (hB : BT I B S) {s e : Nat} (h9 : I 52 9 = nI s) (h8 : I 52 8 = nI e) (hse : s ≤ e) (heS : e ≤ S) : ∀ m k, k + m = 19 → zrun zZ kX10_wordHere (4, [some (.ref 52), some (.int (nI k)), some (.int (nI (kp k))), none, none, none], [], hp I L, 0, 0) = some (some (.int (kxI (kx (let' B s e) m k))), hp I L, 0, 0)
  | 0, k, h => by
    obtain rfl : k = 19 := by omega
    rw [show kp 19 = 82 from rfl, e_X10_wordHere_4, show (82 : Int32) = nI 82 from rfl]
    simp (disch := omega) only [Option.bind_some, Option.toList_some, Option.toList_none, List.cons_append, List.nil_append, Option.map_some, cond_true, cond_false, Bool.not_true, Bool.not_false, Bool.true_and, Bool.and_true, Bool.false_and, Bool.and_false, Bool.true_or, Bool.or_true, Bool.false_or, Bool.or_false, Bool.not_not, decide_true, decide_false, Bool.decide_eq_true, Bool.decide_eq_false, qz_0, qz_1, qz_n, qz_n0, qz_n1, qz_t, qz_f, Nat.reduceAdd, q1000000, q0, q1, q2, q3, q4, q5, q6, q7, q8, q9, q10, q11, q12, q13, q14, q15, q16, q18, q19, q20, q21, q22, q23, q24, q25, q26, q27, q28, q29, q30, q31, q32, q38, q44, q45, q48, q57, q58, q59, q60, q63, q64, q97, q122, q126, q127, q128, q255, q256, q300, q580, q600, q1000, nI_add, q_lt_t, q_lt_f, q_eq_t, q_eq_f, q_clamp, q_in_t, q_in_f]
    rfl
  | m + 1, k, h => by
    have hS := hB.1
    have h1 := kp_ok k (by omega)
    have ez := zch1 (kp k + (kw k).length) (by omega)
    rw [h1.2.1] at ez
    have hlen := wh_len (I := I) L (show k < 19 by omega) (nI k) (kw k).length 0 (by omega)
    rw [Nat.add_zero] at hlen
    have hc := cmB_eq (k := k) (B := B) (s := s) (e := e)
    have go : zrun zZ kX10_wordHere (4, [some (.ref 52), some (.int (nI k)), some (.int (nI (kp k))), none, none, none], [], hp I L, 0, 0) = zrun zZ kX10_wordHere (57, [some (.ref 52), some (.int (nI k)), some (.int (nI (kp k))), some (.int (nI (kp k + (kw k).length))), some (.int (zbo (decide ((kw k).length = e - s)))), some (.int (nI 0))], [], hp I L, 0, 0) := by
      rw [e_X10_wordHere_4, show (82 : Int32) = nI 82 from rfl]
      simp (disch := omega) only [hlen, Option.bind_some, Option.toList_some, Option.toList_none, List.cons_append, List.nil_append, Option.map_some, cond_true, cond_false, Bool.not_true, Bool.not_false, Bool.true_and, Bool.and_true, Bool.false_and, Bool.and_false, Bool.true_or, Bool.or_true, Bool.false_or, Bool.or_false, Bool.not_not, decide_true, decide_false, Bool.decide_eq_true, Bool.decide_eq_false, qz_0, qz_1, qz_n, qz_n0, qz_n1, qz_t, qz_f, Nat.reduceAdd, q1000000, q0, q1, q2, q3, q4, q5, q6, q7, q8, q9, q10, q11, q12, q13, q14, q15, q16, q18, q19, q20, q21, q22, q23, q24, q25, q26, q27, q28, q29, q30, q31, q32, q38, q44, q45, q48, q57, q58, q59, q60, q63, q64, q97, q122, q126, q127, q128, q255, q256, q300, q580, q600, q1000, nI_add, q_lt_t, q_lt_f, q_eq_t, q_eq_f, q_clamp, q_in_t, q_in_f]
      rw [e_X10_wordHere_15]
      by_cases z : (kw k).length = e - s
      · rw [decide_eq_true z]
        simp (disch := omega) only [e_X10_wordHere_52, ez, h8, h9, q_sub, Nat.add_sub_cancel_left, Option.bind_some, Option.toList_some, Option.toList_none, List.cons_append, List.nil_append, Option.map_some, cond_true, cond_false, Bool.not_true, Bool.not_false, Bool.true_and, Bool.and_true, Bool.false_and, Bool.and_false, Bool.true_or, Bool.or_true, Bool.false_or, Bool.or_false, Bool.not_not, decide_true, decide_false, Bool.decide_eq_true, Bool.decide_eq_false, qz_0, qz_1, qz_n, qz_n0, qz_n1, qz_t, qz_f, Nat.reduceAdd, q1000000, q0, q1, q2, q3, q4, q5, q6, q7, q8, q9, q10, q11, q12, q13, q14, q15, q16, q18, q19, q20, q21, q22, q23, q24, q25, q26, q27, q28, q29, q30, q31, q32, q38, q44, q45, q48, q57, q58, q59, q60, q63, q64, q97, q122, q126, q127, q128, q255, q256, q300, q580, q600, q1000, nI_add, q_lt_t, q_lt_f, q_eq_t, q_eq_f, q_clamp, q_in_t, q_in_f]
      · rw [decide_eq_false z]
        simp (disch := omega) only [e_X10_wordHere_52, ez, h8, h9, q_sub, Nat.add_sub_cancel_left, Option.bind_some, Option.toList_some, Option.toList_none, List.cons_append, List.nil_append, Option.map_some, cond_true, cond_false, Bool.not_true, Bool.not_false, Bool.true_and, Bool.and_true, Bool.false_and, Bool.and_false, Bool.true_or, Bool.or_true, Bool.false_or, Bool.or_false, Bool.not_not, decide_true, decide_false, Bool.decide_eq_true, Bool.decide_eq_false, qz_0, qz_1, qz_n, qz_n0, qz_n1, qz_t, qz_f, Nat.reduceAdd, q1000000, q0, q1, q2, q3, q4, q5, q6, q7, q8, q9, q10, q11, q12, q13, q14, q15, q16, q18, q19, q20, q21, q22, q23, q24, q25, q26, q27, q28, q29, q30, q31, q32, q38, q44, q45, q48, q57, q58, q59, q60, q63, q64, q97, q122, q126, q127, q128, q255, q256, q300, q580, q600, q1000, nI_add, q_lt_t, q_lt_f, q_eq_t, q_eq_f, q_clamp, q_in_t, q_in_f]
    rw [go, wh_cmp L hB h9 hse heS (by omega) (nI k) (kw k).length 0 _ (by omega) (fun q => of_decide_eq_true q), ← hc]
    unfold kx
    by_cases z : kw k = let' B s e
    · rw [decide_eq_true z, if_pos z]
      have e1 : kxI k = nI k := if_neg (by omega)
      rw [e1]
      simp (disch := omega) only [e_X10_wordHere_107, Option.bind_some, Option.toList_some, Option.toList_none, List.cons_append, List.nil_append, Option.map_some, cond_true, cond_false, Bool.not_true, Bool.not_false, Bool.true_and, Bool.and_true, Bool.false_and, Bool.and_false, Bool.true_or, Bool.or_true, Bool.false_or, Bool.or_false, Bool.not_not, decide_true, decide_false, Bool.decide_eq_true, Bool.decide_eq_false, qz_0, qz_1, qz_n, qz_n0, qz_n1, qz_t, qz_f, Nat.reduceAdd, q1000000, q0, q1, q2, q3, q4, q5, q6, q7, q8, q9, q10, q11, q12, q13, q14, q15, q16, q18, q19, q20, q21, q22, q23, q24, q25, q26, q27, q28, q29, q30, q31, q32, q38, q44, q45, q48, q57, q58, q59, q60, q63, q64, q97, q122, q126, q127, q128, q255, q256, q300, q580, q600, q1000, nI_add, q_lt_t, q_lt_f, q_eq_t, q_eq_f, q_clamp, q_in_t, q_in_f]
    · rw [decide_eq_false z, if_neg z, ← wh_loop L hB h9 h8 hse heS m (k + 1) (by omega), h1.2.2]
      simp (disch := omega) only [e_X10_wordHere_107, Option.bind_some, Option.toList_some, Option.toList_none, List.cons_append, List.nil_append, Option.map_some, cond_true, cond_false, Bool.not_true, Bool.not_false, Bool.true_and, Bool.and_true, Bool.false_and, Bool.and_false, Bool.true_or, Bool.or_true, Bool.false_or, Bool.or_false, Bool.not_not, decide_true, decide_false, Bool.decide_eq_true, Bool.decide_eq_false, qz_0, qz_1, qz_n, qz_n0, qz_n1, qz_t, qz_f, Nat.reduceAdd, q1000000, q0, q1, q2, q3, q4, q5, q6, q7, q8, q9, q10, q11, q12, q13, q14, q15, q16, q18, q19, q20, q21, q22, q23, q24, q25, q26, q27, q28, q29, q30, q31, q32, q38, q44, q45, q48, q57, q58, q59, q60, q63, q64, q97, q122, q126, q127, q128, q255, q256, q300, q580, q600, q1000, nI_add, q_lt_t, q_lt_f, q_eq_t, q_eq_f, q_clamp, q_in_t, q_in_f]
theorem s_wordHere {I : zI} {B : Nat → Nat} {S : Nat} (L : zL) (hB : BT I B S) {s e : Nat} (h9 : I 52 9 = nI s) (h8 : I 52 8 = nI e) (hse : s ≤ e) (heS : e ≤ S) : zcall zZ nX10_wordHere [.ref 52] (hp I L) = some (some (.int (kxI (kx (let' B s e) 19 0))), hp I L) := by
  have := wh_loop L hB h9 h8 hse heS 19 0 (by omega)
  rw [show kp 0 = 1 from rfl] at this
  simp (disch := omega) only [c_X10_wordHere, e_X10_wordHere_0, q1000000, q0, q1, q2, q3, q4, q5, q6, q7, q8, q9, q10, q11, q12, q13, q14, q15, q16, q18, q19, q20, q21, q22, q23, q24, q25, q26, q27, q28, q29, q30, q31, q32, q38, q44, q45, q48, q57, q58, q59, q60, q63, q64, q97, q122, q126, q127, q128, q255, q256, q300, q580, q600, q1000, this, Option.bind_some, Option.toList_some, Option.toList_none, List.cons_append, List.nil_append, Option.map_some, cond_true, cond_false, Bool.not_true, Bool.not_false, Bool.true_and, Bool.and_true, Bool.false_and, Bool.and_false, Bool.true_or, Bool.or_true, Bool.false_or, Bool.or_false, Bool.not_not, decide_true, decide_false, Bool.decide_eq_true, Bool.decide_eq_false, qz_0, qz_1, qz_n, qz_n0, qz_n1, qz_t, qz_f, Nat.reduceAdd]
