/-! the class widens a token -/
theorem lN_cmp0 {n : Nat} (h : n < 2 ^ 63) : (lg_cmp (lN n) 0 = nI 0) = (n = 0) := by
  rw [show nI 0 = (0 : Int32) from rfl]
  refine propext ((lg_cmp_eq _ _).trans ?_)
  rw [show (0 : Int64) = lN 0 from rfl]
  exact pk_lEQ h (by omega)
theorem s_widW {I : zI} {L : zL} {j : Nat} (hj : j ≤ 600) (h8 : I 5 8 = nI j) {cs : List Nat} (hx : ∀ x, x ∈ cs → 0 < x ∧ x < 128) (hL : L 8 j = wv cs) {c : Nat} (hc : 97 ≤ c ∧ c ≤ 122) : zcall zZ nX4_widenToken [.ref 5, .int (nI 19), .int (nI c)] (hp I L) = some (none, hp I (zup L 8 j (wv (cs ++ [c])))) := by
  have hl : (cs ++ [c]).length = cs.length + 1 := by simp
  obtain ⟨w1, w2⟩ := wcode_lt cs.length cs rfl hx
  have hci : (nI c).toInt64 = lN c := nI_l (by omega)
  by_cases h7 : cs.length ≤ 7
  · have hp56 : 2 ^ (8 * cs.length) ≤ 2 ^ 56 := Nat.pow_le_pow_right (by decide) (by omega)
    have ev : L 8 j = lN (wcode cs) := by
      rw [hL]
      unfold wv
      rw [if_pos (by omega)]
    have e1 : lN (wcode cs) >>> ((nI 56).toInt64 &&& 63) = lN 0 := by
      rw [lN_shr56 (by omega), Nat.div_eq_of_lt (by omega)]
    have e2 : (lg_cmp (lN 0) 0 = nI 0) = True := by
      rw [lN_cmp0 (by omega)]
      exact eq_true rfl
    have e3 : (lN (wcode cs) <<< ((nI 8).toInt64 &&& 63)) ||| lN c = wv (cs ++ [c]) := by
      rw [lN_shl8, lN_or8 _ (by omega), ← wcode_s]
      unfold wv
      rw [if_pos (by omega)]
    simp (disch := omega) only [c_X4_widenToken, e_X4_widenToken_0, e_X4_widenToken_90, e_X4_widenToken_89, e_X4_widenToken_49, h8, ev, q1000000, q0, q1, q2, q3, q4, q5, q6, q7, q8, q9, q10, q11, q12, q13, q14, q15, q16, q18, q19, q20, q21, q22, q23, q24, q25, q26, q27, q28, q29, q30, q31, q32, q38, q44, q45, q48, q57, q58, q59, q60, q63, q64, q97, q122, q126, q127, q128, q255, q256, q300, q580, q600, q1000, show (56 : Int32) = nI 56 from rfl, e1, e2, hci, e3, Option.bind_some, Option.toList_some, Option.toList_none, List.cons_append, List.nil_append, Option.map_some, cond_true, cond_false, Bool.not_true, Bool.not_false, Bool.true_and, Bool.and_true, Bool.false_and, Bool.and_false, Bool.true_or, Bool.or_true, Bool.false_or, Bool.or_false, Bool.not_not, decide_true, decide_false, Bool.decide_eq_true, Bool.decide_eq_false, qz_0, qz_1, qz_n, qz_n0, qz_n1, qz_t, qz_f, Nat.reduceAdd, q1000000, q0, q1, q2, q3, q4, q5, q6, q7, q8, q9, q10, q11, q12, q13, q14, q15, q16, q18, q19, q20, q21, q22, q23, q24, q25, q26, q27, q28, q29, q30, q31, q32, q38, q44, q45, q48, q57, q58, q59, q60, q63, q64, q97, q122, q126, q127, q128, q255, q256, q300, q580, q600, q1000, nI_add, q_lt_t, q_lt_f, q_eq_t, q_eq_f, q_clamp, q_in_t, q_in_f]
  · have e4 : wv (cs ++ [c]) = -1 := by
      unfold wv
      rw [if_neg (by omega)]
    by_cases h8' : cs.length = 8
    · have ev : L 8 j = lN (wcode cs) := by
        rw [hL]
        unfold wv
        rw [if_pos (by omega)]
      obtain ⟨w3, w4⟩ := w2 (by omega)
      rw [h8'] at w3 w4
      have e1 : lN (wcode cs) >>> ((nI 56).toInt64 &&& 63) = lN (wcode cs / 2 ^ 56) := lN_shr56 (by omega)
      have hd : 0 < wcode cs / 2 ^ 56 := Nat.div_pos (by omega) (by decide)
      have hd2 : wcode cs / 2 ^ 56 ≤ wcode cs := Nat.div_le_self _ _
      have e2 : (lg_cmp (lN (wcode cs / 2 ^ 56)) 0 = nI 0) = False := by
        rw [lN_cmp0 (by omega)]
        exact eq_false (by omega)
      rw [e4]
      simp (disch := omega) only [c_X4_widenToken, e_X4_widenToken_0, e_X4_widenToken_90, e_X4_widenToken_89, e_X4_widenToken_49, h8, ev, q1000000, q0, q1, q2, q3, q4, q5, q6, q7, q8, q9, q10, q11, q12, q13, q14, q15, q16, q18, q19, q20, q21, q22, q23, q24, q25, q26, q27, q28, q29, q30, q31, q32, q38, q44, q45, q48, q57, q58, q59, q60, q63, q64, q97, q122, q126, q127, q128, q255, q256, q300, q580, q600, q1000, show (56 : Int32) = nI 56 from rfl, e1, e2, Option.bind_some, Option.toList_some, Option.toList_none, List.cons_append, List.nil_append, Option.map_some, cond_true, cond_false, Bool.not_true, Bool.not_false, Bool.true_and, Bool.and_true, Bool.false_and, Bool.and_false, Bool.true_or, Bool.or_true, Bool.false_or, Bool.or_false, Bool.not_not, decide_true, decide_false, Bool.decide_eq_true, Bool.decide_eq_false, qz_0, qz_1, qz_n, qz_n0, qz_n1, qz_t, qz_f, Nat.reduceAdd, q1000000, q0, q1, q2, q3, q4, q5, q6, q7, q8, q9, q10, q11, q12, q13, q14, q15, q16, q18, q19, q20, q21, q22, q23, q24, q25, q26, q27, q28, q29, q30, q31, q32, q38, q44, q45, q48, q57, q58, q59, q60, q63, q64, q97, q122, q126, q127, q128, q255, q256, q300, q580, q600, q1000, nI_add, q_lt_t, q_lt_f, q_eq_t, q_eq_f, q_clamp, q_in_t, q_in_f]
    · have ev : L 8 j = -1 := by
        rw [hL]
        unfold wv
        rw [if_neg (by omega)]
      have e2 : (lg_cmp ((-1 : Int64) >>> ((nI 56).toInt64 &&& 63)) 0 = nI 0) = False := eq_false (by decide +kernel)
      rw [e4]
      simp (disch := omega) only [c_X4_widenToken, e_X4_widenToken_0, e_X4_widenToken_90, e_X4_widenToken_89, e_X4_widenToken_49, h8, ev, q1000000, q0, q1, q2, q3, q4, q5, q6, q7, q8, q9, q10, q11, q12, q13, q14, q15, q16, q18, q19, q20, q21, q22, q23, q24, q25, q26, q27, q28, q29, q30, q31, q32, q38, q44, q45, q48, q57, q58, q59, q60, q63, q64, q97, q122, q126, q127, q128, q255, q256, q300, q580, q600, q1000, show (56 : Int32) = nI 56 from rfl, e2, Option.bind_some, Option.toList_some, Option.toList_none, List.cons_append, List.nil_append, Option.map_some, cond_true, cond_false, Bool.not_true, Bool.not_false, Bool.true_and, Bool.and_true, Bool.false_and, Bool.and_false, Bool.true_or, Bool.or_true, Bool.false_or, Bool.or_false, Bool.not_not, decide_true, decide_false, Bool.decide_eq_true, Bool.decide_eq_false, qz_0, qz_1, qz_n, qz_n0, qz_n1, qz_t, qz_f, Nat.reduceAdd, q1000000, q0, q1, q2, q3, q4, q5, q6, q7, q8, q9, q10, q11, q12, q13, q14, q15, q16, q18, q19, q20, q21, q22, q23, q24, q25, q26, q27, q28, q29, q30, q31, q32, q38, q44, q45, q48, q57, q58, q59, q60, q63, q64, q97, q122, q126, q127, q128, q255, q256, q300, q580, q600, q1000, nI_add, q_lt_t, q_lt_f, q_eq_t, q_eq_f, q_clamp, q_in_t, q_in_f]
theorem s_widN {I : zI} {L : zL} {j : Nat} (hj : j ≤ 600) (h8 : I 5 8 = nI j) {v : Nat} (hv : v ≤ 1000000) (hL : L 8 j = lN v) {c : Nat} (hc : 48 ≤ c ∧ c ≤ 57) : zcall zZ nX4_widenToken [.ref 5, .int (nI 20), .int (nI c)] (hp I L) = some (none, hp I (zup L 8 j (lN (min 1000000 (10 * v + (c - 48)))))) := by
  have hci : (nI (c - 48)).toInt64 = lN (c - 48) := nI_l (by omega)
  have e1 : lN v * 10 + lN (c - 48) = lN (10 * v + (c - 48)) := by
    rw [show (10 : Int64) = lN 10 from rfl, lN_mul, lN_add, Nat.mul_comm]
  have hmin : ∀ h : zH, zcall zZ nJ9_min_f86c9 [.long 1000000, .long (lN (10 * v + (c - 48)))] h = some (some (.long (lN (min 1000000 (10 * v + (c - 48))))), h) := fun h => by
    rw [j_minL, show (1000000 : Int64) = lN 1000000 from rfl]
    by_cases z : 10 * v + (c - 48) < 1000000
    · rw [if_pos ((lN_lt (by omega) (by omega)).mpr z), Nat.min_eq_right (by omega)]
    · rw [if_neg (fun q => z ((lN_lt (by omega) (by omega)).mp q)), Nat.min_eq_left (by omega)]
  simp (disch := omega) only [c_X4_widenToken, e_X4_widenToken_0, e_X4_widenToken_90, e_X4_widenToken_89, e_X4_widenToken_49, h8, hL, q1000000, q0, q1, q2, q3, q4, q5, q6, q7, q8, q9, q10, q11, q12, q13, q14, q15, q16, q18, q19, q20, q21, q22, q23, q24, q25, q26, q27, q28, q29, q30, q31, q32, q38, q44, q45, q48, q57, q58, q59, q60, q63, q64, q97, q122, q126, q127, q128, q255, q256, q300, q580, q600, q1000, q_sub, hci, e1, hmin, Option.bind_some, Option.toList_some, Option.toList_none, List.cons_append, List.nil_append, Option.map_some, cond_true, cond_false, Bool.not_true, Bool.not_false, Bool.true_and, Bool.and_true, Bool.false_and, Bool.and_false, Bool.true_or, Bool.or_true, Bool.false_or, Bool.or_false, Bool.not_not, decide_true, decide_false, Bool.decide_eq_true, Bool.decide_eq_false, qz_0, qz_1, qz_n, qz_n0, qz_n1, qz_t, qz_f, Nat.reduceAdd, q1000000, q0, q1, q2, q3, q4, q5, q6, q7, q8, q9, q10, q11, q12, q13, q14, q15, q16, q18, q19, q20, q21, q22, q23, q24, q25, q26, q27, q28, q29, q30, q31, q32, q38, q44, q45, q48, q57, q58, q59, q60, q63, q64, q97, q122, q126, q127, q128, q255, q256, q300, q580, q600, q1000, nI_add, q_lt_t, q_lt_f, q_eq_t, q_eq_f, q_clamp, q_in_t, q_in_f]
theorem s_widO {I : zI} {L : zL} {j : Nat} (hj : j ≤ 600) (h8 : I 5 8 = nI j) {k : Nat} (h1 : k ≠ 19) (h2 : k ≠ 20) (hk : k < 100) (x : Int32) : zcall zZ nX4_widenToken [.ref 5, .int (nI k), .int x] (hp I L) = some (none, hp I L) := by
  simp (disch := omega) only [c_X4_widenToken, e_X4_widenToken_0, e_X4_widenToken_90, e_X4_widenToken_89, e_X4_widenToken_49, h8, Option.bind_some, Option.toList_some, Option.toList_none, List.cons_append, List.nil_append, Option.map_some, cond_true, cond_false, Bool.not_true, Bool.not_false, Bool.true_and, Bool.and_true, Bool.false_and, Bool.and_false, Bool.true_or, Bool.or_true, Bool.false_or, Bool.or_false, Bool.not_not, decide_true, decide_false, Bool.decide_eq_true, Bool.decide_eq_false, qz_0, qz_1, qz_n, qz_n0, qz_n1, qz_t, qz_f, Nat.reduceAdd, q1000000, q0, q1, q2, q3, q4, q5, q6, q7, q8, q9, q10, q11, q12, q13, q14, q15, q16, q18, q19, q20, q21, q22, q23, q24, q25, q26, q27, q28, q29, q30, q31, q32, q38, q44, q45, q48, q57, q58, q59, q60, q63, q64, q97, q122, q126, q127, q128, q255, q256, q300, q580, q600, q1000, nI_add, q_lt_t, q_lt_f, q_eq_t, q_eq_f, q_clamp, q_in_t, q_in_f]
/-! tokens, one behind the other -/
def numC (B : Nat → Nat) : Nat → Nat → Nat → Nat
  | 0, _, v => v
  | m + 1, p, v => numC B m (p + 1) (min 1000000 (10 * v + (B p - 48)))
theorem numC_le (B : Nat → Nat) : ∀ m p v, v ≤ 1000000 → numC B m p v ≤ 1000000
  | 0, p, v, h => h
  | m + 1, p, v, _ => numC_le B m (p + 1) _ (by omega)
theorem numC_s (B : Nat → Nat) : ∀ m p v, numC B (m + 1) p v = min 1000000 (10 * numC B m p v + (B (p + m) - 48))
  | 0, p, v => rfl
  | m + 1, p, v => by
    show numC B (m + 1) (p + 1) (min 1000000 (10 * v + (B p - 48))) = _
    rw [numC_s B m (p + 1), show p + 1 + m = p + (m + 1) by omega]
    rfl
theorem numR_C (B : Nat → Nat) : ∀ m p v u, u = min 99999 v → (∀ i, p ≤ i → i < p + m → 48 ≤ B i) → numR B m p u = min 99999 (numC B m p v)
  | 0, p, v, u, h, _ => h
  | m + 1, p, v, u, h, hd => by
    show numR B m (p + 1) (min 99999 (10 * u + B p - 48)) = min 99999 (numC B m (p + 1) (min 1000000 (10 * v + (B p - 48))))
    have := hd p (by omega) (by omega)
    exact numR_C B m (p + 1) _ _ (by omega) (fun i p1 p2 => hd i (by omega) (by omega))
def tV (B : Nat → Nat) (s e k : Nat) : Int64 := if k = 19 then wv (let' B s e) else if k = 20 then lN (numC B (e - s) s 0) else 0
theorem let_s (B : Nat → Nat) {s q : Nat} (h : s ≤ q) : let' B s (q + 1) = let' B s q ++ [B q] := by
  unfold let'
  rw [show q + 1 - s = (q - s) + 1 by omega, List.range_succ, List.map_append]
  simp [show s + (q - s) = q by omega]
theorem let_x {B : Nat → Nat} {s q : Nat} (h : ∀ i, s ≤ i → i < q → kb (B i) = 19) : ∀ x, x ∈ let' B s q → 0 < x ∧ x < 128 := fun x hx => by
  obtain ⟨i, hi, rfl⟩ := List.mem_map.mp hx
  have := kb_let.mp (h (s + i) (by omega) (by have := List.mem_range.mp hi; omega))
  omega
/-- what the class' scan goes over -/
def SCI (I : zI) (B : Nat → Nat) (S : Nat) : Prop := S ≤ 600 ∧ I 3 1 = nI S ∧ ∀ i, i < S → B i < 256 ∧ I 4 i = sby (B i)
theorem TP.sci {I : zI} {S : Nat} (h : TP I S) : ∃ B, BT I B S ∧ SCI I B S := by
  obtain ⟨B, h1, h2, h3⟩ := h.bt
  exact ⟨B, h1, h1.1, h2, h3⟩
theorem SCI.cg {I J : zI} {B : Nat → Nat} {S : Nat} (h : SCI I B S) (h1 : J 3 1 = I 3 1) (h2 : ∀ b, J 4 b = I 4 b) : SCI J B S := ⟨h.1, h1.trans h.2.1, fun i hi => by rw [h2]; exact h.2.2 i hi⟩
theorem sc_skip {I : zI} {L : zL} {B : Nat → Nat} {S : Nat} (hB : SCI I B S) : ∀ m p x, p + m = S → zrun zZ kX4_scan (25, [some (.ref 5), some (.ref 3), some (.int (nI x)), some (.int (nI p)), none, none], [], hp I L, 0, 0) = zrun zZ kX4_scan (25, [some (.ref 5), some (.ref 3), some (.int (nI (if skp B m p = p then x else 26))), some (.int (nI (skp B m p))), none, none], [], hp I L, 0, 0)
  | 0, p, x, h => by
    show _ = zrun zZ kX4_scan (25, [_, _, some (.int (nI (if p = p then x else 26))), some (.int (nI p)), none, none], [], _, 0, 0)
    rw [if_pos rfl]
  | m + 1, p, x, h => by
    obtain ⟨b1, b2, b3⟩ := id hB
    obtain ⟨c1, c2⟩ := b3 p (by omega)
    unfold skp
    by_cases z : kb (B p) = 26
    · have hl := skp_le B m (p + 1)
      have hk := s_kos (hp I L) c1
      rw [z] at hk
      have ih := sc_skip (L := L) hB m (p + 1) 26 (by omega)
      rw [show (if skp B m (p + 1) = p + 1 then 26 else 26) = 26 by split <;> rfl] at ih
      rw [if_pos z, if_neg (by omega), ← ih, e_X4_scan_25]
      simp (disch := omega) only [e_X4_scan_46, e_X4_scan_90, b2, c2, hk, show (26 : Int32) = nI 26 from rfl, Option.bind_some, Option.toList_some, Option.toList_none, List.cons_append, List.nil_append, Option.map_some, cond_true, cond_false, Bool.not_true, Bool.not_false, Bool.true_and, Bool.and_true, Bool.false_and, Bool.and_false, Bool.true_or, Bool.or_true, Bool.false_or, Bool.or_false, Bool.not_not, decide_true, decide_false, Bool.decide_eq_true, Bool.decide_eq_false, qz_0, qz_1, qz_n, qz_n0, qz_n1, qz_t, qz_f, Nat.reduceAdd, q1000000, q0, q1, q2, q3, q4, q5, q6, q7, q8, q9, q10, q11, q12, q13, q14, q15, q16, q18, q19, q20, q21, q22, q23, q24, q25, q26, q27, q28, q29, q30, q31, q32, q38, q44, q45, q48, q57, q58, q59, q60, q63, q64, q97, q122, q126, q127, q128, q255, q256, q300, q580, q600, q1000, nI_add, q_lt_t, q_lt_f, q_eq_t, q_eq_f, q_clamp, q_in_t, q_in_f]
    · rw [if_neg z, if_pos rfl]
theorem sc_word {I : zI} {B : Nat → Nat} {S : Nat} (hB : SCI I B S) {j : Nat} (hj : j ≤ 600) (h8 : I 5 8 = nI j) {s : Nat} : ∀ m q (L : zL), q + m = S → s ≤ q → (∀ i, s ≤ i → i < q → kb (B i) = 19) → L 8 j = wv (let' B s q) → ∃ M, zrun zZ kX4_scan (25, [some (.ref 5), some (.ref 3), some (.int (nI 19)), some (.int (nI q)), none, none], [], hp I L, 0, 0) = zrun zZ kX4_scan (25, [some (.ref 5), some (.ref 3), some (.int (nI 19)), some (.int (nI (rnk B 19 m q))), none, none], [], hp I M, 0, 0) ∧ M 8 j = wv (let' B s (rnk B 19 m q)) ∧ (∀ x y, (x ≠ 8 ∨ y ≠ j) → M x y = L x y)
  | 0, q, L, h, hs, hi, hL => ⟨L, rfl, hL, fun _ _ _ => rfl⟩
  | m + 1, q, L, h, hs, hi, hL => by
    obtain ⟨b1, b2, b3⟩ := id hB
    obtain ⟨c1, c2⟩ := b3 q (by omega)
    unfold rnk
    by_cases z : kb (B q) = 19
    · rw [if_pos z]
      have hk := s_kos (hp I L) c1
      rw [z] at hk
      obtain ⟨y1, y2⟩ := kb_let.mp z
      have hw := s_widW hj h8 (let_x hi) hL ⟨y1, y2⟩
      rw [← let_s B hs] at hw
      obtain ⟨M, g1, g2, g3⟩ := sc_word hB hj h8 (s := s) m (q + 1) (zup L 8 j (wv (let' B s (q + 1)))) (by omega) (by omega) (fun i p1 p2 => by
        by_cases u : i = q
        · rw [u]
          exact z
        · exact hi i p1 (by omega)) (zu_same _ _ _ _)
      refine ⟨M, ?_, g2, fun x y p => ?_⟩
      · rw [sby_lo _ (by omega)] at c2 hk
        rw [← g1, e_X4_scan_25]
        simp (disch := omega) only [e_X4_scan_46, e_X4_scan_82, e_X4_scan_90, b2, c2, hk, hw, show (26 : Int32) = nI 26 from rfl, Option.bind_some, Option.toList_some, Option.toList_none, List.cons_append, List.nil_append, Option.map_some, cond_true, cond_false, Bool.not_true, Bool.not_false, Bool.true_and, Bool.and_true, Bool.false_and, Bool.and_false, Bool.true_or, Bool.or_true, Bool.false_or, Bool.or_false, Bool.not_not, decide_true, decide_false, Bool.decide_eq_true, Bool.decide_eq_false, qz_0, qz_1, qz_n, qz_n0, qz_n1, qz_t, qz_f, Nat.reduceAdd, q1000000, q0, q1, q2, q3, q4, q5, q6, q7, q8, q9, q10, q11, q12, q13, q14, q15, q16, q18, q19, q20, q21, q22, q23, q24, q25, q26, q27, q28, q29, q30, q31, q32, q38, q44, q45, q48, q57, q58, q59, q60, q63, q64, q97, q122, q126, q127, q128, q255, q256, q300, q580, q600, q1000, nI_add, q_lt_t, q_lt_f, q_eq_t, q_eq_f, q_clamp, q_in_t, q_in_f]
      · rw [g3 x y p]
        by_cases u : x = 8
        · rw [zu_at (by omega)]
        · rw [zu_cell u]
    · rw [if_neg z]
      exact ⟨L, rfl, hL, fun _ _ _ => rfl⟩
theorem sc_num {I : zI} {B : Nat → Nat} {S : Nat} (hB : SCI I B S) {j : Nat} (hj : j ≤ 600) (h8 : I 5 8 = nI j) {s : Nat} : ∀ m q (L : zL), q + m = S → s ≤ q → L 8 j = lN (numC B (q - s) s 0) → ∃ M, zrun zZ kX4_scan (25, [some (.ref 5), some (.ref 3), some (.int (nI 20)), some (.int (nI q)), none, none], [], hp I L, 0, 0) = zrun zZ kX4_scan (25, [some (.ref 5), some (.ref 3), some (.int (nI 20)), some (.int (nI (rnk B 20 m q))), none, none], [], hp I M, 0, 0) ∧ M 8 j = lN (numC B (rnk B 20 m q - s) s 0) ∧ (∀ x y, (x ≠ 8 ∨ y ≠ j) → M x y = L x y)
  | 0, q, L, h, hs, hL => ⟨L, rfl, hL, fun _ _ _ => rfl⟩
  | m + 1, q, L, h, hs, hL => by
    obtain ⟨b1, b2, b3⟩ := id hB
    obtain ⟨c1, c2⟩ := b3 q (by omega)
    unfold rnk
    by_cases z : kb (B q) = 20
    · rw [if_pos z]
      have hk := s_kos (hp I L) c1
      rw [z] at hk
      obtain ⟨y1, y2⟩ := kb_dig.mp z
      have hw := s_widN hj h8 (numC_le B (q - s) s 0 (by omega)) hL ⟨y1, y2⟩
      have e := numC_s B (q - s) s 0
      rw [show s + (q - s) = q by omega, show q - s + 1 = q + 1 - s by omega] at e
      rw [← e] at hw
      obtain ⟨M, g1, g2, g3⟩ := sc_num hB hj h8 (s := s) m (q + 1) (zup L 8 j (lN (numC B (q + 1 - s) s 0))) (by omega) (by omega) (zu_same _ _ _ _)
      refine ⟨M, ?_, g2, fun x y p => ?_⟩
      · rw [sby_lo _ (by omega)] at c2 hk
        rw [← g1, e_X4_scan_25]
        simp (disch := omega) only [e_X4_scan_46, e_X4_scan_82, e_X4_scan_90, b2, c2, hk, hw, show (26 : Int32) = nI 26 from rfl, Option.bind_some, Option.toList_some, Option.toList_none, List.cons_append, List.nil_append, Option.map_some, cond_true, cond_false, Bool.not_true, Bool.not_false, Bool.true_and, Bool.and_true, Bool.false_and, Bool.and_false, Bool.true_or, Bool.or_true, Bool.false_or, Bool.or_false, Bool.not_not, decide_true, decide_false, Bool.decide_eq_true, Bool.decide_eq_false, qz_0, qz_1, qz_n, qz_n0, qz_n1, qz_t, qz_f, Nat.reduceAdd, q1000000, q0, q1, q2, q3, q4, q5, q6, q7, q8, q9, q10, q11, q12, q13, q14, q15, q16, q18, q19, q20, q21, q22, q23, q24, q25, q26, q27, q28, q29, q30, q31, q32, q38, q44, q45, q48, q57, q58, q59, q60, q63, q64, q97, q122, q126, q127, q128, q255, q256, q300, q580, q600, q1000, nI_add, q_lt_t, q_lt_f, q_eq_t, q_eq_f, q_clamp, q_in_t, q_in_f]
      · rw [g3 x y p]
        by_cases u : x = 8
        · rw [zu_at (by omega)]
        · rw [zu_cell u]
    · rw [if_neg z]
      exact ⟨L, rfl, hL, fun _ _ _ => rfl⟩
