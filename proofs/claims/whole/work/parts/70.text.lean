/-! signs of a text -/
def bl (ts : List Nat) : List Nat := if ts.length = 0 then ts else ts ++ [32]
def tkn (ts w : List Nat) : List Nat := bl ts ++ w
def nmS (n : Nat) : List Nat := if 9 < n then [48 + n / 10, 48 + n % 10] else [48 + n]
/-- the class with a text -/
def wr (I : zI) (ts : List Nat) : zI := fun o k => if o = 26 ∧ k = 13 then nI (min ts.length 300) else if o = 30 ∧ k < min ts.length 300 then nI (ts.getD k 0) else I o k
theorem wr_13 (I : zI) (ts : List Nat) : wr I ts 26 13 = nI (min ts.length 300) := if_pos ⟨rfl, rfl⟩
theorem wr_30 (I : zI) {ts : List Nat} {k : Nat} (h : k < ts.length) (h2 : k < 300) : wr I ts 30 k = nI (ts.getD k 0) := by
  unfold wr
  rw [if_neg (by omega), if_pos (by omega)]
theorem wr_o (I : zI) (ts : List Nat) {o k : Nat} (h : o ≠ 30) (h2 : o ≠ 26 ∨ k ≠ 13) : wr I ts o k = I o k := by
  unfold wr
  rw [if_neg (by omega), if_neg (by omega)]
theorem wr_nil (I : zI) : wr I [] = zup I 26 13 (nI 0) := by
  funext o k
  by_cases z : o = 26
  · subst z
    rw [zu_if]
    by_cases z : k = 13
    · subst z
      rw [wr_13, if_pos rfl]
      rfl
    · rw [wr_o _ _ (by omega) (by omega), if_neg z]
  · rw [zu_cell z]
    unfold wr
    rw [if_neg (by omega), if_neg (by
      rintro ⟨_, q⟩
      have : ([] : List Nat).length = 0 := rfl
      omega)]
theorem nar_c : ∀ c, c < 128 → vp_nar .byte (nI c).toInt8.toInt32 = nI c := by decide +kernel
theorem gd_l {α : Type} (a b : List α) (d : α) {k : Nat} (h : k < a.length) : (a ++ b).getD k d = a.getD k d := by
  rw [List.getD_eq_getElem?_getD, List.getD_eq_getElem?_getD, List.getElem?_append_left h]
theorem gd_s {α : Type} (a : List α) (c d : α) : (a ++ [c]).getD a.length d = c := by
  rw [List.getD_eq_getElem?_getD, List.getElem?_append_right (Nat.le_refl _), Nat.sub_self]
  rfl
theorem s_putSign (I : zI) (L : zL) (ts : List Nat) {c : Nat} (hc : c < 128) : zcall zZ nX8_putSign [.ref 36, .ref 26, .int (nI c)] (hp (wr I ts) L) = some (none, hp (wr I (ts ++ [c])) L) := by
  have e13 := wr_13 I ts
  have el : (ts ++ [c]).length = ts.length + 1 := by simp
  by_cases h : ts.length < 300
  · have hm : min ts.length 300 = ts.length := by omega
    have hm2 : min (ts ++ [c]).length 300 = ts.length + 1 := by omega
    rw [hm] at e13
    have eq : zup (zup (wr I ts) 30 ts.length (nI c)) 26 13 (nI (ts.length + 1)) = wr I (ts ++ [c]) := by
      funext o k
      by_cases z : o = 26 ∧ k = 13
      · obtain ⟨rfl, rfl⟩ := z
        rw [zu_same, wr_13, hm2]
      · have : zup (zup (wr I ts) 30 ts.length (nI c)) 26 13 (nI (ts.length + 1)) o k = zup (wr I ts) 30 ts.length (nI c) o k := by
          by_cases y : o = 26
          · exact zu_at (by omega)
          · exact zu_cell y
        rw [this]
        by_cases y : o = 30
        · subst y
          rw [zu_if]
          by_cases x : k = ts.length
          · rw [if_pos x, x, wr_30 I (by omega) (by omega), gd_s]
          · rw [if_neg x]
            rcases Nat.lt_or_ge k ts.length with u | u
            · rw [wr_30 I u (by omega), wr_30 I (by omega) (by omega), gd_l _ _ _ u]
            · unfold wr
              rw [if_neg (by omega), if_neg (by omega), if_neg (by omega), if_neg (by omega)]
        · rw [zu_cell y, wr_o I ts y (by omega), wr_o I _ y (by omega)]
    simp (disch := omega) only [c_X8_putSign, e_X8_putSign_0, e_X8_putSign_33, e13, nar_c, Option.bind_some, Option.toList_some, Option.toList_none, List.cons_append, List.nil_append, Option.map_some, cond_true, cond_false, Bool.not_true, Bool.not_false, Bool.true_and, Bool.and_true, Bool.false_and, Bool.and_false, Bool.true_or, Bool.or_true, Bool.false_or, Bool.or_false, Bool.not_not, decide_true, decide_false, Bool.decide_eq_true, Bool.decide_eq_false, qz_0, qz_1, qz_n, qz_n0, qz_n1, qz_t, qz_f, Nat.reduceAdd, q1000000, q0, q1, q2, q3, q4, q5, q6, q7, q8, q9, q10, q11, q12, q13, q14, q15, q16, q18, q19, q20, q21, q22, q23, q24, q25, q26, q27, q28, q29, q30, q31, q32, q38, q44, q45, q48, q57, q58, q59, q60, q63, q64, q97, q122, q126, q127, q128, q255, q256, q300, q580, q600, q1000, nI_add, q_lt_t, q_lt_f, q_eq_t, q_eq_f, q_clamp, q_in_t, q_in_f, eq]
  · have hm : min ts.length 300 = 300 := by omega
    have hm2 : min (ts ++ [c]).length 300 = 300 := by omega
    rw [hm] at e13
    have eq : wr I (ts ++ [c]) = wr I ts := by
      funext o k
      unfold wr
      rw [hm, hm2]
      by_cases z : o = 30 ∧ k < 300
      · rw [gd_l _ _ _ (by omega)]
      · by_cases y : o = 26 ∧ k = 13
        · rw [if_pos y, if_pos y]
        · rw [if_neg y, if_neg z, if_neg y, if_neg z]
    rw [eq]
    simp (disch := omega) only [c_X8_putSign, e_X8_putSign_0, e_X8_putSign_33, e13, Option.bind_some, Option.toList_some, Option.toList_none, List.cons_append, List.nil_append, Option.map_some, cond_true, cond_false, Bool.not_true, Bool.not_false, Bool.true_and, Bool.and_true, Bool.false_and, Bool.and_false, Bool.true_or, Bool.or_true, Bool.false_or, Bool.or_false, Bool.not_not, decide_true, decide_false, Bool.decide_eq_true, Bool.decide_eq_false, qz_0, qz_1, qz_n, qz_n0, qz_n1, qz_t, qz_f, Nat.reduceAdd, q1000000, q0, q1, q2, q3, q4, q5, q6, q7, q8, q9, q10, q11, q12, q13, q14, q15, q16, q18, q19, q20, q21, q22, q23, q24, q25, q26, q27, q28, q29, q30, q31, q32, q38, q44, q45, q48, q57, q58, q59, q60, q63, q64, q97, q122, q126, q127, q128, q255, q256, q300, q580, q600, q1000, nI_add, q_lt_t, q_lt_f, q_eq_t, q_eq_f, q_clamp, q_in_t, q_in_f]
theorem s_putBlank (I : zI) (L : zL) (ts : List Nat) : zcall zZ nX8_putBlank [.ref 36, .ref 26] (hp (wr I ts) L) = some (none, hp (wr I (bl ts)) L) := by
  have e13 := wr_13 I ts
  unfold bl
  by_cases h : ts.length = 0
  · rw [show min ts.length 300 = 0 by omega] at e13
    rw [if_pos h]
    simp (disch := omega) only [c_X8_putBlank, e_X8_putBlank_0, e_X8_putBlank_14, e13, Option.bind_some, Option.toList_some, Option.toList_none, List.cons_append, List.nil_append, Option.map_some, cond_true, cond_false, Bool.not_true, Bool.not_false, Bool.true_and, Bool.and_true, Bool.false_and, Bool.and_false, Bool.true_or, Bool.or_true, Bool.false_or, Bool.or_false, Bool.not_not, decide_true, decide_false, Bool.decide_eq_true, Bool.decide_eq_false, qz_0, qz_1, qz_n, qz_n0, qz_n1, qz_t, qz_f, Nat.reduceAdd, q1000000, q0, q1, q2, q3, q4, q5, q6, q7, q8, q9, q10, q11, q12, q13, q14, q15, q16, q18, q19, q20, q21, q22, q23, q24, q25, q26, q27, q28, q29, q30, q31, q32, q38, q44, q45, q48, q57, q58, q59, q60, q63, q64, q97, q122, q126, q127, q128, q255, q256, q300, q580, q600, q1000, nI_add, q_lt_t, q_lt_f, q_eq_t, q_eq_f, q_clamp, q_in_t, q_in_f]
  · rw [if_neg h]
    simp (disch := omega) only [c_X8_putBlank, e_X8_putBlank_0, e_X8_putBlank_14, e13, s_putSign, Option.bind_some, Option.toList_some, Option.toList_none, List.cons_append, List.nil_append, Option.map_some, cond_true, cond_false, Bool.not_true, Bool.not_false, Bool.true_and, Bool.and_true, Bool.false_and, Bool.and_false, Bool.true_or, Bool.or_true, Bool.false_or, Bool.or_false, Bool.not_not, decide_true, decide_false, Bool.decide_eq_true, Bool.decide_eq_false, qz_0, qz_1, qz_n, qz_n0, qz_n1, qz_t, qz_f, Nat.reduceAdd, q1000000, q0, q1, q2, q3, q4, q5, q6, q7, q8, q9, q10, q11, q12, q13, q14, q15, q16, q18, q19, q20, q21, q22, q23, q24, q25, q26, q27, q28, q29, q30, q31, q32, q38, q44, q45, q48, q57, q58, q59, q60, q63, q64, q97, q122, q126, q127, q128, q255, q256, q300, q580, q600, q1000, nI_add, q_lt_t, q_lt_f, q_eq_t, q_eq_f, q_clamp, q_in_t, q_in_f]
/-! letters of a word that lies in a long -/
def byF (c m : Nat) : Nat := c / 2 ^ (8 * m) % 256
def wl (c : Nat) : Nat → List Nat
  | 0 => []
  | m + 1 => (if byF c m = 0 then [] else [byF c m]) ++ wl c m
theorem s_l64 : ∀ n, n < 64 → (((nI n).toInt64 &&& 63).toBitVec.smod 64).toNat = n := by decide +kernel
theorem l_byt (c m : Nat) (hm : m < 8) : ((lN c >>> ((nI (8 * m)).toInt64 &&& 63)) &&& 255).toInt32 = nI (byF c m) := by
  refine b_ext fun i hi => ?_
  have hb : byF c m < 256 := Nat.mod_lt _ (by decide)
  rw [bt_nI (by omega)]
  unfold bt
  rw [Int64.toBitVec_toInt32, BitVec.getLsbD_signExtend, if_pos (by omega), Int64.toBitVec_and, BitVec.getLsbD_and, Int64.toBitVec_shiftRight]
  show (_ && ((((lN c).toBitVec.sshiftRight (((nI (8 * m)).toInt64 &&& 63).toBitVec.smod 64).toNat).getLsbD i) && (BitVec.ofNat 64 255).getLsbD i)) = _
  rw [s_l64 _ (by omega), BitVec.getLsbD_sshiftRight]
  unfold byF
  rw [show (256 : Nat) = 2 ^ 8 from rfl, Nat.testBit_mod_two_pow, Nat.testBit_div_two_pow]
  have e : (BitVec.ofNat 64 255).getLsbD i = decide (i < 8) := by
    revert i
    decide +kernel
  rw [e]
  by_cases h : i < 8
  · rw [if_pos (by omega)]
    show (_ && ((_ && (BitVec.ofNat 64 c).getLsbD (8 * m + i)) && _)) = _
    rw [BitVec.getLsbD_ofNat]
    simp [hi, h, Nat.add_comm i, show 8 * m + i < 64 by omega, show i < 64 by omega]
  · simp [h]
theorem put_loop (I : zI) (L : zL) {c : Nat} (hc : ∀ m, m < 8 → byF c m < 128) : ∀ m ts, m ≤ 8 → zrun zZ kX8_putWord (9, [some (.ref 36), some (.ref 26), some (.long (lN c)), none, some (.int (nI (8 * m) - nI 8)), none], [], hp (wr I ts) L, 0, 0) = some (none, hp (wr I (ts ++ wl c m)) L, 0, 0)
  | 0, ts, _ => by
    have e : (nI (8 * 0) - nI 8 < nI 0) = True := eq_true (pk_sneg (a := 0) (b := 8) (by decide) (by decide))
    rw [e_X8_putWord_9]
    simp (disch := omega) only [q1000000, q0, q1, q2, q3, q4, q5, q6, q7, q8, q9, q10, q11, q12, q13, q14, q15, q16, q18, q19, q20, q21, q22, q23, q24, q25, q26, q27, q28, q29, q30, q31, q32, q38, q44, q45, q48, q57, q58, q59, q60, q63, q64, q97, q122, q126, q127, q128, q255, q256, q300, q580, q600, q1000, e, Option.bind_some, Option.toList_some, Option.toList_none, List.cons_append, List.nil_append, Option.map_some, cond_true, cond_false, Bool.not_true, Bool.not_false, Bool.true_and, Bool.and_true, Bool.false_and, Bool.and_false, Bool.true_or, Bool.or_true, Bool.false_or, Bool.or_false, Bool.not_not, decide_true, decide_false, Bool.decide_eq_true, Bool.decide_eq_false, qz_0, qz_1, qz_n, qz_n0, qz_n1, qz_t, qz_f, Nat.reduceAdd, wl, List.append_nil]
  | m + 1, ts, h => by
    have e : nI (8 * (m + 1)) - nI 8 = nI (8 * m) := by
      rw [pk_sub (by omega)]
      congr 1
    have e2 : nI (8 * m) + -nI 8 = nI (8 * m) - nI 8 := (Int32.sub_eq_add_neg ..).symm
    have hb := hc m (by omega)
    rw [e, e_X8_putWord_9, l_byt c m (by omega)]
    show _ = some (none, hp (wr I (ts ++ ((if byF c m = 0 then [] else [byF c m]) ++ wl c m))) L, 0, 0)
    by_cases z : byF c m = 0
    · rw [if_pos z, List.nil_append, ← put_loop I L hc m ts (by omega), z]
      simp (disch := omega) only [e_X8_putWord_37, Option.bind_some, Option.toList_some, Option.toList_none, List.cons_append, List.nil_append, Option.map_some, cond_true, cond_false, Bool.not_true, Bool.not_false, Bool.true_and, Bool.and_true, Bool.false_and, Bool.and_false, Bool.true_or, Bool.or_true, Bool.false_or, Bool.or_false, Bool.not_not, decide_true, decide_false, Bool.decide_eq_true, Bool.decide_eq_false, qz_0, qz_1, qz_n, qz_n0, qz_n1, qz_t, qz_f, Nat.reduceAdd, q1000000, q0, q1, q2, q3, q4, q5, q6, q7, q8, q9, q10, q11, q12, q13, q14, q15, q16, q18, q19, q20, q21, q22, q23, q24, q25, q26, q27, q28, q29, q30, q31, q32, q38, q44, q45, q48, q57, q58, q59, q60, q63, q64, q97, q122, q126, q127, q128, q255, q256, q300, q580, q600, q1000, nI_add, q_lt_t, q_lt_f, q_eq_t, q_eq_f, q_clamp, q_in_t, q_in_f, e2]
    · rw [if_neg z, ← List.append_assoc, ← put_loop I L hc m (ts ++ [byF c m]) (by omega)]
      simp (disch := omega) only [e_X8_putWord_37, s_putSign, Option.bind_some, Option.toList_some, Option.toList_none, List.cons_append, List.nil_append, Option.map_some, cond_true, cond_false, Bool.not_true, Bool.not_false, Bool.true_and, Bool.and_true, Bool.false_and, Bool.and_false, Bool.true_or, Bool.or_true, Bool.false_or, Bool.or_false, Bool.not_not, decide_true, decide_false, Bool.decide_eq_true, Bool.decide_eq_false, qz_0, qz_1, qz_n, qz_n0, qz_n1, qz_t, qz_f, Nat.reduceAdd, q1000000, q0, q1, q2, q3, q4, q5, q6, q7, q8, q9, q10, q11, q12, q13, q14, q15, q16, q18, q19, q20, q21, q22, q23, q24, q25, q26, q27, q28, q29, q30, q31, q32, q38, q44, q45, q48, q57, q58, q59, q60, q63, q64, q97, q122, q126, q127, q128, q255, q256, q300, q580, q600, q1000, nI_add, q_lt_t, q_lt_f, q_eq_t, q_eq_f, q_clamp, q_in_t, q_in_f, e2]
theorem s_putWord (I : zI) (L : zL) (ts : List Nat) {c : Nat} (hc : ∀ m, m < 8 → byF c m < 128) : zcall zZ nX8_putWord [.ref 36, .ref 26, .long (lN c)] (hp (wr I ts) L) = some (none, hp (wr I (tkn ts (wl c 8))) L) := by
  have := put_loop I L hc 8 (bl ts) (by omega)
  rw [show nI (8 * 8) - nI 8 = nI 56 from rfl] at this
  simp (disch := omega) only [c_X8_putWord, e_X8_putWord_0, e_X8_putWord_5, s_putBlank, show (56 : Int32) = nI 56 from rfl, this, Option.bind_some, Option.toList_some, Option.toList_none, List.cons_append, List.nil_append, Option.map_some, cond_true, cond_false, Bool.not_true, Bool.not_false, Bool.true_and, Bool.and_true, Bool.false_and, Bool.and_false, Bool.true_or, Bool.or_true, Bool.false_or, Bool.or_false, Bool.not_not, decide_true, decide_false, Bool.decide_eq_true, Bool.decide_eq_false, qz_0, qz_1, qz_n, qz_n0, qz_n1, qz_t, qz_f, Nat.reduceAdd]
  rfl
theorem wl_0 : ∀ n, wl 0 n = []
  | 0 => rfl
  | n + 1 => by
    show (if byF 0 n = 0 then [] else [byF 0 n]) ++ wl 0 n = []
    rw [wl_0 n, show byF 0 n = 0 by unfold byF; rw [Nat.zero_div], if_pos rfl]
    rfl
theorem byF_s (a : Nat) {x : Nat} (hx : x < 256) (m : Nat) : byF (a * 256 + x) (m + 1) = byF a m := by
  unfold byF
  rw [show 2 ^ (8 * (m + 1)) = 256 * 2 ^ (8 * m) by rw [Nat.mul_add, Nat.pow_add, Nat.mul_comm], ← Nat.div_div_eq_div_mul, show (a * 256 + x) / 256 = a by omega]
theorem byF_0 (a : Nat) {x : Nat} (hx : x < 256) : byF (a * 256 + x) 0 = x := by
  unfold byF
  rw [show 2 ^ (8 * 0) = 1 from rfl, Nat.div_one]
  omega
theorem wl_s (a : Nat) {x : Nat} (hx : x < 256) (h0 : x ≠ 0) : ∀ n, wl (a * 256 + x) (n + 1) = wl a n ++ [x]
  | 0 => by
    show (if byF _ 0 = 0 then [] else [byF _ 0]) ++ [] = [] ++ [x]
    rw [byF_0 a hx, if_neg h0]
    rfl
  | n + 1 => by
    show (if byF _ (n + 1) = 0 then [] else [byF _ (n + 1)]) ++ wl _ (n + 1) = ((if byF a n = 0 then [] else [byF a n]) ++ wl a n) ++ [x]
    rw [byF_s a hx, wl_s a hx h0 n, List.append_assoc]
theorem wcode_s (cs : List Nat) (x : Nat) : wcode (cs ++ [x]) = wcode cs * 256 + x := by
  unfold wcode
  rw [List.foldl_append]
  rfl
/-- a word, by its letters -/
theorem wl_wcode : ∀ (n : Nat) (cs : List Nat), cs.length ≤ n → (∀ x, x ∈ cs → 0 < x ∧ x < 128) → wl (wcode cs) n = cs ∧ ∀ m, byF (wcode cs) m < 128
  | 0, cs, h, _ => by
    obtain rfl : cs = [] := List.eq_nil_of_length_eq_zero (by omega)
    refine ⟨rfl, fun m => ?_⟩
    show 0 / _ % 256 < 128
    rw [Nat.zero_div]
    decide
  | n + 1, cs, h, hx => by
    rcases List.eq_nil_or_concat cs with rfl | ⟨ds, x, rfl⟩
    · refine ⟨wl_0 _, fun m => ?_⟩
      show 0 / _ % 256 < 128
      rw [Nat.zero_div]
      decide
    · rw [List.concat_eq_append] at h hx ⊢
      have h1 : (ds ++ [x]).length = ds.length + 1 := by simp
      have hx1 := hx x (by simp)
      obtain ⟨g1, g2⟩ := wl_wcode n ds (by omega) (fun y hy => hx y (by simp [hy]))
      rw [wcode_s]
      refine ⟨by rw [wl_s _ (by omega) (by omega), g1], fun m => ?_⟩
      cases m with
      | zero =>
        rw [byF_0 _ (by omega)]
        exact hx1.2
      | succ m =>
        rw [byF_s _ (by omega)]
        exact g2 m
theorem s_putL (I : zI) (L : zL) (ts : List Nat) {cs : List Nat} (h : cs.length ≤ 8) (hx : ∀ x, x ∈ cs → 0 < x ∧ x < 128) : zcall zZ nX8_putWord [.ref 36, .ref 26, .long (lN (wcode cs))] (hp (wr I ts) L) = some (none, hp (wr I (tkn ts cs)) L) := by
  obtain ⟨g1, g2⟩ := wl_wcode 8 cs h hx
  rw [s_putWord I L ts (fun m _ => g2 m), g1]
theorem s_putNumber (I : zI) (L : zL) (ts : List Nat) {n : Nat} (hn : n < 100) : zcall zZ nX8_putNumber [.ref 36, .ref 26, .int (nI n)] (hp (wr I ts) L) = some (none, hp (wr I (tkn ts (nmS n))) L) := by
  unfold tkn nmS
  have h10 : n / 10 < 10 := by omega
  have h11 : n % 10 < 10 := by omega
  have er : nI n - nI (n / 10) * nI 10 = nI (n % 10) := by
    rw [← q_div (by omega) (by omega) (by omega)]
    exact q_rem (by omega) (by omega) (by omega)
  by_cases h : 9 < n
  · rw [if_pos h, show bl ts ++ [48 + n / 10, 48 + n % 10] = bl ts ++ [48 + n / 10] ++ [48 + n % 10] by simp]
    simp (disch := omega) only [c_X8_putNumber, e_X8_putNumber_0, e_X8_putNumber_5, e_X8_putNumber_23, e_X8_putNumber_35, s_putBlank, s_putSign, er, q_div, Option.bind_some, Option.toList_some, Option.toList_none, List.cons_append, List.nil_append, Option.map_some, cond_true, cond_false, Bool.not_true, Bool.not_false, Bool.true_and, Bool.and_true, Bool.false_and, Bool.and_false, Bool.true_or, Bool.or_true, Bool.false_or, Bool.or_false, Bool.not_not, decide_true, decide_false, Bool.decide_eq_true, Bool.decide_eq_false, qz_0, qz_1, qz_n, qz_n0, qz_n1, qz_t, qz_f, Nat.reduceAdd, q1000000, q0, q1, q2, q3, q4, q5, q6, q7, q8, q9, q10, q11, q12, q13, q14, q15, q16, q18, q19, q20, q21, q22, q23, q24, q25, q26, q27, q28, q29, q30, q31, q32, q38, q44, q45, q48, q57, q58, q59, q60, q63, q64, q97, q122, q126, q127, q128, q255, q256, q300, q580, q600, q1000, nI_add, q_lt_t, q_lt_f, q_eq_t, q_eq_f, q_clamp, q_in_t, q_in_f]
  · rw [if_neg h, show 48 + n = 48 + n % 10 by omega]
    simp (disch := omega) only [c_X8_putNumber, e_X8_putNumber_0, e_X8_putNumber_5, e_X8_putNumber_23, e_X8_putNumber_35, s_putBlank, s_putSign, er, q_div, Option.bind_some, Option.toList_some, Option.toList_none, List.cons_append, List.nil_append, Option.map_some, cond_true, cond_false, Bool.not_true, Bool.not_false, Bool.true_and, Bool.and_true, Bool.false_and, Bool.and_false, Bool.true_or, Bool.or_true, Bool.false_or, Bool.or_false, Bool.not_not, decide_true, decide_false, Bool.decide_eq_true, Bool.decide_eq_false, qz_0, qz_1, qz_n, qz_n0, qz_n1, qz_t, qz_f, Nat.reduceAdd, q1000000, q0, q1, q2, q3, q4, q5, q6, q7, q8, q9, q10, q11, q12, q13, q14, q15, q16, q18, q19, q20, q21, q22, q23, q24, q25, q26, q27, q28, q29, q30, q31, q32, q38, q44, q45, q48, q57, q58, q59, q60, q63, q64, q97, q122, q126, q127, q128, q255, q256, q300, q580, q600, q1000, nI_add, q_lt_t, q_lt_f, q_eq_t, q_eq_f, q_clamp, q_in_t, q_in_f]
