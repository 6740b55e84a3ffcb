theorem s_readsSpans {I : zI} {L : zL} {B : Nat → Nat} {S N w j c : Nat} (hN : 1 ≤ N ∧ N ≤ 28) (hw : w < 7) (hB : BT I B S) (h : RF I B S j) (h14 : I 52 14 = nI 0) (h13 : I 52 13 = nI c) (h0 : I 53 0 = nI N) (h1 : I 53 1 = nI w) : VSp I L B S c j (spF (KT B S) (vN B S) N w (N + 1) j 0 true (nI 0)) (zcall zZ nX10_readsSpans [.ref 52] (hp I L)) := by
  have ih := rs_loop (L := L) hN hw (N + 1) j 0 c true (nI 0) I hB h h14 h13 h0 h1 (fun _ => by omega)
  have el : lstI N 0 true = -nI 1 := rfl
  rw [el] at ih
  refine Eq.mp ?_ ih
  congr 1
  symm
  simp (disch := omega) only [c_X10_readsSpans, e_X10_readsSpans_0, q1000000, q0, q1, q2, q3, q4, q5, q6, q7, q8, q9, q10, q11, q12, q13, q14, q15, q16, q18, q19, q20, q21, q22, q23, q24, q25, q26, q27, q28, q29, q30, q31, q32, q38, q44, q45, q48, q57, q58, q59, q60, q63, q64, q97, q122, q126, q127, q128, q255, q256, q300, q580, q600, q1000, Option.bind_some, Option.toList_some, Option.toList_none, List.cons_append, List.nil_append, Option.map_some, cond_true, cond_false, Bool.not_true, Bool.not_false, Bool.true_and, Bool.and_true, Bool.false_and, Bool.and_false, Bool.true_or, Bool.or_true, Bool.false_or, Bool.or_false, Bool.not_not, decide_true, decide_false, Bool.decide_eq_true, Bool.decide_eq_false, qz_0, qz_1, qz_n, qz_n0, qz_n1, qz_t, qz_f, Nat.reduceAdd]
/-! feasts by name -/
theorem wc_63 {cs : List Nat} (h8 : cs.length ≤ 8) (hx : ∀ x, x ∈ cs → 0 < x ∧ x < 128) : wcode cs < 2 ^ 63 := by
  obtain ⟨c1, c2⟩ := wcode_lt cs.length cs rfl hx
  rcases Nat.eq_zero_or_pos cs.length with q | q
  · rw [q] at c1
    omega
  · have := (c2 q).1
    have : 2 ^ (8 * cs.length - 1) ≤ 2 ^ 63 := Nat.pow_le_pow_right (by decide) (by omega)
    omega
theorem wv_eq2 {cs ws : List Nat} (h8 : cs.length ≤ 8) (hc : ∀ x, x ∈ cs → 0 < x ∧ x < 128) (hx : ∀ x, x ∈ ws → 0 < x ∧ x < 128) : lN (wcode cs) = wv ws ↔ cs = ws := by
  have hb := wc_63 h8 hc
  unfold wv
  by_cases h : ws.length ≤ 8
  · rw [if_pos h, pk_lEQ hb (wc_63 h hx)]
    constructor
    · intro e
      rw [← (wl_wcode 8 cs h8 hc).1, e, (wl_wcode 8 ws h hx).1]
    · intro e
      rw [e]
  · rw [if_neg h]
    constructor
    · intro e
      have : ¬ lN (wcode cs) < 0 := fun q => by
        have := Int64.lt_iff_toInt_lt.mp q
        rw [pk_lT hb] at this
        have e0 : (0 : Int64).toInt = 0 := rfl
        omega
      rw [e] at this
      exact absurd (show (-1 : Int64) < 0 by decide) this
    · intro e
      rw [e] at h8
      omega
def fx (nm : Nat → List Nat) (ws : List Nat) : Nat → Nat → Option Nat
  | 0, _ => none
  | m + 1, f => if nm f = ws then some f else fx nm ws m (f + 1)
def fxI (o : Option Nat) : Int32 := match o with
  | none => -nI 1
  | some f => nI f
/-- names in the class' desk d -/
def NMc (L : zL) (d F : Nat) (nm : Nat → List Nat) : Prop := ∀ f, f < F → (nm f).length ≤ 8 ∧ (∀ x, x ∈ nm f → 0 < x ∧ x < 128) ∧ L (d + 2) f = lN (wcode (nm f))
theorem fn_loop {d : Nat} (hd : d = 11 ∨ d = 18) {I : zI} {L : zL} {F : Nat} (hF : F ≤ 2) (h8 : I d 8 = nI F) {nm : Nat → List Nat} (hn : NMc L d F nm) {ws : List Nat} (hx : ∀ x, x ∈ ws → 0 < x ∧ x < 128) : ∀ m f, f + m = F → zrun zZ kX1_feastNamed (2, [some (.ref d), some (.long (wv ws)), none, some (.int (nI f))], [], hp I L, 0, 0) = some (some (.int (fxI (fx nm ws m f))), hp I L, 0, 0)
  | 0, f, h => by
    rw [e_X1_feastNamed_2 hd]
    simp (disch := omega) only [h8, Option.bind_some, Option.toList_some, Option.toList_none, List.cons_append, List.nil_append, Option.map_some, cond_true, cond_false, Bool.not_true, Bool.not_false, Bool.true_and, Bool.and_true, Bool.false_and, Bool.and_false, Bool.true_or, Bool.or_true, Bool.false_or, Bool.or_false, Bool.not_not, decide_true, decide_false, Bool.decide_eq_true, Bool.decide_eq_false, qz_0, qz_1, qz_n, qz_n0, qz_n1, qz_t, qz_f, Nat.reduceAdd, q1000000, q0, q1, q2, q3, q4, q5, q6, q7, q8, q9, q10, q11, q12, q13, q14, q15, q16, q18, q19, q20, q21, q22, q23, q24, q25, q26, q27, q28, q29, q30, q31, q32, q38, q44, q45, q48, q57, q58, q59, q60, q63, q64, q97, q122, q126, q127, q128, q255, q256, q300, q580, q600, q1000, nI_add, q_lt_t, q_lt_f, q_eq_t, q_eq_f, q_clamp, q_in_t, q_in_f]
    rfl
  | m + 1, f, h => by
    obtain ⟨n1, n2, n3⟩ := hn f (by omega)
    have hc : (lg_cmp (lN (wcode (nm f))) (wv ws) = nI 0) = (nm f = ws) := propext ((lg_cmp_eq _ _).trans (wv_eq2 n1 n2 hx))
    rw [e_X1_feastNamed_2 hd]
    unfold fx
    by_cases z : nm f = ws
    · rw [if_pos z]
      rw [eq_true z] at hc
      simp (disch := omega) only [h8, n3, hc, Option.bind_some, Option.toList_some, Option.toList_none, List.cons_append, List.nil_append, Option.map_some, cond_true, cond_false, Bool.not_true, Bool.not_false, Bool.true_and, Bool.and_true, Bool.false_and, Bool.and_false, Bool.true_or, Bool.or_true, Bool.false_or, Bool.or_false, Bool.not_not, decide_true, decide_false, Bool.decide_eq_true, Bool.decide_eq_false, qz_0, qz_1, qz_n, qz_n0, qz_n1, qz_t, qz_f, Nat.reduceAdd, q1000000, q0, q1, q2, q3, q4, q5, q6, q7, q8, q9, q10, q11, q12, q13, q14, q15, q16, q18, q19, q20, q21, q22, q23, q24, q25, q26, q27, q28, q29, q30, q31, q32, q38, q44, q45, q48, q57, q58, q59, q60, q63, q64, q97, q122, q126, q127, q128, q255, q256, q300, q580, q600, q1000, nI_add, q_lt_t, q_lt_f, q_eq_t, q_eq_f, q_clamp, q_in_t, q_in_f]
      rfl
    · rw [if_neg z, ← fn_loop hd hF h8 hn hx m (f + 1) (by omega)]
      rw [eq_false z] at hc
      simp (disch := omega) only [h8, n3, hc, Option.bind_some, Option.toList_some, Option.toList_none, List.cons_append, List.nil_append, Option.map_some, cond_true, cond_false, Bool.not_true, Bool.not_false, Bool.true_and, Bool.and_true, Bool.false_and, Bool.and_false, Bool.true_or, Bool.or_true, Bool.false_or, Bool.or_false, Bool.not_not, decide_true, decide_false, Bool.decide_eq_true, Bool.decide_eq_false, qz_0, qz_1, qz_n, qz_n0, qz_n1, qz_t, qz_f, Nat.reduceAdd, q1000000, q0, q1, q2, q3, q4, q5, q6, q7, q8, q9, q10, q11, q12, q13, q14, q15, q16, q18, q19, q20, q21, q22, q23, q24, q25, q26, q27, q28, q29, q30, q31, q32, q38, q44, q45, q48, q57, q58, q59, q60, q63, q64, q97, q122, q126, q127, q128, q255, q256, q300, q580, q600, q1000, nI_add, q_lt_t, q_lt_f, q_eq_t, q_eq_f, q_clamp, q_in_t, q_in_f]
theorem s_feastNamed {d : Nat} (hd : d = 11 ∨ d = 18) {I : zI} {L : zL} {F : Nat} (hF : F ≤ 2) (h8 : I d 8 = nI F) {nm : Nat → List Nat} (hn : NMc L d F nm) {ws : List Nat} (hx : ∀ x, x ∈ ws → 0 < x ∧ x < 128) : zcall zZ nX1_feastNamed [.ref d, .long (wv ws)] (hp I L) = some (some (.int (fxI (fx nm ws F 0))), hp I L) := by
  have := fn_loop hd hF h8 hn hx F 0 (by omega)
  simp (disch := omega) only [c_X1_feastNamed hd, e_X1_feastNamed_0 hd, q1000000, q0, q1, q2, q3, q4, q5, q6, q7, q8, q9, q10, q11, q12, q13, q14, q15, q16, q18, q19, q20, q21, q22, q23, q24, q25, q26, q27, q28, q29, q30, q31, q32, q38, q44, q45, q48, q57, q58, q59, q60, q63, q64, q97, q122, q126, q127, q128, q255, q256, q300, q580, q600, q1000, this, Option.bind_some, Option.toList_some, Option.toList_none, List.cons_append, List.nil_append, Option.map_some, cond_true, cond_false, Bool.not_true, Bool.not_false, Bool.true_and, Bool.and_true, Bool.false_and, Bool.and_false, Bool.true_or, Bool.or_true, Bool.false_or, Bool.or_false, Bool.not_not, decide_true, decide_false, Bool.decide_eq_true, Bool.decide_eq_false, qz_0, qz_1, qz_n, qz_n0, qz_n1, qz_t, qz_f, Nat.reduceAdd]
/-- names in the reference -/
def NMr (I : zI) (F : Nat) (nm : Nat → List Nat) : Prop := ∀ f, f < F → (nm f).length ≤ 8 ∧ I 53 (8 + f) = nI (nm f).length ∧ ∀ i, i < (nm f).length → (nm f).getD i 0 < 256 ∧ I 53 (10 + 8 * f + i) = nI ((nm f).getD i 0)
def cmN (cs : List Nat) (B : Nat → Nat) (s : Nat) : Nat → Nat → Bool
  | 0, _ => true
  | m + 1, i => decide (cs.getD i 0 = B (s + i)) && cmN cs B s m (i + 1)
theorem cmN_all {cs : List Nat} {B : Nat → Nat} {s : Nat} : ∀ m i, cmN cs B s m i = true ↔ ∀ t, i ≤ t → t < i + m → cs.getD t 0 = B (s + t)
  | 0, i => ⟨fun _ t h1 h2 => by omega, fun _ => rfl⟩
  | m + 1, i => by
    unfold cmN
    rw [Bool.and_eq_true, decide_eq_true_iff, cmN_all m (i + 1)]
    constructor
    · rintro ⟨h1, h2⟩ t p1 p2
      by_cases z : t = i
      · rw [z]
        exact h1
      · exact h2 t (by omega) (by omega)
    · intro h
      exact ⟨h i (by omega) (by omega), fun t p1 p2 => h t (by omega) (by omega)⟩
theorem cmN_eq {cs : List Nat} {B : Nat → Nat} {s e : Nat} : decide (cs = let' B s e) = (decide (cs.length = e - s) && cmN cs B s cs.length 0) := by
  rw [Bool.eq_iff_iff, decide_eq_true_iff, Bool.and_eq_true, decide_eq_true_iff, cmN_all]
  constructor
  · intro h
    have hl : cs.length = e - s := by rw [h, let_len]
    refine ⟨hl, fun t _ p => ?_⟩
    rw [← let_get B (e := e) (by omega), ← h]
  · rintro ⟨h1, h2⟩
    refine list_eq (by rw [h1, let_len]) (fun i hi => ?_)
    rw [h2 i (by omega) (by omega), let_get B (by omega)]
theorem fh_cmp {I : zI} {B : Nat → Nat} {S : Nat} (L : zL) (hB : BT I B S) {s e : Nat} (h9 : I 52 9 = nI s) (hse : s ≤ e) (heS : e ≤ S) {F : Nat} {nm : Nat → List Nat} (hn : NMr I F nm) {f : Nat} (hf : f < F) (hF : F ≤ 2) : ∀ m i (b : Bool), i + m = (nm f).length → (b = true → (nm f).length = e - s) → zrun zZ kX10_feastHere (49, [some (.ref 52), some (.int (nI f)), some (.int (zbo b)), some (.int (nI i))], [], hp I L, 0, 0) = zrun zZ kX10_feastHere (106, [some (.ref 52), some (.int (nI f)), some (.int (zbo (b && cmN (nm f) B s m i))), none], [], hp I L, 0, 0)
  | 0, i, b, h, hb => by
    obtain ⟨n1, n2, n3⟩ := hn f hf
    rw [e_X10_feastHere_49, show cmN (nm f) B s 0 i = true from rfl, Bool.and_true]
    simp (disch := omega) only [n2, Option.bind_some, Option.toList_some, Option.toList_none, List.cons_append, List.nil_append, Option.map_some, cond_true, cond_false, Bool.not_true, Bool.not_false, Bool.true_and, Bool.and_true, Bool.false_and, Bool.and_false, Bool.true_or, Bool.or_true, Bool.false_or, Bool.or_false, Bool.not_not, decide_true, decide_false, Bool.decide_eq_true, Bool.decide_eq_false, qz_0, qz_1, qz_n, qz_n0, qz_n1, qz_t, qz_f, Nat.reduceAdd, q1000000, q0, q1, q2, q3, q4, q5, q6, q7, q8, q9, q10, q11, q12, q13, q14, q15, q16, q18, q19, q20, q21, q22, q23, q24, q25, q26, q27, q28, q29, q30, q31, q32, q38, q44, q45, q48, q57, q58, q59, q60, q63, q64, q97, q122, q126, q127, q128, q255, q256, q300, q580, q600, q1000, nI_add, q_lt_t, q_lt_f, q_eq_t, q_eq_f, q_clamp, q_in_t, q_in_f]
  | m + 1, i, b, h, hb => by
    obtain ⟨n1, n2, n3⟩ := hn f hf
    obtain ⟨l1, l2⟩ := n3 i (by omega)
    rw [e_X10_feastHere_49]
    cases b with
    | false =>
      rw [Bool.false_and]
      simp (disch := omega) only [n2, Option.bind_some, Option.toList_some, Option.toList_none, List.cons_append, List.nil_append, Option.map_some, cond_true, cond_false, Bool.not_true, Bool.not_false, Bool.true_and, Bool.and_true, Bool.false_and, Bool.and_false, Bool.true_or, Bool.or_true, Bool.false_or, Bool.or_false, Bool.not_not, decide_true, decide_false, Bool.decide_eq_true, Bool.decide_eq_false, qz_0, qz_1, qz_n, qz_n0, qz_n1, qz_t, qz_f, Nat.reduceAdd, q1000000, q0, q1, q2, q3, q4, q5, q6, q7, q8, q9, q10, q11, q12, q13, q14, q15, q16, q18, q19, q20, q21, q22, q23, q24, q25, q26, q27, q28, q29, q30, q31, q32, q38, q44, q45, q48, q57, q58, q59, q60, q63, q64, q97, q122, q126, q127, q128, q255, q256, q300, q580, q600, q1000, nI_add, q_lt_t, q_lt_f, q_eq_t, q_eq_f, q_clamp, q_in_t, q_in_f]
    | true =>
      have hl := hb rfl
      obtain ⟨b1, b2, b3, b4⟩ := id hB
      obtain ⟨c1, c2, c3⟩ := b4 (s + i) (by omega)
      rw [Bool.true_and]
      unfold cmN
      rw [← fh_cmp L hB h9 hse heS hn hf hF m (i + 1) (decide ((nm f).getD i 0 = B (s + i))) (by omega) (fun _ => hl)]
      by_cases z : (nm f).getD i 0 = B (s + i)
      · rw [decide_eq_true z, qz_t]
        rw [z] at l2
        simp (disch := omega) only [e_X10_feastHere_94, e_X10_feastHere_99, n2, h9, c2, q_mul, l2, Option.bind_some, Option.toList_some, Option.toList_none, List.cons_append, List.nil_append, Option.map_some, cond_true, cond_false, Bool.not_true, Bool.not_false, Bool.true_and, Bool.and_true, Bool.false_and, Bool.and_false, Bool.true_or, Bool.or_true, Bool.false_or, Bool.or_false, Bool.not_not, decide_true, decide_false, Bool.decide_eq_true, Bool.decide_eq_false, qz_0, qz_1, qz_n, qz_n0, qz_n1, qz_t, qz_f, Nat.reduceAdd, q1000000, q0, q1, q2, q3, q4, q5, q6, q7, q8, q9, q10, q11, q12, q13, q14, q15, q16, q18, q19, q20, q21, q22, q23, q24, q25, q26, q27, q28, q29, q30, q31, q32, q38, q44, q45, q48, q57, q58, q59, q60, q63, q64, q97, q122, q126, q127, q128, q255, q256, q300, q580, q600, q1000, nI_add, q_lt_t, q_lt_f, q_eq_t, q_eq_f, q_clamp, q_in_t, q_in_f]
      · rw [decide_eq_false z, qz_f]
        simp (disch := omega) only [e_X10_feastHere_99, n2, h9, c2, q_mul, l2, Option.bind_some, Option.toList_some, Option.toList_none, List.cons_append, List.nil_append, Option.map_some, cond_true, cond_false, Bool.not_true, Bool.not_false, Bool.true_and, Bool.and_true, Bool.false_and, Bool.and_false, Bool.true_or, Bool.or_true, Bool.false_or, Bool.or_false, Bool.not_not, decide_true, decide_false, Bool.decide_eq_true, Bool.decide_eq_false, qz_0, qz_1, qz_n, qz_n0, qz_n1, qz_t, qz_f, Nat.reduceAdd, q1000000, q0, q1, q2, q3, q4, q5, q6, q7, q8, q9, q10, q11, q12, q13, q14, q15, q16, q18, q19, q20, q21, q22, q23, q24, q25, q26, q27, q28, q29, q30, q31, q32, q38, q44, q45, q48, q57, q58, q59, q60, q63, q64, q97, q122, q126, q127, q128, q255, q256, q300, q580, q600, q1000, nI_add, q_lt_t, q_lt_f, q_eq_t, q_eq_f, q_clamp, q_in_t, q_in_f]
