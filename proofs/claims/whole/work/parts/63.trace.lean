/-! the way that is told first: spans one by one -/
def spOK (N w : Nat) (T H W : Int32) (d s i P : Nat) : Prop := csF N w T H W d i P + pcx (tdF w T H W d i P) s + kU N w T H W (d + i + 1) (s ||| tdF w T H W d i P) = kU N w T H W d s
def baOK (N w : Nat) (T H W : Int32) (d s : Nat) : Prop := todF W d s + kU N w T H W (d + 1) (sbdF W d s) = kU N w T H W d s
def FST (N w : Nat) (T H W : Int32) (d s i P : Nat) : Prop := d + i < N ∧ (1 ≤ P ∧ P < 128) ∧ spOK N w T H W d s i P ∧ ∀ i' P', (i' < i ∨ (i' = i ∧ P' < P)) → 1 ≤ P' → P' < 128 → ¬ spOK N w T H W d s i' P'
theorem FST_uniq {N w : Nat} {T H W : Int32} {d s i P i' P' : Nat} (h : FST N w T H W d s i P) (h' : FST N w T H W d s i' P') : i = i' ∧ P = P' := by
  obtain ⟨a1, a2, a3, a4⟩ := h
  obtain ⟨b1, b2, b3, b4⟩ := h'
  have e1 : ¬ (i' < i ∨ (i' = i ∧ P' < P)) := fun q => a4 i' P' q b2.1 b2.2 b3
  have e2 : ¬ (i < i' ∨ (i = i' ∧ P < P')) := fun q => b4 i P q a2.1 a2.2 a3
  omega
def PL (N w : Nat) (T H W : Int32) : Nat → Nat → Nat → List (Nat × Nat × Nat) → Prop
  | 0, d, _, l => N ≤ d ∧ l = []
  | n + 1, d, s, l => (N ≤ d ∧ l = []) ∨ (d < N ∧ baOK N w T H W d s ∧ PL N w T H W n (d + 1) (sbdF W d s) l) ∨ (d < N ∧ ¬ baOK N w T H W d s ∧ ∃ i P l', FST N w T H W d s i P ∧ l = (d, d + i, P) :: l' ∧ PL N w T H W n (d + i + 1) (s ||| tdF w T H W d i P) l')
theorem PL_uniq {N w : Nat} {T H W : Int32} : ∀ n n' d s l l', PL N w T H W n d s l → PL N w T H W n' d s l' → l = l'
  | 0, 0, d, s, l, l', h, h' => by rw [h.2, h'.2]
  | 0, n' + 1, d, s, l, l', h, h' => by
    rcases h' with h' | ⟨h', _⟩ | ⟨h', _⟩
    · rw [h.2, h'.2]
    · have := h.1
      omega
    · have := h.1
      omega
  | n + 1, 0, d, s, l, l', h, h' => by
    rcases h with h | ⟨h, _⟩ | ⟨h, _⟩
    · rw [h.2, h'.2]
    · have := h'.1
      omega
    · have := h'.1
      omega
  | n + 1, n' + 1, d, s, l, l', h, h' => by
    rcases h with ⟨a1, a2⟩ | ⟨a1, a2, a3⟩ | ⟨a1, a2, i, P, k, a3, a4, a5⟩
    · rcases h' with ⟨b1, b2⟩ | ⟨b1, b2, b3⟩ | ⟨b1, b2, i', P', k', b3, b4, b5⟩
      · rw [a2, b2]
      · omega
      · omega
    · rcases h' with ⟨b1, b2⟩ | ⟨b1, b2, b3⟩ | ⟨b1, b2, i', P', k', b3, b4, b5⟩
      · omega
      · exact PL_uniq n n' _ _ l l' a3 b3
      · exact absurd a2 b2
    · rcases h' with ⟨b1, b2⟩ | ⟨b1, b2, b3⟩ | ⟨b1, b2, i', P', k', b3, b4, b5⟩
      · omega
      · exact absurd b2 a2
      · obtain ⟨rfl, rfl⟩ := FST_uniq a3 b3
        rw [a4, b4, PL_uniq n n' _ _ k k' a5 b5]
/-- days in a span, of its weekdays, that no feast hides -/
def inS (w : Nat) (H : Int32) (l : List (Nat × Nat × Nat)) (x : Nat) : Bool := l.any (fun p => decide (p.1 ≤ x) && decide (x ≤ p.2.1) && p.2.2.testBit ((w + x) % 7) && !bt H x)
/-- spans of a plan lie from its day on -/
theorem PL_from {N w : Nat} {T H W : Int32} : ∀ n d s l, PL N w T H W n d s l → ∀ p, p ∈ l → d ≤ p.1 ∧ p.1 ≤ p.2.1 ∧ p.2.1 < N ∧ 1 ≤ p.2.2 ∧ p.2.2 < 128
  | 0, d, s, l, h, p, hp => by rw [h.2] at hp; cases hp
  | n + 1, d, s, l, h, p, hp => by
    rcases h with ⟨a1, a2⟩ | ⟨a1, a2, a3⟩ | ⟨a1, a2, i, P, k, a3, a4, a5⟩
    · rw [a2] at hp
      cases hp
    · have := PL_from n _ _ l a3 p hp
      omega
    · rw [a4] at hp
      rcases List.mem_cons.mp hp with q | q
      · rw [q]
        have := a3.1
        have := a3.2.1
        exact ⟨Nat.le_refl d, Nat.le_add_right d i, a3.1, a3.2.1.1, a3.2.1.2⟩
      · have := PL_from n _ _ k a5 p q
        omega
theorem inS_low {N w : Nat} {T H W : Int32} {n d s : Nat} {l : List (Nat × Nat × Nat)} (h : PL N w T H W n d s l) {x : Nat} (hx : x < d) : inS w H l x = false := by
  unfold inS
  rw [List.any_eq_false]
  intro p hp
  have := (PL_from n d s l h p hp).1
  rw [decide_eq_false (show ¬ p.1 ≤ x by omega)]
  simp
/-- a plan's length -/
theorem PL_len {N w : Nat} {T H W : Int32} : ∀ n d s l, PL N w T H W n d s l → l.length ≤ N - d
  | 0, d, s, l, h => by rw [h.2]; exact Nat.zero_le _
  | n + 1, d, s, l, h => by
    rcases h with ⟨a1, a2⟩ | ⟨a1, a2, a3⟩ | ⟨a1, a2, i, P, k, a3, a4, a5⟩
    · rw [a2]
      exact Nat.zero_le _
    · have := PL_len n _ _ l a3
      omega
    · have := PL_len n _ _ k a5
      have := a3.1
      rw [a4, List.length_cons]
      omega
/-! the class follows its row -/
theorem pc_xor : ∀ t, t < 4 → ∀ s, s < 4 → pop (nI (s ||| t) ^^^ nI s) = pcx t s := by decide +kernel
/-- row 0, filled -/
def RW0 (I : zI) (N w : Nat) (T H W : Int32) (st : Nat) : Prop := ∀ d, d ≤ N → ∀ s, s < 4 → s &&& st = st → I 38 (d * 4 + s) = nI (kU N w T H W d s)
theorem RW0_of {I : zI} {L : zL} {N w : Nat} {T H W : Int32} {st : Nat} (h : ROW I L 37 N w T H W st false 0 0) : RW0 I N w T H W st := fun d hd s hs hst => by
  obtain ⟨k, n, c1, c2, c3, c4⟩ := h d (Nat.zero_le _) hd s hs hst
  rw [kU_eq c4]
  exact c2
theorem kU_le {N w : Nat} {T H W : Int32} (hN : N ≤ 28) (d s : Nat) : kU N w T H W d s ≤ 56 := by
  have := (kU_spec N w T H W d s).2
  omega
/-- one pattern is looked at: from 40 -/
theorem ts_one {I : zI} {L : zL} {N w : Nat} {T H W : Int32} {st d s i P : Nat} (hFS : FS I N w T H W st) (hR : RW0 I N w T H W st) (hs : s < 4) (hst : s &&& st = st) (hd : d + i < N) (h1 : 1 ≤ P) (hP : P < 128) : ∃ x8 x9 : Int32, (∀ x, x < 32 → bt x8 x = (decide (d ≤ x) && decide (x < d + (i + 1)) && outF w T H P x)) ∧ (∀ x, x < 32 → bt x9 x = (decide (d ≤ x) && decide (x < d + (i + 1)) && morF w H W P x)) ∧ (spOK N w T H W d s i P → zrun zZ kX2_traceSpan (40, [some (.ref 25), some (.int (nI d)), some (.int (nI s)), some (.ref 38), some (.int (nI (d + i))), some (.int (nI (2 ^ (d + i + 1) - 2 ^ d))), some (.int (nI P)), none, none, none, none, none], [], hp I L, 0, 0) = (zcall zZ nX7_addSpan [.ref 26, .int (nI d), .int (nI (d + i)), .int (nI P)] (hp I L)).bind (fun q => zrun zZ kX2_traceSpan (193, [some (.ref 25), none, none, none, none, none, none, none, some (.int x8), some (.int x9), some (.int (nI (s ||| tdF w T H W d i P))), none], q.1.toList ++ [], q.2, 0, 0))) ∧ (¬ spOK N w T H W d s i P → zrun zZ kX2_traceSpan (40, [some (.ref 25), some (.int (nI d)), some (.int (nI s)), some (.ref 38), some (.int (nI (d + i))), some (.int (nI (2 ^ (d + i + 1) - 2 ^ d))), some (.int (nI P)), none, none, none, none, none], [], hp I L, 0, 0) = zrun zZ kX2_traceSpan (40, [some (.ref 25), some (.int (nI d)), some (.int (nI s)), some (.ref 38), some (.int (nI (d + i))), some (.int (nI (2 ^ (d + i + 1) - 2 ^ d))), some (.int (nI (P + 1))), none, none, none, none, none], [], hp I L, 0, 0)) := by
  obtain ⟨⟨hN28, hw7, hst4, hWT⟩, ⟨h6, h7, h12, h31, h32, h33⟩, h8, h9, h10, h11⟩ := id hFS
  refine ⟨(((nI (2 ^ (d + i + 1) - 2 ^ d) &&& pds N w P) &&& (H ^^^ -nI 1)) &&& (T ^^^ -nI 1)), ((nI (2 ^ (d + i + 1) - 2 ^ d) &&& W) &&& (((nI (2 ^ (d + i + 1) - 2 ^ d) &&& pds N w P) &&& (H ^^^ -nI 1)) ^^^ -nI 1)), fun x hx => b_out hN28 hd T H hx, fun x hx => b_mor hN28 hd H W hx, ?_⟩
  have hpT := pT_b P hP
  have hen := enF_le N d i
  have hcs := ocmc_le (w := w) (H := H) hWT d i P
  have ht4 := tdF_lt w T H W d i P
  have hst2 := or_lt4 s hs _ ht4
  have hok := ok_or s hs _ ht4 st hst4 hst
  have hp2 := pcx_le _ ht4 s hs
  have hcsv : csF N w T H W d i P = pT P + enF N d i + ocF w T H d i P + mcF w H W d i P := rfl
  have eo : pop (((nI (2 ^ (d + i + 1) - 2 ^ d) &&& pds N w P) &&& (H ^^^ -nI 1)) &&& (T ^^^ -nI 1)) = ocF w T H d i P := pop_range (by omega) (fun x hx => b_out hN28 hd T H hx)
  have em : pop ((nI (2 ^ (d + i + 1) - 2 ^ d) &&& W) &&& (((nI (2 ^ (d + i + 1) - 2 ^ d) &&& pds N w P) &&& (H ^^^ -nI 1)) ^^^ -nI 1)) = mcF w H W d i P := pop_range (by omega) (fun x hx => b_mor hN28 hd H W hx)
  have ez0 : ((((nI (2 ^ (d + i + 1) - 2 ^ d) &&& pds N w P) &&& (H ^^^ -nI 1)) &&& (T ^^^ -nI 1)) = nI 0) = (ocF w T H d i P = 0) := by rw [pop_zero, eo]
  have ez1 : (((nI (2 ^ (d + i + 1) - 2 ^ d) &&& W) &&& (((nI (2 ^ (d + i + 1) - 2 ^ d) &&& pds N w P) &&& (H ^^^ -nI 1)) ^^^ -nI 1)) = nI 0) = (mcF w H W d i P = 0) := by rw [pop_zero, em]
  have ebd := s_bounds (L := L) hN28 h6 hd
  have ec := hR (d + i + 1) (by omega) (s ||| tdF w T H W d i P) hst2 hok
  have ed := hR d (by omega) s hs hst
  have l1 := kU_le (w := w) (T := T) (H := H) (W := W) hN28 (d + i + 1) (s ||| tdF w T H W d i P)
  have l2 := kU_le (w := w) (T := T) (H := H) (W := W) hN28 d s
  have hx := pc_xor _ ht4 s hs
  have go : ∀ (a b : Nat), (a = if ocF w T H d i P = 0 then 0 else 1) → (b = if mcF w H W d i P = 0 then 0 else 2) → (s ||| a) ||| b = s ||| tdF w T H W d i P := by
    intro a b ha hb
    rw [ha, hb, Nat.or_assoc]
    congr 1
    unfold tdF foF fmF
    by_cases z1 : ocF w T H d i P = 0
    · rw [if_pos z1, decide_eq_false (by omega)]
      by_cases z2 : mcF w H W d i P = 0
      · rw [if_pos z2, decide_eq_false (by omega)]
        rfl
      · rw [if_neg z2, decide_eq_true (by omega)]
        rfl
    · rw [if_neg z1, decide_eq_true (by omega)]
      by_cases z2 : mcF w H W d i P = 0
      · rw [if_pos z2, decide_eq_false (by omega)]
        rfl
      · rw [if_neg z2, decide_eq_true (by omega)]
        rfl
  have esum : pT P + enF N d i + ocF w T H d i P + mcF w H W d i P + pcx (tdF w T H W d i P) s + kU N w T H W (d + i + 1) (s ||| tdF w T H W d i P) = csF N w T H W d i P + pcx (tdF w T H W d i P) s + kU N w T H W (d + i + 1) (s ||| tdF w T H W d i P) := by rw [hcsv]
  have walk : zrun zZ kX2_traceSpan (40, [some (.ref 25), some (.int (nI d)), some (.int (nI s)), some (.ref 38), some (.int (nI (d + i))), some (.int (nI (2 ^ (d + i + 1) - 2 ^ d))), some (.int (nI P)), none, none, none, none, none], [], hp I L, 0, 0) = zrun zZ kX2_traceSpan (117, [some (.ref 25), some (.int (nI d)), some (.int (nI s)), some (.ref 38), some (.int (nI (d + i))), some (.int (nI (2 ^ (d + i + 1) - 2 ^ d))), some (.int (nI P)), none, some (.int (((nI (2 ^ (d + i + 1) - 2 ^ d) &&& pds N w P) &&& (H ^^^ -nI 1)) &&& (T ^^^ -nI 1))), some (.int ((nI (2 ^ (d + i + 1) - 2 ^ d) &&& W) &&& (((nI (2 ^ (d + i + 1) - 2 ^ d) &&& pds N w P) &&& (H ^^^ -nI 1)) ^^^ -nI 1))), none, none], [.int (nI (if mcF w H W d i P = 0 then 0 else 2)), .int (nI (s ||| if ocF w T H d i P = 0 then 0 else 1))], hp I L, 0, 0) := by
    rw [e_X2_traceSpan_40]
    by_cases z1 : ocF w T H d i P = 0
    · by_cases z2 : mcF w H W d i P = 0
      · rw [if_pos z1, if_pos z2]
        simp (disch := omega) only [e_X2_traceSpan_95, e_X2_traceSpan_106, h12 P hP, h8, h9, h10, ez0, ez1, z1, z2, nx_or, Option.bind_some, Option.toList_some, Option.toList_none, List.cons_append, List.nil_append, Option.map_some, cond_true, cond_false, Bool.not_true, Bool.not_false, Bool.true_and, Bool.and_true, Bool.false_and, Bool.and_false, Bool.true_or, Bool.or_true, Bool.false_or, Bool.or_false, Bool.not_not, decide_true, decide_false, Bool.decide_eq_true, Bool.decide_eq_false, qz_0, qz_1, qz_n, qz_n0, qz_n1, qz_t, qz_f, Nat.reduceAdd, q1000000, q0, q1, q2, q3, q4, q5, q6, q7, q8, q9, q10, q11, q12, q13, q14, q15, q16, q18, q19, q20, q21, q22, q23, q24, q25, q26, q27, q28, q29, q30, q31, q32, q38, q44, q45, q48, q57, q58, q59, q60, q63, q64, q97, q122, q126, q127, q128, q255, q256, q300, q580, q600, q1000, nI_add, q_lt_t, q_lt_f, q_eq_t, q_eq_f, q_clamp, q_in_t, q_in_f]
      · rw [if_pos z1, if_neg z2]
        simp (disch := omega) only [e_X2_traceSpan_95, e_X2_traceSpan_106, h12 P hP, h8, h9, h10, ez0, ez1, z1, z2, nx_or, Option.bind_some, Option.toList_some, Option.toList_none, List.cons_append, List.nil_append, Option.map_some, cond_true, cond_false, Bool.not_true, Bool.not_false, Bool.true_and, Bool.and_true, Bool.false_and, Bool.and_false, Bool.true_or, Bool.or_true, Bool.false_or, Bool.or_false, Bool.not_not, decide_true, decide_false, Bool.decide_eq_true, Bool.decide_eq_false, qz_0, qz_1, qz_n, qz_n0, qz_n1, qz_t, qz_f, Nat.reduceAdd, q1000000, q0, q1, q2, q3, q4, q5, q6, q7, q8, q9, q10, q11, q12, q13, q14, q15, q16, q18, q19, q20, q21, q22, q23, q24, q25, q26, q27, q28, q29, q30, q31, q32, q38, q44, q45, q48, q57, q58, q59, q60, q63, q64, q97, q122, q126, q127, q128, q255, q256, q300, q580, q600, q1000, nI_add, q_lt_t, q_lt_f, q_eq_t, q_eq_f, q_clamp, q_in_t, q_in_f]
    · by_cases z2 : mcF w H W d i P = 0
      · rw [if_neg z1, if_pos z2]
        simp (disch := omega) only [e_X2_traceSpan_95, e_X2_traceSpan_106, h12 P hP, h8, h9, h10, ez0, ez1, z1, z2, nx_or, Option.bind_some, Option.toList_some, Option.toList_none, List.cons_append, List.nil_append, Option.map_some, cond_true, cond_false, Bool.not_true, Bool.not_false, Bool.true_and, Bool.and_true, Bool.false_and, Bool.and_false, Bool.true_or, Bool.or_true, Bool.false_or, Bool.or_false, Bool.not_not, decide_true, decide_false, Bool.decide_eq_true, Bool.decide_eq_false, qz_0, qz_1, qz_n, qz_n0, qz_n1, qz_t, qz_f, Nat.reduceAdd, q1000000, q0, q1, q2, q3, q4, q5, q6, q7, q8, q9, q10, q11, q12, q13, q14, q15, q16, q18, q19, q20, q21, q22, q23, q24, q25, q26, q27, q28, q29, q30, q31, q32, q38, q44, q45, q48, q57, q58, q59, q60, q63, q64, q97, q122, q126, q127, q128, q255, q256, q300, q580, q600, q1000, nI_add, q_lt_t, q_lt_f, q_eq_t, q_eq_f, q_clamp, q_in_t, q_in_f]
      · rw [if_neg z1, if_neg z2]
        simp (disch := omega) only [e_X2_traceSpan_95, e_X2_traceSpan_106, h12 P hP, h8, h9, h10, ez0, ez1, z1, z2, nx_or, Option.bind_some, Option.toList_some, Option.toList_none, List.cons_append, List.nil_append, Option.map_some, cond_true, cond_false, Bool.not_true, Bool.not_false, Bool.true_and, Bool.and_true, Bool.false_and, Bool.and_false, Bool.true_or, Bool.or_true, Bool.false_or, Bool.or_false, Bool.not_not, decide_true, decide_false, Bool.decide_eq_true, Bool.decide_eq_false, qz_0, qz_1, qz_n, qz_n0, qz_n1, qz_t, qz_f, Nat.reduceAdd, q1000000, q0, q1, q2, q3, q4, q5, q6, q7, q8, q9, q10, q11, q12, q13, q14, q15, q16, q18, q19, q20, q21, q22, q23, q24, q25, q26, q27, q28, q29, q30, q31, q32, q38, q44, q45, q48, q57, q58, q59, q60, q63, q64, q97, q122, q126, q127, q128, q255, q256, q300, q580, q600, q1000, nI_add, q_lt_t, q_lt_f, q_eq_t, q_eq_f, q_clamp, q_in_t, q_in_f]
  have hgo := go _ _ rfl rfl
  rw [walk, e_X2_traceSpan_117]
  constructor
  · intro hq
    have hq : csF N w T H W d i P + pcx (tdF w T H W d i P) s + kU N w T H W (d + i + 1) (s ||| tdF w T H W d i P) = kU N w T H W d s := hq
    simp (disch := omega) only [e_X2_traceSpan_134, e_X2_traceSpan_140, e_X2_traceSpan_146, e_X2_traceSpan_154, ebd, h31 P h1 hP, nx_or, hgo, j_bitCount, eo, em, hx, q_mul, ec, ed, esum, hq, Option.bind_some, Option.toList_some, Option.toList_none, List.cons_append, List.nil_append, Option.map_some, cond_true, cond_false, Bool.not_true, Bool.not_false, Bool.true_and, Bool.and_true, Bool.false_and, Bool.and_false, Bool.true_or, Bool.or_true, Bool.false_or, Bool.or_false, Bool.not_not, decide_true, decide_false, Bool.decide_eq_true, Bool.decide_eq_false, qz_0, qz_1, qz_n, qz_n0, qz_n1, qz_t, qz_f, Nat.reduceAdd, q1000000, q0, q1, q2, q3, q4, q5, q6, q7, q8, q9, q10, q11, q12, q13, q14, q15, q16, q18, q19, q20, q21, q22, q23, q24, q25, q26, q27, q28, q29, q30, q31, q32, q38, q44, q45, q48, q57, q58, q59, q60, q63, q64, q97, q122, q126, q127, q128, q255, q256, q300, q580, q600, q1000, nI_add, q_lt_t, q_lt_f, q_eq_t, q_eq_f, q_clamp, q_in_t, q_in_f]
  · intro hq
    have hq : ¬ csF N w T H W d i P + pcx (tdF w T H W d i P) s + kU N w T H W (d + i + 1) (s ||| tdF w T H W d i P) = kU N w T H W d s := hq
    simp (disch := omega) only [e_X2_traceSpan_134, e_X2_traceSpan_140, e_X2_traceSpan_146, e_X2_traceSpan_154, ebd, h31 P h1 hP, nx_or, hgo, j_bitCount, eo, em, hx, q_mul, ec, ed, esum, Option.bind_some, Option.toList_some, Option.toList_none, List.cons_append, List.nil_append, Option.map_some, cond_true, cond_false, Bool.not_true, Bool.not_false, Bool.true_and, Bool.and_true, Bool.false_and, Bool.and_false, Bool.true_or, Bool.or_true, Bool.false_or, Bool.or_false, Bool.not_not, decide_true, decide_false, Bool.decide_eq_true, Bool.decide_eq_false, qz_0, qz_1, qz_n, qz_n0, qz_n1, qz_t, qz_f, Nat.reduceAdd, q1000000, q0, q1, q2, q3, q4, q5, q6, q7, q8, q9, q10, q11, q12, q13, q14, q15, q16, q18, q19, q20, q21, q22, q23, q24, q25, q26, q27, q28, q29, q30, q31, q32, q38, q44, q45, q48, q57, q58, q59, q60, q63, q64, q97, q122, q126, q127, q128, q255, q256, q300, q580, q600, q1000, nI_add, q_lt_t, q_lt_f, q_eq_t, q_eq_f, q_clamp, q_in_t, q_in_f]
/-- what a taken span does -/
def tkI (I : zI) (p d i P : Nat) (x8 x9 : Int32) : zI := zup (zup (zup (zup (zup (zup I 27 p (nI d)) 28 p (nI (d + i))) 29 p (nI P)) 26 8 (nI (p + 1))) 26 10 (I 26 10 ||| x8)) 26 12 (I 26 12 ||| x9)
theorem ts_take {I : zI} {L : zL} {p d i P : Nat} {x8 x9 x10 : Int32} (hp8 : I 26 8 = nI p) (hpl : p < 28) : (zcall zZ nX7_addSpan [.ref 26, .int (nI d), .int (nI (d + i)), .int (nI P)] (hp I L)).bind (fun q => zrun zZ kX2_traceSpan (193, [some (.ref 25), none, none, none, none, none, none, none, some (.int x8), some (.int x9), some (.int x10), none], q.1.toList ++ [], q.2, 0, 0)) = some (some (.int x10), hp (tkI I p d i P x8 x9) L, 0, 0) := by
  unfold tkI
  simp (disch := omega) only [c_X7_addSpan, e_X7_addSpan_0, e_X7_addSpan_49, e_X2_traceSpan_193, hp8, zu_same, zu_cell, zu_at, Option.bind_some, Option.toList_some, Option.toList_none, List.cons_append, List.nil_append, Option.map_some, cond_true, cond_false, Bool.not_true, Bool.not_false, Bool.true_and, Bool.and_true, Bool.false_and, Bool.and_false, Bool.true_or, Bool.or_true, Bool.false_or, Bool.or_false, Bool.not_not, decide_true, decide_false, Bool.decide_eq_true, Bool.decide_eq_false, qz_0, qz_1, qz_n, qz_n0, qz_n1, qz_t, qz_f, Nat.reduceAdd, q1000000, q0, q1, q2, q3, q4, q5, q6, q7, q8, q9, q10, q11, q12, q13, q14, q15, q16, q18, q19, q20, q21, q22, q23, q24, q25, q26, q27, q28, q29, q30, q31, q32, q38, q44, q45, q48, q57, q58, q59, q60, q63, q64, q97, q122, q126, q127, q128, q255, q256, q300, q580, q600, q1000, nI_add, q_lt_t, q_lt_f, q_eq_t, q_eq_f, q_clamp, q_in_t, q_in_f]
theorem ts_pat {I : zI} {L : zL} {N w : Nat} {T H W : Int32} {st d s i p : Nat} (hFS : FS I N w T H W st) (hR : RW0 I N w T H W st) (hs : s < 4) (hst : s &&& st = st) (hd : d + i < N) (hp8 : I 26 8 = nI p) (hpl : p < 28) : ∀ r P, P + r = 128 → 1 ≤ P → (∀ P', 1 ≤ P' → P' < P → ¬ spOK N w T H W d s i P') → (∃ P' x8 x9, P' < 128 ∧ 1 ≤ P' ∧ spOK N w T H W d s i P' ∧ (∀ Q, 1 ≤ Q → Q < P' → ¬ spOK N w T H W d s i Q) ∧ (∀ x, x < 32 → bt x8 x = (decide (d ≤ x) && decide (x < d + (i + 1)) && outF w T H P' x)) ∧ (∀ x, x < 32 → bt x9 x = (decide (d ≤ x) && decide (x < d + (i + 1)) && morF w H W P' x)) ∧ zrun zZ kX2_traceSpan (40, [some (.ref 25), some (.int (nI d)), some (.int (nI s)), some (.ref 38), some (.int (nI (d + i))), some (.int (nI (2 ^ (d + i + 1) - 2 ^ d))), some (.int (nI P)), none, none, none, none, none], [], hp I L, 0, 0) = some (some (.int (nI (s ||| tdF w T H W d i P'))), hp (tkI I p d i P' x8 x9) L, 0, 0)) ∨ ((∀ P', 1 ≤ P' → P' < 128 → ¬ spOK N w T H W d s i P') ∧ zrun zZ kX2_traceSpan (40, [some (.ref 25), some (.int (nI d)), some (.int (nI s)), some (.ref 38), some (.int (nI (d + i))), some (.int (nI (2 ^ (d + i + 1) - 2 ^ d))), some (.int (nI P)), none, none, none, none, none], [], hp I L, 0, 0) = zrun zZ kX2_traceSpan (13, [some (.ref 25), some (.int (nI d)), some (.int (nI s)), some (.ref 38), some (.int (nI (d + i + 1))), none, none, none, none, none, none, none], [], hp I L, 0, 0))
  | 0, P, h, h1, hno => by
    obtain rfl : P = 128 := h
    right
    refine ⟨hno, ?_⟩
    rw [e_X2_traceSpan_40]
    simp (disch := omega) only [Option.bind_some, Option.toList_some, Option.toList_none, List.cons_append, List.nil_append, Option.map_some, cond_true, cond_false, Bool.not_true, Bool.not_false, Bool.true_and, Bool.and_true, Bool.false_and, Bool.and_false, Bool.true_or, Bool.or_true, Bool.false_or, Bool.or_false, Bool.not_not, decide_true, decide_false, Bool.decide_eq_true, Bool.decide_eq_false, qz_0, qz_1, qz_n, qz_n0, qz_n1, qz_t, qz_f, Nat.reduceAdd, q1000000, q0, q1, q2, q3, q4, q5, q6, q7, q8, q9, q10, q11, q12, q13, q14, q15, q16, q18, q19, q20, q21, q22, q23, q24, q25, q26, q27, q28, q29, q30, q31, q32, q38, q44, q45, q48, q57, q58, q59, q60, q63, q64, q97, q122, q126, q127, q128, q255, q256, q300, q580, q600, q1000, nI_add, q_lt_t, q_lt_f, q_eq_t, q_eq_f, q_clamp, q_in_t, q_in_f]
  | r + 1, P, h, h1, hno => by
    obtain ⟨x8, x9, o1, o2, o3, o4⟩ := ts_one (L := L) hFS hR hs hst hd h1 (show P < 128 by omega)
    by_cases q : spOK N w T H W d s i P
    · left
      refine ⟨P, x8, x9, by omega, h1, q, hno, o1, o2, ?_⟩
      rw [o3 q, ts_take hp8 hpl]
    · rcases ts_pat (L := L) hFS hR hs hst hd hp8 hpl r (P + 1) (by omega) (by omega) (fun P' p1 p2 => by
        by_cases z : P' = P
        · rw [z]
          exact q
        · exact hno P' p1 (by omega)) with ⟨P', y8, y9, a1, a2, a3, a4, a5, a6, a7⟩ | ⟨a1, a2⟩
      · exact Or.inl ⟨P', y8, y9, a1, a2, a3, a4, a5, a6, (o4 q).trans a7⟩
      · exact Or.inr ⟨a1, (o4 q).trans a2⟩
theorem ts_last {I : zI} {L : zL} {N w : Nat} {T H W : Int32} {st d s p : Nat} (hFS : FS I N w T H W st) (hR : RW0 I N w T H W st) (hs : s < 4) (hst : s &&& st = st) (hp8 : I 26 8 = nI p) (hpl : p < 28) (hex : ∃ i P, d + i < N ∧ P ∈ pats ∧ spOK N w T H W d s i P) : ∀ r i, d + i + r = N → (∀ i' P', i' < i → 1 ≤ P' → P' < 128 → ¬ spOK N w T H W d s i' P') → ∃ i' P' x8 x9, FST N w T H W d s i' P' ∧ (∀ x, x < 32 → bt x8 x = (decide (d ≤ x) && decide (x < d + (i' + 1)) && outF w T H P' x)) ∧ (∀ x, x < 32 → bt x9 x = (decide (d ≤ x) && decide (x < d + (i' + 1)) && morF w H W P' x)) ∧ zrun zZ kX2_traceSpan (13, [some (.ref 25), some (.int (nI d)), some (.int (nI s)), some (.ref 38), some (.int (nI (d + i))), none, none, none, none, none, none, none], [], hp I L, 0, 0) = some (some (.int (nI (s ||| tdF w T H W d i' P'))), hp (tkI I p d i' P' x8 x9) L, 0, 0)
  | 0, i, h, hno => by
    obtain ⟨i0, P0, e1, e2, e3⟩ := hex
    have hP := pats_mem.mp e2
    exact absurd e3 (hno i0 P0 (by omega) hP.1 hP.2)
  | r + 1, i, h, hno => by
    have hN28 := hFS.1.1
    have hd : d + i < N := by omega
    have h13 : zrun zZ kX2_traceSpan (13, [some (.ref 25), some (.int (nI d)), some (.int (nI s)), some (.ref 38), some (.int (nI (d + i))), none, none, none, none, none, none, none], [], hp I L, 0, 0) = zrun zZ kX2_traceSpan (40, [some (.ref 25), some (.int (nI d)), some (.int (nI s)), some (.ref 38), some (.int (nI (d + i))), some (.int (nI (2 ^ (d + i + 1) - 2 ^ d))), some (.int (nI 1)), none, none, none, none, none], [], hp I L, 0, 0) := by
      rw [e_X2_traceSpan_13]
      simp (disch := omega) only [hFS.2.1.1, q_shl1, q_rng, Option.bind_some, Option.toList_some, Option.toList_none, List.cons_append, List.nil_append, Option.map_some, cond_true, cond_false, Bool.not_true, Bool.not_false, Bool.true_and, Bool.and_true, Bool.false_and, Bool.and_false, Bool.true_or, Bool.or_true, Bool.false_or, Bool.or_false, Bool.not_not, decide_true, decide_false, Bool.decide_eq_true, Bool.decide_eq_false, qz_0, qz_1, qz_n, qz_n0, qz_n1, qz_t, qz_f, Nat.reduceAdd, q1000000, q0, q1, q2, q3, q4, q5, q6, q7, q8, q9, q10, q11, q12, q13, q14, q15, q16, q18, q19, q20, q21, q22, q23, q24, q25, q26, q27, q28, q29, q30, q31, q32, q38, q44, q45, q48, q57, q58, q59, q60, q63, q64, q97, q122, q126, q127, q128, q255, q256, q300, q580, q600, q1000, nI_add, q_lt_t, q_lt_f, q_eq_t, q_eq_f, q_clamp, q_in_t, q_in_f]
    rcases ts_pat (L := L) hFS hR hs hst hd hp8 hpl 127 1 (by omega) (by omega) (fun P' p1 p2 => by omega) with ⟨P', y8, y9, a1, a2, a3, a4, a5, a6, a7⟩ | ⟨a1, a2⟩
    · refine ⟨i, P', y8, y9, ⟨hd, ⟨a2, a1⟩, a3, fun i' Q hq p1 p2 => ?_⟩, a5, a6, h13.trans a7⟩
      rcases hq with hq | ⟨rfl, hq⟩
      · exact hno i' Q hq p1 p2
      · exact a4 Q p1 hq
    · obtain ⟨i', P', x8, x9, g1, g2, g3, g4⟩ := ts_last (L := L) hFS hR hs hst hp8 hpl hex r (i + 1) (by omega) (fun i' Q hq p1 p2 => by
        by_cases z : i' = i
        · rw [z]
          exact a1 Q p1 p2
        · exact hno i' Q (by omega) p1 p2)
      exact ⟨i', P', x8, x9, g1, g2, g3, (h13.trans a2).trans g4⟩
