theorem hd11 : (11 : Nat) = 11 ∨ (11 : Nat) = 18 := Or.inl rfl
/-- days of a pattern's weekdays -/
def pds (N w P : Nat) : Int32 := dset (fun d => P.testBit ((w + d) % 7)) N
def wcode (cs : List Nat) : Nat := cs.foldl (fun a c => a * 256 + c) 0
/-- the name of a feast: as a long in the class, letter by letter in the reference -/
def NM (I : zI) (L : zL) (f : Nat) (cs : List Nat) : Prop := 1 ≤ cs.length ∧ cs.length ≤ 8 ∧ (∀ i, i < cs.length → 97 ≤ cs.getD i 0 ∧ cs.getD i 0 ≤ 122) ∧ I 53 (8 + f) = nI cs.length ∧ (∀ i, i < cs.length → I 53 (10 + 8 * f + i) = nI (cs.getD i 0)) ∧ L 13 f = lN (wcode cs)
/-- the desk (cell 11 and what it names) is that of the reference (cell 53) -/
def DK (I : zI) (L : zL) (N w F T ln : Nat) : Prop :=
  (N ≤ 28 ∧ w < 7 ∧ F ≤ 2 ∧ T ≤ 6 ∧ ln ≤ 9 ∧ (ln = 0 ↔ N = 0) ∧ (N = 0 → F = 0 ∧ T = 0)) ∧
  (I 11 6 = nI N ∧ I 11 7 = nI w ∧ I 11 8 = nI F ∧ I 11 9 = nI T ∧ I 11 10 = nI ln) ∧
  (I 53 0 = nI N ∧ I 53 1 = nI w ∧ I 53 2 = nI F ∧ I 53 3 = nI T ∧ I 53 4 = nI ln) ∧
  (∀ f, f < F → I 53 (6 + f) = I 14 f ∧ sub N (I 14 f)) ∧
  (∀ t, t < T → I 53 (26 + t) = I 15 t ∧ I 53 (32 + t) = I 16 t ∧ I 53 (38 + t) = I 17 t ∧ sub N (I 17 t)) ∧
  (N ≠ 0 → ∀ P, P < 128 → I 12 P = pds N w P) ∧
  (∀ f, f < F → ∃ cs, NM I L f cs)
theorem DK.tr {I : zI} {L : zL} {N w F T ln : Nat} (D : DK I L N w F T ln) {t : Nat} (h : t < T) : I 53 (38 + t) = I 17 t := (D.2.2.2.2.1 t h).2.2.1
theorem DK.ro {I : zI} {L : zL} {N w F T ln : Nat} (D : DK I L N w F T ln) {t : Nat} (h : t < T) : I 53 (26 + t) = I 15 t := (D.2.2.2.2.1 t h).1
theorem DK.mi {I : zI} {L : zL} {N w F T ln : Nat} (D : DK I L N w F T ln) {t : Nat} (h : t < T) : I 53 (32 + t) = I 16 t := (D.2.2.2.2.1 t h).2.1
theorem DK.ts {I : zI} {L : zL} {N w F T ln : Nat} (D : DK I L N w F T ln) {t : Nat} (h : t < T) : sub N (I 17 t) := (D.2.2.2.2.1 t h).2.2.2
theorem DK.fe {I : zI} {L : zL} {N w F T ln : Nat} (D : DK I L N w F T ln) {f : Nat} (h : f < F) : I 53 (6 + f) = I 14 f := (D.2.2.2.1 f h).1
theorem DK.fs {I : zI} {L : zL} {N w F T ln : Nat} (D : DK I L N w F T ln) {f : Nat} (h : f < F) : sub N (I 14 f) := (D.2.2.2.1 f h).2
theorem DK.pd {I : zI} {L : zL} {N w F T ln : Nat} (D : DK I L N w F T ln) (hN : N ≠ 0) {P : Nat} (h : P < 128) : I 12 P = pds N w P := D.2.2.2.2.2.1 hN P h
theorem DK.b {I : zI} {L : zL} {N w F T ln : Nat} (D : DK I L N w F T ln) : N ≤ 28 ∧ w < 7 ∧ F ≤ 2 ∧ T ≤ 6 ∧ ln ≤ 9 ∧ (ln = 0 ↔ N = 0) ∧ (N = 0 → F = 0 ∧ T = 0) := D.1
theorem DK.x {I : zI} {L : zL} {N w F T ln : Nat} (D : DK I L N w F T ln) : I 11 6 = nI N ∧ I 11 7 = nI w ∧ I 11 8 = nI F ∧ I 11 9 = nI T ∧ I 11 10 = nI ln := D.2.1
theorem DK.m {I : zI} {L : zL} {N w F T ln : Nat} (D : DK I L N w F T ln) : I 53 0 = nI N ∧ I 53 1 = nI w ∧ I 53 2 = nI F ∧ I 53 3 = nI T ∧ I 53 4 = nI ln := D.2.2.1
theorem DK.nz {I : zI} {L : zL} {N w F T ln : Nat} (D : DK I L N w F T ln) {t : Nat} (h : t < T) : N ≠ 0 := fun q => by
  have := D.b.2.2.2.2.2.2 q
  omega
theorem DK.cg {I I' : zI} {L L' : zL} {N w F T ln : Nat} (D : DK I L N w F T ln) (h : ∀ a b, (11 ≤ a ∧ a ≤ 17) ∨ a = 53 → I' a b = I a b) (h2 : ∀ b, L' 13 b = L 13 b) : DK I' L' N w F T ln := by
  obtain ⟨d1, d2, d3, d4, d5, d6, d7⟩ := D
  refine ⟨d1, ?_, ?_, ?_, ?_, ?_, ?_⟩
  · rw [h 11 6 (by omega), h 11 7 (by omega), h 11 8 (by omega), h 11 9 (by omega), h 11 10 (by omega)]
    exact d2
  · rw [h 53 0 (by omega), h 53 1 (by omega), h 53 2 (by omega), h 53 3 (by omega), h 53 4 (by omega)]
    exact d3
  · intro f hf
    rw [h 53 _ (by omega), h 14 f (by omega)]
    exact d4 f hf
  · intro t ht
    rw [h 53 _ (by omega), h 53 _ (by omega), h 53 _ (by omega), h 15 t (by omega), h 16 t (by omega), h 17 t (by omega)]
    exact d5 t ht
  · intro hN P hP
    rw [h 12 P (by omega)]
    exact d6 hN P hP
  · intro f hf
    obtain ⟨cs, n1, n2, n3, n4, n5, n6⟩ := d7 f hf
    refine ⟨cs, n1, n2, n3, ?_, ?_, ?_⟩
    · rw [h 53 _ (by omega)]
      exact n4
    · intro i hi
      rw [h 53 _ (by omega)]
      exact n5 i hi
    · rw [h2]
      exact n6
theorem zin_N {x : Int32} {n : Nat} (hn : n < 100000) : zin x n = false ∨ ∃ j, j < n ∧ x = nI j := by
  cases h : zin x n with
  | false => exact Or.inl rfl
  | true => exact Or.inr (zin_of2 (by omega) h)
/-- a pure method of both: the same answer, nothing changed -/
def SAME (nX nM : Nat) (as : List Value) (I : zI) (L : zL) : Prop := ∃ r, zcall zZ nX (.ref 0 :: as) (hp I L) = some (some r, hp I L) ∧ zcall zZ nM (.ref 52 :: as) (hp I L) = some (some r, hp I L)
theorem s_Xday {I : zI} {L : zL} {N w F T ln : Nat} (D : DK I L N w F T ln) (x : Int32) : zcall zZ nX9_isDay [.ref 0, .int x] (hp I L) = some (some (.int (zbo (zin x N))), hp I L) := s_XisDay D.x.1 (by have := D.b; omega) x
theorem s_Mday {I : zI} {L : zL} {N w F T ln : Nat} (D : DK I L N w F T ln) (x : Int32) : zcall zZ nX10_isDay [.ref 52, .int x] (hp I L) = some (some (.int (zbo (zin x N))), hp I L) := s_MisDay D.m.1 (by have := D.b; omega) x
theorem s_Xtrain {I : zI} {L : zL} {N w F T ln : Nat} (D : DK I L N w F T ln) (x : Int32) : zcall zZ nX9_isTrain [.ref 0, .int x] (hp I L) = some (some (.int (zbo (zin x T))), hp I L) := s_XisTrain D.x.2.2.2.1 (by have := D.b; omega) x
theorem s_Mtrain {I : zI} {L : zL} {N w F T ln : Nat} (D : DK I L N w F T ln) (x : Int32) : zcall zZ nX10_isTrain [.ref 52, .int x] (hp I L) = some (some (.int (zbo (zin x T))), hp I L) := s_MisTrain D.m.2.2.2.1 (by have := D.b; omega) x
theorem s_Mruns {I : zI} {L : zL} {N w F T ln : Nat} (D : DK I L N w F T ln) {t : Nat} (h : t < T) : zcall zZ nX10_runsOf [.ref 52, .int (nI t)] (hp I L) = some (some (.int (I 17 t)), hp I L) := by
  have := D.b
  simp (disch := omega) only [c_X10_runsOf, e_X10_runsOf_0, Option.bind_some, Option.toList_some, Option.toList_none, List.cons_append, List.nil_append, Option.map_some, cond_true, cond_false, Bool.not_true, Bool.not_false, Bool.true_and, Bool.and_true, Bool.false_and, Bool.and_false, Bool.true_or, Bool.or_true, Bool.false_or, Bool.or_false, Bool.not_not, decide_true, decide_false, Bool.decide_eq_true, Bool.decide_eq_false, qz_0, qz_1, qz_n, qz_n0, qz_n1, qz_t, qz_f, Nat.reduceAdd, q0, q1, q2, q3, q4, q5, q6, q7, q8, q9, q10, q11, q12, q13, q14, q15, q16, q18, q19, q20, q21, q22, q23, q24, q25, q26, q27, q28, q29, q30, q31, q32, q38, q44, q45, q48, q57, q58, q59, q60, q63, q64, q97, q122, q126, q127, q128, q255, q256, q300, q580, q600, q1000, nI_add, q_lt_t, q_lt_f, q_eq_t, q_eq_f, q_clamp, q_in_t, q_in_f, D.tr h]
theorem s_Xwk {I : zI} {L : zL} {N w F T ln : Nat} (D : DK I L N w F T ln) {j : Nat} (hj : j < 100) : zcall zZ nX1_weekdayOf [.ref 11, .int (nI j)] (hp I L) = some (some (.int (nI ((w + j) % 7))), hp I L) := s_XweekdayOf (Or.inl rfl) D.x.2.1 (by have := D.b; omega)
theorem s_Mwk {I : zI} {L : zL} {N w F T ln : Nat} (D : DK I L N w F T ln) {j : Nat} (hj : j < 100) : zcall zZ nX10_weekdayOf [.ref 52, .int (nI j)] (hp I L) = some (some (.int (nI ((w + j) % 7))), hp I L) := s_MweekdayOf D.m.2.1 (by have := D.b; omega)
theorem p_weekday {I : zI} {L : zL} {N w F T ln : Nat} (D : DK I L N w F T ln) (x : Int32) : SAME nX9_weekday nX10_weekday [.int x] I L := by
  have hb := D.b
  rcases zin_N (x := x) (n := N) (by omega) with h | ⟨j, hj, rfl⟩
  · refine ⟨.int (-2), ?_, ?_⟩
    · simp (disch := omega) only [c_X9_weekday, e_X9_weekday_0, e_X9_weekday_5, e_X9_weekday_21, e_X9_weekday_16, s_Xday D, h, Option.bind_some, Option.toList_some, Option.toList_none, List.cons_append, List.nil_append, Option.map_some, cond_true, cond_false, Bool.not_true, Bool.not_false, Bool.true_and, Bool.and_true, Bool.false_and, Bool.and_false, Bool.true_or, Bool.or_true, Bool.false_or, Bool.or_false, Bool.not_not, decide_true, decide_false, Bool.decide_eq_true, Bool.decide_eq_false, qz_0, qz_1, qz_n, qz_n0, qz_n1, qz_t, qz_f, Nat.reduceAdd, q0, q1, q2, q3, q4, q5, q6, q7, q8, q9, q10, q11, q12, q13, q14, q15, q16, q18, q19, q20, q21, q22, q23, q24, q25, q26, q27, q28, q29, q30, q31, q32, q38, q44, q45, q48, q57, q58, q59, q60, q63, q64, q97, q122, q126, q127, q128, q255, q256, q300, q580, q600, q1000, nI_add, q_lt_t, q_lt_f, q_eq_t, q_eq_f, q_clamp, q_in_t, q_in_f]
    · simp (disch := omega) only [c_X10_weekday, e_X10_weekday_0, e_X10_weekday_5, e_X10_weekday_18, e_X10_weekday_13, s_Mday D, h, Option.bind_some, Option.toList_some, Option.toList_none, List.cons_append, List.nil_append, Option.map_some, cond_true, cond_false, Bool.not_true, Bool.not_false, Bool.true_and, Bool.and_true, Bool.false_and, Bool.and_false, Bool.true_or, Bool.or_true, Bool.false_or, Bool.or_false, Bool.not_not, decide_true, decide_false, Bool.decide_eq_true, Bool.decide_eq_false, qz_0, qz_1, qz_n, qz_n0, qz_n1, qz_t, qz_f, Nat.reduceAdd, q0, q1, q2, q3, q4, q5, q6, q7, q8, q9, q10, q11, q12, q13, q14, q15, q16, q18, q19, q20, q21, q22, q23, q24, q25, q26, q27, q28, q29, q30, q31, q32, q38, q44, q45, q48, q57, q58, q59, q60, q63, q64, q97, q122, q126, q127, q128, q255, q256, q300, q580, q600, q1000, nI_add, q_lt_t, q_lt_f, q_eq_t, q_eq_f, q_clamp, q_in_t, q_in_f]
  · refine ⟨.int (nI ((w + j) % 7)), ?_, ?_⟩
    · simp (disch := omega) only [c_X9_weekday, e_X9_weekday_0, e_X9_weekday_5, e_X9_weekday_21, e_X9_weekday_16, s_Xday D, s_Xwk D, Option.bind_some, Option.toList_some, Option.toList_none, List.cons_append, List.nil_append, Option.map_some, cond_true, cond_false, Bool.not_true, Bool.not_false, Bool.true_and, Bool.and_true, Bool.false_and, Bool.and_false, Bool.true_or, Bool.or_true, Bool.false_or, Bool.or_false, Bool.not_not, decide_true, decide_false, Bool.decide_eq_true, Bool.decide_eq_false, qz_0, qz_1, qz_n, qz_n0, qz_n1, qz_t, qz_f, Nat.reduceAdd, q0, q1, q2, q3, q4, q5, q6, q7, q8, q9, q10, q11, q12, q13, q14, q15, q16, q18, q19, q20, q21, q22, q23, q24, q25, q26, q27, q28, q29, q30, q31, q32, q38, q44, q45, q48, q57, q58, q59, q60, q63, q64, q97, q122, q126, q127, q128, q255, q256, q300, q580, q600, q1000, nI_add, q_lt_t, q_lt_f, q_eq_t, q_eq_f, q_clamp, q_in_t, q_in_f]
    · simp (disch := omega) only [c_X10_weekday, e_X10_weekday_0, e_X10_weekday_5, e_X10_weekday_18, e_X10_weekday_13, s_Mday D, s_Mwk D, Option.bind_some, Option.toList_some, Option.toList_none, List.cons_append, List.nil_append, Option.map_some, cond_true, cond_false, Bool.not_true, Bool.not_false, Bool.true_and, Bool.and_true, Bool.false_and, Bool.and_false, Bool.true_or, Bool.or_true, Bool.false_or, Bool.or_false, Bool.not_not, decide_true, decide_false, Bool.decide_eq_true, Bool.decide_eq_false, qz_0, qz_1, qz_n, qz_n0, qz_n1, qz_t, qz_f, Nat.reduceAdd, q0, q1, q2, q3, q4, q5, q6, q7, q8, q9, q10, q11, q12, q13, q14, q15, q16, q18, q19, q20, q21, q22, q23, q24, q25, q26, q27, q28, q29, q30, q31, q32, q38, q44, q45, q48, q57, q58, q59, q60, q63, q64, q97, q122, q126, q127, q128, q255, q256, q300, q580, q600, q1000, nI_add, q_lt_t, q_lt_f, q_eq_t, q_eq_f, q_clamp, q_in_t, q_in_f]
theorem p_days {I : zI} {L : zL} {N w F T ln : Nat} (D : DK I L N w F T ln) (x : Int32) : SAME nX9_days nX10_days [.int x] I L := by
  have hb := D.b
  rcases zin_N (x := x) (n := T) (by omega) with h | ⟨j, hj, rfl⟩
  · refine ⟨.int (-2), ?_, ?_⟩
    · simp (disch := omega) only [c_X9_days, e_X9_days_0, e_X9_days_5, e_X9_days_22, s_Xtrain D, h, Option.bind_some, Option.toList_some, Option.toList_none, List.cons_append, List.nil_append, Option.map_some, cond_true, cond_false, Bool.not_true, Bool.not_false, Bool.true_and, Bool.and_true, Bool.false_and, Bool.and_false, Bool.true_or, Bool.or_true, Bool.false_or, Bool.or_false, Bool.not_not, decide_true, decide_false, Bool.decide_eq_true, Bool.decide_eq_false, qz_0, qz_1, qz_n, qz_n0, qz_n1, qz_t, qz_f, Nat.reduceAdd, q0, q1, q2, q3, q4, q5, q6, q7, q8, q9, q10, q11, q12, q13, q14, q15, q16, q18, q19, q20, q21, q22, q23, q24, q25, q26, q27, q28, q29, q30, q31, q32, q38, q44, q45, q48, q57, q58, q59, q60, q63, q64, q97, q122, q126, q127, q128, q255, q256, q300, q580, q600, q1000, nI_add, q_lt_t, q_lt_f, q_eq_t, q_eq_f, q_clamp, q_in_t, q_in_f]
    · simp (disch := omega) only [c_X10_days, e_X10_days_0, e_X10_days_5, e_X10_days_18, e_X10_days_13, s_Mtrain D, h, Option.bind_some, Option.toList_some, Option.toList_none, List.cons_append, List.nil_append, Option.map_some, cond_true, cond_false, Bool.not_true, Bool.not_false, Bool.true_and, Bool.and_true, Bool.false_and, Bool.and_false, Bool.true_or, Bool.or_true, Bool.false_or, Bool.or_false, Bool.not_not, decide_true, decide_false, Bool.decide_eq_true, Bool.decide_eq_false, qz_0, qz_1, qz_n, qz_n0, qz_n1, qz_t, qz_f, Nat.reduceAdd, q0, q1, q2, q3, q4, q5, q6, q7, q8, q9, q10, q11, q12, q13, q14, q15, q16, q18, q19, q20, q21, q22, q23, q24, q25, q26, q27, q28, q29, q30, q31, q32, q38, q44, q45, q48, q57, q58, q59, q60, q63, q64, q97, q122, q126, q127, q128, q255, q256, q300, q580, q600, q1000, nI_add, q_lt_t, q_lt_f, q_eq_t, q_eq_f, q_clamp, q_in_t, q_in_f]
  · refine ⟨.int (I 17 j), ?_, ?_⟩
    · simp (disch := omega) only [c_X9_days, e_X9_days_0, e_X9_days_5, e_X9_days_22, s_Xtrain D, Option.bind_some, Option.toList_some, Option.toList_none, List.cons_append, List.nil_append, Option.map_some, cond_true, cond_false, Bool.not_true, Bool.not_false, Bool.true_and, Bool.and_true, Bool.false_and, Bool.and_false, Bool.true_or, Bool.or_true, Bool.false_or, Bool.or_false, Bool.not_not, decide_true, decide_false, Bool.decide_eq_true, Bool.decide_eq_false, qz_0, qz_1, qz_n, qz_n0, qz_n1, qz_t, qz_f, Nat.reduceAdd, q0, q1, q2, q3, q4, q5, q6, q7, q8, q9, q10, q11, q12, q13, q14, q15, q16, q18, q19, q20, q21, q22, q23, q24, q25, q26, q27, q28, q29, q30, q31, q32, q38, q44, q45, q48, q57, q58, q59, q60, q63, q64, q97, q122, q126, q127, q128, q255, q256, q300, q580, q600, q1000, nI_add, q_lt_t, q_lt_f, q_eq_t, q_eq_f, q_clamp, q_in_t, q_in_f]
    · simp (disch := omega) only [c_X10_days, e_X10_days_0, e_X10_days_5, e_X10_days_18, e_X10_days_13, s_Mtrain D, s_Mruns D hj, Option.bind_some, Option.toList_some, Option.toList_none, List.cons_append, List.nil_append, Option.map_some, cond_true, cond_false, Bool.not_true, Bool.not_false, Bool.true_and, Bool.and_true, Bool.false_and, Bool.and_false, Bool.true_or, Bool.or_true, Bool.false_or, Bool.or_false, Bool.not_not, decide_true, decide_false, Bool.decide_eq_true, Bool.decide_eq_false, qz_0, qz_1, qz_n, qz_n0, qz_n1, qz_t, qz_f, Nat.reduceAdd, q0, q1, q2, q3, q4, q5, q6, q7, q8, q9, q10, q11, q12, q13, q14, q15, q16, q18, q19, q20, q21, q22, q23, q24, q25, q26, q27, q28, q29, q30, q31, q32, q38, q44, q45, q48, q57, q58, q59, q60, q63, q64, q97, q122, q126, q127, q128, q255, q256, q300, q580, q600, q1000, nI_add, q_lt_t, q_lt_f, q_eq_t, q_eq_f, q_clamp, q_in_t, q_in_f]
