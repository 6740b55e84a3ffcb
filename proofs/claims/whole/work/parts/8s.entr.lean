theorem cnt_n0 : ∀ n, cnt (bt (nI 0)) n = 0
  | 0 => rfl
  | n + 1 => by
    show cnt (bt (nI 0)) n + (bt (nI 0) n).toNat = 0
    rw [cnt_n0 n, show bt (nI 0) n = false from b_0 n]
    rfl
theorem s_readEntries {d : Nat} (hd : d = 11 ∨ d = 18) {I : zI} {L : zL} {B : Nat → Nat} {S n N F j : Nat} (hN : 1 ≤ N ∧ N ≤ 28) (hF : F ≤ 2) {nm : Nat → List Nat} (hn : NMc L d F nm) {fd : Nat → Int32} (hR : RD I L B S n) (hj : j ≤ n) (h6 : I d 6 = nI N) (h8 : I d 8 = nI F) (hfd : ∀ f, f < F → I (d + 3) f = fd f) (h9 : I 5 9 = nI j) : EnC I L B S n (enF' (KT B S) (vN B S) (fiT B S F nm) N fd 31 j 0 (nI 0) (nI 0) false) (zcall zZ nX4_readEntries [.ref 5, .ref d] (hp I L)) := by
  have o1 : ∀ x y, (x ≠ 5 ∨ y ≠ 14) → zup I 5 14 (nI 0) x y = I x y := fun x y p => by
    by_cases u : x = 5
    · rw [zu_at (by omega)]
    · rw [zu_cell u]
  have ih := ce_loop hd hN hF hn (fd := fd) 31 j 0 0 (nI 0) (nI 0) (zup I 5 14 (nI 0)) (hR.cg (o1 _ _ (by omega)) (fun b => o1 _ _ (by omega)) (fun b => o1 _ _ (by omega)) (fun _ => rfl)) hj ((o1 _ _ (by omega)).trans h6) ((o1 _ _ (by omega)).trans h8) (fun f hf => (o1 _ _ (by omega)).trans (hfd f hf)) ((o1 _ _ (by omega)).trans h9) (zu_same _ _ _ _) (by omega) (by rw [cnt_n0]; rfl) (by omega)
  rw [decide_eq_false (show ¬ 0 < 0 by omega)] at ih
  have ih := ih.cg (I := I) (fun x y p => o1 x y (by omega))
  refine Eq.mp ?_ ih
  congr 1
  symm
  simp (disch := omega) only [c_X4_readEntries hd, e_X4_readEntries_0 hd, q1000000, q0, q1, q2, q3, q4, q5, q6, q7, q8, q9, q10, q11, q12, q13, q14, q15, q16, q18, q19, q20, q21, q22, q23, q24, q25, q26, q27, q28, q29, q30, q31, q32, q38, q44, q45, q48, q57, q58, q59, q60, q63, q64, q97, q122, q126, q127, q128, q255, q256, q300, q580, q600, q1000, Option.bind_some, Option.toList_some, Option.toList_none, List.cons_append, List.nil_append, Option.map_some, cond_true, cond_false, Bool.not_true, Bool.not_false, Bool.true_and, Bool.and_true, Bool.false_and, Bool.and_false, Bool.true_or, Bool.or_true, Bool.false_or, Bool.or_false, Bool.not_not, decide_true, decide_false, Bool.decide_eq_true, Bool.decide_eq_false, qz_0, qz_1, qz_n, qz_n0, qz_n1, qz_t, qz_f, Nat.reduceAdd]
