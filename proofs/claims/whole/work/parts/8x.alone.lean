/-! what a reader may answer; a wording alone -/
def RO (N : Nat) (r : (Nat × Nat) ⊕ (Nat × Int32)) : Prop := match r with
  | .inl (e, _) => 1 ≤ e ∧ e ≤ 2
  | .inr (_, M) => sub N M
theorem patF_e {K : Nat → Nat} : ∀ m j x P e jf, patF K m j x P = .inl (e, jf) → 1 ≤ e ∧ e ≤ 2
  | 0, j, x, P, e, jf, h => by cases h
  | m + 1, j, x, P, e, jf, h => by
    unfold patF at h
    by_cases z : isW (K j) = true
    · rw [if_pos z] at h
      by_cases y : K j - 12 < x
      · rw [if_pos y] at h
        cases h
        omega
      · rw [if_neg y] at h
        by_cases q : K (j + 1) = 23
        · rw [if_pos q] at h
          by_cases r : isW (K (j + 2)) = true
          · rw [if_pos r] at h
            by_cases s : K j - 12 < K (j + 2) - 12
            · rw [if_pos s] at h
              exact patF_e m _ _ _ _ _ h
            · rw [if_neg s] at h
              cases h
              omega
          · rw [if_neg r] at h
            cases h
            omega
        · rw [if_neg q] at h
          exact patF_e m _ _ _ _ _ h
    · rw [if_neg z] at h
      cases h
theorem patR_e {K : Nat → Nat} {j e jf : Nat} (h : patR K j = .inl (e, jf)) : 1 ≤ e ∧ e ≤ 2 := by
  unfold patR at h
  by_cases z7 : K j = 7
  · rw [if_pos z7] at h
    cases h
  · rw [if_neg z7] at h
    exact patF_e _ _ _ _ _ _ h
theorem nuR_e {K v : Nat → Nat} {a b j e jf : Nat} (h : nuR K v a b j = .inl (e, jf)) : 1 ≤ e ∧ e ≤ 2 := by
  unfold nuR at h
  by_cases z : K j = 20
  · rw [if_pos z] at h
    by_cases y : v j < a ∨ b < v j
    · rw [if_pos y] at h
      cases h
      omega
    · rw [if_neg y] at h
      cases h
  · rw [if_neg z] at h
    cases h
    omega
theorem nuR_b {K v : Nat → Nat} {a b j j' t : Nat} (h : nuR K v a b j = .inr (j', t)) : a ≤ t ∧ t ≤ b := by
  unfold nuR at h
  by_cases z : K j = 20
  · rw [if_pos z] at h
    by_cases y : v j < a ∨ b < v j
    · rw [if_pos y] at h
      cases h
    · rw [if_neg y] at h
      cases h
      omega
  · rw [if_neg z] at h
    cases h
theorem toR_e {K v : Nat → Nat} {N fr j e jf : Nat} (h : toR K v N fr j = .inl (e, jf)) : 1 ≤ e ∧ e ≤ 2 := by
  unfold toR at h
  by_cases z : K j = 9
  · rw [if_pos z] at h
    match hn : nuR K v fr (N - 1) (j + 1) with
    | .inl (e', f') =>
      rw [hn] at h
      cases h
      exact nuR_e hn
    | .inr (j1, t) =>
      rw [hn] at h
      cases h
  · rw [if_neg z] at h
    cases h
theorem boR_e {K v : Nat → Nat} {N a j e jf : Nat} (h : boR K v N a j = .inl (e, jf)) : 1 ≤ e ∧ e ≤ 2 := by
  unfold boR at h
  by_cases z : K j = 8
  · rw [if_pos z] at h
    match hn : nuR K v a (N - 1) (j + 1) with
    | .inl (e', f') =>
      rw [hn] at h
      cases h
      exact nuR_e hn
    | .inr (j1, t) =>
      rw [hn] at h
      exact toR_e h
  · rw [if_neg z] at h
    by_cases y : 0 < a
    · rw [if_pos y] at h
      cases h
      omega
    · rw [if_neg y] at h
      exact toR_e h
theorem spF_ok {K v : Nat → Nat} {N w : Nat} (hN : N ≤ 28) : ∀ m j a mo M, sub N M → RO N (spF K v N w m j a mo M)
  | 0, j, a, mo, M, h => h
  | m + 1, j, a, mo, M, h => by
    unfold spF
    by_cases z : (mo && (isW (K j) || decide (K j = 7))) = true
    · rw [if_pos z]
      match hp : patR K j with
      | .inl (e, jf) => exact patR_e hp
      | .inr (j1, P) =>
        show RO N (match boR K v N a j1 with
          | .inl f => .inl f
          | .inr (j2, fr, to, mo') => spF K v N w m j2 (to + 1) mo' (M ||| (nI (2 ^ (to + 1) - 2 ^ fr) &&& pds N w P)))
        match hb : boR K v N a j1 with
        | .inl (e, jf) => exact boR_e hb
        | .inr (j2, fr, to, mo') =>
          refine spF_ok hN m j2 (to + 1) mo' _ (sub_or h (fun i hi => ?_))
          rw [b_and, b_pds hN, decide_eq_false (show ¬ i < N by omega), Bool.false_and, Bool.and_false]
    · rw [if_neg z]
      exact h
theorem sub_bit {N t : Nat} (ht : t < N) (hN : N ≤ 28) : sub N (nI 1 <<< (nI t &&& nI 31)) := fun i hi => by
  rcases Nat.lt_or_ge i 32 with q | q
  · rw [b_one (by omega) q, decide_eq_false (by omega)]
  · exact b_big q
theorem enF_ok {K v : Nat → Nat} {fi : Nat → Option Nat} {N : Nat} {fd : Nat → Int32} (hN : 1 ≤ N ∧ N ≤ 28) (hfd : ∀ j f, fi j = some f → sub N (fd f)) : ∀ m j fs ds M st, sub N M → RO N (enF' K v fi N fd m j fs ds M st)
  | 0, j, fs, ds, M, st, h => h
  | m + 1, j, fs, ds, M, st, h => by
    unfold enF'
    match hf : fi j with
    | some f =>
      show RO N (if fs.testBit f = true then .inl (2, j) else enF' K v fi N fd m (j + 1) (fs ||| 2 ^ f) ds (M ||| fd f) true)
      by_cases z : fs.testBit f = true
      · rw [if_pos z]
        exact ⟨by omega, by omega⟩
      · rw [if_neg z]
        exact enF_ok hN hfd m _ _ _ _ _ (sub_or h (hfd j f hf))
    | none =>
      show RO N (if K j = 20 then (match nuR K v 0 (N - 1) j with
        | .inl e => Sum.inl e
        | .inr (_, t) => if bt ds t = true then Sum.inl (2, j) else enF' K v fi N fd m (j + 1) fs (ds ||| (nI 1 <<< (nI t &&& nI 31))) (M ||| (nI 1 <<< (nI t &&& nI 31))) true) else if st = true then Sum.inr (j, M) else Sum.inl (1, j))
      by_cases z : K j = 20
      · rw [if_pos z]
        match hn : nuR K v 0 (N - 1) j with
        | .inl (e, jf) => exact nuR_e hn
        | .inr (j1, t) =>
          have hb := nuR_b hn
          show RO N (if bt ds t = true then Sum.inl (2, j) else enF' K v fi N fd m (j + 1) fs (ds ||| (nI 1 <<< (nI t &&& nI 31))) (M ||| (nI 1 <<< (nI t &&& nI 31))) true)
          by_cases y : bt ds t = true
          · rw [if_pos y]
            exact ⟨by omega, by omega⟩
          · rw [if_neg y]
            exact enF_ok hN hfd m _ _ _ _ _ (sub_or h (sub_bit (by omega) hN.2))
      · rw [if_neg z]
        by_cases y : st = true
        · rw [if_pos y]
          exact h
        · rw [if_neg y]
          exact ⟨by omega, by omega⟩
theorem exR_ok {K v : Nat → Nat} {fi : Nat → Option Nat} {N : Nat} {fd : Nat → Int32} (hN : 1 ≤ N ∧ N ≤ 28) (hfd : ∀ j f, fi j = some f → sub N (fd f)) {j : Nat} {M : Int32} (h : sub N M) : RO N (exR K v fi N fd j M) := by
  have al : ∀ j M, sub N M → RO N (alR K v fi N fd j M) := fun j M h => by
    unfold alR
    by_cases z : K j = 11
    · rw [if_pos z]
      have := enF_ok (K := K) (v := v) hN hfd 31 (j + 1) 0 (nI 0) (nI 0) false (sub_0 N)
      match he : enF' K v fi N fd 31 (j + 1) 0 (nI 0) (nI 0) false, this with
      | .inl (e, jf), q => exact q
      | .inr (j', R), q => exact sub_or h q
    · rw [if_neg z]
      exact h
  unfold exR noR
  by_cases z : K j = 10
  · rw [if_pos z]
    have := enF_ok (K := K) (v := v) hN hfd 31 (j + 1) 0 (nI 0) (nI 0) false (sub_0 N)
    match he : enF' K v fi N fd 31 (j + 1) 0 (nI 0) (nI 0) false, this with
    | .inl (e, jf), q => exact q
    | .inr (j', R), q => exact al j' _ (sub_and h _)
  · rw [if_neg z]
    exact al j M h
theorem woR_ok {K v : Nat → Nat} {fi : Nat → Option Nat} {N w : Nat} {fd : Nat → Int32} (hN : 1 ≤ N ∧ N ≤ 28) (hfd : ∀ j f, fi j = some f → sub N (fd f)) (j : Nat) : RO N (woR K v fi N w fd j) := by
  unfold woR
  by_cases z : K j = 6
  · rw [if_pos z]
    exact sub_0 N
  · rw [if_neg z]
    by_cases y : woB K j = true
    · rw [if_pos y]
      have := spF_ok (K := K) (v := v) (w := w) hN.2 (N + 1) j 0 true (nI 0) (sub_0 N)
      match hs : spF K v N w (N + 1) j 0 true (nI 0), this with
      | .inl (e, jf), q => exact q
      | .inr (j1, M), q => exact exR_ok hN hfd q
    · rw [if_neg y]
      exact ⟨by omega, by omega⟩
theorem fi_lt {B : Nat → Nat} {S F : Nat} {nm : Nat → List Nat} {j f : Nat} (h : fiT B S F nm j = some f) : f < F := by
  unfold fiT at h
  by_cases y : KT B S j = 19
  · rw [if_pos y] at h
    have := fx_lt F 0 f h
    omega
  · rw [if_neg y] at h
    cases h
def aloR (K v : Nat → Nat) (fi : Nat → Option Nat) (N w : Nat) (fd : Nat → Int32) : (Nat × Nat) ⊕ (Nat × Int32) := match woR K v fi N w fd 0 with
  | .inl e => .inl e
  | .inr (j, M) => if K j = 24 then .inr (j, M) else .inl (1, j)
theorem aloR_ok {K v : Nat → Nat} {fi : Nat → Option Nat} {N w : Nat} {fd : Nat → Int32} (hN : 1 ≤ N ∧ N ≤ 28) (hfd : ∀ j f, fi j = some f → sub N (fd f)) : RO N (aloR K v fi N w fd) := by
  unfold aloR
  have := woR_ok (K := K) (v := v) (w := w) hN hfd 0
  match hs : woR K v fi N w fd 0, this with
  | .inl (e, jf), q => exact q
  | .inr (j, M), q =>
    show RO N (if K j = 24 then .inr (j, M) else .inl (1, j))
    by_cases y : K j = 24
    · rw [if_pos y]
      exact q
    · rw [if_neg y]
      exact ⟨by omega, by omega⟩
def AlC (J : zI) (M : zL) (B : Nat → Nat) (S : Nat) (r : (Nat × Nat) ⊕ (Nat × Int32)) (x : Option (Option Value × zH)) : Prop := match r with
  | .inl (e, jf) => x = some (some (.int (nI 0)), hp J M) ∧ J 5 0 = nI e ∧ J 5 1 = nI (sT B S jf)
  | .inr (j', D) => x = some (some (.int (nI 1)), hp J M) ∧ J 5 0 = nI 0 ∧ J 5 1 = -nI 1 ∧ J 5 2 = D ∧ J 5 3 = nI j'
theorem s_readAlone {d : Nat} (hd : d = 11 ∨ d = 18) {I : zI} {L : zL} {B : Nat → Nat} {S N w F : Nat} (hN : 1 ≤ N ∧ N ≤ 28) (hF : F ≤ 2) {nm : Nat → List Nat} {fd : Nat → Int32} (hD : DC I L d N w F nm fd) (hS : SCI I B S) (hL : LX L) : ∃ J M, AlC J M B S (aloR (KT B S) (vN B S) (fiT B S F nm) N w fd) (zcall zZ nX4_readAlone [.ref 5, .ref 3, .ref d] (hp I L)) ∧ (∀ a b, (a < 5 ∨ 7 < a) → J a b = I a b) ∧ (∀ a b, a ≠ 8 → M a b = L a b) := by
  obtain ⟨n, J0, M, c1, hR, c3, c4, c5, c6, c7⟩ := s_scan hS hL
  have hD0 : DC J0 M d N w F nm fd := ⟨(c6 _ _ (by omega)).trans hD.h6, (c6 _ _ (by omega)).trans hD.h8, fun P hP => (c6 _ _ (by omega)).trans (hD.pd P hP), fun f hf => by
    obtain ⟨a1, a2, a3⟩ := hD.nm f hf
    exact ⟨a1, a2, (c7 _ _ (by omega)).trans a3⟩, fun f hf => (c6 _ _ (by omega)).trans (hD.fd f hf)⟩
  have hw := s_readWording hd hN hF hD0 hR (Nat.zero_le n) c3
  unfold aloR
  match hwr : woR (KT B S) (vN B S) (fiT B S F nm) N w fd 0, hw with
  | .inl (e, jf), ⟨J, x1, x2, x3, x4⟩ =>
    refine ⟨J, M, ⟨?_, x2, x3⟩, fun a b p => (x4 _ _ (by omega)).trans (c6 _ _ (by omega)), c7⟩
    simp (disch := omega) only [c_X4_readAlone hd, e_X4_readAlone_0 hd, e_X4_readAlone_5 hd, e_X4_readAlone_10 hd, e_X4_readAlone_26 hd, e_X4_readAlone_27 hd, c1, x1, Option.bind_some, Option.toList_some, Option.toList_none, List.cons_append, List.nil_append, Option.map_some, cond_true, cond_false, Bool.not_true, Bool.not_false, Bool.true_and, Bool.and_true, Bool.false_and, Bool.and_false, Bool.true_or, Bool.or_true, Bool.false_or, Bool.or_false, Bool.not_not, decide_true, decide_false, Bool.decide_eq_true, Bool.decide_eq_false, qz_0, qz_1, qz_n, qz_n0, qz_n1, qz_t, qz_f, Nat.reduceAdd, q1000000, q0, q1, q2, q3, q4, q5, q6, q7, q8, q9, q10, q11, q12, q13, q14, q15, q16, q18, q19, q20, q21, q22, q23, q24, q25, q26, q27, q28, q29, q30, q31, q32, q38, q44, q45, q48, q57, q58, q59, q60, q63, q64, q97, q122, q126, q127, q128, q255, q256, q300, q580, q600, q1000, nI_add, q_lt_t, q_lt_f, q_eq_t, q_eq_f, q_clamp, q_in_t, q_in_f]
  | .inr (j, D), ⟨J, x1, x2, x3, x4, x5, x6, x7⟩ =>
    have hRJ : RD J M B S n := hR.cg (x7 _ _ (by omega)) (fun b => x7 _ _ (by omega)) (fun b => x7 _ _ (by omega)) (fun _ => rfl)
    show ∃ J M, AlC J M B S (if KT B S j = 24 then .inr (j, D) else .inl (1, j)) _ ∧ _
    by_cases y : KT B S j = 24
    · rw [if_pos y]
      have hjn : j = n := by
        rcases Nat.lt_or_ge j n with q | q
        · have := hR.1.2.2.2 j q
          have := KT_24.mp y
          omega
        · omega
      have ht := s_take_e hRJ (by rw [x4, hjn])
      refine ⟨J, M, ⟨?_, (x7 _ _ (by omega)).trans c4, (x7 _ _ (by omega)).trans c5, x5, x6⟩, fun a b p => (x7 _ _ (by omega)).trans (c6 _ _ (by omega)), c7⟩
      simp (disch := omega) only [c_X4_readAlone hd, e_X4_readAlone_0 hd, e_X4_readAlone_5 hd, e_X4_readAlone_10 hd, e_X4_readAlone_19 hd, e_X4_readAlone_27 hd, c1, x1, ht, Option.bind_some, Option.toList_some, Option.toList_none, List.cons_append, List.nil_append, Option.map_some, cond_true, cond_false, Bool.not_true, Bool.not_false, Bool.true_and, Bool.and_true, Bool.false_and, Bool.and_false, Bool.true_or, Bool.or_true, Bool.false_or, Bool.or_false, Bool.not_not, decide_true, decide_false, Bool.decide_eq_true, Bool.decide_eq_false, qz_0, qz_1, qz_n, qz_n0, qz_n1, qz_t, qz_f, Nat.reduceAdd, q1000000, q0, q1, q2, q3, q4, q5, q6, q7, q8, q9, q10, q11, q12, q13, q14, q15, q16, q18, q19, q20, q21, q22, q23, q24, q25, q26, q27, q28, q29, q30, q31, q32, q38, q44, q45, q48, q57, q58, q59, q60, q63, q64, q97, q122, q126, q127, q128, q255, q256, q300, q580, q600, q1000, nI_add, q_lt_t, q_lt_f, q_eq_t, q_eq_f, q_clamp, q_in_t, q_in_f]
    · rw [if_neg y]
      have ht := s_take_n hRJ x3 x4 (k := 24) y (by omega)
      have hfl : CFl J (fl J 1 (sT B S j)) 1 (sT B S j) := fl_ok _ _ (fun _ _ _ => rfl)
      refine ⟨fl J 1 (sT B S j), M, ⟨?_, hfl.1, hfl.2.1⟩, fun a b p => ((hfl.2.2 _ _ (by omega)).trans (x7 _ _ (by omega))).trans (c6 _ _ (by omega)), c7⟩
      simp (disch := omega) only [c_X4_readAlone hd, e_X4_readAlone_0 hd, e_X4_readAlone_5 hd, e_X4_readAlone_10 hd, e_X4_readAlone_19 hd, e_X4_readAlone_26 hd, e_X4_readAlone_27 hd, c1, x1, ht, Option.bind_some, Option.toList_some, Option.toList_none, List.cons_append, List.nil_append, Option.map_some, cond_true, cond_false, Bool.not_true, Bool.not_false, Bool.true_and, Bool.and_true, Bool.false_and, Bool.and_false, Bool.true_or, Bool.or_true, Bool.false_or, Bool.or_false, Bool.not_not, decide_true, decide_false, Bool.decide_eq_true, Bool.decide_eq_false, qz_0, qz_1, qz_n, qz_n0, qz_n1, qz_t, qz_f, Nat.reduceAdd, q1000000, q0, q1, q2, q3, q4, q5, q6, q7, q8, q9, q10, q11, q12, q13, q14, q15, q16, q18, q19, q20, q21, q22, q23, q24, q25, q26, q27, q28, q29, q30, q31, q32, q38, q44, q45, q48, q57, q58, q59, q60, q63, q64, q97, q122, q126, q127, q128, q255, q256, q300, q580, q600, q1000, nI_add, q_lt_t, q_lt_f, q_eq_t, q_eq_f, q_clamp, q_in_t, q_in_f]
theorem s_begR {I : zI} {B : Nat → Nat} {S : Nat} (L : zL) (hB : BT I B S) : ∃ J, zcall zZ nX10_begins [.ref 52] (hp I L) = some (none, hp J L) ∧ RF J B S 0 ∧ J 52 13 = nI 0 ∧ J 52 14 = nI 0 ∧ J 52 15 = nI 0 ∧ J 52 16 = -nI 1 ∧ FRf I J := by
  obtain ⟨I1, hI1⟩ : ∃ I1, I1 = zup (zup (zup (zup (zup I 52 8 (nI 0)) 52 14 (nI 0)) 52 15 (nI 0)) 52 16 (-nI 1)) 52 13 (nI 0) := ⟨_, rfl⟩
  have o1 : FRf I I1 := fun x y p => by
    rw [hI1]
    by_cases u : x = 52
    · rw [zu_at (by omega), zu_at (by omega), zu_at (by omega), zu_at (by omega), zu_at (by omega)]
    · rw [zu_cell u, zu_cell u, zu_cell u, zu_cell u, zu_cell u]
  have k8 : I1 52 8 = nI 0 := by rw [hI1, zu_at (by omega), zu_at (by omega), zu_at (by omega), zu_at (by omega), zu_same]
  obtain ⟨J, g1, g2, g3⟩ := s_next L (hB.ff o1) k8 (Nat.zero_le S)
  refine ⟨J, ?_, RF_of (j := 0) g2, ?_, ?_, ?_, ?_, fun x y p => (g3 x y (by omega)).trans (o1 x y p)⟩
  · simp (disch := omega) only [c_X10_begins, e_X10_begins_0, e_X10_begins_29, q1000000, q0, q1, q2, q3, q4, q5, q6, q7, q8, q9, q10, q11, q12, q13, q14, q15, q16, q18, q19, q20, q21, q22, q23, q24, q25, q26, q27, q28, q29, q30, q31, q32, q38, q44, q45, q48, q57, q58, q59, q60, q63, q64, q97, q122, q126, q127, q128, q255, q256, q300, q580, q600, q1000, ← hI1, g1, Option.bind_some, Option.toList_some, Option.toList_none, List.cons_append, List.nil_append, Option.map_some, cond_true, cond_false, Bool.not_true, Bool.not_false, Bool.true_and, Bool.and_true, Bool.false_and, Bool.and_false, Bool.true_or, Bool.or_true, Bool.false_or, Bool.or_false, Bool.not_not, decide_true, decide_false, Bool.decide_eq_true, Bool.decide_eq_false, qz_0, qz_1, qz_n, qz_n0, qz_n1, qz_t, qz_f, Nat.reduceAdd]
  · rw [g3 _ _ (by omega), hI1, zu_same]
  · rw [g3 _ _ (by omega), hI1, zu_at (by omega), zu_at (by omega), zu_at (by omega), zu_same]
  · rw [g3 _ _ (by omega), hI1, zu_at (by omega), zu_at (by omega), zu_same]
  · rw [g3 _ _ (by omega), hI1, zu_at (by omega), zu_same]
def VAl (J : zI) (L : zL) (B : Nat → Nat) (S : Nat) (r : (Nat × Nat) ⊕ (Nat × Int32)) (x : Option (Option Value × zH)) : Prop := match r with
  | .inl (e, jf) => ∃ v, x = some (some (.int v), hp J L) ∧ FL J e (sT B S jf)
  | .inr (j', D) => x = some (some (.int D), hp J L) ∧ J 52 14 = nI 0 ∧ J 52 15 = nI 0 ∧ J 52 16 = -nI 1 ∧ J 52 13 = nI j'
theorem s_readsAlone {I : zI} {L : zL} {B : Nat → Nat} {S N w F : Nat} (hN : 1 ≤ N ∧ N ≤ 28) (hw : w < 7) (hF : F ≤ 2) {nm : Nat → List Nat} (hK : NK F nm) {fd : Nat → Int32} (hB : BT I B S) (hD : DR I N w F nm fd) : ∃ J, VAl J L B S (aloR (KT B S) (vN B S) (fiT B S F nm) N w fd) (zcall zZ nX10_readsAlone [.ref 52] (hp I L)) ∧ J 52 5 = nI 0 ∧ (∀ x y, (x ≠ 52 ∨ (y ≠ 5 ∧ (y < 8 ∨ 16 < y))) → J x y = I x y) := by
  obtain ⟨I1, b1, b2, b3, b4, b5, b6, b7⟩ := s_begR L hB
  have hv := s_readsWording (L := L) hN hw hF hK (hB.ff b7) b2 b4 b3 (hD.cg (fun y => b7 _ _ (by omega)))
  have z5 : ∀ (J : zI) x y, (x ≠ 52 ∨ y ≠ 5) → zup J 52 5 (nI 0) x y = J x y := fun J x y p => by
    by_cases u : x = 52
    · rw [zu_at (by omega)]
    · rw [zu_cell u]
  -- a fault has been set
  have bad : ∀ (J : zI) e s (v : Int32), zcall zZ nX10_readsWording [.ref 52] (hp I1 L) = some (some (.int v), hp J L) → FL J e s → FRf I1 J → zcall zZ nX10_readsAlone [.ref 52] (hp I L) = some (some (.int v), hp (zup J 52 5 (nI 0)) L) ∧ FL (zup J 52 5 (nI 0)) e s ∧ zup J 52 5 (nI 0) 52 5 = nI 0 ∧ (∀ x y, (x ≠ 52 ∨ (y ≠ 5 ∧ (y < 8 ∨ 16 < y))) → zup J 52 5 (nI 0) x y = I x y) := fun J e s v h1 h2 h3 => by
    refine ⟨?_, ⟨(z5 _ _ _ (by omega)).trans h2.1, (z5 _ _ _ (by omega)).trans h2.2.1, (z5 _ _ _ (by omega)).trans h2.2.2⟩, zu_same _ _ _ _, fun x y p => ((z5 _ _ _ (by omega)).trans (h3 _ _ (by omega))).trans (b7 _ _ (by omega))⟩
    simp (disch := omega) only [c_X10_readsAlone, e_X10_readsAlone_0, e_X10_readsAlone_4, e_X10_readsAlone_8, e_X10_readsAlone_28, b1, h1, h2.1, Option.bind_some, Option.toList_some, Option.toList_none, List.cons_append, List.nil_append, Option.map_some, cond_true, cond_false, Bool.not_true, Bool.not_false, Bool.true_and, Bool.and_true, Bool.false_and, Bool.and_false, Bool.true_or, Bool.or_true, Bool.false_or, Bool.or_false, Bool.not_not, decide_true, decide_false, Bool.decide_eq_true, Bool.decide_eq_false, qz_0, qz_1, qz_n, qz_n0, qz_n1, qz_t, qz_f, Nat.reduceAdd, q1000000, q0, q1, q2, q3, q4, q5, q6, q7, q8, q9, q10, q11, q12, q13, q14, q15, q16, q18, q19, q20, q21, q22, q23, q24, q25, q26, q27, q28, q29, q30, q31, q32, q38, q44, q45, q48, q57, q58, q59, q60, q63, q64, q97, q122, q126, q127, q128, q255, q256, q300, q580, q600, q1000, nI_add, q_lt_t, q_lt_f, q_eq_t, q_eq_f, q_clamp, q_in_t, q_in_f]
  unfold aloR
  match hwr : woR (KT B S) (vN B S) (fiT B S F nm) N w fd 0, hv with
  | .inl (e, jf), ⟨J, v, x1, x2, x3⟩ =>
    obtain ⟨g1, g2, g3, g4⟩ := bad J _ _ _ x1 x2 x3
    exact ⟨_, ⟨_, g1, g2⟩, g3, g4⟩
  | .inr (j, D), .inr ⟨hq, J, v, x1, x2, x3⟩ =>
    obtain ⟨g1, g2, g3, g4⟩ := bad J _ _ _ x1 x2 x3
    show ∃ J, VAl J L B S (if KT B S j = 24 then .inr (j, D) else .inl (1, j)) _ ∧ _
    rw [if_neg (by omega)]
    exact ⟨_, ⟨_, g1, g2⟩, g3, g4⟩
  | .inr (j, D), .inl ⟨J, x1, x2, x3, x4, x5⟩ =>
    show ∃ J, VAl J L B S (if KT B S j = 24 then .inr (j, D) else .inl (1, j)) _ ∧ _
    have e10 := x3.2.2.1
    have j14 : J 52 14 = nI 0 := (x5 _ _ (by omega)).trans b4
    by_cases y : KT B S j = 24
    · rw [if_pos y]
      rw [y] at e10
      have e10 : J 52 10 = nI 0 := e10
      refine ⟨zup J 52 5 (nI 0), ⟨?_, (z5 _ _ _ (by omega)).trans j14, ((z5 _ _ _ (by omega)).trans (x5 _ _ (by omega))).trans b5, ((z5 _ _ _ (by omega)).trans (x5 _ _ (by omega))).trans b6, ?_⟩, zu_same _ _ _ _, fun x y p => ((z5 _ _ _ (by omega)).trans (x5 _ _ (by omega))).trans (b7 _ _ (by omega))⟩
      · simp (disch := omega) only [c_X10_readsAlone, e_X10_readsAlone_0, e_X10_readsAlone_4, e_X10_readsAlone_8, e_X10_readsAlone_28, b1, x1, j14, e10, Option.bind_some, Option.toList_some, Option.toList_none, List.cons_append, List.nil_append, Option.map_some, cond_true, cond_false, Bool.not_true, Bool.not_false, Bool.true_and, Bool.and_true, Bool.false_and, Bool.and_false, Bool.true_or, Bool.or_true, Bool.false_or, Bool.or_false, Bool.not_not, decide_true, decide_false, Bool.decide_eq_true, Bool.decide_eq_false, qz_0, qz_1, qz_n, qz_n0, qz_n1, qz_t, qz_f, Nat.reduceAdd, q1000000, q0, q1, q2, q3, q4, q5, q6, q7, q8, q9, q10, q11, q12, q13, q14, q15, q16, q18, q19, q20, q21, q22, q23, q24, q25, q26, q27, q28, q29, q30, q31, q32, q38, q44, q45, q48, q57, q58, q59, q60, q63, q64, q97, q122, q126, q127, q128, q255, q256, q300, q580, q600, q1000, nI_add, q_lt_t, q_lt_f, q_eq_t, q_eq_f, q_clamp, q_in_t, q_in_f]
      · rw [z5 _ _ _ (by omega), x4]
        congr 1
        omega
    · rw [if_neg y]
      have ht : tyT (KT B S j) ≠ 0 := by
        unfold tyT
        rw [if_neg y]
        by_cases q : KT B S j ≤ 19
        · rw [if_pos q]
          decide
        · rw [if_neg q]
          by_cases r : KT B S j = 20
          · rw [if_pos r]
            decide
          · rw [if_neg r]
            by_cases s : KT B S j = 25
            · rw [if_pos s]
              decide
            · rw [if_neg s]
              decide
      have hlt := tyT_lt (KT B S j)
      obtain ⟨J2, f1, f2, f3⟩ := s_flt L x3 j14 1
      refine ⟨zup J2 52 5 (nI 0), ⟨D, ?_, (z5 _ _ _ (by omega)).trans f2.1, (z5 _ _ _ (by omega)).trans f2.2.1, (z5 _ _ _ (by omega)).trans f2.2.2⟩, zu_same _ _ _ _, fun x y p => (((z5 _ _ _ (by omega)).trans (f3 _ _ (by omega))).trans (x5 _ _ (by omega))).trans (b7 _ _ (by omega))⟩
      simp (disch := omega) only [c_X10_readsAlone, e_X10_readsAlone_0, e_X10_readsAlone_4, e_X10_readsAlone_8, e_X10_readsAlone_28, b1, x1, j14, e10, f1, Option.bind_some, Option.toList_some, Option.toList_none, List.cons_append, List.nil_append, Option.map_some, cond_true, cond_false, Bool.not_true, Bool.not_false, Bool.true_and, Bool.and_true, Bool.false_and, Bool.and_false, Bool.true_or, Bool.or_true, Bool.false_or, Bool.or_false, Bool.not_not, decide_true, decide_false, Bool.decide_eq_true, Bool.decide_eq_false, qz_0, qz_1, qz_n, qz_n0, qz_n1, qz_t, qz_f, Nat.reduceAdd, q1000000, q0, q1, q2, q3, q4, q5, q6, q7, q8, q9, q10, q11, q12, q13, q14, q15, q16, q18, q19, q20, q21, q22, q23, q24, q25, q26, q27, q28, q29, q30, q31, q32, q38, q44, q45, q48, q57, q58, q59, q60, q63, q64, q97, q122, q126, q127, q128, q255, q256, q300, q580, q600, q1000, nI_add, q_lt_t, q_lt_f, q_eq_t, q_eq_f, q_clamp, q_in_t, q_in_f]
