/-! every method: the answers agree, and what holds between calls holds again -/
theorem INV.fu {I J : zI} {L M : zL} (hI : INV I L) (h1 : FU I J) (h2 : FUL L M) : INV J M := by
  obtain ⟨N, w, F, T, ln, A, S, E, hK, hL, hC, hk, hz⟩ := hI
  have hb := E.1.b
  exact ⟨N, w, F, T, ln, A, S, E.fu h1 h2, hK.fu h1, hL.fu h2, hC.fu h1 h2, hk.cw (by omega) (fun b _ => h1 _ _ (by omega)) (fun b => h2 _ _ (by omega)), (h1 _ _ (by omega)).trans hz.1, (h1 _ _ (by omega)).trans hz.2⟩
theorem STP.same {nX nM : Nat} {as : List Value} {I : zI} {L : zL} (hI : INV I L) (h : SAME nX nM as I L) : STP nX nM as I L := by
  obtain ⟨r, h1, h2⟩ := h
  exact ⟨r, I, L, I, L, h1, h2, hI⟩
theorem STP.ps {nX nM : Nat} {as : List Value} {I : zI} {L : zL} (hI : INV I L) (h : PS nX nM as I L) : STP nX nM as I L := by
  obtain ⟨r, I1, L1, I2, L2, h1, h2, h3, h4⟩ := h
  exact ⟨r, I1, L1, I2, L2, h1, h2, hI.fu h3 h4⟩
theorem STP.pw {nX nM : Nat} {as : List Value} {I : zI} {L : zL} {N w F T ln A S : Nat} (E : EV I L N w F T ln A S) (hK : KC I) (hL : LX L) (hk : NKI I L F) (hz : I 12 0 = nI 0 ∧ I 19 0 = nI 0) (h : PW nX nM as I L N w F) : STP nX nM as I L := by
  obtain ⟨r, I1, L1, I2, L2, h1, h2, h3, h4, h5⟩ := h
  have hb := E.1.b
  exact ⟨r, I1, L1, I2, L2, h1, h2, N, w, F, T, ln, A, S, E.fv h3 h4, hK.fv h3, hL.fv h4, h5, hk.cw (by omega) (fun b _ => h3 _ _ (by omega)) (fun b => h4 _ _ (by omega)), (h3 _ _ (by omega)).trans hz.1, (h3 _ _ (by omega)).trans hz.2⟩
/-- days that run, acts, tapes may have changed: what else holds -/
theorem STP.act {nX nM : Nat} {as : List Value} {I : zI} {L : zL} {N w F : Nat} (hF : F ≤ 2) (hK : KC I) (hL : LX L) (hC : WC I L N w F) (hk : NKI I L F) (hz : I 12 0 = nI 0 ∧ I 19 0 = nI 0) {C : Nat → Nat → Bool} (hc : ∀ x y, (11 ≤ x ∧ x ≤ 16) ∨ (18 ≤ x ∧ x ≤ 33) ∨ (x = 53 ∧ y < 38) → C x y = false) (h : PAIR C nX nM as I L (fun I2 L2 => ∃ T ln A S, EV I2 L2 N w F T ln A S)) : STP nX nM as I L := by
  obtain ⟨r, I1, L1, I2, L2, h1, h2, h3, h4, T, ln, A, S, E⟩ := h
  subst h4
  have o : ∀ x y, (11 ≤ x ∧ x ≤ 16) ∨ (18 ≤ x ∧ x ≤ 33) ∨ (x = 53 ∧ y < 38) → I2 x y = I x y := fun x y p => h3 x y (hc x y p)
  exact ⟨r, I1, L1, I2, L2, h1, h2, N, w, F, T, ln, A, S, E, hK.cg (fun b => o _ _ (by omega)) (fun b => o _ _ (by omega)) (fun b => o _ _ (by omega)), hL, hC.cw hF (fun b hb => o _ _ (by omega)) (fun b => o _ _ (by omega)) (fun a b p q => o _ _ (by omega)) (fun _ => rfl) rfl, hk.cw hF (fun b hb => o _ _ (by omega)) (fun _ => rfl), (o _ _ (by omega)).trans hz.1, (o _ _ (by omega)).trans hz.2⟩
theorem cAct_o : ∀ x y, (11 ≤ x ∧ x ≤ 16) ∨ (18 ≤ x ∧ x ≤ 33) ∨ (x = 53 ∧ y < 38) → cAct x y = false := fun x y h => by
  have nb : ∀ {a b : Nat}, a ≠ b → Nat.beq a b = false := fun {a b} q => by
    cases z : Nat.beq a b with
    | false => rfl
    | true => exact absurd (Nat.eq_of_beq_eq_true z) q
  unfold cAct
  rw [nb (show x ≠ 17 by omega), nb (show x ≠ 10 by omega), nb (show x ≠ 55 by omega), nb (show x ≠ 9 by omega), nb (show x ≠ 52 by omega)]
  by_cases z : x = 53
  · have : Nat.ble 38 y = false := by
      cases q : Nat.ble 38 y with
      | false => rfl
      | true =>
        have := Nat.le_of_ble_eq_true q
        omega
    rw [this, Bool.and_false]
    rfl
  · rw [nb z]
    rfl
theorem cEnd_o : ∀ x y, (11 ≤ x ∧ x ≤ 16) ∨ (18 ≤ x ∧ x ≤ 33) ∨ (x = 53 ∧ y < 38) → cEnd x y = false := fun x y h => by
  have nb : ∀ {a b : Nat}, a ≠ b → Nat.beq a b = false := fun {a b} q => by
    cases z : Nat.beq a b with
    | false => rfl
    | true => exact absurd (Nat.eq_of_beq_eq_true z) q
  unfold cEnd
  rw [nb (show x ≠ 3 by omega), nb (show x ≠ 52 by omega)]
  rfl
theorem PAIR.q {C : Nat → Nat → Bool} {nX nM : Nat} {as : List Value} {I : zI} {L : zL} {Q R : zI → zL → Prop} (h : PAIR C nX nM as I L Q) (hq : ∀ J M, Q J M → R J M) : PAIR C nX nM as I L R := by
  obtain ⟨r, I1, L1, I2, L2, h1, h2, h3, h4, h5⟩ := h
  exact ⟨r, I1, L1, I2, L2, h1, h2, h3, h4, hq _ _ h5⟩
theorem q_weekday {I : zI} {L : zL} (hI : INV I L) (x : Int32) : STP nX9_weekday nX10_weekday [.int x] I L := by
  have hI' := hI
  obtain ⟨N, w, F, T, ln, A, S, E, hK, hL, hC, hk, hz⟩ := hI'
  exact STP.same hI (p_weekday E.1 x)
theorem q_days {I : zI} {L : zL} (hI : INV I L) (x : Int32) : STP nX9_days nX10_days [.int x] I L := by
  have hI' := hI
  obtain ⟨N, w, F, T, ln, A, S, E, hK, hL, hC, hk, hz⟩ := hI'
  exact STP.same hI (p_days E.1 x)
theorem q_feast {I : zI} {L : zL} (hI : INV I L) (x : Int32) : STP nX9_feast nX10_feast [.int x] I L := by
  have hI' := hI
  obtain ⟨N, w, F, T, ln, A, S, E, hK, hL, hC, hk, hz⟩ := hI'
  exact STP.same hI (p_feast E.1 x)
theorem q_train {I : zI} {L : zL} (hI : INV I L) (x y : Int32) : STP nX9_train nX10_train [.int x, .int y] I L := by
  have hI' := hI
  obtain ⟨N, w, F, T, ln, A, S, E, hK, hL, hC, hk, hz⟩ := hI'
  exact STP.same hI (p_train E.1 x y)
theorem q_runs {I : zI} {L : zL} (hI : INV I L) (x y : Int32) : STP nX9_runs nX10_runs [.int x, .int y] I L := by
  have hI' := hI
  obtain ⟨N, w, F, T, ln, A, S, E, hK, hL, hC, hk, hz⟩ := hI'
  exact STP.same hI (p_runs E.1 x y)
theorem q_many {I : zI} {L : zL} (hI : INV I L) (x : Int32) : STP nX9_many nX10_many [.int x] I L := by
  have hI' := hI
  obtain ⟨N, w, F, T, ln, A, S, E, hK, hL, hC, hk, hz⟩ := hI'
  exact STP.same hI (p_many E.1 x)
theorem q_votes {I : zI} {L : zL} (hI : INV I L) (x y : Int32) : STP nX9_votes nX10_votes [.int x, .int y] I L := by
  have hI' := hI
  obtain ⟨N, w, F, T, ln, A, S, E, hK, hL, hC, hk, hz⟩ := hI'
  exact STP.same hI (p_votes E.1 x y)
theorem q_vote {I : zI} {L : zL} (hI : INV I L) (x : Int32) : STP nX9_vote nX10_vote [.int x] I L := by
  have hI' := hI
  obtain ⟨N, w, F, T, ln, A, S, E, hK, hL, hC, hk, hz⟩ := hI'
  exact STP.same hI (p_vote E.1 x)
theorem q_strays {I : zI} {L : zL} (hI : INV I L) (x : Int32) : STP nX9_strays nX10_strays [.int x] I L := by
  have hI' := hI
  obtain ⟨N, w, F, T, ln, A, S, E, hK, hL, hC, hk, hz⟩ := hI'
  exact STP.same hI (p_strays E.1 x)
theorem q_next {I : zI} {L : zL} (hI : INV I L) (x y : Int32) : STP nX9_next nX10_next_ [.int x, .int y] I L := by
  have hI' := hI
  obtain ⟨N, w, F, T, ln, A, S, E, hK, hL, hC, hk, hz⟩ := hI'
  exact STP.same hI (p_next E.1 x y)
theorem q_rest {I : zI} {L : zL} (hI : INV I L) (x : Int32) : STP nX9_rest nX10_rest [.int x] I L := by
  have hI' := hI
  obtain ⟨N, w, F, T, ln, A, S, E, hK, hL, hC, hk, hz⟩ := hI'
  exact STP.same hI (p_rest E.1 x)
theorem q_shares {I : zI} {L : zL} (hI : INV I L) (x y : Int32) : STP nX9_shares nX10_shares [.int x, .int y] I L := by
  have hI' := hI
  obtain ⟨N, w, F, T, ln, A, S, E, hK, hL, hC, hk, hz⟩ := hI'
  exact STP.same hI (p_shares E.1 x y)
theorem q_same {I : zI} {L : zL} (hI : INV I L) (x y : Int32) : STP nX9_same nX10_same [.int x, .int y] I L := by
  have hI' := hI
  obtain ⟨N, w, F, T, ln, A, S, E, hK, hL, hC, hk, hz⟩ := hI'
  exact STP.same hI (p_same E.1 x y)
theorem q_join {I : zI} {L : zL} (hI : INV I L) (x : Int32) : STP nX9_join nX10_join [.int x] I L := by
  have hI' := hI
  obtain ⟨N, w, F, T, ln, A, S, E, hK, hL, hC, hk, hz⟩ := hI'
  exact STP.same hI (p_join E.1 x)
theorem q_joint {I : zI} {L : zL} (hI : INV I L) (x : Int32) : STP nX9_joint nX10_joint [.int x] I L := by
  have hI' := hI
  obtain ⟨N, w, F, T, ln, A, S, E, hK, hL, hC, hk, hz⟩ := hI'
  exact STP.same hI (p_joint E.1 x)
theorem q_twice {I : zI} {L : zL} (hI : INV I L) (x : Int32) : STP nX9_twice nX10_twice [.int x] I L := by
  have hI' := hI
  obtain ⟨N, w, F, T, ln, A, S, E, hK, hL, hC, hk, hz⟩ := hI'
  exact STP.same hI (p_twice E.1 x)
theorem q_crowd {I : zI} {L : zL} (hI : INV I L) (x : Int32) : STP nX9_crowd nX10_crowd [.int x] I L := by
  have hI' := hI
  obtain ⟨N, w, F, T, ln, A, S, E, hK, hL, hC, hk, hz⟩ := hI'
  exact STP.same hI (p_crowd E.1 x)
theorem q_full {I : zI} {L : zL} (hI : INV I L) : STP nX9_full nX10_full [] I L := by
  have hI' := hI
  obtain ⟨N, w, F, T, ln, A, S, E, hK, hL, hC, hk, hz⟩ := hI'
  exact STP.same hI (p_full E.1)
theorem q_fault {I : zI} {L : zL} (hI : INV I L) (x : Int32) : STP nX9_fault nX10_fault [.int x] I L := by
  have hI' := hI
  obtain ⟨N, w, F, T, ln, A, S, E, hK, hL, hC, hk, hz⟩ := hI'
  exact STP.same hI (p_fault E.2.2.2.1.1 E.2.2.2.1.2 x)
theorem q_count {I : zI} {L : zL} (hI : INV I L) (x : Int32) : STP nX9_count nX10_count [.int x] I L := by
  have hI' := hI
  obtain ⟨N, w, F, T, ln, A, S, E, hK, hL, hC, hk, hz⟩ := hI'
  exact STP.same hI (p_count E.1 (by rw [E.2.2.1.2.1, E.2.2.1.2.2.1]) (by rw [E.2.1.2.1, E.2.1.2.2.1]) x)
theorem q_told {I : zI} {L : zL} (hI : INV I L) (x : Int32) : STP nX9_told nX10_told [.int x] I L := by
  have hI' := hI
  obtain ⟨N, w, F, T, ln, A, S, E, hK, hL, hC, hk, hz⟩ := hI'
  exact STP.same hI (p_told E.2.2.2.2 x)
theorem q_plain {I : zI} {L : zL} (hI : INV I L) (x : Int32) : STP nX9_plain nX10_plain [.int x] I L := by
  have hI' := hI
  obtain ⟨N, w, F, T, ln, A, S, E, hK, hL, hC, hk, hz⟩ := hI'
  exact STP.ps hI (p_plain E.1 hK x)
theorem q_other {I : zI} {L : zL} (hI : INV I L) (x y : Int32) : STP nX9_other nX10_other [.int x, .int y] I L := by
  have hI' := hI
  obtain ⟨N, w, F, T, ln, A, S, E, hK, hL, hC, hk, hz⟩ := hI'
  exact STP.ps hI (p_other E.1 hK x y)
theorem q_within {I : zI} {L : zL} (hI : INV I L) (x y : Int32) : STP nX9_within nX10_within [.int x, .int y] I L := by
  have hI' := hI
  obtain ⟨N, w, F, T, ln, A, S, E, hK, hL, hC, hk, hz⟩ := hI'
  exact STP.ps hI (p_within E.1 hK x y)
theorem q_least {I : zI} {L : zL} (hI : INV I L) (x : Int32) : STP nX9_least nX10_least [.int x] I L := by
  have hI' := hI
  obtain ⟨N, w, F, T, ln, A, S, E, hK, hL, hC, hk, hz⟩ := hI'
  exact STP.ps hI (p_least E.1 hK x)
theorem q_shift {I : zI} {L : zL} (hI : INV I L) (x y : Int32) : STP nX9_shift nX10_shift [.int x, .int y] I L := by
  have hI' := hI
  obtain ⟨N, w, F, T, ln, A, S, E, hK, hL, hC, hk, hz⟩ := hI'
  exact STP.ps hI (p_shift E.1 hK x y)
theorem q_saved {I : zI} {L : zL} (hI : INV I L) : STP nX9_saved nX10_saved [] I L := by
  have hI' := hI
  obtain ⟨N, w, F, T, ln, A, S, E, hK, hL, hC, hk, hz⟩ := hI'
  exact STP.ps hI (p_saved E.1 hK)
theorem q_worse {I : zI} {L : zL} (hI : INV I L) : STP nX9_worse nX10_worse [] I L := by
  have hI' := hI
  obtain ⟨N, w, F, T, ln, A, S, E, hK, hL, hC, hk, hz⟩ := hI'
  exact STP.ps hI (p_worse E hK)
theorem q_words {I : zI} {L : zL} (hI : INV I L) (x : Int32) : STP nX9_words nX10_words [.int x] I L := by
  have hI' := hI
  obtain ⟨N, w, F, T, ln, A, S, E, hK, hL, hC, hk, hz⟩ := hI'
  exact STP.pw E hK hL hk hz (p_words E.1 hK hL hC x)
theorem q_ways {I : zI} {L : zL} (hI : INV I L) (x : Int32) : STP nX9_ways nX10_ways [.int x] I L := by
  have hI' := hI
  obtain ⟨N, w, F, T, ln, A, S, E, hK, hL, hC, hk, hz⟩ := hI'
  exact STP.pw E hK hL hk hz (p_ways E.1 hK hL hC x)
theorem q_spans {I : zI} {L : zL} (hI : INV I L) (x : Int32) : STP nX9_spans nX10_spans [.int x] I L := by
  have hI' := hI
  obtain ⟨N, w, F, T, ln, A, S, E, hK, hL, hC, hk, hz⟩ := hI'
  exact STP.pw E hK hL hk hz (p_spans E.1 hK hL hC x)
theorem q_nots {I : zI} {L : zL} (hI : INV I L) (x y : Int32) : STP nX9_nots nX10_nots [.int x, .int y] I L := by
  have hI' := hI
  obtain ⟨N, w, F, T, ln, A, S, E, hK, hL, hC, hk, hz⟩ := hI'
  exact STP.pw E hK hL hk hz (p_nots E.1 hK hL hC x y)
theorem q_alsos {I : zI} {L : zL} (hI : INV I L) (x y : Int32) : STP nX9_alsos nX10_alsos [.int x, .int y] I L := by
  have hI' := hI
  obtain ⟨N, w, F, T, ln, A, S, E, hK, hL, hC, hk, hz⟩ := hI'
  exact STP.pw E hK hL hk hz (p_alsos E.1 hK hL hC x y)
theorem q_length {I : zI} {L : zL} (hI : INV I L) (x : Int32) : STP nX9_length nX10_length [.int x] I L := by
  have hI' := hI
  obtain ⟨N, w, F, T, ln, A, S, E, hK, hL, hC, hk, hz⟩ := hI'
  exact STP.pw E hK hL hk hz (p_length E.1 hK hL hC x)
theorem q_sign {I : zI} {L : zL} (hI : INV I L) (x y : Int32) : STP nX9_sign nX10_sign_ [.int x, .int y] I L := by
  have hI' := hI
  obtain ⟨N, w, F, T, ln, A, S, E, hK, hL, hC, hk, hz⟩ := hI'
  exact STP.pw E hK hL hk hz (p_sign E.1 hK hL hC x y)
theorem q_span {I : zI} {L : zL} (hI : INV I L) (x y z : Int32) : STP nX9_span nX10_span [.int x, .int y, .int z] I L := by
  have hI' := hI
  obtain ⟨N, w, F, T, ln, A, S, E, hK, hL, hC, hk, hz⟩ := hI'
  exact STP.pw E hK hL hk hz (p_span E.1 hK hL hC x y z)
theorem q_undo {I : zI} {L : zL} (hI : INV I L) : STP nX9_undo nX10_undo [] I L := by
  have hI' := hI
  obtain ⟨N, w, F, T, ln, A, S, E, hK, hL, hC, hk, hz⟩ := hI'
  have hb := E.1.b
  exact STP.act (by omega) hK hL hC hk hz cAct_o ((p_undo E).q (fun J M ⟨A', h⟩ => ⟨T, ln, A', S, h⟩))
theorem q_anew {I : zI} {L : zL} (hI : INV I L) : STP nX9_anew nX10_anew [] I L := by
  have hI' := hI
  obtain ⟨N, w, F, T, ln, A, S, E, hK, hL, hC, hk, hz⟩ := hI'
  have hb := E.1.b
  exact STP.act (by omega) hK hL hC hk hz cAct_o ((p_anew E).q (fun J M ⟨A', h⟩ => ⟨T, ln, A', S, h⟩))
theorem q_merges {I : zI} {L : zL} (hI : INV I L) : STP nX9_merges nX10_merges [] I L := by
  have hI' := hI
  obtain ⟨N, w, F, T, ln, A, S, E, hK, hL, hC, hk, hz⟩ := hI'
  have hb := E.1.b
  exact STP.act (by omega) hK hL hC hk hz cAct_o ((p_merges E).q (fun J M ⟨A', h⟩ => ⟨T, ln, A', S, h⟩))
theorem q_end {I : zI} {L : zL} (hI : INV I L) (x : Int32) : STP nX9_end nX10_end [.int x] I L := by
  have hI' := hI
  obtain ⟨N, w, F, T, ln, A, S, E, hK, hL, hC, hk, hz⟩ := hI'
  have hb := E.1.b
  exact STP.act (by omega) hK hL hC hk hz cEnd_o ((p_end E x).q (fun J M ⟨S', h⟩ => ⟨T, ln, A, S', h⟩))
theorem q_flips {I : zI} {L : zL} (hI : INV I L) (x y : Int32) : STP nX9_flips nX10_flips [.int x, .int y] I L := by
  have hI' := hI
  obtain ⟨N, w, F, T, ln, A, S, E, hK, hL, hC, hk, hz⟩ := hI'
  have hb := E.1.b
  obtain ⟨r, I1, L1, I2, L2, h1, h2, h3, h4, A', E'⟩ := p_flips E hK x y
  exact ⟨r, I1, L1, I2, L2, h1, h2, N, w, F, T, ln, A', S, E', hK.cg (fun b => h3 _ _ (by omega)) (fun b => h3 _ _ (by omega)) (fun b => h3 _ _ (by omega)), hL.fu h4, hC.cw (by omega) (fun b hb => h3 _ _ (by omega)) (fun b => h3 _ _ (by omega)) (fun a b p q => h3 _ _ (by omega)) (fun b => h4 _ _ (by omega)) (h4 _ _ (by omega)), hk.cw (by omega) (fun b hb => h3 _ _ (by omega)) (fun b => h4 _ _ (by omega)), (h3 _ _ (by omega)).trans hz.1, (h3 _ _ (by omega)).trans hz.2⟩
/-- feed: the reference makes a row of five -/
theorem q_feed {I : zI} {L : zL} (hI : INV I L) (x1 x2 x3 x4 x5 : Int32) : STP nX9_feed nX10_feed [.int x1, .int x2, .int x3, .int x4, .int x5] I L ∨ ∃ r I1 I2, zcall zZ nX9_feed [.ref 0, .int x1, .int x2, .int x3, .int x4, .int x5] (hp I L) = some (some r, hp I1 L) ∧ zcall zZ nX10_feed [.ref 52, .int x1, .int x2, .int x3, .int x4, .int x5] (hp I1 L) = some (some r, hp5 I2 L) ∧ INV I2 L := by
  have hI' := hI
  obtain ⟨N, w, F, T, ln, A, S, E, hK, hL, hC, hk, hz⟩ := hI'
  have hb := E.1.b
  rcases p_feed E x1 x2 x3 x4 x5 with ⟨J, J2, h1, h2, h3, h4⟩ | h
  · right
    exact ⟨_, J, J2, h1, h2, N, w, F, T, ln, A, S + 20, h3, hK.cg (fun b => h4 _ _ (by omega) (by omega) (by omega) (by omega) (by omega)) (fun b => h4 _ _ (by omega) (by omega) (by omega) (by omega) (by omega)) (fun b => h4 _ _ (by omega) (by omega) (by omega) (by omega) (by omega)), hL, hC.cw (by omega) (fun b hb => h4 _ _ (by omega) (by omega) (by omega) (by omega) (by omega)) (fun b => h4 _ _ (by omega) (by omega) (by omega) (by omega) (by omega)) (fun a b p q => h4 _ _ (by omega) (by omega) (by omega) (by omega) (by omega)) (fun _ => rfl) rfl, hk.cw (by omega) (fun b hb => h4 _ _ (by omega) (by omega) (by omega) (by omega) (by omega)) (fun _ => rfl), (h4 _ _ (by omega) (by omega) (by omega) (by omega) (by omega)).trans hz.1, (h4 _ _ (by omega) (by omega) (by omega) (by omega) (by omega)).trans hz.2⟩
  · left
    exact STP.same hI h
