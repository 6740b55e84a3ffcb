/-! the modes of a choice are all its ways -/
def mdF (N w F : Nat) (fd : Nat → Int32) (T : Int32) (bl : Bool) (k : Nat) (c : Nat × Nat) (m : Nat) : GF := cond (decide (moF c.1 c.2 m < 1000)) (gs (moF c.1 c.2 m) (VS N w T (fdF fd c.1 F) (waS fd F T c.2) bl k 0 m)) g0
theorem moF_no {n a m : Nat} (h : (0 < n ∧ m.testBit 0 = false) ∨ (0 < a ∧ m.testBit 1 = false)) : moF n a m = 1000 := if_pos h
theorem moF_ok {n a m : Nat} (h : ¬ ((0 < n ∧ m.testBit 0 = false) ∨ (0 < a ∧ m.testBit 1 = false))) : moF n a m = pc2 m + pc2 n + pc2 a := if_neg h
theorem pc2_le2 (n : Nat) : pc2 n ≤ 2 := by
  unfold pc2
  have := Bool.toNat_le (n.testBit 0)
  have := Bool.toNat_le (n.testBit 1)
  omega
theorem md_no {N w F : Nat} {fd : Nat → Int32} {T : Int32} {bl : Bool} {k : Nat} {c : Nat × Nat} {m : Nat} (h : (0 < c.1 ∧ m.testBit 0 = false) ∨ (0 < c.2 ∧ m.testBit 1 = false)) : mdF N w F fd T bl k c m = g0 := by
  unfold mdF
  rw [moF_no h]
  rfl
theorem md_ok {N w F : Nat} {fd : Nat → Int32} {T : Int32} {bl : Bool} {k : Nat} {c : Nat × Nat} {m : Nat} (h : ¬ ((0 < c.1 ∧ m.testBit 0 = false) ∨ (0 < c.2 ∧ m.testBit 1 = false))) : mdF N w F fd T bl k c m = gs (pc2 m + pc2 c.1 + pc2 c.2) (VS N w T (fdF fd c.1 F) (waS fd F T c.2) bl k 0 m) := by
  unfold mdF
  have := pc2_le2 m
  have := pc2_le2 c.1
  have := pc2_le2 c.2
  rw [moF_ok h, decide_eq_true (by omega)]
  rfl
theorem mode_sum (N w F : Nat) (fd : Nat → Int32) (T : Int32) (bl : Bool) (k : Nat) (c : Nat × Nat) : gq (mdF N w F fd T bl k c) 4 = chG N w F fd T bl k c := by
  obtain ⟨n, a⟩ := c
  show gadd (gadd (gadd (gadd g0 (mdF N w F fd T bl k (n, a) 0)) (mdF N w F fd T bl k (n, a) 1)) (mdF N w F fd T bl k (n, a) 2)) (mdF N w F fd T bl k (n, a) 3) = _
  rw [g0_add]
  unfold chG US UU
  have b00 : (0 : Nat).testBit 0 = false := rfl
  have b01 : (0 : Nat).testBit 1 = false := rfl
  have b10 : (1 : Nat).testBit 0 = true := rfl
  have b11 : (1 : Nat).testBit 1 = false := rfl
  have b20 : (2 : Nat).testBit 0 = false := rfl
  have b21 : (2 : Nat).testBit 1 = true := rfl
  have b30 : (3 : Nat).testBit 0 = true := rfl
  have b31 : (3 : Nat).testBit 1 = true := rfl
  have hv : ∀ m, VS N w T (fdF fd n F) (waS fd F T a) bl k 0 m = VV N (fun d => bt (waS fd F T a) d) (csF N w T (fdF fd n F) (waS fd F T a)) (foF w T (fdF fd n F)) (fmF w (fdF fd n F) (waS fd F T a)) bl (m.testBit 0) (m.testBit 1) k 0 := fun m => rfl
  by_cases z1 : n = 0
  · by_cases z2 : a = 0
    · subst z1
      subst z2
      rw [md_ok (m := 0) (by simp), md_ok (m := 1) (by simp), md_ok (m := 2) (by simp), md_ok (m := 3) (by simp), hv, hv, hv, hv]
      simp only [b00, b01, b10, b11, b20, b21, b30, b31, show stF 0 0 = 0 from rfl, show pc2 0 = 0 from rfl, show pc2 1 = 1 from rfl, show pc2 2 = 1 from rfl, show pc2 3 = 2 from rfl, Ug, gs_gadd, gs_gs, Nat.add_zero, Nat.zero_add, gadd_assoc]
    · have e : stF n a = 2 := by unfold stF; rw [if_pos z1, if_neg z2]; rfl
      subst z1
      have hq : 0 < a := by omega
      rw [md_no (m := 0) (Or.inr ⟨hq, rfl⟩), md_no (m := 1) (Or.inr ⟨hq, rfl⟩), md_ok (m := 2) (by simp [b20, b21]), md_ok (m := 3) (by simp [b30, b31]), hv, hv, e, g0_add, g0_add]
      simp only [b20, b21, b30, b31, show pc2 0 = 0 from rfl, show pc2 2 = 1 from rfl, show pc2 3 = 2 from rfl, Ug, gs_gadd, gs_gs, Nat.add_zero, Nat.zero_add]
      rw [Nat.add_comm 1 (pc2 a), show 2 + pc2 a = pc2 a + 1 + 1 by omega]
  · by_cases z2 : a = 0
    · have e : stF n a = 1 := by unfold stF; rw [if_neg z1, if_pos z2]; rfl
      subst z2
      have hq : 0 < n := by omega
      rw [md_no (m := 0) (Or.inl ⟨hq, rfl⟩), md_ok (m := 1) (by simp), md_no (m := 2) (Or.inl ⟨hq, rfl⟩), md_ok (m := 3) (by simp), hv, hv, e, g0_add, gadd_0]
      simp only [b10, b11, b30, b31, show pc2 0 = 0 from rfl, show pc2 1 = 1 from rfl, show pc2 3 = 2 from rfl, Ug, gs_gadd, gs_gs, Nat.add_zero, Nat.zero_add]
      rw [Nat.add_comm 1 (pc2 n), show 2 + pc2 n = pc2 n + 1 + 1 by omega]
    · have e : stF n a = 3 := by unfold stF; rw [if_neg z1, if_neg z2]; rfl
      have hq : 0 < n := by omega
      have hq2 : 0 < a := by omega
      rw [md_no (m := 0) (Or.inl ⟨hq, rfl⟩), md_no (m := 1) (Or.inr ⟨hq2, rfl⟩), md_no (m := 2) (Or.inl ⟨hq, rfl⟩), md_ok (m := 3) (by simp [b30, b31]), hv, e, g0_add, gadd_0, g0_add]
      simp only [b30, b31, show pc2 3 = 2 from rfl, Ug]
      rw [show 2 + pc2 n + pc2 a = pc2 n + pc2 a + 2 by omega]
/-! the best of the reference so far: choices cs, and p of choice c -/
def fsC (G : Nat × Nat → GF) (cs : List (Nat × Nat)) (c : Nat × Nat) (k : Nat) : Nat × Nat := (cs.find? (fun x => decide (G x k ≠ 0))).getD c
def RB (I : zI) (L : zL) (G : Nat × Nat → GF) (cs : List (Nat × Nat)) (p : GF) (c : Nat × Nat) : Prop := (gadd (gsum G cs) p = g0 ∧ I 52 26 = nI 1000 ∧ L 52 27 = lN 0) ∨ ∃ k n, k < 1000 ∧ I 52 26 = nI k ∧ L 52 27 = lN n ∧ MW (gadd (gsum G cs) p) k n ∧ I 52 28 = nI (fsC G cs c k).1 ∧ I 52 29 = nI (fsC G cs c k).2
theorem RB.cg {I J : zI} {L M : zL} {G : Nat × Nat → GF} {cs : List (Nat × Nat)} {p : GF} {c : Nat × Nat} (h : RB I L G cs p c) (h1 : ∀ y, 26 ≤ y → y < 30 → J 52 y = I 52 y) (h2 : M 52 27 = L 52 27) : RB J M G cs p c := by
  unfold RB
  rw [h1 26 (by omega) (by omega), h1 28 (by omega) (by omega), h1 29 (by omega) (by omega), h2]
  exact h
/-- a choice is through -/
theorem RB.next {I : zI} {L : zL} {G : Nat × Nat → GF} {cs : List (Nat × Nat)} {c : Nat × Nat} (h : RB I L G cs (G c) c) (c' : Nat × Nat) : RB I L G (cs ++ [c]) g0 c' := by
  have e : gadd (gsum G (cs ++ [c])) g0 = gadd (gsum G cs) (G c) := by
    rw [gadd_0, gsum_append]
    show gadd _ (gadd (G c) g0) = _
    rw [gadd_0]
  unfold RB
  rw [e]
  rcases h with h | ⟨k, n, h1, h2, h3, h4, h5, h6⟩
  · exact Or.inl h
  · refine Or.inr ⟨k, n, h1, h2, h3, h4, ?_⟩
    have : fsC G (cs ++ [c]) c' k = fsC G cs c k := by
      unfold fsC
      rw [List.find?_append]
      cases hf : cs.find? (fun x => decide (G x k ≠ 0)) with
      | some x => rfl
      | none =>
        rw [Option.none_or]
        have hz : gsum G cs k = 0 := by
          by_cases q : gsum G cs k = 0
          · exact q
          · obtain ⟨x, hx1, hx2⟩ := gsum_ne _ q
            have := List.find?_eq_none.mp hf x hx1
            rw [decide_eq_true hx2] at this
            exact absurd rfl this
        have hc : G c k ≠ 0 := by
          have g1 : gsum G cs k + G c k = n := h4.1
          have g2 := h4.2.1
          omega
        rw [List.find?_cons_of_pos (by rw [decide_eq_true_iff]; exact hc)]
        rfl
    rw [this]
    exact ⟨h5, h6⟩
theorem RB.start {I : zI} {L : zL} {G : Nat × Nat → GF} {cs : List (Nat × Nat)} {c : Nat × Nat} (h : RB I L G cs g0 c) (c' : Nat × Nat) : RB I L G cs g0 c' := by
  rcases h with h | ⟨k, n, h1, h2, h3, h4, h5, h6⟩
  · exact Or.inl h
  · refine Or.inr ⟨k, n, h1, h2, h3, h4, ?_⟩
    have : fsC G cs c' k = fsC G cs c k := by
      unfold fsC
      cases hf : cs.find? (fun x => decide (G x k ≠ 0)) with
      | some x => rfl
      | none =>
        have hz : gsum G cs k ≠ 0 := by
          have g1 : gsum G cs k + 0 = n := h4.1
          have g2 := h4.2.1
          omega
        obtain ⟨x, hx1, hx2⟩ := gsum_ne _ hz
        have := List.find?_eq_none.mp hf x hx1
        rw [decide_eq_true hx2] at this
        exact absurd rfl this
    rw [this]
    exact ⟨h5, h6⟩
theorem mode_loop {N w F : Nat} {T : Int32} {fd : Nat → Int32} {n a : Nat} {x2 x3 : Int32} (hn : n < 2 ^ F) (ha : a < 2 ^ F) (hst : cnB F (inN fd T F) (n, a) = true) {cs : List (Nat × Nat)} : ∀ r m (I : zI) (L : zL), m + r = 4 → MZ I N w F T fd → I 52 18 = nI n → I 52 19 = nI a → RB I L (chG N w F fd T false 0) cs (gq (mdF N w F fd T false 0 (n, a)) m) (n, a) → ∃ I' L', zrun zZ kX10_solves (112, [some (.ref 52), none, some (.int x2), some (.int x3), some (.int (nI m)), none], [], hp I L, 0, 0) = zrun zZ kX10_solves (262, [some (.ref 52), none, some (.int x2), some (.int x3), none, none], [], hp I' L', 0, 0) ∧ RB I' L' (chG N w F fd T false 0) cs (gq (mdF N w F fd T false 0 (n, a)) 4) (n, a) ∧ (∀ x y, x ≠ 57 → x ≠ 60 → x ≠ 61 → (x ≠ 52 ∨ y < 26 ∨ 30 ≤ y) → I' x y = I x y) ∧ (∀ x y, x ≠ 58 → (x ≠ 52 ∨ y ≠ 27) → L' x y = L x y)
  | 0, m, I, L, h, hZ, h18, h19, hR => by
    obtain rfl : m = 4 := h
    refine ⟨I, L, ?_, hR, fun _ _ _ _ _ _ => rfl, fun _ _ _ _ => rfl⟩
    rw [e_X10_solves_112]
    simp (disch := omega) only [Option.bind_some, Option.toList_some, Option.toList_none, List.cons_append, List.nil_append, Option.map_some, cond_true, cond_false, Bool.not_true, Bool.not_false, Bool.true_and, Bool.and_true, Bool.false_and, Bool.and_false, Bool.true_or, Bool.or_true, Bool.false_or, Bool.or_false, Bool.not_not, decide_true, decide_false, Bool.decide_eq_true, Bool.decide_eq_false, qz_0, qz_1, qz_n, qz_n0, qz_n1, qz_t, qz_f, Nat.reduceAdd, q1000000, q0, q1, q2, q3, q4, q5, q6, q7, q8, q9, q10, q11, q12, q13, q14, q15, q16, q18, q19, q20, q21, q22, q23, q24, q25, q26, q27, q28, q29, q30, q31, q32, q38, q44, q45, q48, q57, q58, q59, q60, q63, q64, q97, q122, q126, q127, q128, q255, q256, q300, q580, q600, q1000, nI_add, q_lt_t, q_lt_f, q_eq_t, q_eq_f, q_clamp, q_in_t, q_in_f]
  | r + 1, m, I, L, h, hZ, h18, h19, hR => by
    have hF := hZ.1.2.2
    have hm : m < 4 := by omega
    have hstd := s_stand (L := L) hZ h18 h19 (nf4 hF hn) (nf4 hF ha)
    rw [hst] at hstd
    have hM := hZ.ms h18 h19 hn ha
    have hmc := s_mode (L := L) hM hm
    have hpm := pc2_le2 m
    have hpn := pc2_le2 n
    have hpa := pc2_le2 a
    by_cases hb : (0 < n ∧ m.testBit 0 = false) ∨ (0 < a ∧ m.testBit 1 = false)
    · rw [moF_no hb] at hmc
      obtain ⟨I', L', g1, g2, g3, g4⟩ := mode_loop hn ha hst (x2 := x2) (x3 := x3) r (m + 1) I L (by omega) hZ h18 h19 (by
        show RB I L _ cs (gadd (gq (mdF N w F fd T false 0 (n, a)) m) (mdF N w F fd T false 0 (n, a) m)) (n, a)
        rw [md_no hb, gadd_0]
        exact hR)
      refine ⟨I', L', ?_, g2, g3, g4⟩
      refine Eq.trans ?_ g1
      rw [e_X10_solves_112]
      simp (disch := omega) only [e_X10_solves_122, e_X10_solves_131, e_X10_solves_256, hstd, hmc, Option.bind_some, Option.toList_some, Option.toList_none, List.cons_append, List.nil_append, Option.map_some, cond_true, cond_false, Bool.not_true, Bool.not_false, Bool.true_and, Bool.and_true, Bool.false_and, Bool.and_false, Bool.true_or, Bool.or_true, Bool.false_or, Bool.or_false, Bool.not_not, decide_true, decide_false, Bool.decide_eq_true, Bool.decide_eq_false, qz_0, qz_1, qz_n, qz_n0, qz_n1, qz_t, qz_f, Nat.reduceAdd, q1000000, q0, q1, q2, q3, q4, q5, q6, q7, q8, q9, q10, q11, q12, q13, q14, q15, q16, q18, q19, q20, q21, q22, q23, q24, q25, q26, q27, q28, q29, q30, q31, q32, q38, q44, q45, q48, q57, q58, q59, q60, q63, q64, q97, q122, q126, q127, q128, q255, q256, q300, q580, q600, q1000, nI_add, q_lt_t, q_lt_f, q_eq_t, q_eq_f, q_clamp, q_in_t, q_in_f]
    · rw [moF_ok hb] at hmc
      have hmd := md_ok (N := N) (w := w) (F := F) (fd := fd) (T := T) (bl := false) (k := 0) (c := (n, a)) hb
      -- the best is at most 1000
      obtain ⟨bt0, hbt1, hbt2⟩ : ∃ bt0, bt0 ≤ 1000 ∧ I 52 26 = nI bt0 := by
        rcases hR with ⟨-, h1, -⟩ | ⟨k, n', h1, h2, -⟩
        · exact ⟨1000, Nat.le_refl _, h1⟩
        · exact ⟨k, by omega, h2⟩
      by_cases hsk : bt0 < pc2 m + pc2 n + pc2 a
      · have hRn : RB I L (chG N w F fd T false 0) cs (gq (mdF N w F fd T false 0 (n, a)) (m + 1)) (n, a) := by
          show RB I L _ cs (gadd (gq (mdF N w F fd T false 0 (n, a)) m) (mdF N w F fd T false 0 (n, a) m)) (n, a)
          rcases hR with ⟨h0, h1, h2⟩ | ⟨k, n', h1, h2, h3, h4, h5, h6⟩
          · rw [h1, nI_eq (by omega) (by omega)] at hbt2
            omega
          · rw [h2, nI_eq (by omega) (by omega)] at hbt2
            refine Or.inr ⟨k, n', h1, h2, h3, ?_, h5, h6⟩
            rw [← gadd_assoc]
            refine MW_no h4 (fun c hc => ?_)
            rw [hmd]
            unfold gs
            rw [if_neg (by show ¬ pc2 m + pc2 n + pc2 a ≤ c; omega)]
        obtain ⟨I', L', g1, g2, g3, g4⟩ := mode_loop hn ha hst (x2 := x2) (x3 := x3) r (m + 1) I L (by omega) hZ h18 h19 hRn
        refine ⟨I', L', ?_, g2, g3, g4⟩
        refine Eq.trans ?_ g1
        rw [e_X10_solves_112]
        simp (disch := omega) only [e_X10_solves_122, e_X10_solves_131, e_X10_solves_143, e_X10_solves_256, hstd, hmc, hbt2, Option.bind_some, Option.toList_some, Option.toList_none, List.cons_append, List.nil_append, Option.map_some, cond_true, cond_false, Bool.not_true, Bool.not_false, Bool.true_and, Bool.and_true, Bool.false_and, Bool.and_false, Bool.true_or, Bool.or_true, Bool.false_or, Bool.or_false, Bool.not_not, decide_true, decide_false, Bool.decide_eq_true, Bool.decide_eq_false, qz_0, qz_1, qz_n, qz_n0, qz_n1, qz_t, qz_f, Nat.reduceAdd, q1000000, q0, q1, q2, q3, q4, q5, q6, q7, q8, q9, q10, q11, q12, q13, q14, q15, q16, q18, q19, q20, q21, q22, q23, q24, q25, q26, q27, q28, q29, q30, q31, q32, q38, q44, q45, q48, q57, q58, q59, q60, q63, q64, q97, q122, q126, q127, q128, q255, q256, q300, q580, q600, q1000, nI_add, q_lt_t, q_lt_f, q_eq_t, q_eq_f, q_clamp, q_in_t, q_in_f]
      · obtain ⟨J, M, w1, w2, w3, w4, w5⟩ := s_weighs (L := L) hM hm
        have hZJ : MZ J N w F T fd := hZ.cg (fun y => w3 _ _ (by omega) (by omega) (by omega)) (w3 _ _ (by omega) (by omega) (by omega)) (fun y => w3 _ _ (by omega) (by omega) (by omega))
        have j18 : J 52 18 = nI n := (w3 _ _ (by omega) (by omega) (by omega)).trans h18
        have j19 : J 52 19 = nI a := (w3 _ _ (by omega) (by omega) (by omega)).trans h19
        have j26 : J 52 26 = nI bt0 := (w3 _ _ (by omega) (by omega) (by omega)).trans hbt2
        have hmcJ := s_mode (L := M) (hZJ.ms j18 j19 hn ha) hm
        rw [moF_ok hb] at hmcJ
        obtain ⟨kv, nv, v1, v2, v3, v4⟩ := w2 0 (Nat.zero_le N)
        have hkv : kv < 1000 → kv ≤ 308 := fun q => by
          rcases v4 with ⟨_, v4⟩ | ⟨v4, _⟩
          · have := VS_sup (WT_wa fd F T a) false 0 0 m v4
            have := hZ.1.1
            omega
          · omega
        have hBV : BV (pc2 m + pc2 n + pc2 a + kv) nv (mdF N w F fd T false 0 (n, a) m) := by
          rw [hmd]
          exact BV_gs v4 (fun q => by have := hkv q; show pc2 m + pc2 n + pc2 a + kv < 1000; omega)
        have hRJ : RB J M (chG N w F fd T false 0) cs (gq (mdF N w F fd T false 0 (n, a)) m) (n, a) := hR.cg (fun y _ _ => w3 _ _ (by omega) (by omega) (by omega)) (w5 _ _ (by omega))
        -- the state behind this mode
        have key : ∃ J2 M2, zrun zZ kX10_solves (112, [some (.ref 52), none, some (.int x2), some (.int x3), some (.int (nI m)), none], [], hp I L, 0, 0) = zrun zZ kX10_solves (112, [some (.ref 52), none, some (.int x2), some (.int x3), some (.int (nI (m + 1))), none], [], hp J2 M2, 0, 0) ∧ RB J2 M2 (chG N w F fd T false 0) cs (gadd (gq (mdF N w F fd T false 0 (n, a)) m) (mdF N w F fd T false 0 (n, a) m)) (n, a) ∧ (∀ x y, (x ≠ 52 ∨ y < 26 ∨ 30 ≤ y) → J2 x y = J x y) ∧ (∀ x y, (x ≠ 52 ∨ y ≠ 27) → M2 x y = M x y) := by
          have p0 : m * 29 + 0 = m * 29 := Nat.add_zero _
          rcases Nat.lt_trichotomy (pc2 m + pc2 n + pc2 a + kv) bt0 with q | q | q
          · -- better
            have hMW : MW (mdF N w F fd T false 0 (n, a) m) (pc2 m + pc2 n + pc2 a + kv) nv := by
              rcases hBV with ⟨_, h⟩ | ⟨h, _⟩
              · exact h
              · omega
            have e0 : (0 : Int64) + lN nv = lN nv := by rw [show (0 : Int64) = lN 0 from rfl, lN_add, Nat.zero_add]
            refine ⟨zup (zup (zup J 52 26 (nI (pc2 m + pc2 n + pc2 a + kv))) 52 28 (nI n)) 52 29 (nI a), zup (zup M 52 27 0) 52 27 (lN nv), ?_, Or.inr ⟨pc2 m + pc2 n + pc2 a + kv, nv, by omega, ?_, zu_same _ _ _ _, ?_, ?_, ?_⟩, fun x y p => ?_, fun x y p => ?_⟩
            · rw [e_X10_solves_112]
              simp (disch := omega) only [e_X10_solves_122, e_X10_solves_131, e_X10_solves_143, e_X10_solves_159, e_X10_solves_165, e_X10_solves_175, e_X10_solves_215, e_X10_solves_247, e_X10_solves_251, e_X10_solves_252, e_X10_solves_256, hstd, hmc, hmcJ, hbt2, j26, j18, j19, w1, s_place, v2, v3, e0, zu_same, zu_cell, zu_at, Option.bind_some, Option.toList_some, Option.toList_none, List.cons_append, List.nil_append, Option.map_some, cond_true, cond_false, Bool.not_true, Bool.not_false, Bool.true_and, Bool.and_true, Bool.false_and, Bool.and_false, Bool.true_or, Bool.or_true, Bool.false_or, Bool.or_false, Bool.not_not, decide_true, decide_false, Bool.decide_eq_true, Bool.decide_eq_false, qz_0, qz_1, qz_n, qz_n0, qz_n1, qz_t, qz_f, Nat.reduceAdd, q1000000, q0, q1, q2, q3, q4, q5, q6, q7, q8, q9, q10, q11, q12, q13, q14, q15, q16, q18, q19, q20, q21, q22, q23, q24, q25, q26, q27, q28, q29, q30, q31, q32, q38, q44, q45, q48, q57, q58, q59, q60, q63, q64, q97, q122, q126, q127, q128, q255, q256, q300, q580, q600, q1000, nI_add, q_lt_t, q_lt_f, q_eq_t, q_eq_f, q_clamp, q_in_t, q_in_f]
            · rw [zu_at (by omega), zu_at (by omega), zu_same]
            · rw [← gadd_assoc]
              rcases hRJ with ⟨h0, h1, h2⟩ | ⟨k, n', h1, h2, h3, h4, h5, h6⟩
              · rw [h0, g0_add]
                exact hMW
              · rw [h2, nI_eq (by omega) (by omega)] at j26
                exact MW_lt h4 hMW (by omega)
            · have hf : fsC (chG N w F fd T false 0) cs (n, a) (pc2 m + pc2 n + pc2 a + kv) = (n, a) := by
                unfold fsC
                have : cs.find? (fun x => decide (chG N w F fd T false 0 x (pc2 m + pc2 n + pc2 a + kv) ≠ 0)) = none := by
                  rw [List.find?_eq_none]
                  intro x hx
                  have hz : gsum (chG N w F fd T false 0) cs (pc2 m + pc2 n + pc2 a + kv) = 0 := by
                    rcases hRJ with ⟨h0, h1, h2⟩ | ⟨k, n', h1, h2, h3, h4, h5, h6⟩
                    · have : gsum (chG N w F fd T false 0) cs (pc2 m + pc2 n + pc2 a + kv) + gq (mdF N w F fd T false 0 (n, a)) m (pc2 m + pc2 n + pc2 a + kv) = 0 := congrFun h0 _
                      omega
                    · rw [h2, nI_eq (by omega) (by omega)] at j26
                      have : gsum (chG N w F fd T false 0) cs (pc2 m + pc2 n + pc2 a + kv) + gq (mdF N w F fd T false 0 (n, a)) m (pc2 m + pc2 n + pc2 a + kv) = 0 := h4.2.2 _ (by omega)
                      omega
                  rw [gsum_zero cs hz x hx]
                  decide
                rw [this]
                rfl
              rw [hf, zu_at (by omega), zu_same]
            · have hf : fsC (chG N w F fd T false 0) cs (n, a) (pc2 m + pc2 n + pc2 a + kv) = (n, a) := by
                unfold fsC
                have : cs.find? (fun x => decide (chG N w F fd T false 0 x (pc2 m + pc2 n + pc2 a + kv) ≠ 0)) = none := by
                  rw [List.find?_eq_none]
                  intro x hx
                  have hz : gsum (chG N w F fd T false 0) cs (pc2 m + pc2 n + pc2 a + kv) = 0 := by
                    rcases hRJ with ⟨h0, h1, h2⟩ | ⟨k, n', h1, h2, h3, h4, h5, h6⟩
                    · have : gsum (chG N w F fd T false 0) cs (pc2 m + pc2 n + pc2 a + kv) + gq (mdF N w F fd T false 0 (n, a)) m (pc2 m + pc2 n + pc2 a + kv) = 0 := congrFun h0 _
                      omega
                    · rw [h2, nI_eq (by omega) (by omega)] at j26
                      have : gsum (chG N w F fd T false 0) cs (pc2 m + pc2 n + pc2 a + kv) + gq (mdF N w F fd T false 0 (n, a)) m (pc2 m + pc2 n + pc2 a + kv) = 0 := h4.2.2 _ (by omega)
                      omega
                  rw [gsum_zero cs hz x hx]
                  decide
                rw [this]
                rfl
              rw [hf, zu_same]
            · by_cases z : x = 52
              · rw [zu_at (by omega), zu_at (by omega), zu_at (by omega)]
              · rw [zu_cell z, zu_cell z, zu_cell z]
            · by_cases z : x = 52
              · rw [zu_at (by omega), zu_at (by omega)]
              · rw [zu_cell z, zu_cell z]
          · -- as good
            by_cases zq : bt0 < 1000
            · have hMW : MW (mdF N w F fd T false 0 (n, a) m) bt0 nv := by
                rcases hBV with ⟨_, h⟩ | ⟨h, _⟩
                · rw [← q]
                  exact h
                · omega
              rcases hRJ with ⟨h0, h1, h2⟩ | ⟨k, n', h1, h2, h3, h4, h5, h6⟩
              · rw [h1, nI_eq (by omega) (by omega)] at j26
                omega
              · have h2' := h2
                rw [h2, nI_eq (by omega) (by omega)] at j26
                subst j26
                refine ⟨J, zup M 52 27 (lN (n' + nv)), ?_, Or.inr ⟨k, n' + nv, h1, h2, zu_same _ _ _ _, ?_, h5, h6⟩, fun _ _ _ => rfl, fun x y p => ?_⟩
                · rw [e_X10_solves_112]
                  simp (disch := omega) only [e_X10_solves_122, e_X10_solves_131, e_X10_solves_143, e_X10_solves_159, e_X10_solves_165, e_X10_solves_175, e_X10_solves_215, e_X10_solves_247, e_X10_solves_251, e_X10_solves_252, e_X10_solves_256, hstd, hmc, hmcJ, hbt2, h2', w1, s_place, v2, v3, h3, q, lN_add, Option.bind_some, Option.toList_some, Option.toList_none, List.cons_append, List.nil_append, Option.map_some, cond_true, cond_false, Bool.not_true, Bool.not_false, Bool.true_and, Bool.and_true, Bool.false_and, Bool.and_false, Bool.true_or, Bool.or_true, Bool.false_or, Bool.or_false, Bool.not_not, decide_true, decide_false, Bool.decide_eq_true, Bool.decide_eq_false, qz_0, qz_1, qz_n, qz_n0, qz_n1, qz_t, qz_f, Nat.reduceAdd, q1000000, q0, q1, q2, q3, q4, q5, q6, q7, q8, q9, q10, q11, q12, q13, q14, q15, q16, q18, q19, q20, q21, q22, q23, q24, q25, q26, q27, q28, q29, q30, q31, q32, q38, q44, q45, q48, q57, q58, q59, q60, q63, q64, q97, q122, q126, q127, q128, q255, q256, q300, q580, q600, q1000, nI_add, q_lt_t, q_lt_f, q_eq_t, q_eq_f, q_clamp, q_in_t, q_in_f]
                · rw [← gadd_assoc]
                  exact MW_eq h4 hMW
                · by_cases z : x = 52
                  · rw [zu_at (by omega)]
                  · rw [zu_cell z]
            · have hg : mdF N w F fd T false 0 (n, a) m = g0 := by
                rcases hBV with ⟨h, _⟩ | ⟨_, h⟩
                · omega
                · exact h
              obtain ⟨lv, hlv⟩ : ∃ lv, M 52 27 = lv := ⟨_, rfl⟩
              have e0 : lv + (0 : Int64) = lv := Int64.add_zero _
              refine ⟨J, zup M 52 27 lv, ?_, ?_, fun _ _ _ => rfl, fun x y p => ?_⟩
              · rw [e_X10_solves_112]
                simp (disch := omega) only [e_X10_solves_122, e_X10_solves_131, e_X10_solves_143, e_X10_solves_159, e_X10_solves_165, e_X10_solves_175, e_X10_solves_215, e_X10_solves_247, e_X10_solves_251, e_X10_solves_252, e_X10_solves_256, hstd, hmc, hmcJ, hbt2, j26, w1, s_place, v2, v3, hlv, q, e0, Option.bind_some, Option.toList_some, Option.toList_none, List.cons_append, List.nil_append, Option.map_some, cond_true, cond_false, Bool.not_true, Bool.not_false, Bool.true_and, Bool.and_true, Bool.false_and, Bool.and_false, Bool.true_or, Bool.or_true, Bool.false_or, Bool.or_false, Bool.not_not, decide_true, decide_false, Bool.decide_eq_true, Bool.decide_eq_false, qz_0, qz_1, qz_n, qz_n0, qz_n1, qz_t, qz_f, Nat.reduceAdd, q1000000, q0, q1, q2, q3, q4, q5, q6, q7, q8, q9, q10, q11, q12, q13, q14, q15, q16, q18, q19, q20, q21, q22, q23, q24, q25, q26, q27, q28, q29, q30, q31, q32, q38, q44, q45, q48, q57, q58, q59, q60, q63, q64, q97, q122, q126, q127, q128, q255, q256, q300, q580, q600, q1000, nI_add, q_lt_t, q_lt_f, q_eq_t, q_eq_f, q_clamp, q_in_t, q_in_f]
              · rw [hg, gadd_0]
                exact hRJ.cg (fun _ _ _ => rfl) (by rw [zu_same, hlv])
              · by_cases z : x = 52
                · rw [zu_at (by omega)]
                · rw [zu_cell z]
          · -- worse
            obtain ⟨lv, hlv⟩ : ∃ lv, M 52 27 = lv := ⟨_, rfl⟩
            have e0 : lv + (0 : Int64) = lv := Int64.add_zero _
            refine ⟨J, zup M 52 27 lv, ?_, ?_, fun _ _ _ => rfl, fun x y p => ?_⟩
            · rw [e_X10_solves_112]
              simp (disch := omega) only [e_X10_solves_122, e_X10_solves_131, e_X10_solves_143, e_X10_solves_159, e_X10_solves_165, e_X10_solves_175, e_X10_solves_215, e_X10_solves_247, e_X10_solves_251, e_X10_solves_252, e_X10_solves_256, hstd, hmc, hmcJ, hbt2, j26, w1, s_place, v2, v3, hlv, e0, Option.bind_some, Option.toList_some, Option.toList_none, List.cons_append, List.nil_append, Option.map_some, cond_true, cond_false, Bool.not_true, Bool.not_false, Bool.true_and, Bool.and_true, Bool.false_and, Bool.and_false, Bool.true_or, Bool.or_true, Bool.false_or, Bool.or_false, Bool.not_not, decide_true, decide_false, Bool.decide_eq_true, Bool.decide_eq_false, qz_0, qz_1, qz_n, qz_n0, qz_n1, qz_t, qz_f, Nat.reduceAdd, q1000000, q0, q1, q2, q3, q4, q5, q6, q7, q8, q9, q10, q11, q12, q13, q14, q15, q16, q18, q19, q20, q21, q22, q23, q24, q25, q26, q27, q28, q29, q30, q31, q32, q38, q44, q45, q48, q57, q58, q59, q60, q63, q64, q97, q122, q126, q127, q128, q255, q256, q300, q580, q600, q1000, nI_add, q_lt_t, q_lt_f, q_eq_t, q_eq_f, q_clamp, q_in_t, q_in_f]
            · refine RB.cg (I := J) (L := M) ?_ (fun _ _ _ => rfl) (by rw [zu_same, hlv])
              rcases hRJ with ⟨h0, h1, h2⟩ | ⟨k, n', h1, h2, h3, h4, h5, h6⟩
              · rw [h1, nI_eq (by omega) (by omega)] at j26
                have hg : mdF N w F fd T false 0 (n, a) m = g0 := by
                  rcases hBV with ⟨h, _⟩ | ⟨_, h⟩
                  · omega
                  · exact h
                rw [hg, gadd_0]
                exact Or.inl ⟨h0, h1, h2⟩
              · have h2' := h2
                rw [h2, nI_eq (by omega) (by omega)] at j26
                subst j26
                refine Or.inr ⟨k, n', h1, h2, h3, ?_, h5, h6⟩
                rw [← gadd_assoc]
                rcases hBV with ⟨_, h⟩ | ⟨_, h⟩
                · exact MW_gt h4 h q
                · rw [h, gadd_0]
                  exact h4
            · by_cases z : x = 52
              · rw [zu_at (by omega)]
              · rw [zu_cell z]
        obtain ⟨J2, M2, k1, k2, k3, k4⟩ := key
        obtain ⟨I', L', g1, g2, g3, g4⟩ := mode_loop hn ha hst (x2 := x2) (x3 := x3) r (m + 1) J2 M2 (by omega) (hZJ.cg (fun y => k3 _ _ (by omega)) (k3 _ _ (by omega)) (fun y => k3 _ _ (by omega))) ((k3 _ _ (by omega)).trans j18) ((k3 _ _ (by omega)).trans j19) k2
        refine ⟨I', L', k1.trans g1, g2, fun x y p1 p2 p3 p4 => ?_, fun x y p1 p2 => ?_⟩
        · rw [g3 x y p1 p2 p3 p4, k3 x y p4, w3 x y p1 p2 p3]
        · rw [g4 x y p1 p2, k4 x y p2, w5 x y (by omega)]
