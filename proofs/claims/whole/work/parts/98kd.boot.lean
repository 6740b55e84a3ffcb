/-! what holds when both are made -/
theorem fi_run (I : zI) (L : zL) : ∃ J M, zcall zZ nX2_init [.ref 25, .ref 1, .ref 11] (zSH.take 26, I, L, bR50) = some (none, (zSH.take 52, J, M, bR104)) ∧ KC J ∧ J 26 4 = nI 0 ∧ (∀ a b, a < 25 → J a b = I a b) ∧ (∀ a b, a < 25 → M a b = L a b) := by
  rw [b_F149]
  obtain ⟨I0, hI0⟩ : ∃ I0, I0 = (zfil (zfil (zfil (zfil (zfil (zfil (zfil (zfil (zfil (zfil (zfil (zfil (zfil (zfil (zfil (zfil (zup (zup (zup (zup (zup (zup (zup (zfil (zfil (zfil (zfil (zfil (zup (zup (zup (zup (zup (zup (zup (zup (zup (zfil (zfil (zfil (zfil (zfil I 26 0) 27 0) 28 0) 29 0) 30 0) 26 4 (0 : Int32)) 26 5 (0 : Int32)) 26 6 (0 : Int32)) 26 8 (0 : Int32)) 26 9 (0 : Int32)) 26 10 (0 : Int32)) 26 11 (0 : Int32)) 26 12 (0 : Int32)) 26 13 (0 : Int32)) 31 0) 32 0) 33 0) 34 0) 35 0) 25 8 (0 : Int32)) 25 9 (0 : Int32)) 25 10 (0 : Int32)) 25 11 (0 : Int32)) 25 12 (0 : Int32)) 25 14 (0 : Int32)) 25 15 (0 : Int32)) 36 0) 37 0) 38 0) 39 0) 40 0) 41 0) 42 0) 43 0) 44 0) 45 0) 46 0) 47 0) 48 0) 49 0) 50 0) 51 0) := ⟨_, rfl⟩
  obtain ⟨L0, hL0⟩ : ∃ L0, L0 = (zfil (zfil (zfil (zfil (zfil (zfil (zfil (zfil (zfil (zfil (zfil (zfil (zfil (zfil (zfil (zfil (zup (zfil (zfil (zfil (zfil (zfil (zup (zfil (zfil (zfil (zfil (zfil L 26 0) 27 0) 28 0) 29 0) 30 0) 26 7 (0 : Int64)) 31 0) 32 0) 33 0) 34 0) 35 0) 25 13 (0 : Int64)) 36 0) 37 0) 38 0) 39 0) 40 0) 41 0) 42 0) 43 0) 44 0) 45 0) 46 0) 47 0) 48 0) 49 0) 50 0) 51 0) := ⟨_, rfl⟩
  rw [← hI0, ← hL0, show (0 : Int32) = nI 0 from rfl, show (1 : Int32) = nI 1 from rfl]
  have a1 : I0 26 4 = nI 0 := by
    rw [hI0]
    simp (disch := omega) only [zu_same, zu_cell, zu_at, zf_same, zf_cell]
    rfl
  have a2 : ∀ a b, a < 25 → I0 a b = I a b := fun a b h => by
    rw [hI0]
    simp (disch := omega) only [zu_cell, zf_cell]
  have a3 : ∀ a b, a < 25 → L0 a b = L a b := fun a b h => by
    rw [hL0]
    simp (disch := omega) only [zu_cell, zf_cell]
  clear hI0 hL0
  obtain ⟨J1, g1, g2, g3⟩ := f149 L0 127 1 I0 (by omega) (by omega) (fun Q q1' q2' => by omega)
  obtain ⟨J, k1, k2, k3, k4, k5⟩ := f178 L0 6 1 J1 (by omega) (by omega) g2 (fun Q q1' q2' q3' => by
    have := (pT_b Q q2').2 (by omega)
    omega) (fun u q1' q2' => by omega)
  have k1 : zrun zZ kX2_init (178, [some (.ref 25), none, none, some (.int (nI 0)), some (.int (nI 1)), none], [], (zSH.take 52, J1, L0, bR104), 26, 1844) = some (none, (zSH.take 52, J, L0, bR104), 26, 1844) := k1
  refine ⟨J, L0, ?_, ⟨k2, fun i hi => ?_, k4⟩, ?_, fun a b h => ?_, a3⟩
  · rw [g1, k1]
    rfl
  · have hb := odP_b i hi
    have := k3 (odP i) hb.1 hb.2
    rw [plc_od i hi] at this
    exact this
  · rw [k5 _ _ (by omega) (by omega), g3 _ _ (by omega)]
    exact a1
  · rw [k5 _ _ (by omega) (by omega), g3 _ _ (by omega)]
    exact a2 a b h
theorem boot9 (I : zI) (L : zL) : ∃ J M, zcall zZ nX9_init [.ref 0] (zSH.take 1, I, L, bR1) = some (none, (zSH.take 52, J, M, bR105)) ∧ KC J ∧ LX M ∧ (J 0 6 = nI 0 ∧ J 0 7 = -nI 1 ∧ J 0 8 = nI 0) ∧ J 3 1 = nI 0 ∧ J 9 1 = nI 0 ∧ (J 11 6 = nI 0 ∧ J 11 7 = nI 0 ∧ J 11 8 = nI 0 ∧ J 11 9 = nI 0 ∧ J 11 10 = nI 0) ∧ J 12 0 = nI 0 ∧ J 19 0 = nI 0 ∧ J 26 4 = nI 0 := by
  rw [b_D65]
  obtain ⟨I0, hI0⟩ : ∃ I0, I0 = (zfil (zup (zup (zup (zup (zup (zfil (zfil (zfil (zfil (zfil (zfil (zfil (zup (zup (zup (zup (zup (zfil (zfil (zfil (zfil (zfil (zfil (zfil (zup (zfil (zfil (zup (zup (zup (zup (zup (zup (zup (zfil (zfil (zfil (zup (zup (zup (zup (zfil (zup (zfil (zfil (zfil (zfil I 1 0) 2 0) 3 0) 4 0) 3 1 (0 : Int32)) 5 0) 5 0 (0 : Int32)) 5 1 (-1 : Int32)) 5 2 (0 : Int32)) 5 3 (0 : Int32)) 6 0) 7 0) 8 0) 5 8 (0 : Int32)) 5 9 (0 : Int32)) 5 10 (0 : Int32)) 5 11 (0 : Int32)) 5 12 (0 : Int32)) 5 13 (0 : Int32)) 5 14 (0 : Int32)) 9 0) 10 0) 9 1 (0 : Int32)) 11 0) 12 0) 13 0) 14 0) 15 0) 16 0) 17 0) 11 6 (0 : Int32)) 11 7 (0 : Int32)) 11 8 (0 : Int32)) 11 9 (0 : Int32)) 11 10 (0 : Int32)) 18 0) 19 0) 20 0) 21 0) 22 0) 23 0) 24 0) 18 6 (0 : Int32)) 18 7 (0 : Int32)) 18 8 (0 : Int32)) 18 9 (0 : Int32)) 18 10 (0 : Int32)) 25 0) := ⟨_, rfl⟩
  obtain ⟨L0, hL0⟩ : ∃ L0, L0 = (zfil (zfil (zfil (zfil (zfil (zfil (zfil (zfil (zfil (zfil (zfil (zfil (zfil (zfil (zfil (zfil (zfil (zfil (zfil (zfil (zfil (zfil (zfil (lxL (zfil (zfil L 1 0) 2 0) 80) 3 0) 4 0) 5 0) 6 0) 7 0) 8 0) 9 0) 10 0) 11 0) 12 0) 13 0) 14 0) 15 0) 16 0) 17 0) 18 0) 19 0) 20 0) 21 0) 22 0) 23 0) 24 0) 25 0) := ⟨_, rfl⟩
  rw [← hI0, ← hL0]
  have h3 : I0 3 1 = nI 0 := by
    rw [hI0]
    simp (disch := omega) only [zu_same, zu_cell, zu_at, zf_same, zf_cell]
    rfl
  have h9 : I0 9 1 = nI 0 := by
    rw [hI0]
    simp (disch := omega) only [zu_same, zu_cell, zu_at, zf_same, zf_cell]
    rfl
  have h11 : I0 11 6 = nI 0 ∧ I0 11 7 = nI 0 ∧ I0 11 8 = nI 0 ∧ I0 11 9 = nI 0 ∧ I0 11 10 = nI 0 := by
    rw [hI0]
    simp (disch := omega) only [zu_same, zu_cell, zu_at, zf_same, zf_cell]
    exact ⟨rfl, rfl, rfl, rfl, rfl⟩
  have h12 : I0 12 0 = nI 0 := by
    rw [hI0]
    simp (disch := omega) only [zu_same, zu_cell, zu_at, zf_same, zf_cell]
    rfl
  have h19 : I0 19 0 = nI 0 := by
    rw [hI0]
    simp (disch := omega) only [zu_same, zu_cell, zu_at, zf_same, zf_cell]
    rfl
  have hl : ∀ k, k < 19 → L0 2 k = lN (wcode (kw k)) := fun k hk => by
    rw [hL0]
    simp (disch := omega) only [zf_cell]
    rw [lxL_2 (M := fun _ _ => 0) (fun b => zf_same _ _ _ _)]
    exact lxL_k k hk
  clear hI0 hL0
  obtain ⟨J, M, g1, g2, g3, g4, g5⟩ := fi_run I0 L0
  refine ⟨zup (zup (zup (zup (zup (zup (zup J 0 6 (0 : Int32)) 0 7 (-1 : Int32)) 0 8 (0 : Int32)) 0 9 (-1 : Int32)) 0 10 (-1 : Int32)) 0 11 (0 : Int32)) 0 12 (-1 : Int32), M, ?_, ?_, fun k hk => (g5 _ _ (by omega)).trans (hl k hk), ⟨?_, ?_, ?_⟩, ?_, ?_, ?_, ?_, ?_, ?_⟩
  · simp only [g1, b_X9_init_81, Option.bind_some, Option.toList_none, List.nil_append, Option.map_some]
  · exact g2.cg (fun b => by simp (disch := omega) only [zu_same, zu_cell, zu_at]) (fun b => by simp (disch := omega) only [zu_same, zu_cell, zu_at]) (fun b => by simp (disch := omega) only [zu_same, zu_cell, zu_at])
  · simp (disch := omega) only [zu_same, zu_cell, zu_at]
    rfl
  · simp (disch := omega) only [zu_same, zu_cell, zu_at]
    rfl
  · simp (disch := omega) only [zu_same, zu_cell, zu_at]
    rfl
  · simp (disch := omega) only [zu_same, zu_cell, zu_at]
    exact (g4 _ _ (by omega)).trans h3
  · simp (disch := omega) only [zu_same, zu_cell, zu_at]
    exact (g4 _ _ (by omega)).trans h9
  · simp (disch := omega) only [zu_same, zu_cell, zu_at]
    exact ⟨(g4 _ _ (by omega)).trans h11.1, (g4 _ _ (by omega)).trans h11.2.1, (g4 _ _ (by omega)).trans h11.2.2.1, (g4 _ _ (by omega)).trans h11.2.2.2.1, (g4 _ _ (by omega)).trans h11.2.2.2.2⟩
  · simp (disch := omega) only [zu_same, zu_cell, zu_at]
    exact (g4 _ _ (by omega)).trans h12
  · simp (disch := omega) only [zu_same, zu_cell, zu_at]
    exact (g4 _ _ (by omega)).trans h19
  · simp (disch := omega) only [zu_same, zu_cell, zu_at]
    exact g3
theorem boot10 (I : zI) (L : zL) (hK : KC I) (hL : LX L) (h0 : I 0 6 = nI 0 ∧ I 0 7 = -nI 1 ∧ I 0 8 = nI 0) (h3 : I 3 1 = nI 0) (h9 : I 9 1 = nI 0) (h11 : I 11 6 = nI 0 ∧ I 11 7 = nI 0 ∧ I 11 8 = nI 0 ∧ I 11 9 = nI 0 ∧ I 11 10 = nI 0) (h12 : I 12 0 = nI 0) (h19 : I 19 0 = nI 0) (h26 : I 26 4 = nI 0) : ∃ J M, zcall zZ nX10_init [.ref 52] (zSH.take 53, zfil I 52 0, zfil L 52 0, bR106) = some (none, (zSH, J, M, bR136)) ∧ INV J M := by
  rw [b_X10]
  obtain ⟨J, hJ⟩ : ∃ J, J = (zfil (zfil (zfil (zfil (zfil (zfil (zfil (zfil (zfil (zfil (zfil (zup (zfil (zfil (zfil (zfil (zfil I 52 0) 53 0) 54 0) 55 0) 56 0) 52 7 (-1 : Int32)) 57 0) 58 0) 59 0) 60 0) 61 0) 62 0) 63 0) 64 0) 65 0) 66 0) 67 0) := ⟨_, rfl⟩
  obtain ⟨M, hM⟩ : ∃ M, M = (zfil (zfil (zfil (zfil (zfil (zfil (zfil (zfil (zfil (zfil (zfil (zfil (zfil (zfil (zfil (zfil L 52 0) 53 0) 54 0) 55 0) 56 0) 57 0) 58 0) 59 0) 60 0) 61 0) 62 0) 63 0) 64 0) 65 0) 66 0) 67 0) := ⟨_, rfl⟩
  rw [← hJ, ← hM]
  have a1 : ∀ a b, a < 52 → J a b = I a b := fun a b h => by
    rw [hJ]
    simp (disch := omega) only [zu_cell, zf_cell]
  have a2 : ∀ a b, a < 52 → M a b = L a b := fun a b h => by
    rw [hM]
    simp (disch := omega) only [zu_cell, zf_cell]
  have b1 : ∀ f, f ≠ 7 → J 52 f = nI 0 := fun f h => by
    rw [hJ]
    simp (disch := omega) only [zu_at, zf_same, zf_cell]
    rfl
  have b2 : J 52 7 = -nI 1 := by
    rw [hJ]
    simp (disch := omega) only [zu_same, zu_cell, zu_at, zf_same, zf_cell]
    rfl
  have b3 : ∀ f, J 53 f = nI 0 := fun f => by
    rw [hJ]
    simp (disch := omega) only [zu_cell, zf_same, zf_cell]
    rfl
  clear hJ hM
  refine ⟨J, M, rfl, 0, 0, 0, 0, 0, 0, 0, ⟨⟨?_, ?_, ?_, fun f hf => by omega, fun t ht => by omega, fun q => absurd rfl q, fun f hf => by omega⟩, ⟨by omega, (a1 _ _ (by omega)).trans h3, b1 _ (by omega), fun i hi => by omega⟩, ⟨by omega, (a1 _ _ (by omega)).trans h9, b1 _ (by omega), fun a t ha => by omega⟩, ⟨?_, ?_⟩, ?_, Or.inl ((a1 _ _ (by omega)).trans h0.2.2)⟩, hK.cg (fun b => a1 _ _ (by omega)) (fun b => a1 _ _ (by omega)) (fun b => a1 _ _ (by omega)), fun k hk => (a2 _ _ (by omega)).trans (hL k hk), Or.inl ((a1 _ _ (by omega)).trans h26), ⟨fun _ => [], fun f hf => by omega, fun f hf => by omega⟩, (a1 _ _ (by omega)).trans h12, (a1 _ _ (by omega)).trans h19⟩
  · exact ⟨by omega, by omega, by omega, by omega, by omega, Iff.rfl, fun _ => ⟨rfl, rfl⟩⟩
  · exact ⟨(a1 _ _ (by omega)).trans h11.1, (a1 _ _ (by omega)).trans h11.2.1, (a1 _ _ (by omega)).trans h11.2.2.1, (a1 _ _ (by omega)).trans h11.2.2.2.1, (a1 _ _ (by omega)).trans h11.2.2.2.2⟩
  · exact ⟨b3 _, b3 _, b3 _, b3 _, b3 _⟩
  · rw [b1 _ (by omega), a1 _ _ (by omega)]
    exact h0.1.symm
  · rw [b2, a1 _ _ (by omega)]
    exact h0.2.1.symm
  · rw [b1 _ (by omega), a1 _ _ (by omega)]
    exact h0.2.2.symm
theorem bR_ok : ∀ k, k < 68 → ∀ f, f < 48 → bR136 k f = zRR k f ∧ (match zRR k f with | some j => decide (j < 68) | none => true) = true := by decide +kernel
theorem sh4 : ∀ k, k < 68 → (match (zSH[k]? : Option zK) with | some (Sum.inr (4, n)) => decide (n ≤ 48) | _ => true) = true := by decide +kernel
theorem mv_boot (I : zI) (L : zL) : zMv id (zSH, I, L, bR136) (hp I L) := by
  refine ⟨by show zSH.length ≤ 900; decide, fun k hk => ⟨rfl, rfl, rfl, fun f hf => ?_⟩, fun i j _ _ h => h, fun k n h => ?_⟩
  · have hk : k < 68 := hk
    obtain ⟨e1, e2⟩ := bR_ok k hk f hf
    show (match bR136 k f with
      | none => zRR k f = none
      | some j0 => ∃ j, j < zSH.length ∧ zRR k f = some j ∧ j = j0)
    rw [e1]
    cases hz : zRR k f with
    | none => rfl
    | some j =>
      rw [hz] at e2
      exact ⟨j, of_decide_eq_true e2, rfl, rfl⟩
  · have hk : k < 68 := (List.getElem?_eq_some_iff.mp h).1
    have e := sh4 k hk
    have h : zSH[k]? = some (Sum.inr (4, n)) := h
    rw [h] at e
    exact of_decide_eq_true e
