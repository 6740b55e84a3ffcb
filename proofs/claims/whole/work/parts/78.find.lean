/-! the words of days, as both find them -/
theorem enT_v {N F : Nat} {nm : Nat → List Nat} {k f : Nat} {D : Int32} (hk : k < 19) (hnm : ∀ f, f < F → (nm f).length ≤ 8) : ∀ v, v ∈ enT N F nm k f D → v.length ≤ 8 := fun v hv => by
  unfold enT at hv
  by_cases z : f = 0 ∧ D = nI 0
  · rw [if_pos z] at hv
    cases hv
  · rw [if_neg z] at hv
    rcases List.mem_cons.mp hv with rfl | hv
    · exact (kw_ok k hk).2.1
    · rcases List.mem_append.mp hv with q | q
      · exact (feT_len f F 0 (fun y _ h _ => hnm y (by omega))).2 v q
      · exact (dyT_len D N 0).2 v q
def WR (N w F : Nat) (fd : Nat → Int32) (nm : Nat → List Nat) (T : Int32) (k n : Nat) (c : Nat × Nat) (l : List (Nat × Nat × Nat)) (D1 D2 : Int32) (ts : List Nat) : Prop := k ≤ 100 ∧ ((T = nI 0 ∧ k = 1 ∧ n = 1 + abN N w ∧ c = (0, 0) ∧ l = [] ∧ D1 = nI 0 ∧ D2 = nI 0 ∧ ts = tks [] [kw 6]) ∨ (T ≠ nI 0 ∧ OK3 N w F fd T true k n c ∧ PL N w T (fdF fd c.1 F) (waS fd F T c.2) N 0 (stF c.1 c.2) l ∧ (∀ x, x < 32 → bt D1 x = (inS w (fdF fd c.1 F) l x && !bt T x)) ∧ (∀ x, x < 32 → bt D2 x = (bt (waS fd F T c.2) x && !inS w (fdF fd c.1 F) l x)) ∧ ts = tks [] (txT N F nm l c.1 D1 c.2 D2)))
theorem OK3_c {N w F : Nat} {fd : Nat → Int32} {T : Int32} {k n : Nat} {c : Nat × Nat} (hF : F ≤ 2) (h : OK3 N w F fd T true k n c) : c.1 < 2 ^ F ∧ c.2 < 2 ^ F := by
  obtain ⟨-, hmem⟩ := OK3_tok h
  obtain ⟨-, i2, -⟩ := inN_ok fd T hF
  exact chC_lt F (by omega) _ i2 c hmem
theorem WR_len {N w F : Nat} {fd : Nat → Int32} {nm : Nat → List Nat} {T : Int32} {k n : Nat} {c : Nat × Nat} {l : List (Nat × Nat × Nat)} {D1 D2 : Int32} {ts : List Nat} (hN : N ≤ 28) (hF : F ≤ 2) (hnm : ∀ f, f < F → (nm f).length ≤ 8) (h : WR N w F fd nm T k n c l D1 D2 ts) : ts.length ≤ 300 := by
  obtain ⟨-, h⟩ := h
  rcases h with ⟨-, -, -, -, -, -, -, rfl⟩ | ⟨-, h1, h2, h3, h4, rfl⟩
  · decide
  · have h29 := OK3_29 hN hF h1
    obtain ⟨ek, -⟩ := OK3_tok h1
    obtain ⟨c1, c2⟩ := OK3_c hF h1
    obtain ⟨g1, g2⟩ := PL_cost N 0 _ l h2 (by omega)
    have e1 : cnt (fun j => bt D1 (0 + j)) N = cnt (fun j => inS w (fdF fd c.1 F) l (0 + j) && !bt T (0 + j)) (N - 0) := cnt_congr N (fun j hj => h3 (0 + j) (by omega))
    have e2 : cnt (fun j => bt D2 (0 + j)) N = cnt (fun j => bt (waS fd F T c.2) (0 + j) && !inS w (fdF fd c.1 F) l (0 + j)) (N - 0) := cnt_congr N (fun j hj => h4 (0 + j) (by omega))
    have n1 := enT_le N nm 10 hF c1 D1
    have n2 := enT_le N nm 11 hF c2 D2
    have hl : (txT N F nm l c.1 D1 c.2 D2).length = (spsT N l).length + ((enT N F nm 10 c.1 D1).length + (enT N F nm 11 c.2 D2).length) := by
      unfold txT
      rw [List.length_append, List.length_append]
    have := tks_le (txT N F nm l c.1 D1 c.2 D2) [] (fun v hv => by
      rcases List.mem_append.mp hv with q | q
      · exact g2 v q
      · rcases List.mem_append.mp q with q | q
        · exact enT_v (by omega) hnm v q
        · exact enT_v (by omega) hnm v q)
    have e0 : ([] : List Nat).length = 0 := rfl
    omega
def WX (I : zI) (L : zL) (k n : Nat) (c : Nat × Nat) (l : List (Nat × Nat × Nat)) (D1 D2 : Int32) (ts : List Nat) : Prop := I 26 6 = nI k ∧ L 26 7 = lN n ∧ I 26 8 = nI l.length ∧ WL 27 28 29 I 0 l ∧ I 26 9 = nI c.1 ∧ I 26 10 = D1 ∧ I 26 11 = nI c.2 ∧ I 26 12 = D2 ∧ I 26 13 = nI ts.length ∧ (∀ i, i < ts.length → I 30 i = nI (ts.getD i 0))
def WQ (I : zI) (L : zL) (N w F : Nat) (T : Int32) : Prop := ∃ nm k n c l D1 D2 ts, (∀ f, f < F → NM I L f (nm f)) ∧ WR N w F (I 14) nm T k n c l D1 D2 ts ∧ WX I L k n c l D1 D2 ts
def WC (I : zI) (L : zL) (N w F : Nat) : Prop := I 26 4 = nI 0 ∨ (I 26 4 = nI 1 ∧ WQ I L N w F (I 26 5))
theorem NM.cg {I I' : zI} {L L' : zL} {f : Nat} {cs : List Nat} (h : NM I L f cs) (h1 : ∀ b, I' 53 b = I 53 b) (h2 : ∀ b, L' 13 b = L 13 b) : NM I' L' f cs := by
  obtain ⟨n1, n2, n3, n4, n5, n6⟩ := h
  refine ⟨n1, n2, n3, (h1 _).trans n4, fun i hi => (h1 _).trans (n5 i hi), (h2 _).trans n6⟩
theorem WQ.cg {I J : zI} {L M : zL} {N w F : Nat} {T : Int32} (h : WQ I L N w F T) (h1 : ∀ b, J 53 b = I 53 b) (h2 : ∀ b, J 14 b = I 14 b) (h3 : ∀ a b, 26 ≤ a → a ≤ 30 → J a b = I a b) (h4 : ∀ b, M 13 b = L 13 b) (h5 : M 26 7 = L 26 7) : WQ J M N w F T := by
  obtain ⟨nm, k, n, c, l, D1, D2, ts, hn, hr, x1, x2, x3, x4, x5, x6, x7, x8, x9, x10⟩ := h
  have e14 : J 14 = I 14 := funext h2
  have e26 := fun b => h3 26 b (by omega) (by omega)
  refine ⟨nm, k, n, c, l, D1, D2, ts, fun f hf => (hn f hf).cg h1 h4, by rw [e14]; exact hr, (e26 _).trans x1, h5.trans x2, (e26 _).trans x3, fun j hj => ?_, (e26 _).trans x5, (e26 _).trans x6, (e26 _).trans x7, (e26 _).trans x8, (e26 _).trans x9, fun i hi => (h3 30 i (by omega) (by omega)).trans (x10 i hi)⟩
  rw [h3 27 _ (by omega) (by omega), h3 28 _ (by omega) (by omega), h3 29 _ (by omega) (by omega)]
  exact x4 j hj
theorem WC.cg {I J : zI} {L M : zL} {N w F : Nat} (h : WC I L N w F) (h1 : ∀ b, J 53 b = I 53 b) (h2 : ∀ b, J 14 b = I 14 b) (h3 : ∀ a b, 26 ≤ a → a ≤ 30 → J a b = I a b) (h4 : ∀ b, M 13 b = L 13 b) (h5 : M 26 7 = L 26 7) : WC J M N w F := by
  unfold WC
  rw [h3 26 4 (by omega) (by omega), h3 26 5 (by omega) (by omega)]
  rcases h with h | ⟨h, g⟩
  · exact Or.inl h
  · exact Or.inr ⟨h, g.cg h1 h2 h3 h4 h5⟩
theorem WC.fu {I J : zI} {L M : zL} {N w F : Nat} (h : WC I L N w F) (h1 : FU I J) (h2 : FUL L M) : WC J M N w F := h.cg (fun b => h1 _ _ (by omega)) (fun b => h1 _ _ (by omega)) (fun a b p q => h1 _ _ (by omega)) (fun b => h2 _ _ (by omega)) (h2 _ _ (by omega))
/-- cells in which either finds words -/
def FV (I J : zI) : Prop := ∀ x y, (x < 25 ∨ (x = 25 ∧ y < 8) ∨ (30 < x ∧ x < 35) ∨ x = 36 ∨ (x = 52 ∧ (y < 17 ∨ 43 ≤ y)) ∨ (53 ≤ x ∧ x ≤ 56) ∨ 68 ≤ x) → J x y = I x y
def FVL (L M : zL) : Prop := ∀ x y, (x < 25 ∨ (x = 25 ∧ y ≠ 13) ∨ (x = 26 ∧ y ≠ 7) ∨ (26 < x ∧ x < 37) ∨ (x = 52 ∧ y ≠ 27) ∨ (53 ≤ x ∧ x ≤ 57) ∨ 59 ≤ x) → M x y = L x y
theorem FV.refl (I : zI) : FV I I := fun _ _ _ => rfl
theorem FVL.refl (L : zL) : FVL L L := fun _ _ _ => rfl
theorem FV.trans {I J K : zI} (h : FV I J) (h2 : FV J K) : FV I K := fun x y p => (h2 x y p).trans (h x y p)
theorem FVL.trans {I J K : zL} (h : FVL I J) (h2 : FVL J K) : FVL I K := fun x y p => (h2 x y p).trans (h x y p)
theorem FU.fv {I J : zI} (h : FU I J) : FV I J := fun x y p => h x y (by omega)
theorem FUL.fv {I J : zL} (h : FUL I J) : FVL I J := fun x y p => h x y (by omega)
theorem FCH.fv {I J : zI} (h : FCH I J) : FV I J := fun x y p => h x y (by omega) (by omega) (by omega) (by omega) (by omega) (by omega) (by omega) (by omega) (by omega) (by omega)
theorem DK.fv {I J : zI} {L M : zL} {N w F T ln : Nat} (D : DK I L N w F T ln) (h : FV I J) (h2 : FVL L M) : DK J M N w F T ln := D.cg (fun a b p => h a b (by omega)) (fun b => h2 13 b (by omega))
theorem KC.fv {I J : zI} (hK : KC I) (h : FV I J) : KC J := hK.cg (fun b => h _ _ (by omega)) (fun b => h _ _ (by omega)) (fun b => h _ _ (by omega))
theorem LX.fv {L M : zL} (hL : LX L) (h : FVL L M) : LX M := fun k hk => (h 2 k (by omega)).trans (hL k hk)
theorem LX.fu {L M : zL} (hL : LX L) (h : FUL L M) : LX M := fun k hk => (h 2 k (by omega)).trans (hL k hk)
theorem EV.fv {I J : zI} {L M : zL} {N w F T ln A S : Nat} (E : EV I L N w F T ln A S) (h : FV I J) (h2 : FVL L M) : EV J M N w F T ln A S := by
  obtain ⟨D, hP, hA, hF, hT⟩ := E
  exact ⟨D.fv h h2, hP.cg (h _ _ (by omega)) (h _ _ (by omega)) (fun b => h _ _ (by omega)) (fun b => h _ _ (by omega)), hA.cg (h _ _ (by omega)) (h _ _ (by omega)) (fun b => h _ _ (by omega)) (fun b => h _ _ (by omega)), hF.cg (fun b => h _ _ (by omega)) (h _ _ (by omega)) (h _ _ (by omega)), hT.cg (fun b => h _ _ (by omega)) (fun b hb => h _ _ (by omega))⟩
theorem DK.nm {I : zI} {L : zL} {N w F T ln : Nat} (D : DK I L N w F T ln) : ∃ nm : Nat → List Nat, ∀ f, f < F → NM I L f (nm f) := ⟨fun f => Classical.epsilon (fun cs => NM I L f cs), fun f hf => Classical.epsilon_spec (p := fun cs => NM I L f cs) (D.2.2.2.2.2.2 f hf)⟩
theorem wr_x {I : zI} {ts : List Nat} (h : ts.length ≤ 300) : wr I ts 26 13 = nI ts.length ∧ ∀ i, i < ts.length → wr I ts 30 i = nI (ts.getD i 0) := by
  refine ⟨?_, fun i hi => wr_30 I hi (by omega)⟩
  rw [wr_13, Nat.min_eq_left h]
