/-! least costs as numbers, and what follows them -/
theorem MW_ex {f : GF} : ∀ c, f c ≠ 0 → ∃ k n, k ≤ c ∧ MW f k n := by
  intro c
  induction c using Nat.strongRecOn with
  | ind c ih =>
    intro h
    by_cases q : ∃ c', c' < c ∧ f c' ≠ 0
    · obtain ⟨c', h1, h2⟩ := q
      obtain ⟨k, n, h3, h4⟩ := ih c' h1 h2
      exact ⟨k, n, by omega, h4⟩
    · refine ⟨c, f c, Nat.le_refl _, rfl, by omega, fun c' hc' => ?_⟩
      by_cases z : f c' = 0
      · exact z
      · exact absurd ⟨c', hc', z⟩ q
theorem US_ex (N w : Nat) (T H W : Int32) : ∀ r d s, N - d ≤ r → ∃ k n, k ≤ 2 * (N - d) ∧ MW (US N w T H W false 0 d s) k n
  | r, d, s, h => by
    by_cases hd : d < N
    · match r, h with
      | 0, h => omega
      | r + 1, h =>
        obtain ⟨k, n, h1, h2⟩ := US_ex N w T H W r (d + 1) (sbdF W d s) (by omega)
        have := tod_le W d s
        have hm := MW_gs (todF W d s) h2
        have hne : US N w T H W false 0 d s (todF W d s + k) ≠ 0 := by
          rw [US_step hd]
          show _ + _ ≠ 0
          have := hm.1
          have := hm.2.1
          omega
        obtain ⟨k', n', h3, h4⟩ := MW_ex _ hne
        exact ⟨k', n', by omega, h4⟩
    · exact ⟨0, 1, by omega, US_end (by omega)⟩
theorem WB_ex {N w : Nat} {T H W : Int32} (hw : WT T W) (hN : N ≤ 28) (d m : Nat) : ∃ k, WB k (VS N w T H W false 0 d m) := by
  by_cases q : ∃ c, VS N w T H W false 0 d m c ≠ 0
  · obtain ⟨c, hc⟩ := q
    obtain ⟨k, n, h1, h2⟩ := MW_ex _ hc
    have := VS_sup hw false 0 d m h2
    exact ⟨k, Or.inl ⟨by omega, n, h2⟩⟩
  · exact ⟨1000, Or.inr ⟨rfl, funext fun c => by
      by_cases z : VS N w T H W false 0 d m c = 0
      · exact z
      · exact absurd ⟨c, z⟩ q⟩⟩
theorem WB_uniq {g : GF} {k k' : Nat} (h : WB k g) (h' : WB k' g) : k = k' := by
  rcases h with ⟨a, n, b⟩ | ⟨a, rfl⟩
  · rcases h' with ⟨c, n', d⟩ | ⟨c, rfl⟩
    · exact (MW_uniq b d).1
    · have := b.1
      have := b.2.1
      unfold g0 at *
      omega
  · rcases h' with ⟨c, n', d⟩ | ⟨c, _⟩
    · have := d.1
      have := d.2.1
      unfold g0 at *
      omega
    · omega
noncomputable def kU (N w : Nat) (T H W : Int32) (d s : Nat) : Nat := Classical.epsilon (fun k => ∃ n, MW (US N w T H W false 0 d s) k n)
noncomputable def kV (N w : Nat) (T H W : Int32) (d m : Nat) : Nat := Classical.epsilon (fun k => WB k (VS N w T H W false 0 d m))
theorem kU_spec (N w : Nat) (T H W : Int32) (d s : Nat) : (∃ n, MW (US N w T H W false 0 d s) (kU N w T H W d s) n) ∧ kU N w T H W d s ≤ 2 * (N - d) := by
  obtain ⟨k, n, h1, h2⟩ := US_ex N w T H W (N - d) d s (Nat.le_refl _)
  have h := Classical.epsilon_spec (p := fun k => ∃ n, MW (US N w T H W false 0 d s) k n) ⟨k, n, h2⟩
  have h' : ∃ n, MW (US N w T H W false 0 d s) (kU N w T H W d s) n := h
  refine ⟨h', ?_⟩
  obtain ⟨n', h3⟩ := h'
  rw [(MW_uniq h3 h2).1]
  exact h1
theorem kU_eq {N w : Nat} {T H W : Int32} {d s k n : Nat} (h : MW (US N w T H W false 0 d s) k n) : kU N w T H W d s = k := by
  obtain ⟨⟨n', h1⟩, -⟩ := kU_spec N w T H W d s
  exact (MW_uniq h1 h).1
theorem kV_spec {N w : Nat} {T H W : Int32} (hw : WT T W) (hN : N ≤ 28) (d m : Nat) : WB (kV N w T H W d m) (VS N w T H W false 0 d m) := Classical.epsilon_spec (p := fun k => WB k (VS N w T H W false 0 d m)) (WB_ex hw hN d m)
theorem kV_eq {N w : Nat} {T H W : Int32} (hw : WT T W) (hN : N ≤ 28) {d m k : Nat} (h : WB k (VS N w T H W false 0 d m)) : kV N w T H W d m = k := WB_uniq (kV_spec hw hN d m) h
theorem kV_le {N w : Nat} {T H W : Int32} (hw : WT T W) (hN : N ≤ 28) (d m : Nat) : kV N w T H W d m ≤ 1000 := by
  rcases kV_spec hw hN (w := w) (H := H) d m with ⟨h, _⟩ | ⟨h, _⟩ <;> omega
/-- the ways of a state are those of the modes above it -/
theorem US_modes {N w : Nat} {T H W : Int32} {d s e : Nat} (hs : s < 4) : US N w T H W false 0 d s e ≠ 0 ↔ ∃ m, m < 4 ∧ m &&& s = s ∧ gs (pcx m s) (VS N w T H W false 0 d m) e ≠ 0 := by
  have g00 : ∀ f : GF, gs 0 f = f := gs_0
  have h4 : s = 0 ∨ s = 1 ∨ s = 2 ∨ s = 3 := by omega
  have fm : ∀ P : Nat → Prop, (∃ m, m < 4 ∧ P m) ↔ (P 0 ∨ P 1 ∨ P 2 ∨ P 3) := fun P => by
    constructor
    · rintro ⟨m, h1, h2⟩
      have : m = 0 ∨ m = 1 ∨ m = 2 ∨ m = 3 := by omega
      rcases this with rfl | rfl | rfl | rfl
      · exact Or.inl h2
      · exact Or.inr (Or.inl h2)
      · exact Or.inr (Or.inr (Or.inl h2))
      · exact Or.inr (Or.inr (Or.inr h2))
    · rintro (h | h | h | h)
      · exact ⟨0, by decide, h⟩
      · exact ⟨1, by decide, h⟩
      · exact ⟨2, by decide, h⟩
      · exact ⟨3, by decide, h⟩
  rw [fm]
  have u : ∀ s', US N w T H W false 0 d s' = Ug (fun x y => VV N (fun d => bt W d) (csF N w T H W) (foF w T H) (fmF w H W) false x y 0 d) (s'.testBit 0) (s'.testBit 1) := fun _ => rfl
  have v : ∀ m, VS N w T H W false 0 d m = VV N (fun d => bt W d) (csF N w T H W) (foF w T H) (fmF w H W) false (m.testBit 0) (m.testBit 1) 0 d := fun _ => rfl
  have b00 : (0 : Nat).testBit 0 = false := rfl
  have b01 : (0 : Nat).testBit 1 = false := rfl
  have b10 : (1 : Nat).testBit 0 = true := rfl
  have b11 : (1 : Nat).testBit 1 = false := rfl
  have b20 : (2 : Nat).testBit 0 = false := rfl
  have b21 : (2 : Nat).testBit 1 = true := rfl
  have b30 : (3 : Nat).testBit 0 = true := rfl
  have b31 : (3 : Nat).testBit 1 = true := rfl
  have ad : ∀ f g : GF, gadd f g e ≠ 0 ↔ (f e ≠ 0 ∨ g e ≠ 0) := fun f g => by
    show f e + g e ≠ 0 ↔ _
    omega
  rcases h4 with rfl | rfl | rfl | rfl
  · rw [u, v, v, v, v]
    simp only [b00, b01, b10, b11, b20, b21, b30, b31, Ug, ad, show pcx 0 0 = 0 from rfl, show pcx 1 0 = 1 from rfl, show pcx 2 0 = 1 from rfl, show pcx 3 0 = 2 from rfl, g00, Nat.and_zero, true_and]
  · rw [u, v, v, v, v]
    simp only [b00, b01, b10, b11, b20, b21, b30, b31, Ug, ad, show pcx 0 1 = 0 from rfl, show pcx 1 1 = 0 from rfl, show pcx 2 1 = 1 from rfl, show pcx 3 1 = 1 from rfl, g00, show ¬ ((0 : Nat) &&& 1 = 1) by decide, show ((1 : Nat) &&& 1 = 1) = True from eq_true rfl, show ¬ ((2 : Nat) &&& 1 = 1) by decide, show ((3 : Nat) &&& 1 = 1) = True from eq_true rfl, false_and, true_and, false_or]
  · rw [u, v, v, v, v]
    simp only [b00, b01, b10, b11, b20, b21, b30, b31, Ug, ad, show pcx 0 2 = 0 from rfl, show pcx 1 2 = 1 from rfl, show pcx 2 2 = 0 from rfl, show pcx 3 2 = 1 from rfl, g00, show ¬ ((0 : Nat) &&& 2 = 2) by decide, show ¬ ((1 : Nat) &&& 2 = 2) by decide, show ((2 : Nat) &&& 2 = 2) = True from eq_true rfl, show ((3 : Nat) &&& 2 = 2) = True from eq_true rfl, false_and, true_and, false_or]
  · rw [u, v, v, v, v]
    simp only [b00, b01, b10, b11, b20, b21, b30, b31, Ug, show pcx 3 3 = 0 from rfl, g00, show ¬ ((0 : Nat) &&& 3 = 3) by decide, show ¬ ((1 : Nat) &&& 3 = 3) by decide, show ¬ ((2 : Nat) &&& 3 = 3) by decide, show ((3 : Nat) &&& 3 = 3) = True from eq_true rfl, false_and, true_and, false_or]
theorem MW_ne {f : GF} {k n c : Nat} (h : MW f k n) (hc : f c ≠ 0) : k ≤ c := by
  rcases Nat.lt_or_ge c k with q | q
  · exact absurd (h.2.2 c q) hc
  · exact q
theorem kU_min {N w : Nat} {T H W : Int32} (hw : WT T W) (hN : N ≤ 28) (d : Nat) {s : Nat} (hs : s < 4) : (∀ m, m < 4 → m &&& s = s → kU N w T H W d s ≤ pcx m s + kV N w T H W d m) ∧ (∃ m, m < 4 ∧ m &&& s = s ∧ kU N w T H W d s = pcx m s + kV N w T H W d m) := by
  obtain ⟨⟨n, h1⟩, h2⟩ := kU_spec N w T H W d s
  have F1 : ∀ m, m < 4 → m &&& s = s → kU N w T H W d s ≤ pcx m s + kV N w T H W d m := fun m hm hms => by
    rcases kV_spec hw hN (w := w) (H := H) d m with ⟨_, nv, h3⟩ | ⟨h3, _⟩
    · have h4 := MW_gs (pcx m s) h3
      refine MW_ne h1 (US_modes hs |>.mpr ⟨m, hm, hms, ?_⟩)
      have := h4.1
      have := h4.2.1
      omega
    · omega
  refine ⟨F1, ?_⟩
  have hne : US N w T H W false 0 d s (kU N w T H W d s) ≠ 0 := by
    have := h1.1
    have := h1.2.1
    omega
  obtain ⟨m, hm, hms, hg⟩ := (US_modes hs).mp hne
  obtain ⟨g1, g2⟩ := gs_ne hg
  refine ⟨m, hm, hms, ?_⟩
  have := F1 m hm hms
  rcases kV_spec hw hN (w := w) (H := H) d m with ⟨_, nv, h3⟩ | ⟨_, h3⟩
  · have := MW_ne h3 g2
    omega
  · rw [h3] at g2
    exact absurd rfl g2
/-- which modes stand -/
def SM (N w : Nat) (T H W : Int32) (d s m : Nat) : Prop := m &&& s = s ∧ pcx m s + kV N w T H W d m = kU N w T H W d s
theorem pcx_add1 : ∀ m, m < 4 → ∀ s, s < 4 → ∀ t, t < 4 → m &&& (s ||| t) = s ||| t → pcx m s = pcx t s + pcx m (s ||| t) := by decide +kernel
theorem pcx_add (m : Nat) (hm : m < 4) (s : Nat) (hs : s < 4) (t : Nat) (ht : t < 4) (h1 : m &&& s = s) (h2 : m &&& t = t) : pcx m s = pcx t s + pcx m (s ||| t) ∧ m &&& (s ||| t) = s ||| t := by
  have h : m &&& (s ||| t) = s ||| t := by rw [Nat.and_or_distrib_left, h1, h2]
  exact ⟨pcx_add1 m hm s hs t ht h, h⟩
theorem sup_or : ∀ m, m < 4 → ∀ s, s < 4 → ∀ t, t < 4 → m &&& (s ||| t) = s ||| t → m &&& s = s ∧ m &&& t = t := by decide +kernel
/-- an option of cost c that tells t, from day d to day e; cm: its cost by mode -/
theorem opt_law {N w : Nat} {T H W : Int32} (hw : WT T W) (hN : N ≤ 28) {d e s t c : Nat} {cm : Nat → Nat} (hs : s < 4) (ht : t < 4) (h1 : ∀ m, m < 4 → m &&& t = t → cm m = c) (h2 : ∀ m, m < 4 → ¬ m &&& t = t → 1000 ≤ cm m) (h3 : ∀ m, m < 4 → kV N w T H W d m ≤ cm m + kV N w T H W e m) (h4 : kU N w T H W d s ≤ c + pcx t s + kU N w T H W e (s ||| t)) : (c + pcx t s + kU N w T H W e (s ||| t) = kU N w T H W d s ↔ ∃ m, m < 4 ∧ SM N w T H W d s m ∧ cm m + kV N w T H W e m = kV N w T H W d m) ∧ (c + pcx t s + kU N w T H W e (s ||| t) = kU N w T H W d s → ∀ m, m < 4 → ((SM N w T H W d s m ∧ cm m + kV N w T H W e m = kV N w T H W d m) ↔ SM N w T H W e (s ||| t) m)) := by
  have hst := or_lt4 s hs t ht
  obtain ⟨f1, f2⟩ := kU_min hw hN (w := w) (H := H) d hs
  obtain ⟨g1, g2⟩ := kU_min hw hN (w := w) (H := H) e hst
  have hk := (kU_spec N w T H W d s).2
  -- a mode that stands and takes it
  have A : ∀ m, m < 4 → SM N w T H W d s m → cm m + kV N w T H W e m = kV N w T H W d m → c + pcx t s + kU N w T H W e (s ||| t) = kU N w T H W d s ∧ SM N w T H W e (s ||| t) m := fun m hm hS hc => by
    have hkv := kV_le hw hN (w := w) (H := H) d m
    have hmt : m &&& t = t := by
      by_cases q : m &&& t = t
      · exact q
      · have := h2 m hm q
        have := hS.2
        omega
    have hcm := h1 m hm hmt
    obtain ⟨p1, p2⟩ := pcx_add m hm s hs t ht hS.1 hmt
    have := g1 m hm p2
    have hS2 := hS.2
    refine ⟨by omega, p2, by omega⟩
  have B : c + pcx t s + kU N w T H W e (s ||| t) = kU N w T H W d s → ∀ m, m < 4 → SM N w T H W e (s ||| t) m → SM N w T H W d s m ∧ cm m + kV N w T H W e m = kV N w T H W d m := fun h m hm hS => by
    obtain ⟨q1, q2⟩ := sup_or m hm s hs t ht hS.1
    obtain ⟨p1, p2⟩ := pcx_add m hm s hs t ht q1 q2
    have hcm := h1 m hm q2
    have := f1 m hm q1
    have := h3 m hm
    have hS2 := hS.2
    exact ⟨⟨q1, by omega⟩, by omega⟩
  refine ⟨⟨fun h => ?_, fun ⟨m, hm, hS, hc⟩ => (A m hm hS hc).1⟩, fun h m hm => ⟨fun ⟨hS, hc⟩ => (A m hm hS hc).2, B h m hm⟩⟩
  obtain ⟨m, hm, q1, q2⟩ := g2
  exact ⟨m, hm, B h m hm ⟨q1, q2.symm⟩⟩
theorem gq_ne {h : Nat → GF} {e m : Nat} : ∀ j, m < j → h m e ≠ 0 → gq h j e ≠ 0
  | 0, hj, _ => by omega
  | j + 1, hj, hm => by
    show gq h j e + h j e ≠ 0
    by_cases q : m = j
    · rw [← q]
      omega
    · have := gq_ne (h := h) j (by omega) hm
      omega
theorem gsum_ne' {F : Nat → GF} {c P : Nat} : ∀ l : List Nat, P ∈ l → F P c ≠ 0 → gsum F l c ≠ 0
  | [], h, _ => by cases h
  | a :: l, h, hF => by
    show F a c + gsum F l c ≠ 0
    rcases List.mem_cons.mp h with q | q
    · rw [← q]
      omega
    · have := gsum_ne' l q hF
      omega
theorem kU_bare {N w : Nat} {T H W : Int32} {d s : Nat} (hd : d < N) : kU N w T H W d s ≤ todF W d s + kU N w T H W (d + 1) (sbdF W d s) := by
  obtain ⟨⟨n, h1⟩, -⟩ := kU_spec N w T H W d s
  obtain ⟨⟨n', h2⟩, -⟩ := kU_spec N w T H W (d + 1) (sbdF W d s)
  refine MW_ne h1 ?_
  rw [US_step hd]
  show _ + _ ≠ 0
  have h3 := MW_gs (todF W d s) h2
  have := h3.1
  have := h3.2.1
  omega
theorem kU_span {N w : Nat} {T H W : Int32} {d s i P : Nat} (hd : d + i < N) (hP : P ∈ pats) : kU N w T H W d s ≤ csF N w T H W d i P + pcx (tdF w T H W d i P) s + kU N w T H W (d + i + 1) (s ||| tdF w T H W d i P) := by
  obtain ⟨⟨n, h1⟩, -⟩ := kU_spec N w T H W d s
  obtain ⟨⟨n', h2⟩, -⟩ := kU_spec N w T H W (d + i + 1) (s ||| tdF w T H W d i P)
  refine MW_ne h1 ?_
  rw [US_step (show d < N by omega)]
  have h3 := MW_gs (csF N w T H W d i P + pcx (tdF w T H W d i P) s) h2
  have hne : gq (fun i => gsum (opF N w T H W d i (US N w T H W false 0 (d + i + 1)) s) pats) (N - d) (csF N w T H W d i P + pcx (tdF w T H W d i P) s + kU N w T H W (d + i + 1) (s ||| tdF w T H W d i P)) ≠ 0 := by
    refine gq_ne (m := i) _ (by omega) (gsum_ne' pats hP ?_)
    have := h3.1
    have := h3.2.1
    unfold opF
    omega
  show _ + _ ≠ 0
  have hne : (cond (false && decide (0 = 0)) g0 (gq (fun i => gsum (opF N w T H W d i (US N w T H W false (0 - false.toNat) (d + i + 1)) s) pats) (N - d))) (csF N w T H W d i P + pcx (tdF w T H W d i P) s + kU N w T H W (d + i + 1) (s ||| tdF w T H W d i P)) ≠ 0 := hne
  omega
/-- the least cost is some option's -/
theorem kU_some {N w : Nat} {T H W : Int32} {d s : Nat} (hd : d < N) (hb : ¬ todF W d s + kU N w T H W (d + 1) (sbdF W d s) = kU N w T H W d s) : ∃ i P, d + i < N ∧ P ∈ pats ∧ csF N w T H W d i P + pcx (tdF w T H W d i P) s + kU N w T H W (d + i + 1) (s ||| tdF w T H W d i P) = kU N w T H W d s := by
  obtain ⟨⟨n, h1⟩, -⟩ := kU_spec N w T H W d s
  have hne : US N w T H W false 0 d s (kU N w T H W d s) ≠ 0 := by
    have := h1.1
    have := h1.2.1
    omega
  rw [US_step hd] at hne
  have hne : gs (todF W d s) (US N w T H W false 0 (d + 1) (sbdF W d s)) (kU N w T H W d s) + gq (fun i => gsum (opF N w T H W d i (US N w T H W false 0 (d + i + 1)) s) pats) (N - d) (kU N w T H W d s) ≠ 0 := hne
  by_cases z : gs (todF W d s) (US N w T H W false 0 (d + 1) (sbdF W d s)) (kU N w T H W d s) = 0
  · have z2 : gq (fun i => gsum (opF N w T H W d i (US N w T H W false 0 (d + i + 1)) s) pats) (N - d) (kU N w T H W d s) ≠ 0 := by omega
    rw [← gsum_range] at z2
    obtain ⟨i, hi, z3⟩ := gsum_ne _ z2
    obtain ⟨P, hP, z4⟩ := gsum_ne _ z3
    have hi : i < N - d := List.mem_range.mp hi
    unfold opF at z4
    obtain ⟨g1, g2⟩ := gs_ne z4
    obtain ⟨⟨n', h2⟩, -⟩ := kU_spec N w T H W (d + i + 1) (s ||| tdF w T H W d i P)
    have := MW_ne h2 g2
    have := kU_span (w := w) (T := T) (H := H) (W := W) (s := s) (show d + i < N by omega) hP
    exact ⟨i, P, by omega, hP, by omega⟩
  · obtain ⟨g1, g2⟩ := gs_ne z
    obtain ⟨⟨n', h2⟩, -⟩ := kU_spec N w T H W (d + 1) (sbdF W d s)
    have := MW_ne h2 g2
    have := kU_bare (w := w) (T := T) (H := H) (W := W) (s := s) hd
    exact absurd (by omega) hb
theorem WB_BV {k : Nat} {g : GF} (h : WB k g) : ∃ n, BV k n g := by
  rcases h with ⟨h1, n, h2⟩ | ⟨h1, h2⟩
  · exact ⟨n, Or.inl ⟨h1, h2⟩⟩
  · exact ⟨0, Or.inr ⟨by omega, h2⟩⟩
theorem kV_opt {N w : Nat} {T H W : Int32} (hw : WT T W) (hN : N ≤ 28) {d m c n : Nat} {g : GF} (hB : BV c n g) (hg : ∀ e, g e ≠ 0 → VS N w T H W false 0 d m e ≠ 0) : kV N w T H W d m ≤ c := by
  rcases hB with ⟨h1, h2⟩ | ⟨h1, _⟩
  · have hne : VS N w T H W false 0 d m c ≠ 0 := hg c (by have := h2.1; have := h2.2.1; omega)
    rcases kV_spec hw hN (w := w) (H := H) d m with ⟨_, nv, h3⟩ | ⟨_, h3⟩
    · exact MW_ne h3 hne
    · rw [h3] at hne
      exact absurd rfl hne
  · have := kV_le hw hN (w := w) (H := H) d m
    omega
theorem kV_sup {N w : Nat} {T H W : Int32} (hw : WT T W) (hN : N ≤ 28) {d m : Nat} (h : kV N w T H W d m < 1000) : kV N w T H W d m ≤ 11 * (N - d) := by
  rcases kV_spec hw hN (w := w) (H := H) d m with ⟨_, nv, h3⟩ | ⟨h3, _⟩
  · exact VS_sup hw false 0 d m h3
  · omega
theorem kV_bare {N w : Nat} {T H W : Int32} (hw : WT T W) (hN : N ≤ 28) {d m : Nat} (hd : d < N) : kV N w T H W d m ≤ bcF W (m.testBit 1) d + kV N w T H W (d + 1) m := by
  obtain ⟨n, hn⟩ := WB_BV (kV_spec hw hN (w := w) (H := H) (d + 1) m)
  have hb := bare_val (N := N) (w := w) (T := T) (H := H) (W := W) (mo := m) (d := d) hn (fun q => by have := kV_sup hw hN (w := w) (H := H) q; omega) hN
  refine kV_opt hw hN hb (fun e he => ?_)
  rw [VS_step hd]
  show _ + _ ≠ 0
  omega
theorem kV_span {N w : Nat} {T H W : Int32} (hw : WT T W) (hN : N ≤ 28) {d m i P : Nat} (hd : d + i < N) (hP : P ∈ pats) : kV N w T H W d m ≤ tcF w T H W (m.testBit 0) (m.testBit 1) d (i + 1) P + enF N d i + pT P + kV N w T H W (d + i + 1) m := by
  obtain ⟨n, hn⟩ := WB_BV (kV_spec hw hN (w := w) (H := H) (d + i + 1) m)
  have hb := go_val (mo := m) (H := H) (w := w) hw hn hd hN (fun q => kV_sup hw hN (w := w) (H := H) q) hP
  rw [show tcF w T H W (m.testBit 0) (m.testBit 1) d (i + 1) P + enF N d i + kV N w T H W (d + i + 1) m + pT P = tcF w T H W (m.testBit 0) (m.testBit 1) d (i + 1) P + enF N d i + pT P + kV N w T H W (d + i + 1) m by omega] at hb
  refine kV_opt hw hN hb (fun e he => ?_)
  rw [VS_step (show d < N by omega)]
  have hne : gq (fun i => gsum (goF N w T H W m d i (VS N w T H W false 0 (d + i + 1) m)) pats) (N - d) e ≠ 0 := gq_ne (m := i) _ (by omega) (gsum_ne' pats hP he)
  show _ + _ ≠ 0
  have hne : (cond (false && decide (0 = 0)) g0 (gq (fun i => gsum (goF N w T H W m d i (VS N w T H W false (0 - false.toNat) (d + i + 1) m)) pats) (N - d))) e ≠ 0 := hne
  omega
