/-! no text is longer than 300 signs -/
theorem cnt_spl (f : Nat → Bool) (d a : Nat) : ∀ b, cnt (fun j => f (d + j)) (a + b) = cnt (fun j => f (d + j)) a + cnt (fun j => f (d + a + j)) b
  | 0 => rfl
  | b + 1 => by
    show cnt (fun j => f (d + j)) (a + b) + (f (d + (a + b))).toNat = _ + (cnt (fun j => f (d + a + j)) b + (f (d + a + b)).toNat)
    rw [cnt_spl f d a b, Nat.add_assoc d a b, Nat.add_assoc]
theorem dyT_cnt (D : Int32) : ∀ m x, (dyT D m x).length = cnt (fun j => bt D (x + j)) m
  | 0, _ => rfl
  | m + 1, x => by
    have h := cnt_spl (fun y => bt D y) x 1 m
    have h : cnt (fun j => bt D (x + j)) (1 + m) = (0 + (bt D x).toNat) + cnt (fun j => bt D (x + 1 + j)) m := h
    show ((if bt D x = true then [nmS x] else []) ++ dyT D m (x + 1)).length = _
    rw [Nat.add_comm m 1, h, ← dyT_cnt D m (x + 1), List.length_append]
    cases bt D x <;> simp
theorem feT_pc (nm : Nat → List Nat) {f F : Nat} (hF : F ≤ 2) (hf : f < 2 ^ F) : (feT nm f F 0).length = pc2 f := by
  rw [← feT_2 nm hF hf]
  show ((if f.testBit 0 then [nm 0] else []) ++ ((if f.testBit 1 then [nm 1] else []) ++ [])).length = _
  unfold pc2
  cases f.testBit 0 <;> cases f.testBit 1 <;> rfl
theorem enT_le (N : Nat) (nm : Nat → List Nat) (k : Nat) {f F : Nat} (hF : F ≤ 2) (hf : f < 2 ^ F) (D : Int32) : (enT N F nm k f D).length ≤ 1 + pc2 f + cnt (fun j => bt D (0 + j)) N := by
  unfold enT
  by_cases z : f = 0 ∧ D = nI 0
  · rw [if_pos z]
    exact Nat.zero_le _
  · rw [if_neg z, List.length_cons, List.length_append, feT_pc nm hF hf, dyT_cnt]
    omega
theorem pC_pT : ∀ P, P < 128 → (if P = 127 then 1 else (pC P 7 0).length) ≤ pT P ∨ P = 0 := by decide +kernel
theorem ptk_len {P : Nat} (h1 : 1 ≤ P) (hP : P < 128) : (ptk P).length ≤ pT P ∧ ∀ v, v ∈ ptk P → v.length ≤ 8 := by
  have h := pC_pT P hP
  unfold ptk
  by_cases z : P = 127
  · rw [if_pos z] at h ⊢
    refine ⟨by simp; omega, fun v hv => ?_⟩
    rw [List.mem_singleton.mp hv]
    exact (kw_ok 7 (by omega)).2.1
  · rw [if_neg z] at h ⊢
    rw [List.length_map]
    refine ⟨by omega, fun v hv => ?_⟩
    obtain ⟨i, hi, rfl⟩ := List.mem_map.mp hv
    have hi2 := List.all_eq_true.mp (pC_all P hP).1 i hi
    have hi2 : i < 20 := of_decide_eq_true hi2
    by_cases y : i = 19
    · rw [y]
      decide
    · rw [kwd_k (by omega)]
      exact (kw_ok i (by omega)).2.1
theorem spT_len {N d i P : Nat} (h1 : 1 ≤ P) (hP : P < 128) : (spT N (d, d + i, P)).length ≤ pT P + enF N d i ∧ ∀ v, v ∈ spT N (d, d + i, P) → v.length ≤ 8 := by
  obtain ⟨g1, g2⟩ := ptk_len h1 hP
  have hl : ∀ (b : Prop) [Decidable b] (k n : Nat), (if b then [kw k, nmS n] else []).length = if b then 2 else 0 := fun b _ k n => by
    by_cases z : b
    · rw [if_pos z, if_pos z]
      rfl
    · rw [if_neg z, if_neg z]
      rfl
  have hv : ∀ (b : Prop) [Decidable b] (k n : Nat), k < 19 → ∀ v, v ∈ (if b then [kw k, nmS n] else []) → v.length ≤ 8 := fun b _ k n hk v hv => by
    by_cases z : b
    · rw [if_pos z] at hv
      rcases List.mem_cons.mp hv with rfl | hv
      · exact (kw_ok k hk).2.1
      · rw [List.mem_singleton.mp hv]
        exact nmS_len n
    · rw [if_neg z] at hv
      cases hv
  show (ptk P ++ ((if 0 < d then [kw 8, nmS d] else []) ++ (if d + i < N - 1 then [kw 9, nmS (d + i)] else []))).length ≤ _ ∧ ∀ v, v ∈ (ptk P ++ ((if 0 < d then [kw 8, nmS d] else []) ++ (if d + i < N - 1 then [kw 9, nmS (d + i)] else []))) → v.length ≤ 8
  constructor
  · rw [List.length_append, List.length_append, hl, hl]
    unfold enF
    have e : (if d + i < N - 1 then 2 else 0) = (if d + i + 1 < N then 2 else 0) := by
      by_cases z : d + i < N - 1
      · rw [if_pos z, if_pos (by omega)]
      · rw [if_neg z, if_neg (by omega)]
    rw [e]
    omega
  · intro v hvm
    rcases List.mem_append.mp hvm with q | q
    · exact g2 v q
    · rcases List.mem_append.mp q with q | q
      · exact hv _ 8 d (by omega) v q
      · exact hv _ 9 (d + i) (by omega) v q
/-- what a plan takes, at most -/
theorem PL_cost {N w : Nat} {T H W : Int32} : ∀ n d s l, PL N w T H W n d s l → d ≤ N → (spsT N l).length + cnt (fun j => inS w H l (d + j) && !bt T (d + j)) (N - d) + cnt (fun j => bt W (d + j) && !inS w H l (d + j)) (N - d) ≤ kU N w T H W d s ∧ ∀ v, v ∈ spsT N l → v.length ≤ 8
  | 0, d, s, l, h, hd => by
    obtain ⟨h1, rfl⟩ := h
    rw [show N - d = 0 by omega]
    exact ⟨Nat.zero_le _, fun v hv => by cases hv⟩
  | n + 1, d, s, l, h, hd => by
    rcases h with ⟨a1, rfl⟩ | ⟨a1, a2, a3⟩ | ⟨a1, a2, i, P, k, a3, rfl, a5⟩
    · rw [show N - d = 0 by omega]
      exact ⟨Nat.zero_le _, fun v hv => by cases hv⟩
    · obtain ⟨g1, g2⟩ := PL_cost n _ _ l a3 (by omega)
      refine ⟨?_, g2⟩
      have c1 := cnt_spl (fun y => inS w H l y && !bt T y) d 1 (N - (d + 1))
      have c2 := cnt_spl (fun y => bt W y && !inS w H l y) d 1 (N - (d + 1))
      rw [show 1 + (N - (d + 1)) = N - d by omega] at c1 c2
      have c1 : cnt (fun j => inS w H l (d + j) && !bt T (d + j)) (N - d) = 0 + (inS w H l d && !bt T d).toNat + cnt (fun j => inS w H l (d + 1 + j) && !bt T (d + 1 + j)) (N - (d + 1)) := c1
      have c2 : cnt (fun j => bt W (d + j) && !inS w H l (d + j)) (N - d) = 0 + (bt W d && !inS w H l d).toNat + cnt (fun j => bt W (d + 1 + j) && !inS w H l (d + 1 + j)) (N - (d + 1)) := c2
      rw [inS_low a3 (show d < d + 1 by omega)] at c1 c2
      have e1 : (false && !bt T d).toNat = 0 := rfl
      have e2 : (bt W d && !false).toNat = (bt W d).toNat := by rw [Bool.not_false, Bool.and_true]
      rw [e1] at c1
      rw [e2] at c2
      have a2 : todF W d s + kU N w T H W (d + 1) (sbdF W d s) = kU N w T H W d s := a2
      have e3 : (bt W d).toNat ≤ todF W d s := Nat.le_add_right _ _
      omega
    · obtain ⟨hdi, ⟨p1, p2⟩, p3, -⟩ := a3
      obtain ⟨g1, g2⟩ := PL_cost n _ _ k a5 (by omega)
      obtain ⟨b1, b2⟩ := spT_len (N := N) (d := d) (i := i) p1 p2
      constructor
      · have c1 := cnt_spl (fun y => inS w H ((d, d + i, P) :: k) y && !bt T y) d (i + 1) (N - (d + i + 1))
        have c2 := cnt_spl (fun y => bt W y && !inS w H ((d, d + i, P) :: k) y) d (i + 1) (N - (d + i + 1))
        rw [show i + 1 + (N - (d + i + 1)) = N - d by omega] at c1 c2
        have o1 : cnt (fun j => inS w H ((d, d + i, P) :: k) (d + j) && !bt T (d + j)) (i + 1) = ocF w T H d i P := cnt_congr _ (fun j hj => by
          rw [inS_cons, inS_low a5 (show d + j < d + i + 1 by omega), decide_eq_true (show d ≤ d + j by omega), decide_eq_true (show d + j ≤ d + i by omega)]
          unfold outF
          simp)
        have o2 : cnt (fun j => bt W (d + j) && !inS w H ((d, d + i, P) :: k) (d + j)) (i + 1) = mcF w H W d i P := cnt_congr _ (fun j hj => by
          rw [inS_cons, inS_low a5 (show d + j < d + i + 1 by omega), decide_eq_true (show d ≤ d + j by omega), decide_eq_true (show d + j ≤ d + i by omega)]
          unfold morF
          simp)
        have t1 : cnt (fun j => inS w H ((d, d + i, P) :: k) (d + (i + 1) + j) && !bt T (d + (i + 1) + j)) (N - (d + i + 1)) = cnt (fun j => inS w H k (d + i + 1 + j) && !bt T (d + i + 1 + j)) (N - (d + i + 1)) := cnt_congr _ (fun j hj => by
          rw [← Nat.add_assoc d i 1, inS_cons, decide_eq_false (show ¬ d + i + 1 + j ≤ d + i by omega)]
          simp)
        have t2 : cnt (fun j => bt W (d + (i + 1) + j) && !inS w H ((d, d + i, P) :: k) (d + (i + 1) + j)) (N - (d + i + 1)) = cnt (fun j => bt W (d + i + 1 + j) && !inS w H k (d + i + 1 + j)) (N - (d + i + 1)) := cnt_congr _ (fun j hj => by
          rw [← Nat.add_assoc d i 1, inS_cons, decide_eq_false (show ¬ d + i + 1 + j ≤ d + i by omega)]
          simp)
        have p3 : csF N w T H W d i P + pcx (tdF w T H W d i P) s + kU N w T H W (d + i + 1) (s ||| tdF w T H W d i P) = kU N w T H W d s := p3
        have hcs : csF N w T H W d i P = pT P + enF N d i + ocF w T H d i P + mcF w H W d i P := rfl
        show (spT N (d, d + i, P) ++ spsT N k).length + _ + _ ≤ _
        rw [List.length_append]
        omega
      · intro v hv
        rcases List.mem_append.mp hv with q | q
        · exact b2 v q
        · exact g2 v q
/-- also, day by day -/
theorem kU_also {N w : Nat} {T H W : Int32} : ∀ m d s, d + m = N → s < 4 → kU N w T H W d s ≤ m + (!s.testBit 1).toNat
  | 0, d, s, h, hs => by
    have := (kU_spec N w T H W d s).2
    omega
  | m + 1, d, s, h, hs => by
    have h1 := kU_bare (N := N) (w := w) (T := T) (H := H) (W := W) (d := d) (s := s) (by omega)
    unfold todF sbdF at h1
    cases hw : bt W d with
    | false =>
      rw [hw] at h1
      have e : s ||| false.toNat * 2 = s := by
        show s ||| 0 = s
        exact Nat.or_zero s
      rw [e] at h1
      have h2 := kU_also (N := N) (w := w) (T := T) (H := H) (W := W) m (d + 1) s (by omega) hs
      have h1 : kU N w T H W d s ≤ 0 + 0 + kU N w T H W (d + 1) s := h1
      omega
    | true =>
      rw [hw] at h1
      have hs2 : ∀ s, s < 4 → (s ||| true.toNat * 2).testBit 1 = true ∧ (s ||| true.toNat * 2) < 4 := by decide +kernel
      have h2 := kU_also (N := N) (w := w) (T := T) (H := H) (W := W) m (d + 1) (s ||| true.toNat * 2) (by omega) (hs2 s hs).2
      rw [(hs2 s hs).1] at h2
      have h2 : kU N w T H W (d + 1) (s ||| true.toNat * 2) ≤ m + 0 := h2
      have h1 : kU N w T H W d s ≤ 1 + (!s.testBit 1).toNat + kU N w T H W (d + 1) (s ||| true.toNat * 2) := by
        rw [Bool.true_and] at h1
        exact h1
      omega
theorem ch00 : ∀ F, F < 3 → ∀ i, i < 2 ^ F → (0, 0) ∈ chC F i := by decide +kernel
theorem OK3_29 {N w F : Nat} {fd : Nat → Int32} {T : Int32} {k n : Nat} {c : Nat × Nat} (hN : N ≤ 28) (hF : F ≤ 2) (h : OK3 N w F fd T true k n c) : k ≤ 29 := by
  obtain ⟨h1, -⟩ := h
  have h1 : MW (gsum (chG N w F fd T false 0) (chC F (inN fd T F))) k n := h1
  obtain ⟨-, i2, -⟩ := inN_ok fd T hF
  have hm := ch00 F (by omega) _ i2
  obtain ⟨⟨n', hu⟩, -⟩ := kU_spec N w T (fdF fd 0 F) (waS fd F T 0) 0 (stF 0 0)
  have hg := MW_gs (pc2 0 + pc2 0 + pc2 (stF 0 0)) hu
  have hg : MW (chG N w F fd T false 0 (0, 0)) (pc2 0 + pc2 0 + pc2 (stF 0 0) + kU N w T (fdF fd 0 F) (waS fd F T 0) 0 (stF 0 0)) n' := hg
  have ha := kU_also (N := N) (w := w) (T := T) (H := fdF fd 0 F) (W := waS fd F T 0) N 0 (stF 0 0) (by omega) (by decide)
  have e1 : pc2 0 + pc2 0 + pc2 (stF 0 0) = 0 := by decide
  have e2 : (!(stF 0 0).testBit 1).toNat = 1 := by decide
  rw [e1] at hg
  rw [e2] at ha
  rcases Nat.lt_or_ge (0 + kU N w T (fdF fd 0 F) (waS fd F T 0) 0 (stF 0 0)) k with q | q
  · have z := gsum_zero _ (h1.2.2 _ q) (0, 0) hm
    have y1 := hg.1
    have y2 := hg.2.1
    omega
  · omega
