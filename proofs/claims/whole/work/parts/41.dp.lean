section DPU
variable (N : Nat) (wn : Nat → Bool) (cs : Nat → Nat → Nat → Nat) (fo fm : Nat → Nat → Nat → Bool) (b : Bool)
def UU (sn sa : Bool) (k d : Nat) : GF := Ug (fun x y => VV N wn cs fo fm b x y k d) sn sa
theorem UU_end {sn sa : Bool} {k d : Nat} (h : N ≤ d) : MW (UU N wn cs fo fm b sn sa k d) 0 1 := by
  have e : (fun x y => VV N wn cs fo fm b x y k d) = fun _ _ => g1 := funext fun x => funext fun y => VV_end N wn cs fo fm b h
  unfold UU
  rw [e]
  cases sn <;> cases sa
  · have q := MW_gt (MW_eq (MW_gs 1 MW_g1) (MW_gs 1 MW_g1)) (MW_gs 2 MW_g1) (by decide)
    rw [gadd_assoc] at q
    exact MW_gt MW_g1 q (by decide)
  · exact MW_gt MW_g1 (MW_gs 1 MW_g1) (by decide)
  · exact MW_gt MW_g1 (MW_gs 1 MW_g1) (by decide)
  · exact MW_g1
/-- a day that no span has -/
theorem UU_step {sn sa : Bool} {k d : Nat} (h : d < N) : UU N wn cs fo fm b sn sa k d = gadd (gs ((wn d).toNat + (wn d && !sa).toNat) (UU N wn cs fo fm b sn (sa || wn d) k (d + 1))) (cond (b && decide (k = 0)) g0 (gsum (fun i => gsum (fun P => gs (cs d i P + (fo d i P && !sn).toNat + (fm d i P && !sa).toNat) (UU N wn cs fo fm b (sn || fo d i P) (sa || fm d i P) (k - b.toNat) (d + i + 1))) pats) (List.range (N - d)))) := by
  have e : (fun x y => VV N wn cs fo fm b x y k d) = fun x y => gadd (cond ((false && !x) || (wn d && !y)) g0 (gs (wn d).toNat (VV N wn cs fo fm b x y k (d + 1)))) (cond (b && decide (k = 0)) g0 (gsum (fun i => gsum (fun P => cond ((fo d i P && !x) || (fm d i P && !y)) g0 (gs (cs d i P) (VV N wn cs fo fm b x y (k - b.toNat) (d + i + 1)))) pats) (List.range (N - d)))) := funext fun x => funext fun y => by
    rw [VV_step N wn cs fo fm b h, Bool.false_and, Bool.false_or]
  unfold UU
  rw [e, Ug_gadd, Ug_opt (fun x y => VV N wn cs fo fm b x y k (d + 1)), Bool.false_and, Bool.or_false, Bool.toNat_false, Nat.add_zero]
  congr 1
  cases (b && decide (k = 0))
  · simp only [cond_false]
    rw [Ug_gsum (fun i x y => gsum (fun P => cond ((fo d i P && !x) || (fm d i P && !y)) g0 (gs (cs d i P) (VV N wn cs fo fm b x y (k - b.toNat) (d + i + 1)))) pats)]
    refine gsum_congr _ (fun i _ => ?_)
    rw [Ug_gsum (fun P x y => cond ((fo d i P && !x) || (fm d i P && !y)) g0 (gs (cs d i P) (VV N wn cs fo fm b x y (k - b.toNat) (d + i + 1))))]
    refine gsum_congr _ (fun P _ => ?_)
    exact Ug_opt (fun x y => VV N wn cs fo fm b x y (k - b.toNat) (d + i + 1)) _ _ _ _ _
  · simp only [cond_true]
    cases sn <;> cases sa <;> simp only [Ug, gs_g0, gadd_0]
theorem DOM_V {nm am nm' am' : Bool} (h1 : nm = true → nm' = true) (h2 : am = true → am' = true) : ∀ n k d, N - d ≤ n → DOM (VV N wn cs fo fm b nm' am' k d) (VV N wn cs fo fm b nm am k d)
  | n, k, d, h => by
    by_cases hd : d < N
    · match n, h with
      | 0, h => omega
      | n + 1, h =>
        have ih := DOM_V h1 h2 n
        rw [VV_step N wn cs fo fm b hd, VV_step N wn cs fo fm b hd]
        refine DOM_gadd ?_ ?_
        · cases hw : (wn d && !am) with
          | true => exact DOM_g0 _
          | false =>
            have : (wn d && !am') = false := by
              cases hh : wn d with
              | false => rfl
              | true =>
                rw [hh] at hw
                have : am = true := by cases am <;> simp_all
                rw [h2 this]
                rfl
            rw [this]
            exact DOM_gs (Nat.le_refl _) (ih k (d + 1) (by omega))
        · cases (b && decide (k = 0)) with
          | true => exact DOM_g0 _
          | false =>
            refine DOM_gsum _ (fun i _ => DOM_gsum _ (fun P _ => ?_))
            cases hw : ((fo d i P && !nm) || (fm d i P && !am)) with
            | true => exact DOM_g0 _
            | false =>
              have : ((fo d i P && !nm') || (fm d i P && !am')) = false := by
                cases hf : fo d i P <;> cases hm : fm d i P <;> cases nm <;> cases am <;> simp_all
              rw [this]
              exact DOM_gs (Nat.le_refl _) (ih _ _ (by omega))
    · rw [VV_end N wn cs fo fm b (by omega), VV_end N wn cs fo fm b (by omega)]
      exact DOM_refl _
theorem DOM_s (f : GF) (s : Nat) : DOM f (gs s f) := by
  have := DOM_gs (f := f) (g := f) (a := 0) (b := s) (by omega) (DOM_refl f)
  rw [gs_0] at this
  exact this
theorem DOM_U {sn sa sn' sa' : Bool} (h1 : sn = true → sn' = true) (h2 : sa = true → sa' = true) (k d : Nat) : DOM (UU N wn cs fo fm b sn' sa' k d) (UU N wn cs fo fm b sn sa k d) := by
  have dv : ∀ {nm am nm' am' : Bool}, (nm = true → nm' = true) → (am = true → am' = true) → DOM (VV N wn cs fo fm b nm' am' k d) (VV N wn cs fo fm b nm am k d) := fun h1 h2 => DOM_V N wn cs fo fm b h1 h2 (N - d) k d (Nat.le_refl _)
  have tt : ∀ {x y : Bool}, DOM (VV N wn cs fo fm b true true k d) (VV N wn cs fo fm b x y k d) := dv (fun _ => rfl) (fun _ => rfl)
  have ts : ∀ {x y : Bool} (s : Nat), DOM (VV N wn cs fo fm b true true k d) (gs s (VV N wn cs fo fm b x y k d)) := fun s => DOM_trans (DOM_s _ s) (DOM_gs (Nat.le_refl _) tt)
  unfold UU
  cases sn <;> cases sa <;> cases sn' <;> cases sa'
  · exact DOM_refl _
  · show DOM (gadd (VV N wn cs fo fm b false true k d) (gs 1 (VV N wn cs fo fm b true true k d))) (gadd (VV N wn cs fo fm b false false k d) (gadd (gs 1 (VV N wn cs fo fm b true false k d)) (gadd (gs 1 (VV N wn cs fo fm b false true k d)) (gs 2 (VV N wn cs fo fm b true true k d)))))
    rw [gadd_comm]
    refine DOM_both ?_ (DOM_both ?_ (DOM_both ?_ ?_))
    · rw [gadd_comm]
      exact DOM_left (dv id (fun _ => rfl))
    · exact DOM_left (DOM_gs (Nat.le_refl _) tt)
    · exact DOM_left (DOM_gs (Nat.le_refl _) tt)
    · exact DOM_left (DOM_gs (by omega) tt)
  · show DOM (gadd (VV N wn cs fo fm b true false k d) (gs 1 (VV N wn cs fo fm b true true k d))) (gadd (VV N wn cs fo fm b false false k d) (gadd (gs 1 (VV N wn cs fo fm b true false k d)) (gadd (gs 1 (VV N wn cs fo fm b false true k d)) (gs 2 (VV N wn cs fo fm b true true k d)))))
    rw [gadd_comm]
    refine DOM_both ?_ (DOM_both ?_ (DOM_both ?_ ?_))
    · rw [gadd_comm]
      exact DOM_left (dv (fun _ => rfl) id)
    · exact DOM_left (DOM_gs (Nat.le_refl _) tt)
    · exact DOM_left (DOM_gs (Nat.le_refl _) tt)
    · exact DOM_left (DOM_gs (by omega) tt)
  · exact DOM_both tt (DOM_both (ts 1) (DOM_both (ts 1) (ts 2)))
  · exact absurd (h2 rfl) (by decide)
  · exact DOM_refl _
  · exact absurd (h2 rfl) (by decide)
  · exact DOM_both tt (ts 1)
  · exact absurd (h1 rfl) (by decide)
  · exact absurd (h1 rfl) (by decide)
  · exact DOM_refl _
  · exact DOM_both tt (ts 1)
  · exact absurd (h1 rfl) (by decide)
  · exact absurd (h1 rfl) (by decide)
  · exact absurd (h2 rfl) (by decide)
  · exact DOM_refl _
theorem gsum_ne {α : Type} {F : α → GF} {c : Nat} : ∀ l, gsum F l c ≠ 0 → ∃ a, a ∈ l ∧ F a c ≠ 0
  | [], h => absurd rfl h
  | a :: l, h => by
    have h : F a c + gsum F l c ≠ 0 := h
    by_cases z : F a c = 0
    · obtain ⟨x, h1, h2⟩ := gsum_ne (F := F) l (show gsum F l c ≠ 0 by omega)
      exact ⟨x, List.mem_cons_of_mem _ h1, h2⟩
    · exact ⟨a, List.mem_cons_self .., z⟩
theorem gs_ne {s c : Nat} {f : GF} (h : gs s f c ≠ 0) : s ≤ c ∧ f (c - s) ≠ 0 := by
  unfold gs at h
  split at h
  · exact ⟨by assumption, h⟩
  · exact absurd rfl h
/-- no way costs more than 11 a day -/
theorem VV_sup (hcs : ∀ d i P, P ∈ pats → d + i < N → cs d i P ≤ 11 * (i + 1)) (nm am : Bool) : ∀ n k d c, N - d ≤ n → VV N wn cs fo fm b nm am k d c ≠ 0 → c ≤ 11 * (N - d)
  | n, k, d, c, h, hc => by
    by_cases hd : d < N
    · match n, h with
      | 0, h => omega
      | n + 1, h =>
        have ih := VV_sup hcs nm am n
        rw [VV_step N wn cs fo fm b hd] at hc
        have hc : (cond (wn d && !am) g0 (gs (wn d).toNat (VV N wn cs fo fm b nm am k (d + 1)))) c + (cond (b && decide (k = 0)) g0 (gsum (fun i => gsum (fun P => cond ((fo d i P && !nm) || (fm d i P && !am)) g0 (gs (cs d i P) (VV N wn cs fo fm b nm am (k - b.toNat) (d + i + 1)))) pats) (List.range (N - d)))) c ≠ 0 := hc
        by_cases z : (cond (wn d && !am) g0 (gs (wn d).toNat (VV N wn cs fo fm b nm am k (d + 1)))) c = 0
        · have z2 : (cond (b && decide (k = 0)) g0 (gsum (fun i => gsum (fun P => cond ((fo d i P && !nm) || (fm d i P && !am)) g0 (gs (cs d i P) (VV N wn cs fo fm b nm am (k - b.toNat) (d + i + 1)))) pats) (List.range (N - d)))) c ≠ 0 := by omega
          cases hb : (b && decide (k = 0)) with
          | true =>
            rw [hb] at z2
            exact absurd rfl z2
          | false =>
            rw [hb] at z2
            obtain ⟨i, hi, h2⟩ := gsum_ne _ z2
            obtain ⟨P, hP, h3⟩ := gsum_ne _ h2
            have hi : i < N - d := List.mem_range.mp hi
            cases hq : ((fo d i P && !nm) || (fm d i P && !am)) with
            | true =>
              rw [hq] at h3
              exact absurd rfl h3
            | false =>
              rw [hq] at h3
              obtain ⟨h4, h5⟩ := gs_ne h3
              have := ih _ _ _ (by omega) h5
              have := hcs d i P hP (by omega)
              omega
        · cases hb : (wn d && !am) with
          | true =>
            rw [hb] at z
            exact absurd rfl z
          | false =>
            rw [hb] at z
            obtain ⟨h4, h5⟩ := gs_ne z
            have := ih _ _ _ (by omega) h5
            have h1 : (wn d).toNat ≤ 1 := Bool.toNat_le _
            omega
    · rw [VV_end N wn cs fo fm b (by omega)] at hc
      unfold g1 at hc
      split at hc
      · omega
      · exact absurd rfl hc
end DPU
