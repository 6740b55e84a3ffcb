/-! how many ways there are of each cost -/
abbrev GF : Type := Nat → Nat
def g0 : GF := fun _ => 0
def g1 : GF := fun c => if c = 0 then 1 else 0
def gs (s : Nat) (f : GF) : GF := fun c => if s ≤ c then f (c - s) else 0
def gadd (f g : GF) : GF := fun c => f c + g c
def gsum {α : Type} (F : α → GF) : List α → GF
  | [] => g0
  | a :: l => gadd (F a) (gsum F l)
theorem gs_g0 (s : Nat) : gs s g0 = g0 := funext fun c => by unfold gs g0; split <;> rfl
theorem gs_0 (f : GF) : gs 0 f = f := funext fun c => by unfold gs; rw [if_pos (Nat.zero_le c), Nat.sub_zero]
theorem gs_gs (a b : Nat) (f : GF) : gs a (gs b f) = gs (a + b) f := funext fun c => by
  unfold gs
  by_cases h1 : a ≤ c
  · by_cases h2 : b ≤ c - a
    · rw [if_pos h1, if_pos h2, if_pos (by omega)]
      congr 1
      omega
    · rw [if_pos h1, if_neg h2, if_neg (by omega)]
  · rw [if_neg h1, if_neg (by omega)]
theorem gs_gadd (a : Nat) (f g : GF) : gs a (gadd f g) = gadd (gs a f) (gs a g) := funext fun c => by
  simp only [gs, gadd]
  split <;> rfl
theorem gadd_assoc (f g h : GF) : gadd (gadd f g) h = gadd f (gadd g h) := funext fun c => Nat.add_assoc _ _ _
theorem gadd_comm (f g : GF) : gadd f g = gadd g f := funext fun c => Nat.add_comm _ _
theorem gadd_left (f g h : GF) : gadd f (gadd g h) = gadd g (gadd f h) := funext fun c => Nat.add_left_comm _ _ _
theorem gadd_0 (f : GF) : gadd f g0 = f := funext fun c => Nat.add_zero _
theorem g0_add (f : GF) : gadd g0 f = f := funext fun c => Nat.zero_add _
theorem gsum_add {α : Type} (F G : α → GF) : ∀ l, gsum (fun a => gadd (F a) (G a)) l = gadd (gsum F l) (gsum G l)
  | [] => (gadd_0 g0).symm
  | a :: l => by
    show gadd (gadd (F a) (G a)) (gsum (fun a => gadd (F a) (G a)) l) = gadd (gadd (F a) (gsum F l)) (gadd (G a) (gsum G l))
    rw [gsum_add F G l, gadd_assoc, gadd_assoc, gadd_left (G a)]
theorem gsum_gs {α : Type} (s : Nat) (F : α → GF) : ∀ l, gsum (fun a => gs s (F a)) l = gs s (gsum F l)
  | [] => (gs_g0 s).symm
  | a :: l => by
    show gadd (gs s (F a)) (gsum (fun a => gs s (F a)) l) = gs s (gadd (F a) (gsum F l))
    rw [gsum_gs s F l, gs_gadd]
theorem gsum_congr {α : Type} {F G : α → GF} : ∀ l, (∀ a, a ∈ l → F a = G a) → gsum F l = gsum G l
  | [], _ => rfl
  | a :: l, h => by
    show gadd (F a) (gsum F l) = gadd (G a) (gsum G l)
    rw [h a (List.mem_cons_self ..), gsum_congr l (fun b hb => h b (List.mem_cons_of_mem _ hb))]
theorem gsum_g0 {α : Type} : ∀ l : List α, gsum (fun _ => g0) l = g0
  | [] => rfl
  | a :: l => by
    show gadd g0 (gsum (fun _ => g0) l) = g0
    rw [gsum_g0 l, gadd_0]
theorem gsum_append {α : Type} (F : α → GF) : ∀ l k, gsum F (l ++ k) = gadd (gsum F l) (gsum F k)
  | [], k => (g0_add _).symm
  | a :: l, k => by
    show gadd (F a) (gsum F (l ++ k)) = gadd (gadd (F a) (gsum F l)) (gsum F k)
    rw [gsum_append F l k, gadd_assoc]
theorem gsum_perm {α : Type} (F : α → GF) {l k : List α} (h : l.Perm k) : gsum F l = gsum F k := by
  induction h with
  | nil => rfl
  | cons x _ ih =>
    show gadd (F x) (gsum F _) = gadd (F x) (gsum F _)
    rw [ih]
  | swap x y l =>
    show gadd (F y) (gadd (F x) (gsum F l)) = gadd (F x) (gadd (F y) (gsum F l))
    rw [gadd_left]
  | trans _ _ ih1 ih2 => exact ih1.trans ih2
/-- the least cost, how many ways -/
def MW (f : GF) (k n : Nat) : Prop := f k = n ∧ 0 < n ∧ ∀ c, c < k → f c = 0
theorem MW_g1 : MW g1 0 1 := ⟨rfl, by decide, fun c h => absurd h (Nat.not_lt_zero c)⟩
theorem MW_gs {f : GF} {k n : Nat} (s : Nat) (h : MW f k n) : MW (gs s f) (s + k) n := by
  obtain ⟨h1, h2, h3⟩ := h
  refine ⟨?_, h2, fun c hc => ?_⟩
  · unfold gs
    rw [if_pos (by omega), show s + k - s = k by omega, h1]
  · unfold gs
    split
    · exact h3 _ (by omega)
    · rfl
theorem MW_lt {f g : GF} {k n k' n' : Nat} (h : MW f k n) (h' : MW g k' n') (q : k' < k) : MW (gadd f g) k' n' := by
  obtain ⟨h1, h2, h3⟩ := h
  obtain ⟨g1, g2, g3⟩ := h'
  refine ⟨?_, g2, fun c hc => ?_⟩
  · show f k' + g k' = n'
    rw [h3 k' q, g1, Nat.zero_add]
  · show f c + g c = 0
    rw [h3 c (by omega), g3 c hc]
theorem MW_eq {f g : GF} {k n n' : Nat} (h : MW f k n) (h' : MW g k n') : MW (gadd f g) k (n + n') := by
  obtain ⟨h1, h2, h3⟩ := h
  obtain ⟨g1, g2, g3⟩ := h'
  refine ⟨?_, by omega, fun c hc => ?_⟩
  · show f k + g k = n + n'
    rw [h1, g1]
  · show f c + g c = 0
    rw [h3 c hc, g3 c hc]
/-- nothing at cost k or below -/
theorem MW_no {f g : GF} {k n : Nat} (h : MW f k n) (h' : ∀ c, c ≤ k → g c = 0) : MW (gadd f g) k n := by
  obtain ⟨h1, h2, h3⟩ := h
  refine ⟨?_, h2, fun c hc => ?_⟩
  · show f k + g k = n
    rw [h1, h' k (Nat.le_refl k), Nat.add_zero]
  · show f c + g c = 0
    rw [h3 c hc, h' c (by omega)]
theorem MW_gt {f g : GF} {k n k' n' : Nat} (h : MW f k n) (h' : MW g k' n') (q : k < k') : MW (gadd f g) k n := MW_no h (fun c hc => h'.2.2 c (by omega))
theorem MW_uniq {f : GF} {k n k' n' : Nat} (h : MW f k n) (h' : MW f k' n') : k = k' ∧ n = n' := by
  obtain ⟨h1, h2, h3⟩ := h
  obtain ⟨g1, g2, g3⟩ := h'
  have : k = k' := by
    rcases Nat.lt_trichotomy k k' with q | q | q
    · have := g3 k q
      omega
    · exact q
    · have := h3 k' q
      omega
  subst this
  exact ⟨rfl, h1.symm.trans g1⟩
/-- f has something that is as cheap as what g has -/
def DOM (f g : GF) : Prop := ∀ c, g c ≠ 0 → ∃ c', c' ≤ c ∧ f c' ≠ 0
theorem DOM_refl (f : GF) : DOM f f := fun c h => ⟨c, Nat.le_refl c, h⟩
theorem DOM_trans {f g h : GF} (h1 : DOM f g) (h2 : DOM g h) : DOM f h := fun c q => by
  obtain ⟨c', a, b⟩ := h2 c q
  obtain ⟨c'', a', b'⟩ := h1 c' b
  exact ⟨c'', by omega, b'⟩
theorem DOM_g0 (f : GF) : DOM f g0 := fun c h => absurd rfl h
theorem DOM_gs {f g : GF} {a b : Nat} (hab : a ≤ b) (h : DOM f g) : DOM (gs a f) (gs b g) := fun c q => by
  unfold gs at q
  split at q
  · obtain ⟨c', h1, h2⟩ := h _ q
    refine ⟨a + c', by omega, ?_⟩
    unfold gs
    rw [if_pos (by omega), show a + c' - a = c' by omega]
    exact h2
  · exact absurd rfl q
theorem DOM_gadd {f f' g g' : GF} (h : DOM f g) (h' : DOM f' g') : DOM (gadd f f') (gadd g g') := fun c q => by
  have q : g c + g' c ≠ 0 := q
  by_cases z : g c = 0
  · obtain ⟨c', h1, h2⟩ := h' c (by omega)
    refine ⟨c', h1, ?_⟩
    show f c' + f' c' ≠ 0
    omega
  · obtain ⟨c', h1, h2⟩ := h c z
    refine ⟨c', h1, ?_⟩
    show f c' + f' c' ≠ 0
    omega
theorem DOM_left {f f' g : GF} (h : DOM f g) : DOM (gadd f f') g := fun c q => by
  obtain ⟨c', h1, h2⟩ := h c q
  refine ⟨c', h1, ?_⟩
  show f c' + f' c' ≠ 0
  omega
theorem DOM_both {f g g' : GF} (h : DOM f g) (h' : DOM f g') : DOM f (gadd g g') := fun c q => by
  have q : g c + g' c ≠ 0 := q
  by_cases z : g c = 0
  · exact h' c (by omega)
  · exact h c z
theorem DOM_gsum {α : Type} {F G : α → GF} : ∀ l, (∀ a, a ∈ l → DOM (F a) (G a)) → DOM (gsum F l) (gsum G l)
  | [], _ => DOM_refl _
  | a :: l, h => DOM_gadd (h a (List.mem_cons_self ..)) (DOM_gsum l (fun b hb => h b (List.mem_cons_of_mem _ hb)))
theorem DOM_MW {f g : GF} {k n k' n' : Nat} (h : DOM f g) (h1 : MW f k n) (h2 : MW g k' n') : k ≤ k' := by
  obtain ⟨c', a, b⟩ := h k' (by have := h2.1; have := h2.2.1; omega)
  rcases Nat.lt_or_ge c' k with q | q
  · exact absurd (h1.2.2 c' q) b
  · omega
/-! the days from the last one on: wn: the day must be told if no span has it; an option is a day, a length less 1, a pattern: its cost, whether a day is left out (fo), put to them (fm) -/
def pats : List Nat := (List.range 127).map (· + 1)
section DPV
variable (N : Nat) (wn : Nat → Bool) (cs : Nat → Nat → Nat → Nat) (fo fm : Nat → Nat → Nat → Bool) (b : Bool)
/-- by what words may stand (nm: not, am: also); at most k spans, if b -/
def VV (nm am : Bool) (k d : Nat) : GF :=
  if h : d < N then
    gadd (cond (wn d && !am) g0 (gs (wn d).toNat (VV nm am k (d + 1))))
      (cond (b && decide (k = 0)) g0 (gsum (fun i => gsum (fun P => cond ((fo d i P && !nm) || (fm d i P && !am)) g0 (gs (cs d i P) (VV nm am (k - b.toNat) (d + i + 1)))) pats) (List.range (N - d))))
  else g1
termination_by N - d
theorem VV_end {nm am : Bool} {k d : Nat} (h : N ≤ d) : VV N wn cs fo fm b nm am k d = g1 := by
  rw [VV, dif_neg (by omega)]
theorem VV_step {nm am : Bool} {k d : Nat} (h : d < N) : VV N wn cs fo fm b nm am k d = gadd (cond (wn d && !am) g0 (gs (wn d).toNat (VV N wn cs fo fm b nm am k (d + 1)))) (cond (b && decide (k = 0)) g0 (gsum (fun i => gsum (fun P => cond ((fo d i P && !nm) || (fm d i P && !am)) g0 (gs (cs d i P) (VV N wn cs fo fm b nm am (k - b.toNat) (d + i + 1)))) pats) (List.range (N - d)))) := by
  rw [VV, dif_pos h]
end DPV
/-- from what is told already (sn, sa): the words that stand are these or more -/
def Ug (v : Bool → Bool → GF) : Bool → Bool → GF
  | true, true => v true true
  | true, false => gadd (v true false) (gs 1 (v true true))
  | false, true => gadd (v false true) (gs 1 (v true true))
  | false, false => gadd (v false false) (gadd (gs 1 (v true false)) (gadd (gs 1 (v false true)) (gs 2 (v true true))))
theorem Ug_gadd (v v' : Bool → Bool → GF) (sn sa : Bool) : Ug (fun x y => gadd (v x y) (v' x y)) sn sa = gadd (Ug v sn sa) (Ug v' sn sa) := by
  cases sn <;> cases sa <;> simp only [Ug, gs_gadd] <;> funext c <;> simp only [gadd] <;> omega
theorem Ug_gsum {α : Type} (v : α → Bool → Bool → GF) (sn sa : Bool) : ∀ l : List α, Ug (fun x y => gsum (fun a => v a x y) l) sn sa = gsum (fun a => Ug (v a) sn sa) l
  | [] => by cases sn <;> cases sa <;> simp only [Ug, gsum, gs_g0, gadd_0]
  | a :: l => by
    show Ug (fun x y => gadd (v a x y) (gsum (fun a => v a x y) l)) sn sa = gadd (Ug (v a) sn sa) (gsum (fun a => Ug (v a) sn sa) l)
    rw [Ug_gadd, Ug_gsum v sn sa l]
theorem Ug_opt (v : Bool → Bool → GF) (fo fm sn sa : Bool) (c : Nat) : Ug (fun x y => cond ((fo && !x) || (fm && !y)) g0 (gs c (v x y))) sn sa = gs (c + (fo && !sn).toNat + (fm && !sa).toNat) (Ug v (sn || fo) (sa || fm)) := by
  cases fo <;> cases fm <;> cases sn <;> cases sa <;> simp only [Ug, gs_gadd, gs_gs, gs_g0, g0_add, gadd_0, Bool.not_true, Bool.not_false, Bool.and_true, Bool.and_false, Bool.true_and, Bool.false_and, Bool.or_true, Bool.or_false, Bool.true_or, Bool.false_or, cond_true, cond_false, Bool.toNat_true, Bool.toNat_false, Nat.add_zero, Nat.zero_add, Nat.add_assoc, Nat.add_comm 1 c, Nat.add_comm 2 c, Nat.reduceAdd]
