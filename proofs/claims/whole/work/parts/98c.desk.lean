/-! the lines of a desk -/
def upf {α : Type} (f : Nat → α) (k : Nat) (v : α) : Nat → α := fun i => if i = k then v else f i
theorem upf_same {α : Type} (f : Nat → α) (k : Nat) (v : α) : upf f k v k = v := if_pos rfl
theorem upf_at {α : Type} {f : Nat → α} {k i : Nat} {v : α} (h : i ≠ k) : upf f k v i = f i := if_neg h
abbrev DKT : Type := (Nat × Nat × Nat × Nat × Nat) × (Nat → List Nat) × (Nat → Int32) × (Nat → Int32) × (Nat → Int32) × (Nat → Int32)
def dkF (B : Nat → Nat) (S : Nat) : Nat → Nat → DKT → (Nat × Nat) ⊕ DKT
  | 0, _, s => .inr s
  | m + 1, j, ((N, w, F, T, ln), nm, fd, ro, mi, ru) => if KT B S j = 24 then .inr ((N, w, F, T, ln), nm, fd, ro, mi, ru) else if ln = 0 then (match hdR (KT B S) (vN B S) j with
    | .inl e => .inl e
    | .inr (j', N', w') => if KT B S j' = 21 then dkF B S m (j' + 1) ((N', w', F, T, ln + 1), nm, fd, ro, mi, ru) else .inl (1, j')) else if KT B S j = 3 then (match feR (KT B S) (vN B S) (wN B S) F nm N j with
    | .inl e => .inl e
    | .inr (j', V) => if KT B S j' = 21 then dkF B S m (j' + 1) ((N, w, F + 1, T, ln + 1), upf nm F (wN B S (j + 1)), upf fd F V, ro, mi, ru) else .inl (1, j')) else if KT B S j = 4 then (match trR (KT B S) (vN B S) (fiT B S F nm) N w fd T j with
    | .inl e => .inl e
    | .inr (j', r, mm, V) => if KT B S j' = 21 then dkF B S m (j' + 1) ((N, w, F, T + 1, ln + 1), nm, fd, upf ro T (nI r), upf mi T (nI mm), upf ru T V) else .inl (1, j')) else .inl (1, j)
/-- a desk that may stand -/
def PD (s : DKT) : Prop := match s with
  | ((N, w, F, T, ln), nm, fd, _, _, ru) => N ≤ 28 ∧ w < 7 ∧ F ≤ 2 ∧ T ≤ 6 ∧ ((ln = 0 ∧ N = 0 ∧ F = 0 ∧ T = 0) ∨ (ln = 1 + F + T ∧ 1 ≤ N)) ∧ NK F nm ∧ (∀ f, f < F → 1 ≤ (nm f).length ∧ (nm f).length ≤ 8 ∧ ∀ i, i < (nm f).length → 97 ≤ (nm f).getD i 0 ∧ (nm f).getD i 0 ≤ 122) ∧ (∀ f, f < F → sub N (fd f)) ∧ (∀ t, t < T → sub N (ru t))
/-- cells of the class hold it -/
def CDS (I : zI) (L : zL) (d : Nat) (s : DKT) : Prop := match s with
  | ((N, w, F, T, ln), nm, fd, ro, mi, ru) => (I d 6 = nI N ∧ I d 7 = nI w ∧ I d 8 = nI F ∧ I d 9 = nI T ∧ I d 10 = nI ln) ∧ (N ≠ 0 → ∀ P, P < 128 → I (d + 1) P = pds N w P) ∧ NMc L d F nm ∧ (∀ f, f < F → I (d + 3) f = fd f) ∧ (∀ t, t < T → I (d + 4) t = ro t ∧ I (d + 5) t = mi t ∧ I (d + 6) t = ru t)
/-- cells of the reference hold it -/
def RDS (I : zI) (s : DKT) : Prop := match s with
  | ((N, w, F, T, ln), nm, fd, ro, mi, ru) => (I 53 0 = nI N ∧ I 53 1 = nI w ∧ I 53 2 = nI F ∧ I 53 3 = nI T ∧ I 53 4 = nI ln) ∧ NMr I F nm ∧ (∀ f, f < F → I 53 (6 + f) = fd f) ∧ (∀ t, t < T → I 53 (26 + t) = ro t ∧ I 53 (32 + t) = mi t ∧ I 53 (38 + t) = ru t)
theorem PD_h {N w F T ln N' w' : Nat} {nm : Nat → List Nat} {fd ro mi ru : Nat → Int32} (h : PD ((N, w, F, T, ln), nm, fd, ro, mi, ru)) (h0 : ln = 0) (h1 : 1 ≤ N' ∧ N' ≤ 28) (h2 : w' < 7) : PD ((N', w', F, T, ln + 1), nm, fd, ro, mi, ru) := by
  obtain ⟨a1, a2, a3, a4, a5, a6, a7, a8, a9⟩ := h
  have e : ln = 0 ∧ N = 0 ∧ F = 0 ∧ T = 0 := by omega
  exact ⟨by omega, by omega, a3, a4, by omega, a6, a7, fun f hf => by omega, fun t ht => by omega⟩
theorem PD_f {B : Nat → Nat} {S N w F T ln j j' : Nat} {nm : Nat → List Nat} {fd ro mi ru : Nat → Int32} {V : Int32} (h : PD ((N, w, F, T, ln), nm, fd, ro, mi, ru)) (h0 : ln ≠ 0) (hr : feR (KT B S) (vN B S) (wN B S) F nm N j = .inr (j', V)) : PD ((N, w, F + 1, T, ln + 1), upf nm F (wN B S (j + 1)), upf fd F V, ro, mi, ru) := by
  obtain ⟨a1, a2, a3, a4, a5, a6, a7, a8, a9⟩ := h
  unfold feR at hr
  by_cases zF : F = 2
  · rw [if_pos zF] at hr
    cases hr
  rw [if_neg zF] at hr
  by_cases z : 19 < KT B S (j + 1)
  · rw [if_pos z] at hr
    cases hr
  rw [if_neg z] at hr
  by_cases y : KT B S (j + 1) = 19 ∧ (wN B S (j + 1)).length ≤ 8 ∧ fx nm (wN B S (j + 1)) F 0 = none
  · rw [if_pos y] at hr
    have ok := fyF_ok (K := KT B S) (v := vN B S) (N := N) (by omega) (N + 1) (j + 2) (nI 0) (sub_0 N)
    rw [hr] at ok
    have ok : sub N V := ok
    obtain ⟨l1, l2, l3, l4, l5⟩ := wN_az (show KT B S (j + 1) ≤ 19 by omega)
    refine ⟨a1, a2, by omega, a4, by omega, fun f hf => ?_, fun f hf => ?_, fun f hf => ?_, a9⟩
    · by_cases q : f = F
      · rw [q, upf_same]
        exact l5 y.1
      · rw [upf_at q]
        exact a6 f (by omega)
    · by_cases q : f = F
      · rw [q, upf_same]
        exact ⟨by omega, y.2.1, fun i hi => ⟨(l4 i hi).1, (l4 i hi).2.1⟩⟩
      · rw [upf_at q]
        exact a7 f (by omega)
    · by_cases q : f = F
      · rw [q, upf_same]
        exact ok
      · rw [upf_at q]
        exact a8 f (by omega)
  · rw [if_neg y] at hr
    cases hr
theorem PD_t {B : Nat → Nat} {S N w F T ln j j' r mm : Nat} {nm : Nat → List Nat} {fd ro mi ru : Nat → Int32} {V : Int32} (h : PD ((N, w, F, T, ln), nm, fd, ro, mi, ru)) (h0 : ln ≠ 0) (hr : trR (KT B S) (vN B S) (fiT B S F nm) N w fd T j = .inr (j', r, mm, V)) : PD ((N, w, F, T + 1, ln + 1), nm, fd, upf ro T (nI r), upf mi T (nI mm), upf ru T V) := by
  obtain ⟨a1, a2, a3, a4, a5, a6, a7, a8, a9⟩ := h
  unfold trR at hr
  by_cases zT : T = 6
  · rw [if_pos zT] at hr
    cases hr
  rw [if_neg zT] at hr
  match hn : nuR (KT B S) (vN B S) 0 9 (j + 1) with
  | .inl e =>
    rw [hn] at hr
    cases hr
  | .inr (ja, r') =>
    rw [hn] at hr
    have hr : trA (KT B S) (vN B S) (fiT B S F nm) N w fd r' ja = .inr (j', r, mm, V) := hr
    unfold trA at hr
    by_cases z : KT B S ja = 5
    · rw [if_pos z] at hr
      match hn2 : nuR (KT B S) (vN B S) 0 1439 (ja + 1) with
      | .inl e =>
        rw [hn2] at hr
        cases hr
      | .inr (jc, m') =>
        rw [hn2] at hr
        have hr : trB (KT B S) (vN B S) (fiT B S F nm) N w fd r' m' jc = .inr (j', r, mm, V) := hr
        unfold trB at hr
        by_cases y : KT B S jc = 22
        · rw [if_pos y] at hr
          have ok := woR_ok (K := KT B S) (v := vN B S) (fi := fiT B S F nm) (N := N) (w := w) (fd := fd) (by omega) (fun j f hf => a8 f (fi_lt hf)) (jc + 1)
          match hw : woR (KT B S) (vN B S) (fiT B S F nm) N w fd (jc + 1), ok with
          | .inl e, _ =>
            rw [hw] at hr
            cases hr
          | .inr (jw, V'), ok =>
            rw [hw] at hr
            have hr : Sum.inr (jw, r', m', V') = (Sum.inr (j', r, mm, V) : (Nat × Nat) ⊕ (Nat × Nat × Nat × Int32)) := hr
            cases hr
            have ok : sub N V := ok
            refine ⟨a1, a2, a3, by omega, by omega, a6, a7, a8, fun t ht => ?_⟩
            by_cases q : t = T
            · rw [q, upf_same]
              exact ok
            · rw [upf_at q]
              exact a9 t (by omega)
        · rw [if_neg y] at hr
          cases hr
    · rw [if_neg z] at hr
      cases hr
