/-! entries behind not and also -/
def fiT (B : Nat → Nat) (S F : Nat) (nm : Nat → List Nat) (j : Nat) : Option Nat := if KT B S j = 19 then fx nm (wN B S j) F 0 else none
def enF' (K v : Nat → Nat) (fi : Nat → Option Nat) (N : Nat) (fd : Nat → Int32) : Nat → Nat → Nat → Int32 → Int32 → Bool → (Nat × Nat) ⊕ (Nat × Int32)
  | 0, j, _, _, M, _ => .inr (j, M)
  | m + 1, j, fs, ds, M, st => match fi j with
    | some f => if fs.testBit f = true then .inl (2, j) else enF' K v fi N fd m (j + 1) (fs ||| 2 ^ f) ds (M ||| fd f) true
    | none => if K j = 20 then (match nuR K v 0 (N - 1) j with
      | .inl e => .inl e
      | .inr (_, t) => if bt ds t = true then .inl (2, j) else enF' K v fi N fd m (j + 1) fs (ds ||| (nI 1 <<< (nI t &&& nI 31))) (M ||| (nI 1 <<< (nI t &&& nI 31))) true) else if st = true then .inr (j, M) else .inl (1, j)
theorem and_bit (x : Int32) {t : Nat} (ht : t < 32) : (x &&& (nI 1 <<< (nI t &&& nI 31)) = nI 0) = (bt x t = false) := by
  refine propext ⟨fun h => ?_, fun h => b_ext fun i hi => ?_⟩
  · have := congrArg (fun z => bt z t) h
    simp only [b_and, b_one ht ht, decide_true, Bool.and_true, show bt (nI 0) t = false from b_0 t] at this
    exact this
  · rw [b_and, b_one ht hi, show bt (nI 0) i = false from b_0 i]
    by_cases z : i = t
    · rw [z, h, Bool.false_and]
    · rw [decide_eq_false z, Bool.and_false]
theorem cnt_set {f g : Nat → Bool} {t : Nat} (hf : f t = false) (hg : g t = true) (h : ∀ i, i ≠ t → g i = f i) : ∀ n, t < n → cnt g n = cnt f n + 1
  | 0, hn => by omega
  | n + 1, hn => by
    show cnt g n + (g n).toNat = cnt f n + (f n).toNat + 1
    by_cases z : n = t
    · subst z
      rw [cnt_congr n (fun i hi => h i (by omega)), hf, hg]
      rfl
    · rw [cnt_set hf hg h n (by omega), h n z]
      omega
theorem pc2_set : ∀ fs, fs < 4 → ∀ f, f < 2 → fs.testBit f = false → pc2 (fs ||| 2 ^ f) = pc2 fs + 1 ∧ fs ||| 2 ^ f < 4 := by decide
theorem fx_lt {nm : Nat → List Nat} {ws : List Nat} : ∀ m f g, fx nm ws m f = some g → f ≤ g ∧ g < f + m
  | 0, f, g, h => by cases h
  | m + 1, f, g, h => by
    unfold fx at h
    by_cases z : nm f = ws
    · rw [if_pos z] at h
      cases h
      omega
    · rw [if_neg z] at h
      have := fx_lt m (f + 1) g h
      omega
def EnC (I : zI) (L : zL) (B : Nat → Nat) (S n : Nat) (r : (Nat × Nat) ⊕ (Nat × Int32)) (x : Option (Option Value × zH)) : Prop := match r with
  | .inl (e, jf) => ∃ J, x = some (some (.int (nI 0)), hp J L) ∧ CFl I J e (sT B S jf)
  | .inr (j', M') => ∃ J, x = some (some (.int (nI 1)), hp J L) ∧ j' ≤ n ∧ J 5 9 = nI j' ∧ J 5 14 = M' ∧ (∀ x y, (x ≠ 5 ∨ (y ≠ 9 ∧ y ≠ 14)) → J x y = I x y)
theorem EnC.cg {I I' : zI} {L : zL} {B : Nat → Nat} {S n : Nat} {r : (Nat × Nat) ⊕ (Nat × Int32)} {x : Option (Option Value × zH)} (h : EnC I' L B S n r x) (hc : ∀ x y, (x ≠ 5 ∨ (y ≠ 9 ∧ y ≠ 14)) → I' x y = I x y) : EnC I L B S n r x := by
  match r, h with
  | .inl (e, jf), ⟨J, h1, h2, h3, h4⟩ => exact ⟨J, h1, h2, h3, fun x y p => (h4 x y p).trans (hc x y (by omega))⟩
  | .inr (j', P'), ⟨J, h1, h2, h3, h4, h5⟩ => exact ⟨J, h1, h2, h3, h4, fun x y p => (h5 x y p).trans (hc x y p)⟩
