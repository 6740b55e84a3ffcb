/-! rows for simp: written numbers, tests, the heap -/
theorem q0 : (0 : Int32) = nI 0 := rfl
theorem q1 : (1 : Int32) = nI 1 := rfl
theorem q2 : (2 : Int32) = nI 2 := rfl
theorem q3 : (3 : Int32) = nI 3 := rfl
theorem q4 : (4 : Int32) = nI 4 := rfl
theorem q5 : (5 : Int32) = nI 5 := rfl
theorem q6 : (6 : Int32) = nI 6 := rfl
theorem q7 : (7 : Int32) = nI 7 := rfl
theorem q8 : (8 : Int32) = nI 8 := rfl
theorem q9 : (9 : Int32) = nI 9 := rfl
theorem q10 : (10 : Int32) = nI 10 := rfl
theorem q11 : (11 : Int32) = nI 11 := rfl
theorem q12 : (12 : Int32) = nI 12 := rfl
theorem q13 : (13 : Int32) = nI 13 := rfl
theorem q14 : (14 : Int32) = nI 14 := rfl
theorem q15 : (15 : Int32) = nI 15 := rfl
theorem q16 : (16 : Int32) = nI 16 := rfl
theorem q18 : (18 : Int32) = nI 18 := rfl
theorem q19 : (19 : Int32) = nI 19 := rfl
theorem q20 : (20 : Int32) = nI 20 := rfl
theorem q21 : (21 : Int32) = nI 21 := rfl
theorem q22 : (22 : Int32) = nI 22 := rfl
theorem q23 : (23 : Int32) = nI 23 := rfl
theorem q24 : (24 : Int32) = nI 24 := rfl
theorem q25 : (25 : Int32) = nI 25 := rfl
theorem q26 : (26 : Int32) = nI 26 := rfl
theorem q27 : (27 : Int32) = nI 27 := rfl
theorem q28 : (28 : Int32) = nI 28 := rfl
theorem q29 : (29 : Int32) = nI 29 := rfl
theorem q30 : (30 : Int32) = nI 30 := rfl
theorem q31 : (31 : Int32) = nI 31 := rfl
theorem q32 : (32 : Int32) = nI 32 := rfl
theorem q33 : (33 : Int32) = nI 33 := rfl
theorem q34 : (34 : Int32) = nI 34 := rfl
theorem q35 : (35 : Int32) = nI 35 := rfl
theorem q36 : (36 : Int32) = nI 36 := rfl
theorem q37 : (37 : Int32) = nI 37 := rfl
theorem q38 : (38 : Int32) = nI 38 := rfl
theorem q39 : (39 : Int32) = nI 39 := rfl
theorem q40 : (40 : Int32) = nI 40 := rfl
theorem q41 : (41 : Int32) = nI 41 := rfl
theorem q44 : (44 : Int32) = nI 44 := rfl
theorem q45 : (45 : Int32) = nI 45 := rfl
theorem q48 : (48 : Int32) = nI 48 := rfl
theorem q56 : (56 : Int32) = nI 56 := rfl
theorem q57 : (57 : Int32) = nI 57 := rfl
theorem q58 : (58 : Int32) = nI 58 := rfl
theorem q59 : (59 : Int32) = nI 59 := rfl
theorem q60 : (60 : Int32) = nI 60 := rfl
theorem q63 : (63 : Int32) = nI 63 := rfl
theorem q64 : (64 : Int32) = nI 64 := rfl
theorem q97 : (97 : Int32) = nI 97 := rfl
theorem q99 : (99 : Int32) = nI 99 := rfl
theorem q122 : (122 : Int32) = nI 122 := rfl
theorem q126 : (126 : Int32) = nI 126 := rfl
theorem q127 : (127 : Int32) = nI 127 := rfl
theorem q128 : (128 : Int32) = nI 128 := rfl
theorem q255 : (255 : Int32) = nI 255 := rfl
theorem q256 : (256 : Int32) = nI 256 := rfl
theorem q300 : (300 : Int32) = nI 300 := rfl
theorem q580 : (580 : Int32) = nI 580 := rfl
theorem q600 : (600 : Int32) = nI 600 := rfl
theorem q601 : (601 : Int32) = nI 601 := rfl
theorem q1000 : (1000 : Int32) = nI 1000 := rfl
theorem q1439 : (1439 : Int32) = nI 1439 := rfl
theorem q99999 : (99999 : Int32) = nI 99999 := rfl
theorem q1000000 : (1000000 : Int32) = nI 1000000 := rfl
theorem q_lt_t {a b : Nat} (h : a < b) (hb : b < 2147483648) : (nI a < nI b) = True := eq_true (nI_lt h hb)
theorem q_lt_f {a b : Nat} (h : b ≤ a) (hb : a < 2147483648) : (nI a < nI b) = False := eq_false (nI_nlt h hb)
theorem q_eq_t {a b : Nat} (h : a = b) : (nI a = nI b) = True := eq_true (congrArg nI h)
theorem q_eq_f {a b : Nat} (h : a ≠ b) (ha : a < 2147483648) (hb : b < 2147483648) : (nI a = nI b) = False := eq_false (fun q => h ((nI_eq ha hb).mp q))
theorem q_lt {a b : Nat} (ha : a < 2147483648) (hb : b < 2147483648) : (nI a < nI b) = (a < b) := propext (nI_ltI ha hb)
theorem q_eq {a b : Nat} (ha : a < 2147483648) (hb : b < 2147483648) : (nI a = nI b) = (a = b) := propext (nI_eq ha hb)
theorem q_clamp {a : Nat} (h : a < 2147483648) : (nI a).toNatClampNeg = a := nI_clamp h
theorem q_in_t {j n : Nat} (h : j < n) (hn : n < 2147483648) : zin (nI j) n = true := by
  rw [zin_nI (show j < 2 ^ 31 by omega)]
  exact decide_eq_true h
theorem q_in_f {j n : Nat} (h : n ≤ j) (hn : j < 2147483648) : zin (nI j) n = false := by
  rw [zin_nI (show j < 2 ^ 31 by omega)]
  exact decide_eq_false (by omega)
theorem q_sub {a b : Nat} (h : b ≤ a) : nI a - nI b = nI (a - b) := pk_sub h
theorem q_mul (a b : Nat) : nI a * nI b = nI (a * b) := pk_mul a b
theorem q_div {a d : Nat} (ha : a < 2147483648) (h0 : 0 < d) (hd : d < 2147483648) : nI a / nI d = nI (a / d) := pk_div ha h0 hd
theorem q_rem {a d : Nat} (ha : a < 2147483648) (h0 : 0 < d) (hd : d < 2147483648) : nI a - nI a / nI d * nI d = nI (a % d) := pk_rem ha h0 hd
theorem q_m1 {a : Nat} (h : 0 < a) : nI a + -nI 1 = nI (a - 1) := by
  obtain ⟨b, rfl⟩ : ∃ b, a = b + 1 := ⟨a - 1, by omega⟩
  exact pk_m1 b
theorem qz_t : zbo true = nI 1 := rfl
theorem qz_f : zbo false = nI 0 := rfl
theorem qz_0 (b : Bool) : (zbo b = nI 0) = (b = false) := by
  cases b
  · exact propext ⟨fun _ => rfl, fun _ => rfl⟩
  · exact propext ⟨fun q => absurd q (by decide +kernel), fun q => by cases q⟩
theorem qz_1 (b : Bool) : (zbo b = nI 1) = (b = true) := by
  cases b
  · exact propext ⟨fun q => absurd q (by decide +kernel), fun q => by cases q⟩
  · exact propext ⟨fun _ => rfl, fun _ => rfl⟩
theorem qz_n (b : Bool) : znar .boolean (zbo b) = true := zbo_nar b
theorem qz_n0 : znar .boolean (nI 0) = true := zbo_nar false
theorem qz_n1 : znar .boolean (nI 1) = true := zbo_nar true
/-! the heap -/
theorem zbeq_f {a b : Nat} (h : a ≠ b) : Nat.beq a b = false := by
  cases hq : Nat.beq a b with
  | false => rfl
  | true => exact absurd (Nat.eq_of_beq_eq_true hq) h
theorem zu_same {α : Type} (f : Nat → Nat → α) (k i : Nat) (v : α) : zup f k i v k i = v := by
  unfold zup
  rw [Nat.beq_refl, Nat.beq_refl]
  rfl
theorem zu_cell {α : Type} {f : Nat → Nat → α} {k i : Nat} {v : α} {a b : Nat} (h : a ≠ k) : zup f k i v a b = f a b := by
  unfold zup
  rw [zbeq_f h]
  rfl
theorem zu_at {α : Type} {f : Nat → Nat → α} {k i : Nat} {v : α} {a b : Nat} (h : b ≠ i) : zup f k i v a b = f a b := by
  unfold zup
  rw [zbeq_f h, Bool.and_false]
  rfl
theorem zu_if {α : Type} (f : Nat → Nat → α) (k i : Nat) (v : α) (b : Nat) : zup f k i v k b = if b = i then v else f k b := by
  by_cases h : b = i
  · rw [if_pos h, h, zu_same]
  · rw [if_neg h, zu_at h]
theorem zc_in {α : Type} {f : Nat → Nat → α} {j q k p n b : Nat} (h : p ≤ b) (h2 : b < p + n) : zcpy f j q k p n k b = f j (q + (b - p)) := by
  unfold zcpy
  rw [Nat.beq_refl, Nat.ble_eq_true_of_le h, show Nat.blt b (p + n) = true from Nat.ble_eq_true_of_le h2]
  rfl
theorem zc_cell {α : Type} {f : Nat → Nat → α} {j q k p n a b : Nat} (h : a ≠ k) : zcpy f j q k p n a b = f a b := by
  unfold zcpy
  rw [zbeq_f h]
  rfl
theorem zc_out {α : Type} {f : Nat → Nat → α} {j q k p n a b : Nat} (h : b < p ∨ p + n ≤ b) : zcpy f j q k p n a b = f a b := by
  unfold zcpy
  have e : (Nat.beq a k && Nat.ble p b && Nat.blt b (p + n)) = false := by
    cases h1 : Nat.ble p b with
    | false => rw [Bool.and_false]; rfl
    | true => cases h2 : Nat.blt b (p + n) with
      | false => rw [Bool.and_false]
      | true =>
        have := Nat.le_of_ble_eq_true h1
        have := Nat.le_of_ble_eq_true h2
        omega
  rw [e]
  rfl
/-- but for the places of S nothing has changed -/
def fr {α : Type} (S : Nat → Nat → Bool) (f g : Nat → Nat → α) : Prop := ∀ a b, S a b = false → g a b = f a b
theorem fr_refl {α : Type} (S : Nat → Nat → Bool) (f : Nat → Nat → α) : fr S f f := fun _ _ _ => rfl
theorem fr_trans {α : Type} {S : Nat → Nat → Bool} {f g k : Nat → Nat → α} (h1 : fr S f g) (h2 : fr S g k) : fr S f k := fun a b h => (h2 a b h).trans (h1 a b h)
theorem fr_mono {α : Type} {S T : Nat → Nat → Bool} {f g : Nat → Nat → α} (h : ∀ a b, T a b = false → S a b = false) (h1 : fr S f g) : fr T f g := fun a b q => h1 a b (h a b q)
theorem fr_up {α : Type} {S : Nat → Nat → Bool} {f g : Nat → Nat → α} {k i : Nat} {v : α} (h : fr S f g) (hk : S k i = true) : fr S f (zup g k i v) := by
  intro a b q
  by_cases h1 : a = k
  · by_cases h2 : b = i
    · rw [h1, h2, hk] at q
      cases q
    · rw [zu_at h2]
      exact h a b q
  · rw [zu_cell h1]
    exact h a b q
/-! bits that are counted, sets of them -/
def cnt (f : Nat → Bool) : Nat → Nat
  | 0 => 0
  | n + 1 => cnt f n + (f n).toNat
theorem cnt_congr {f g : Nat → Bool} : ∀ n, (∀ i, i < n → f i = g i) → cnt f n = cnt g n
  | 0, _ => rfl
  | n + 1, h => by
    show cnt f n + (f n).toNat = cnt g n + (g n).toNat
    rw [cnt_congr n (fun i hi => h i (by omega)), h n (by omega)]
theorem cnt_le (f : Nat → Bool) : ∀ n, cnt f n ≤ n
  | 0 => Nat.le_refl 0
  | n + 1 => by
    have := cnt_le f n
    have h2 : (f n).toNat ≤ 1 := Bool.toNat_le _
    show cnt f n + _ ≤ n + 1
    omega
theorem cnt_up {f : Nat → Bool} {n : Nat} (h : ∀ i, n ≤ i → f i = false) : ∀ k, cnt f (n + k) = cnt f n
  | 0 => rfl
  | k + 1 => by
    show cnt f (n + k) + (f (n + k)).toNat = _
    rw [cnt_up h k, h (n + k) (by omega)]
    rfl
theorem cnt_N (x : Nat) : ∀ n, cntN x n = cnt (fun i => x.testBit i) n
  | 0 => rfl
  | n + 1 => by
    show cntN x n + _ = cnt _ n + _
    rw [cnt_N x n]
theorem pop_cnt (x : Int32) : pop x = cnt (bt x) 32 := cnt_N _ 32
theorem pop_sub {x : Int32} {n : Nat} (hn : n ≤ 32) (h : ∀ i, n ≤ i → bt x i = false) : pop x = cnt (bt x) n := by
  rw [pop_cnt]
  have := cnt_up h (32 - n)
  rw [show n + (32 - n) = 32 by omega] at this
  exact this
theorem cnt_mono {f g : Nat → Bool} : ∀ n, (∀ i, i < n → f i = true → g i = true) → cnt f n ≤ cnt g n
  | 0, _ => Nat.le_refl 0
  | n + 1, h => by
    have h1 := cnt_mono n (fun i hi => h i (by omega))
    have h2 := h n (by omega)
    show cnt f n + (f n).toNat ≤ cnt g n + (g n).toNat
    cases hf : f n with
    | false => exact Nat.le_trans h1 (Nat.le_add_right _ _)
    | true => rw [h2 hf]; exact Nat.add_le_add_right h1 _
/-- the bits below n that f names -/
def dset (f : Nat → Bool) : Nat → Int32
  | 0 => nI 0
  | n + 1 => dset f n ||| cond (f n) (nI 1 <<< (nI n &&& nI 31)) (nI 0)
theorem b_one {k : Nat} (hk : k < 32) {i : Nat} (hi : i < 32) : bt (nI 1 <<< (nI k &&& nI 31)) i = decide (i = k) := by
  have := b_shl k hk 1 hi
  rw [show ((1 : Int32) <<< (nI k &&& 31)) = nI 1 <<< (nI k &&& nI 31) from rfl] at this
  rw [this]
  by_cases h : k ≤ i
  · rw [decide_eq_true h, Bool.true_and, b_1 _ (by omega), decide_eq_decide]
    omega
  · rw [decide_eq_false h, Bool.false_and, decide_eq_false (by omega)]
theorem b_dset (f : Nat → Bool) : ∀ n, n ≤ 32 → ∀ i, bt (dset f n) i = (decide (i < n) && f i)
  | 0, _, i => by
    rw [decide_eq_false (by omega), Bool.false_and]
    exact b_0 i
  | n + 1, hn, i => by
    show bt (dset f n ||| _) i = _
    rw [b_or, b_dset f n (by omega) i]
    by_cases h32 : i < 32
    · cases hf : f n with
      | false =>
        show (_ || bt (nI 0) i) = _
        rw [show bt (nI 0) i = false from b_0 i, Bool.or_false]
        by_cases h : i = n
        · rw [h, hf, Bool.and_false, Bool.and_false]
        · rw [show decide (i < n + 1) = decide (i < n) from decide_eq_decide.mpr (by omega)]
      | true =>
        show (_ || bt (nI 1 <<< (nI n &&& nI 31)) i) = _
        rw [b_one (by omega) h32]
        by_cases h : i = n
        · rw [h, hf, decide_eq_true (rfl : n = n), Bool.or_true, decide_eq_true (by omega : n < n + 1)]
          rfl
        · rw [decide_eq_false h, Bool.or_false, show decide (i < n + 1) = decide (i < n) from decide_eq_decide.mpr (by omega)]
    · rw [b_big (by omega), decide_eq_false (by omega), decide_eq_false (by omega), Bool.false_and]
      rfl
theorem dset_congr {f g : Nat → Bool} : ∀ n, (∀ i, i < n → f i = g i) → dset f n = dset g n
  | 0, _ => rfl
  | n + 1, h => by
    show dset f n ||| _ = dset g n ||| _
    rw [dset_congr n (fun i hi => h i (by omega)), h n (by omega)]
theorem dset_eq {f : Nat → Bool} {n : Nat} {x : Int32} (hn : n ≤ 32) (h : ∀ i, i < 32 → bt x i = (decide (i < n) && f i)) : x = dset f n := b_ext fun i hi => by rw [h i hi, b_dset f n hn]
/-- no bit from n on -/
def sub (n : Nat) (x : Int32) : Prop := ∀ i, n ≤ i → bt x i = false
theorem sub_dset (f : Nat → Bool) {n : Nat} (hn : n ≤ 32) : sub n (dset f n) := fun i hi => by rw [b_dset f n hn, decide_eq_false (by omega), Bool.false_and]
theorem sub_and {n : Nat} {x : Int32} (h : sub n x) (y : Int32) : sub n (x &&& y) := fun i hi => by rw [b_and, h i hi, Bool.false_and]
theorem sub_or {n : Nat} {x y : Int32} (h : sub n x) (h2 : sub n y) : sub n (x ||| y) := fun i hi => by rw [b_or, h i hi, h2 i hi]; rfl
theorem sub_xor {n : Nat} {x y : Int32} (h : sub n x) (h2 : sub n y) : sub n (x ^^^ y) := fun i hi => by rw [b_xor, h i hi, h2 i hi]; rfl
theorem sub_0 (n : Nat) : sub n (nI 0) := fun i _ => b_0 i
theorem sub_le {n m : Nat} {x : Int32} (hm : n ≤ m) (h : sub n x) : sub m x := fun i hi => h i (by omega)
theorem b_cpl {x : Int32} {i : Nat} (hi : i < 32) : bt (x ^^^ -nI 1) i = !bt x i := by
  rw [b_xor, show bt (-nI 1) i = true from b_m1 i hi, Bool.xor_true]
/-- a set without a sign is a number -/
theorem sub_num {n : Nat} {x : Int32} (hn : n < 32) (h : sub n x) : ∃ k, k < 2 ^ n ∧ x = nI k := by
  obtain ⟨k, hk, rfl⟩ := wb_of32 x
  refine ⟨k, ?_, rfl⟩
  rcases Nat.lt_or_ge k (2 ^ n) with q | q
  · exact q
  · obtain ⟨i, hi, hb⟩ := Nat.exists_ge_and_testBit_of_ge_two_pow q
    have := h i hi
    rw [bt_tb, nI_bv hk, hb] at this
    cases this
theorem zin_of2 {x : Int32} {n : Nat} (hn : n < 2147483648) (h : zin x n = true) : ∃ j, j < n ∧ x = nI j := zin_of' hn h
