/-! tokens of patterns, their order -/
def pTl : List Nat := [0, 1, 1, 2, 1, 2, 2, 3, 1, 2, 2, 3, 2, 3, 3, 3, 1, 2, 2, 3, 2, 3, 3, 4, 2, 3, 3, 4, 3, 4, 3, 3, 1, 2, 2, 3, 2, 3, 3, 4, 2, 3, 3, 4, 3, 4, 4, 4, 2, 3, 3, 4, 3, 4, 4, 5, 3, 4, 4, 5, 3, 4, 3, 3, 1, 2, 2, 3, 2, 3, 3, 4, 2, 3, 3, 4, 3, 4, 4, 4, 2, 3, 3, 4, 3, 4, 4, 5, 3, 4, 4, 5, 4, 5, 4, 4, 2, 3, 3, 4, 3, 4, 4, 5, 3, 4, 4, 5, 4, 5, 5, 5, 3, 4, 4, 5, 4, 5, 5, 6, 3, 4, 4, 5, 3, 4, 3, 1]
def ordl : List Nat := [1, 2, 4, 8, 16, 32, 64, 127, 3, 5, 6, 9, 10, 12, 17, 18, 20, 24, 33, 34, 36, 40, 48, 65, 66, 68, 72, 80, 96, 7, 11, 13, 14, 15, 19, 21, 22, 25, 26, 28, 30, 31, 35, 37, 38, 41, 42, 44, 49, 50, 52, 56, 60, 62, 63, 67, 69, 70, 73, 74, 76, 81, 82, 84, 88, 97, 98, 100, 104, 112, 120, 124, 126, 23, 27, 29, 39, 43, 45, 46, 47, 51, 53, 54, 57, 58, 61, 71, 75, 77, 78, 79, 83, 85, 86, 89, 90, 92, 94, 95, 99, 101, 102, 105, 106, 108, 113, 114, 116, 121, 122, 125, 55, 59, 87, 91, 93, 103, 107, 109, 110, 111, 115, 117, 118, 123, 119]
def chpl : List Nat := [0, 8, 29, 73, 112, 126, 127]
def pT (P : Nat) : Nat := pTl.getD P 0
def odP (i : Nat) : Nat := ordl.getD i 0
def chp (t : Nat) : Nat := chpl.getD t 0
theorem pT_b : ∀ P, P < 128 → pT P ≤ 6 ∧ (P ≠ 0 → 1 ≤ pT P) := by decide +kernel
theorem chp_b : ∀ t, t < 7 → chp t ≤ 127 := by decide +kernel
theorem chp_6 : chp 6 = 127 := rfl
theorem odP_b : ∀ i, i < 127 → 1 ≤ odP i ∧ odP i < 128 := by decide +kernel
theorem chp_gt : ∀ t, t < 7 → ∀ i, i < 127 → chp t ≤ i → t < pT (odP i) := by decide +kernel
theorem ordl_len : ordl.length = 127 := by decide +kernel
theorem ordl_perm : ordl.Perm pats := by
  apply List.isPerm_iff.mp
  decide +kernel
theorem pats_mem {P : Nat} : P ∈ pats ↔ 1 ≤ P ∧ P < 128 := by
  unfold pats
  rw [List.mem_map]
  constructor
  · rintro ⟨a, h1, rfl⟩
    have := List.mem_range.mp h1
    omega
  · rintro ⟨h1, h2⟩
    exact ⟨P - 1, List.mem_range.mpr (by omega), by omega⟩
/-! counting over a range of days -/
theorem cnt_split (g : Nat → Bool) (a : Nat) : ∀ b, cnt g (a + b) = cnt g a + cnt (fun i => g (a + i)) b
  | 0 => rfl
  | b + 1 => by
    show cnt g (a + b) + (g (a + b)).toNat = cnt g a + (cnt (fun i => g (a + i)) b + (g (a + b)).toNat)
    rw [cnt_split g a b]
    omega
theorem cnt_0 {f : Nat → Bool} : ∀ n, (∀ i, i < n → f i = false) → cnt f n = 0
  | 0, _ => rfl
  | n + 1, h => by
    show cnt f n + (f n).toNat = 0
    rw [cnt_0 n (fun i hi => h i (by omega)), h n (by omega)]
    rfl
theorem cnt_range {g f : Nat → Bool} {a m n : Nat} (h : a + m ≤ n) (hg : ∀ i, i < n → g i = (decide (a ≤ i) && decide (i < a + m) && f i)) : cnt g n = cnt (fun j => f (a + j)) m := by
  obtain ⟨r, rfl⟩ : ∃ r, n = a + m + r := ⟨n - (a + m), by omega⟩
  rw [cnt_split g (a + m) r, cnt_split g a m]
  rw [cnt_0 a (fun i hi => by rw [hg i (by omega), decide_eq_false (by omega)]; rfl)]
  rw [cnt_0 r (fun i hi => by
    show g (a + m + i) = false
    rw [hg _ (by omega), decide_eq_false (show ¬ a + m + i < a + m by omega), Bool.and_false]; rfl)]
  rw [cnt_congr (g := fun j => f (a + j)) m (fun i hi => by
    show g (a + i) = f (a + i)
    rw [hg _ (by omega), decide_eq_true (show a ≤ a + i by omega), decide_eq_true (show a + i < a + m by omega)]; rfl)]
  omega
theorem pop_range {x : Int32} {f : Nat → Bool} {a m : Nat} (h : a + m ≤ 32) (hx : ∀ i, i < 32 → bt x i = (decide (a ≤ i) && decide (i < a + m) && f i)) : pop x = cnt (fun j => f (a + j)) m := by
  rw [pop_cnt]
  exact cnt_range h hx
theorem cnt_pos {f : Nat → Bool} {i : Nat} : ∀ n, i < n → f i = true → 0 < cnt f n
  | 0, h, _ => by omega
  | n + 1, h, hf => by
    show 0 < cnt f n + (f n).toNat
    by_cases q : i = n
    · rw [← q, hf]
      exact Nat.succ_pos _
    · have := cnt_pos n (show i < n by omega) hf
      omega
theorem pop_zero {x : Int32} : (x = nI 0) = (pop x = 0) := by
  apply propext
  constructor
  · intro h
    rw [h, pop_cnt]
    exact cnt_0 32 (fun i _ => b_0 i)
  · intro h
    apply b_ext
    intro i hi
    rw [show bt (nI 0) i = false from b_0 i]
    cases hb : bt x i with
    | false => rfl
    | true =>
      rw [pop_cnt] at h
      have := cnt_pos (f := bt x) 32 hi hb
      omega
/-- the days from a on, below b -/
theorem b_rng {a b : Nat} (hab : a ≤ b) (hb : b ≤ 30) (i : Nat) : bt (nI (2 ^ b - 2 ^ a)) i = (decide (a ≤ i) && decide (i < b)) := by
  have h1 : 2 ^ b ≤ 2 ^ 30 := Nat.pow_le_pow_right (by decide) hb
  have h2 : 2 ^ b - 2 ^ a ≤ 2 ^ b := Nat.sub_le _ _
  rw [bt_nI (Nat.lt_of_le_of_lt (Nat.le_trans h2 h1) (by decide))]
  have e : 2 ^ b - 2 ^ a = 2 ^ a * (2 ^ (b - a) - 1) := by
    rw [Nat.mul_sub, ← Nat.pow_add, Nat.mul_one, show a + (b - a) = b by omega]
  rw [e, Nat.testBit_two_pow_mul, Nat.testBit_two_pow_sub_one]
  by_cases h : a ≤ i
  · rw [decide_eq_true h]
    congr 1
    exact decide_eq_decide.mpr (by omega)
  · rw [decide_eq_false h]
    rfl
theorem q_rng {a b : Nat} (hab : a ≤ b) (hb : b ≤ 30) : nI (2 ^ b) - nI (2 ^ a) = nI (2 ^ b - 2 ^ a) := pk_sub (Nat.pow_le_pow_right (by decide) hab)
/-! a choice: days to be told T, days that no span shows H, days to be told that no feast has W -/
def outF (w : Nat) (T H : Int32) (P x : Nat) : Bool := P.testBit ((w + x) % 7) && !bt H x && !bt T x
def morF (w : Nat) (H W : Int32) (P x : Nat) : Bool := bt W x && !(P.testBit ((w + x) % 7) && !bt H x)
def ocF (w : Nat) (T H : Int32) (d i P : Nat) : Nat := cnt (fun j => outF w T H P (d + j)) (i + 1)
def mcF (w : Nat) (H W : Int32) (d i P : Nat) : Nat := cnt (fun j => morF w H W P (d + j)) (i + 1)
def enF (N d i : Nat) : Nat := (if 0 < d then 2 else 0) + (if d + i + 1 < N then 2 else 0)
def csF (N w : Nat) (T H W : Int32) (d i P : Nat) : Nat := pT P + enF N d i + ocF w T H d i P + mcF w H W d i P
def foF (w : Nat) (T H : Int32) (d i P : Nat) : Bool := decide (0 < ocF w T H d i P)
def fmF (w : Nat) (H W : Int32) (d i P : Nat) : Bool := decide (0 < mcF w H W d i P)
/-- wanted days are days to be told -/
def WT (T W : Int32) : Prop := ∀ i, bt W i = true → bt T i = true
theorem cnt_add_le {f g : Nat → Bool} : ∀ n, (∀ i, i < n → f i = true → g i = true → False) → cnt f n + cnt g n ≤ n
  | 0, _ => Nat.le_refl 0
  | n + 1, h => by
    have ih := cnt_add_le (f := f) (g := g) n (fun i hi => h i (by omega))
    have hn := h n (by omega)
    show cnt f n + (f n).toNat + (cnt g n + (g n).toNat) ≤ n + 1
    cases hf : f n <;> cases hg : g n
    · simp only [Bool.toNat_false]
      omega
    · simp only [Bool.toNat_false, Bool.toNat_true]
      omega
    · simp only [Bool.toNat_false, Bool.toNat_true]
      omega
    · exact absurd (hn hf hg) id
theorem ocmc_le {w : Nat} {T H W : Int32} (hw : WT T W) (d i P : Nat) : ocF w T H d i P + mcF w H W d i P ≤ i + 1 := by
  refine cnt_add_le (i + 1) (fun j _ h1 h2 => ?_)
  unfold outF at h1
  unfold morF at h2
  rw [Bool.and_eq_true, Bool.and_eq_true] at h1
  rw [Bool.and_eq_true] at h2
  rw [hw _ h2.1] at h1
  exact absurd h1.2 (by decide)
theorem csF_le {N w : Nat} {T H W : Int32} (hw : WT T W) (d i P : Nat) (hP : P ∈ pats) (_ : d + i < N) : csF N w T H W d i P ≤ 11 * (i + 1) := by
  have h1 := ocmc_le hw d i P (w := w) (H := H)
  have h2 := (pT_b P (pats_mem.mp hP).2).1
  unfold csF enF
  split <;> split <;> omega
/-! weekday by weekday -/
def s7 (f : Nat → Nat) : Nat := f 0 + f 1 + f 2 + f 3 + f 4 + f 5 + f 6
theorem s7_upd {f g : Nat → Nat} {j : Nat} (hj : j < 7) (h : ∀ i, i ≠ j → f i = g i) : s7 f + g j = s7 g + f j := by
  have h7 : j = 0 ∨ j = 1 ∨ j = 2 ∨ j = 3 ∨ j = 4 ∨ j = 5 ∨ j = 6 := by omega
  have e0 := h 0
  have e1 := h 1
  have e2 := h 2
  have e3 := h 3
  have e4 := h 4
  have e5 := h 5
  have e6 := h 6
  unfold s7
  rcases h7 with rfl | rfl | rfl | rfl | rfl | rfl | rfl <;> omega
theorem s7_le {f g : Nat → Nat} (h : ∀ i, f i ≤ g i) : s7 f ≤ s7 g := by
  have e0 := h 0
  have e1 := h 1
  have e2 := h 2
  have e3 := h 3
  have e4 := h 4
  have e5 := h 5
  have e6 := h 6
  unfold s7
  omega
/-- days of weekday j that cost 1 without it in the pattern, with it -/
def waF (w : Nat) (W : Int32) (d m j : Nat) : Nat := cnt (fun i => bt W (d + i) && decide ((w + (d + i)) % 7 = j)) m
def wbF (w : Nat) (T H W : Int32) (d m j : Nat) : Nat := cnt (fun i => ((!bt H (d + i) && !bt T (d + i)) || (bt H (d + i) && bt W (d + i))) && decide ((w + (d + i)) % 7 = j)) m
def loF (w : Nat) (T H W : Int32) (d m : Nat) : Nat := s7 (fun j => min (waF w W d m j) (wbF w T H W d m j))
theorem cost7 {w : Nat} {T H W : Int32} (hw : WT T W) (d P : Nat) : ∀ m, cnt (fun j => outF w T H P (d + j)) m + cnt (fun j => morF w H W P (d + j)) m = s7 (fun j => cond (P.testBit j) (wbF w T H W d m j) (waF w W d m j))
  | 0 => by
    unfold s7 wbF waF
    simp only [cnt, Bool.cond_self]
  | m + 1 => by
    have ih := cost7 (w := w) (H := H) hw d P m
    have hj : (w + (d + m)) % 7 < 7 := Nat.mod_lt _ (by decide)
    have hu := s7_upd (f := fun j => cond (P.testBit j) (wbF w T H W d (m + 1) j) (waF w W d (m + 1) j)) (g := fun j => cond (P.testBit j) (wbF w T H W d m j) (waF w W d m j)) hj (fun i hi => by
      have e1 : wbF w T H W d (m + 1) i = wbF w T H W d m i := by
        show _ + ((_ : Bool) && decide ((w + (d + m)) % 7 = i)).toNat = _
        rw [decide_eq_false (fun q => hi q.symm), Bool.and_false]
        rfl
      have e2 : waF w W d (m + 1) i = waF w W d m i := by
        show _ + ((_ : Bool) && decide ((w + (d + m)) % 7 = i)).toNat = _
        rw [decide_eq_false (fun q => hi q.symm), Bool.and_false]
        rfl
      show cond _ _ _ = cond _ _ _
      rw [e1, e2])
    have a1 : wbF w T H W d (m + 1) ((w + (d + m)) % 7) = wbF w T H W d m ((w + (d + m)) % 7) + ((!bt H (d + m) && !bt T (d + m)) || (bt H (d + m) && bt W (d + m))).toNat := by
      show _ + ((_ : Bool) && decide ((w + (d + m)) % 7 = (w + (d + m)) % 7)).toNat = _
      rw [decide_eq_true rfl, Bool.and_true]
      rfl
    have a2 : waF w W d (m + 1) ((w + (d + m)) % 7) = waF w W d m ((w + (d + m)) % 7) + (bt W (d + m)).toNat := by
      show _ + ((_ : Bool) && decide ((w + (d + m)) % 7 = (w + (d + m)) % 7)).toNat = _
      rw [decide_eq_true rfl, Bool.and_true]
      rfl
    have a3 : cnt (fun j => outF w T H P (d + j)) (m + 1) = cnt (fun j => outF w T H P (d + j)) m + (outF w T H P (d + m)).toNat := rfl
    have a4 : cnt (fun j => morF w H W P (d + j)) (m + 1) = cnt (fun j => morF w H W P (d + j)) m + (morF w H W P (d + m)).toNat := rfl
    rw [a3, a4]
    have hwt := hw (d + m)
    have o1 : outF w T H P (d + m) = (P.testBit ((w + (d + m)) % 7) && !bt H (d + m) && !bt T (d + m)) := rfl
    have o2 : morF w H W P (d + m) = (bt W (d + m) && !(P.testBit ((w + (d + m)) % 7) && !bt H (d + m))) := rfl
    rw [o1, o2]
    rw [a1, a2] at hu
    cases hp : P.testBit ((w + (d + m)) % 7) <;> rw [hp] at hu <;> simp only [cond_true, cond_false] at hu <;> cases h1 : bt H (d + m) <;> cases h2 : bt T (d + m) <;> cases h3 : bt W (d + m) <;> simp only [h1, h2, h3, hp, Bool.not_true, Bool.not_false, Bool.true_and, Bool.and_true, Bool.false_and, Bool.and_false, Bool.or_false, Bool.or_true, Bool.toNat_true, Bool.toNat_false] at hu hwt ⊢ <;> first | omega | (exact absurd (hwt rfl) (by decide))
theorem lo_le {w : Nat} {T H W : Int32} (hw : WT T W) (d i P : Nat) : loF w T H W d (i + 1) ≤ ocF w T H d i P + mcF w H W d i P := by
  unfold ocF mcF
  rw [cost7 hw d P (i + 1)]
  refine s7_le (fun j => ?_)
  cases P.testBit j
  · exact Nat.min_le_left _ _
  · exact Nat.min_le_right _ _
