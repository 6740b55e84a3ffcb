/-! counting bits -/
def cntN (n : Nat) : Nat → Nat
  | 0 => 0
  | k + 1 => cntN n k + (n.testBit k).toNat
theorem cntN_split (n a : Nat) : ∀ b, cntN n (a + b) = cntN n a + cntN (n / 2 ^ a) b
  | 0 => rfl
  | b + 1 => by
    show cntN n (a + b) + (n.testBit (a + b)).toNat = cntN n a + (cntN (n / 2 ^ a) b + ((n / 2 ^ a).testBit b).toNat)
    rw [cntN_split n a b, Nat.testBit_div_two_pow, Nat.add_comm b a, Nat.add_assoc]
theorem cntN_mod (n a : Nat) : ∀ b, b ≤ a → cntN (n % 2 ^ a) b = cntN n b
  | 0, _ => rfl
  | b + 1, h => by
    show cntN (n % 2 ^ a) b + ((n % 2 ^ a).testBit b).toNat = cntN n b + (n.testBit b).toNat
    rw [cntN_mod n a b (by omega), Nat.testBit_mod_two_pow, decide_eq_true (show b < a by omega), Bool.true_and]
theorem cntN_le (n : Nat) : ∀ b, cntN n b ≤ b
  | 0 => Nat.le_refl 0
  | b + 1 => by
    have := cntN_le n b
    have h2 : (n.testBit b).toNat ≤ 1 := Bool.toNat_le _
    show cntN n b + _ ≤ b + 1
    omega
/-- how many bits of x are set -/
def pop (x : Int32) : Nat := cntN x.toBitVec.toNat 32
theorem and_byte (x0 x m0 m : Nat) (hx : x0 < 256) (hm : m0 < 256) : (x0 + 256 * x) &&& (m0 + 256 * m) = (x0 &&& m0) + 256 * (x &&& m) := by
  have h1 : ((x0 + 256 * x) &&& (m0 + 256 * m)) % 2 ^ 8 = x0 &&& m0 := by
    rw [Nat.and_mod_two_pow, show (x0 + 256 * x) % 2 ^ 8 = x0 by omega, show (m0 + 256 * m) % 2 ^ 8 = m0 by omega]
  have h2 : ((x0 + 256 * x) &&& (m0 + 256 * m)) / 2 ^ 8 = x &&& m := by
    rw [Nat.and_div_two_pow, show (x0 + 256 * x) / 2 ^ 8 = x by omega, show (m0 + 256 * m) / 2 ^ 8 = m by omega]
  have h3 := Nat.mod_add_div ((x0 + 256 * x) &&& (m0 + 256 * m)) (2 ^ 8)
  rw [h1, h2] at h3
  omega
theorem and_word (x0 x1 x2 x3 m0 m1 m2 m3 : Nat) (h0 : x0 < 256) (h1 : x1 < 256) (h2 : x2 < 256) (g0 : m0 < 256) (g1 : m1 < 256) (g2 : m2 < 256) : (x0 + 256 * (x1 + 256 * (x2 + 256 * x3))) &&& (m0 + 256 * (m1 + 256 * (m2 + 256 * m3))) = (x0 &&& m0) + 256 * ((x1 &&& m1) + 256 * ((x2 &&& m2) + 256 * (x3 &&& m3))) := by
  rw [and_byte _ _ _ _ h0 g0, and_byte _ _ _ _ h1 g1, and_byte _ _ _ _ h2 g2]
/-- the three steps of bitCount on a byte -/
def bc1 (x : Nat) : Nat := x - ((x / 2) &&& 85)
def bc2 (x : Nat) : Nat := (x &&& 51) + ((x / 4) &&& 51)
def bc3 (x : Nat) : Nat := (x + x / 16) &&& 15
theorem bc_ok : ∀ x, x < 256 → ((x / 2) &&& 85 ≤ x ∧ bc1 x < 256 ∧ bc2 (bc1 x) < 69 ∧ bc2 (bc1 x) % 16 < 5 ∧ bc3 (bc2 (bc1 x)) = cntN x 8) := by decide +kernel
theorem bc_half : ∀ x, x < 256 → ∀ c, c < 2 → ((x / 2 + 128 * c) &&& 85 = (x / 2) &&& 85) := by decide +kernel
theorem bc_quar : ∀ x, x < 256 → ∀ c, c < 4 → ((x / 4 + 64 * c) &&& 51 = (x / 4) &&& 51) := by decide +kernel
theorem bc_nib : ∀ x, x < 136 → x &&& 15 = x % 16 := by decide +kernel
def wd4 (a b c d : Nat) : Nat := a + 256 * (b + 256 * (c + 256 * d))
theorem wd4_of {n : Nat} (hn : n < 4294967296) : ∃ a b c d, a < 256 ∧ b < 256 ∧ c < 256 ∧ d < 256 ∧ n = wd4 a b c d :=
  ⟨n % 256, n / 256 % 256, n / 65536 % 256, n / 16777216, by omega, by omega, by omega, by omega, by unfold wd4; omega⟩
theorem sw_1 {a b c d : Nat} (ha : a < 256) (hb : b < 256) (hc : c < 256) (hd : d < 256) : ((wd4 a b c d) / 2) &&& 1431655765 ≤ wd4 a b c d ∧ wd4 a b c d - (((wd4 a b c d) / 2) &&& 1431655765) = wd4 (bc1 a) (bc1 b) (bc1 c) (bc1 d) := by
  have e : wd4 a b c d / 2 = wd4 (a / 2 + 128 * (b % 2)) (b / 2 + 128 * (c % 2)) (c / 2 + 128 * (d % 2)) (d / 2) := by unfold wd4; omega
  have m : (1431655765 : Nat) = wd4 85 85 85 85 := by decide
  have h : ((wd4 a b c d) / 2) &&& 1431655765 = wd4 ((a / 2) &&& 85) ((b / 2) &&& 85) ((c / 2) &&& 85) ((d / 2) &&& 85) := by
    rw [e, m]
    unfold wd4
    rw [and_word _ _ _ _ _ _ _ _ (by omega) (by omega) (by omega) (by omega) (by omega) (by omega), bc_half a ha _ (by omega), bc_half b hb _ (by omega), bc_half c hc _ (by omega)]
  obtain ⟨qa, -⟩ := bc_ok a ha
  obtain ⟨qb, -⟩ := bc_ok b hb
  obtain ⟨qc, -⟩ := bc_ok c hc
  obtain ⟨qd, -⟩ := bc_ok d hd
  rw [h]
  unfold wd4 bc1
  constructor
  · omega
  · omega
theorem sw_2 {a b c d : Nat} (ha : a < 256) (hb : b < 256) (hc : c < 256) (hd : d < 256) : (wd4 a b c d &&& 858993459) + (((wd4 a b c d) / 4) &&& 858993459) = wd4 (bc2 a) (bc2 b) (bc2 c) (bc2 d) := by
  have e : wd4 a b c d / 4 = wd4 (a / 4 + 64 * (b % 4)) (b / 4 + 64 * (c % 4)) (c / 4 + 64 * (d % 4)) (d / 4) := by unfold wd4; omega
  have m : (858993459 : Nat) = wd4 51 51 51 51 := by decide
  have h : ((wd4 a b c d) / 4) &&& 858993459 = wd4 ((a / 4) &&& 51) ((b / 4) &&& 51) ((c / 4) &&& 51) ((d / 4) &&& 51) := by
    rw [e, m]
    unfold wd4
    rw [and_word _ _ _ _ _ _ _ _ (by omega) (by omega) (by omega) (by omega) (by omega) (by omega), bc_quar a ha _ (by omega), bc_quar b hb _ (by omega), bc_quar c hc _ (by omega)]
  have h2 : wd4 a b c d &&& 858993459 = wd4 (a &&& 51) (b &&& 51) (c &&& 51) (d &&& 51) := by
    rw [m]
    unfold wd4
    rw [and_word _ _ _ _ _ _ _ _ (by omega) (by omega) (by omega) (by omega) (by omega) (by omega)]
  rw [h, h2]
  unfold wd4 bc2
  omega
theorem sw_3 {a b c d : Nat} (ha : a < 69) (hb : b < 69) (hc : c < 69) (hd : d < 69) (ga : a % 16 < 5) (gb : b % 16 < 5) (gc : c % 16 < 5) (gd : d % 16 < 5) : wd4 a b c d + wd4 a b c d / 16 < 4294967296 ∧ (wd4 a b c d + wd4 a b c d / 16) &&& 252645135 = wd4 (bc3 a) (bc3 b) (bc3 c) (bc3 d) := by
  have e : wd4 a b c d + wd4 a b c d / 16 = wd4 (a + a / 16 + 16 * (b % 16)) (b + b / 16 + 16 * (c % 16)) (c + c / 16 + 16 * (d % 16)) (d + d / 16) := by unfold wd4; omega
  have m : (252645135 : Nat) = wd4 15 15 15 15 := by decide
  have q : ∀ x, x < 69 → ∀ y, y < 5 → (x + x / 16 + 16 * y) &&& 15 = bc3 x := by decide +kernel
  rw [e, m]
  refine ⟨by unfold wd4; omega, ?_⟩
  unfold wd4
  rw [and_word _ _ _ _ _ _ _ _ (by omega) (by omega) (by omega) (by omega) (by omega) (by omega), q a ha _ gb, q b hb _ gc, q c hc _ gd]
  rfl
theorem cntN_4 {a b c d : Nat} (ha : a < 256) (hb : b < 256) (hc : c < 256) (hd : d < 256) : cntN (wd4 a b c d) 32 = cntN a 8 + cntN b 8 + cntN c 8 + cntN d 8 := by
  have s1 := cntN_split (wd4 a b c d) 8 24
  have s2 := cntN_split (wd4 a b c d / 2 ^ 8) 8 16
  have s3 := cntN_split (wd4 a b c d / 2 ^ 8 / 2 ^ 8) 8 8
  have e1 : wd4 a b c d / 2 ^ 8 = b + 256 * (c + 256 * d) := by unfold wd4; omega
  have e2 : (b + 256 * (c + 256 * d)) / 2 ^ 8 = c + 256 * d := by omega
  have e3 : (c + 256 * d) / 2 ^ 8 = d := by omega
  rw [e1] at s1 s2 s3
  rw [e2] at s2 s3
  rw [e3] at s3
  have t1 : cntN (wd4 a b c d) 8 = cntN a 8 := by
    rw [← cntN_mod (wd4 a b c d) 8 8 (Nat.le_refl 8)]
    congr 1
    unfold wd4
    omega
  have t2 : cntN (b + 256 * (c + 256 * d)) 8 = cntN b 8 := by
    rw [← cntN_mod _ 8 8 (Nat.le_refl 8)]
    congr 1
    omega
  have t3 : cntN (c + 256 * d) 8 = cntN c 8 := by
    rw [← cntN_mod _ 8 8 (Nat.le_refl 8)]
    congr 1
    omega
  rw [t1] at s1
  rw [t2] at s2
  rw [t3] at s3
  have s1 : cntN (wd4 a b c d) 32 = _ := s1
  have s2 : cntN (b + 256 * (c + 256 * d)) 24 = _ := s2
  have s3 : cntN (c + 256 * d) 16 = _ := s3
  rw [s1, s2, s3]
  omega
theorem wd4_sum {p q r s : Nat} (hp : p ≤ 8) (hq : q ≤ 8) (hr : r ≤ 8) (hs : s ≤ 8) : (wd4 p q r s + wd4 p q r s / 256 + (wd4 p q r s + wd4 p q r s / 256) / 2 ^ 16) % 2 ^ 6 = p + q + r + s := by
  have e1 : wd4 p q r s / 256 = q + 256 * (r + 256 * s) := by unfold wd4; omega
  have e2 : wd4 p q r s + wd4 p q r s / 256 = p + q + 256 * (q + r) + 65536 * (r + s + 256 * s) := by rw [e1]; unfold wd4; omega
  have e3 : (wd4 p q r s + wd4 p q r s / 256) / 2 ^ 16 = r + s + 256 * s := by rw [e2]; omega
  rw [e3, e2]
  omega
theorem zushr_nI {n : Nat} (hn : n < 4294967296) (s : Int32) (k : Nat) (hs : ((s.toUInt32 &&& Int32.toUInt32 31).toBitVec % 32).toNat = k) : zushr (nI n) s = nI (n / 2 ^ k) := pk_ushrN hn s k hs
theorem nI_bv {n : Nat} (h : n < 4294967296) : (nI n).toBitVec.toNat = n := pk_tn h
/-- Integer.bitCount -/
theorem j_bitCount (h : zH) (x : Int32) : zcall zZ nJ6_bitCount_0f7a4 [.int x] h = some (some (.int (nI (pop x))), h) := by
  obtain ⟨n, hn, rfl⟩ := wb_of32 x
  have hp : pop (nI n) = cntN n 32 := by unfold pop; rw [nI_bv hn]
  rw [hp, c_J6_bitCount_0f7a4, e_J6_bitCount_0f7a4_0, e_J6_bitCount_0f7a4_34]
  obtain ⟨a, b, c, d, ha, hb, hc, hd, rfl⟩ := wd4_of hn
  obtain ⟨a1, a2⟩ := sw_1 ha hb hc hd
  obtain ⟨-, pa1, pa2, pa3, pa4⟩ := bc_ok a ha
  obtain ⟨-, pb1, pb2, pb3, pb4⟩ := bc_ok b hb
  obtain ⟨-, pc1, pc2, pc3, pc4⟩ := bc_ok c hc
  obtain ⟨-, pd1, pd2, pd3, pd4⟩ := bc_ok d hd
  have b1 := sw_2 pa1 pb1 pc1 pd1
  obtain ⟨c0, c1⟩ := sw_3 pa2 pb2 pc2 pd2 pa3 pb3 pc3 pd3
  have k1 : (1431655765 : Int32) = nI 1431655765 := by decide +kernel
  have k2 : (858993459 : Int32) = nI 858993459 := by decide +kernel
  have k3 : (252645135 : Int32) = nI 252645135 := by decide +kernel
  have k4 : (63 : Int32) = nI 63 := by decide +kernel
  have l1 : wd4 (bc1 a) (bc1 b) (bc1 c) (bc1 d) < 4294967296 := by unfold wd4; omega
  have l2 : wd4 (bc2 (bc1 a)) (bc2 (bc1 b)) (bc2 (bc1 c)) (bc2 (bc1 d)) < 4294967296 := by unfold wd4; omega
  have q8 : ∀ x, cntN x 8 ≤ 8 := fun x => cntN_le x 8
  have r1 : nI (wd4 a b c d) - (zushr (nI (wd4 a b c d)) 1 &&& 1431655765) = nI (wd4 (bc1 a) (bc1 b) (bc1 c) (bc1 d)) := by
    rw [zushr_nI hn 1 1 (by decide +kernel), k1, nx_and, show (2 : Nat) ^ 1 = 2 from rfl, pk_sub a1, a2]
  rw [r1]
  have r2 : (nI (wd4 (bc1 a) (bc1 b) (bc1 c) (bc1 d)) &&& 858993459) + (zushr (nI (wd4 (bc1 a) (bc1 b) (bc1 c) (bc1 d))) 2 &&& 858993459) = nI (wd4 (bc2 (bc1 a)) (bc2 (bc1 b)) (bc2 (bc1 c)) (bc2 (bc1 d))) := by
    rw [zushr_nI l1 2 2 (by decide +kernel), k2, nx_and, nx_and, show (2 : Nat) ^ 2 = 4 from rfl, nI_add, b1]
  rw [r2]
  have r3 : (nI (wd4 (bc2 (bc1 a)) (bc2 (bc1 b)) (bc2 (bc1 c)) (bc2 (bc1 d))) + zushr (nI (wd4 (bc2 (bc1 a)) (bc2 (bc1 b)) (bc2 (bc1 c)) (bc2 (bc1 d)))) 4) &&& 252645135 = nI (wd4 (cntN a 8) (cntN b 8) (cntN c 8) (cntN d 8)) := by
    rw [zushr_nI l2 4 4 (by decide +kernel), k3, nI_add, nx_and, show (2 : Nat) ^ 4 = 16 from rfl, c1, pa4, pb4, pc4, pd4]
  rw [r3]
  have ua := q8 a
  have ub := q8 b
  have uc := q8 c
  have ud := q8 d
  have l3 : wd4 (cntN a 8) (cntN b 8) (cntN c 8) (cntN d 8) < 4294967296 := by unfold wd4; omega
  have l4 : wd4 (cntN a 8) (cntN b 8) (cntN c 8) (cntN d 8) + wd4 (cntN a 8) (cntN b 8) (cntN c 8) (cntN d 8) / 256 < 4294967296 := by unfold wd4; omega
  have r4 : nI (wd4 (cntN a 8) (cntN b 8) (cntN c 8) (cntN d 8)) + zushr (nI (wd4 (cntN a 8) (cntN b 8) (cntN c 8) (cntN d 8))) 8 = nI (wd4 (cntN a 8) (cntN b 8) (cntN c 8) (cntN d 8) + wd4 (cntN a 8) (cntN b 8) (cntN c 8) (cntN d 8) / 256) := by
    rw [zushr_nI l3 8 8 (by decide +kernel), nI_add]
  rw [r4, zushr_nI l4 16 16 (by decide +kernel), nI_add, k4, nx_and, show (63 : Nat) = 2 ^ 6 - 1 from rfl, Nat.and_two_pow_sub_one_eq_mod, cntN_4 ha hb hc hd]
  have r5 := wd4_sum ua ub uc ud
  rw [r5]
  rfl
theorem j_max (h : zH) (x y : Int32) : zcall zZ nJ9_max_7cf53 [.int x, .int y] h = some (some (.int (if x < y then y else x)), h) := by
  rw [c_J9_max_7cf53, e_J9_max_7cf53_0]
  by_cases q : x < y
  · rw [decide_eq_true q, if_pos q, cond_true, e_J9_max_7cf53_10]
    rfl
  · rw [decide_eq_false q, if_neg q, cond_false, e_J9_max_7cf53_10]
    rfl
theorem j_min (h : zH) (x y : Int32) : zcall zZ nJ9_min_7cf53 [.int x, .int y] h = some (some (.int (if y < x then y else x)), h) := by
  rw [c_J9_min_7cf53, e_J9_min_7cf53_0]
  by_cases q : y < x
  · rw [decide_eq_true q, if_pos q, cond_true, e_J9_min_7cf53_10]
    rfl
  · rw [decide_eq_false q, if_neg q, cond_false, e_J9_min_7cf53_10]
    rfl
theorem j_minL (h : zH) (x y : Int64) : zcall zZ nJ9_min_f86c9 [.long x, .long y] h = some (some (.long (if y < x then y else x)), h) := by
  rw [c_J9_min_f86c9, e_J9_min_f86c9_0]
  by_cases q : y < x
  · rw [decide_eq_true ((lg_cmp_gt x y).mpr q), if_pos q, cond_true, e_J9_min_f86c9_11]
    rfl
  · rw [decide_eq_false (fun z => q ((lg_cmp_gt x y).mp z)), if_neg q, cond_false, e_J9_min_f86c9_11]
    rfl
/-! Integer.numberOfTrailingZeros -/
def nz74 (x y : Int32) : Int32 := y + zushr x 1
def nz62 (x y : Int32) : Int32 := cond (!decide ((4 : Int32) < x)) (nz74 x y) (nz74 (zushr x 2) (y + 2))
def nz49 (x y : Int32) : Int32 := cond (!decide ((16 : Int32) < x)) (nz62 x y) (nz62 (zushr x 4) (y + 4))
def nz34 (x y : Int32) : Int32 := cond (!decide ((256 : Int32) < x)) (nz49 x y) (nz49 (zushr x 8) (y + 8))
def nz0 (x : Int32) : Int32 := cond (decide ((0 : Int32) < x)) (cond (!decide ((65536 : Int32) < x)) (nz34 x 1) (nz34 (zushr x 16) 17)) (x &&& 32)
theorem nz74_ok (h : zH) (x y : Int32) : zrun zZ kJ6_numberOfTrailingZeros_0f7a4 (74, [some (.int x), some (.int y)], [], h, 0, 0) = some (some (.int (nz74 x y)), h, 0, 0) := e_J6_numberOfTrailingZeros_0f7a4_74 h x y
theorem nz62_ok (h : zH) (x y : Int32) : zrun zZ kJ6_numberOfTrailingZeros_0f7a4 (62, [some (.int x), some (.int y)], [], h, 0, 0) = some (some (.int (nz62 x y)), h, 0, 0) := by
  rw [e_J6_numberOfTrailingZeros_0f7a4_62, nz74_ok, nz74_ok]
  unfold nz62
  cases (!decide ((4 : Int32) < x)) <;> rfl
theorem nz49_ok (h : zH) (x y : Int32) : zrun zZ kJ6_numberOfTrailingZeros_0f7a4 (49, [some (.int x), some (.int y)], [], h, 0, 0) = some (some (.int (nz49 x y)), h, 0, 0) := by
  rw [e_J6_numberOfTrailingZeros_0f7a4_49, nz62_ok, nz62_ok]
  unfold nz49
  cases (!decide ((16 : Int32) < x)) <;> rfl
theorem nz34_ok (h : zH) (x y : Int32) : zrun zZ kJ6_numberOfTrailingZeros_0f7a4 (34, [some (.int x), some (.int y)], [], h, 0, 0) = some (some (.int (nz34 x y)), h, 0, 0) := by
  rw [e_J6_numberOfTrailingZeros_0f7a4_34, nz49_ok, nz49_ok]
  unfold nz34
  cases (!decide ((256 : Int32) < x)) <;> rfl
theorem nz0_ok (h : zH) (x : Int32) : zcall zZ nJ6_numberOfTrailingZeros_0f7a4 [.int x] h = some (some (.int (nz0 ((x ^^^ (-1 : Int32)) &&& (x - (1 : Int32))))), h) := by
  rw [c_J6_numberOfTrailingZeros_0f7a4, e_J6_numberOfTrailingZeros_0f7a4_0, nz34_ok, nz34_ok]
  unfold nz0
  cases decide ((0 : Int32) < (x ^^^ (-1 : Int32)) &&& (x - (1 : Int32)))
  · rfl
  · cases (!decide ((65536 : Int32) < (x ^^^ (-1 : Int32)) &&& (x - (1 : Int32)))) <;> rfl
theorem nz_all : ∀ t, t < 32 → nz0 (nI (2 ^ t - 1)) = nI t := by decide +kernel
theorem nz_low {n t : Nat} (hn : n < 4294967296) (ht : t < 32) (hb : n.testBit t = true) (hl : ∀ i, i < t → n.testBit i = false) : (nI n ^^^ (-1 : Int32)) &&& (nI n - (1 : Int32)) = nI (2 ^ t - 1) := by
  have h0 : n % 2 ^ t = 0 := by
    apply Nat.eq_of_testBit_eq
    intro i
    rw [Nat.testBit_mod_two_pow, Nat.zero_testBit]
    by_cases h : i < t
    · rw [hl i h, Bool.and_false]
    · rw [decide_eq_false h, Bool.false_and]
  obtain ⟨m, hm⟩ : ∃ m, n = 2 ^ t * m := ⟨n / 2 ^ t, by have := Nat.div_add_mod n (2 ^ t); omega⟩
  have hodd : m.testBit 0 = true := by
    have := hb
    rw [hm, Nat.testBit_two_pow_mul] at this
    rw [decide_eq_true (Nat.le_refl t), Bool.true_and, Nat.sub_self] at this
    exact this
  have hm1 : m % 2 = 1 := by
    rw [Nat.testBit_zero] at hodd
    exact of_decide_eq_true hodd
  have hp : 0 < 2 ^ t := Nat.two_pow_pos t
  have e1 : n - 1 = 2 ^ t * (m - 1) + (2 ^ t - 1) := by
    obtain ⟨q, rfl⟩ : ∃ q, m = q + 1 := ⟨m - 1, by omega⟩
    rw [hm, Nat.mul_succ, Nat.add_sub_cancel]
    omega
  have hn1 : 1 ≤ n := by
    rcases Nat.eq_zero_or_pos n with q | q
    · rw [q, Nat.zero_testBit] at hb; cases hb
    · exact q
  rw [show (1 : Int32) = nI 1 from rfl, pk_sub hn1, e1]
  apply b_ext
  intro i hi
  rw [b_and, b_xor, show bt (-nI 1) i = true from b_m1 i hi]
  have g : ∀ k, k < 4294967296 → bt (nI k) i = k.testBit i := fun k hk => by
    show (nI k).toBitVec.toNat.testBit i = _
    rw [nI_bv hk]
  have l1 : 2 ^ t * (m - 1) + (2 ^ t - 1) < 4294967296 := by omega
  have l2 : 2 ^ t - 1 < 4294967296 := by
    have : 2 ^ t ≤ 2 ^ 31 := Nat.pow_le_pow_right (by decide) (by omega)
    omega
  rw [g n hn, g _ l1, g _ l2, Nat.testBit_two_pow_mul_add _ (by omega), Nat.testBit_two_pow_sub_one]
  by_cases h : i < t
  · rw [if_pos h, hl i h, decide_eq_true h]
    rfl
  · rw [if_neg h, decide_eq_false h]
    by_cases h2 : i = t
    · rw [h2, hb]
      rfl
    · rw [hm, Nat.testBit_two_pow_mul, decide_eq_true (by omega : i ≥ t), Bool.true_and]
      have : (m - 1).testBit (i - t) = m.testBit (i - t) := by
        obtain ⟨k, hk⟩ : ∃ k, i - t = k + 1 := ⟨i - t - 1, by omega⟩
        rw [hk, Nat.testBit_succ, Nat.testBit_succ]
        congr 1
        omega
      rw [this]
      cases m.testBit (i - t) <;> rfl
theorem j_ntz (h : zH) {x : Int32} {t : Nat} (ht : t < 32) (hb : bt x t = true) (hl : ∀ i, i < t → bt x i = false) : zcall zZ nJ6_numberOfTrailingZeros_0f7a4 [.int x] h = some (some (.int (nI t)), h) := by
  obtain ⟨n, hn, rfl⟩ := wb_of32 x
  have g : ∀ i, bt (nI n) i = n.testBit i := fun i => by
    show (nI n).toBitVec.toNat.testBit i = _
    rw [nI_bv hn]
  rw [nz0_ok, nz_low hn ht (by rw [← g]; exact hb) (fun i hi => by rw [← g]; exact hl i hi), nz_all t ht]
