/-! tests of numbers: days, trains -/
def zbo (b : Bool) : Int32 := cond b 1 0
theorem zbo_0 (b : Bool) : decide (zbo b = 0) = !b := by cases b <;> decide +kernel
theorem zbo_nar (b : Bool) : znar .boolean (zbo b) = true := by cases b <;> decide +kernel
theorem zin_vp {x : Int32} {n : Nat} : zin x n = true ↔ vp_in x n := by
  unfold zin vp_in
  simp only [Bool.not_eq_true', Bool.or_eq_false_iff, decide_eq_false_iff_not, not_or]
  refine and_congr Iff.rfl ⟨fun h q => ?_, fun h => ?_⟩
  · rw [Nat.ble_eq_true_of_le q] at h
    cases h
  · cases hb : Nat.ble n x.toNatClampNeg with
    | false => rfl
    | true => exact absurd (Nat.le_of_ble_eq_true hb) h
theorem zin_dec (x : Int32) (n : Nat) : zin x n = (decide (0 ≤ x.toInt) && decide (x.toInt < (n : Int))) := by
  by_cases h : vp_in x n
  · rw [zin_vp.mpr h]
    obtain ⟨h1, h2⟩ := vp_in_iff.mp h
    rw [decide_eq_true h1, decide_eq_true h2]
    rfl
  · have h0 : zin x n = false := by
      cases hz : zin x n with
      | false => rfl
      | true => exact absurd (zin_vp.mp hz) h
    rw [h0]
    by_cases h1 : 0 ≤ x.toInt
    · by_cases h2 : x.toInt < (n : Int)
      · exact absurd (vp_in_iff.mpr ⟨h1, h2⟩) h
      · rw [decide_eq_false h2, Bool.and_false]
    · rw [decide_eq_false h1, Bool.false_and]
theorem zin_nI {j n : Nat} (h : j < 2 ^ 31) : zin (nI j) n = decide (j < n) := by
  rw [zin_dec, nI_toInt h]
  by_cases q : j < n
  · rw [decide_eq_true q, decide_eq_true (by omega : (j : Int) < n), decide_eq_true (by omega : (0 : Int) ≤ j)]
    rfl
  · rw [decide_eq_false q, decide_eq_false (by omega : ¬ (j : Int) < n), Bool.and_false]
theorem zin_of' {x : Int32} {n : Nat} (hn : n < 2 ^ 31) (h : zin x n = true) : ∃ j, j < n ∧ x = nI j := vp_in_of (zin_vp.mp h) hn
theorem s_in (h : zH) (x y z : Int64) : zcall zZ nX10_in [.long x, .long y, .long z] h = some (some (.int (zbo (decide (y ≤ x) && decide (x ≤ z)))), h) := by
  rw [c_X10_in, e_X10_in_0]
  by_cases h1 : x < y
  · rw [decide_eq_true ((lg_cmp_lt x y).mpr h1), cond_true, e_X10_in_17, e_X10_in_18, decide_eq_false (Int64.not_le.mpr h1)]
    rfl
  · rw [decide_eq_false (fun q => h1 ((lg_cmp_lt x y).mp q)), cond_false, decide_eq_true (Int64.not_lt.mp h1)]
    by_cases h2 : z < x
    · rw [decide_eq_true ((lg_cmp_gt x z).mpr h2), cond_true, e_X10_in_17, e_X10_in_18, decide_eq_false (Int64.not_le.mpr h2)]
      rfl
    · rw [decide_eq_false (fun q => h2 ((lg_cmp_gt x z).mp q)), cond_false, e_X10_in_18, decide_eq_true (Int64.not_lt.mp h2)]
      rfl
/-- in(x, 0, n - 1) -/
theorem s_in0 (h : zH) (x : Int32) {n : Nat} (hn : n < 2 ^ 30) : zcall zZ nX10_in [.long x.toInt64, .long 0, .long (nI n - 1).toInt64] h = some (some (.int (zbo (zin x n))), h) := by
  rw [s_in, zin_dec]
  have h1 : (nI n - 1).toInt = (n : Int) - 1 := pk_sub_toInt (a := n) (b := 1) hn (by decide)
  have e1 : decide ((0 : Int64) ≤ x.toInt64) = decide (0 ≤ x.toInt) := by
    rw [decide_eq_decide, Int64.le_iff_toInt_le, Int32.toInt_toInt64]
    exact Iff.rfl
  have e2 : decide (x.toInt64 ≤ (nI n - 1).toInt64) = decide (x.toInt < (n : Int)) := by
    rw [decide_eq_decide, Int64.le_iff_toInt_le, Int32.toInt_toInt64, Int32.toInt_toInt64, h1]
    omega
  rw [e1, e2]
theorem s_XisDay {I : zI} {L : zL} {N : Nat} (hN : I 11 6 = nI N) (hb : N < 2 ^ 30) (x : Int32) : zcall zZ nX9_isDay [.ref 0, .int x] (hp I L) = some (some (.int (zbo (zin x N))), hp I L) := by
  rw [c_X9_isDay, e_X9_isDay_0, hN, zin_dec]
  by_cases h1 : x < 0
  · rw [decide_eq_true h1, cond_true, e_X9_isDay_19, e_X9_isDay_20]
    have : ¬ 0 ≤ x.toInt := by
      have := Int32.lt_iff_toInt_lt.mp h1
      have e : (0 : Int32).toInt = 0 := rfl
      omega
    rw [decide_eq_false this, Bool.false_and]
    rfl
  · rw [decide_eq_false h1, cond_false]
    have h0 : 0 ≤ x.toInt := by
      have e : (0 : Int32).toInt = 0 := rfl
      rcases Int.lt_or_le x.toInt 0 with q | q
      · exact absurd (Int32.lt_iff_toInt_lt.mpr (by omega)) h1
      · exact q
    rw [decide_eq_true h0, Bool.true_and]
    have e : decide (x < nI N) = decide (x.toInt < (N : Int)) := by
      rw [decide_eq_decide, Int32.lt_iff_toInt_lt, nI_toInt (by omega)]
    rw [e]
    by_cases h2 : x.toInt < (N : Int)
    · rw [decide_eq_true h2, Bool.not_true, cond_false, e_X9_isDay_20]
      rfl
    · rw [decide_eq_false h2, Bool.not_false, cond_true, e_X9_isDay_19, e_X9_isDay_20]
      rfl
theorem s_MisDay {I : zI} {L : zL} {N : Nat} (hN : I 53 0 = nI N) (hb : N < 2 ^ 30) (x : Int32) : zcall zZ nX10_isDay [.ref 52, .int x] (hp I L) = some (some (.int (zbo (zin x N))), hp I L) := by
  rw [c_X10_isDay, e_X10_isDay_0, hN, s_in0 _ x hb]
  show Option.map _ (zrun zZ kX10_isDay (15, [none, none], [.int (zbo (zin x N))], hp I L, 0, 0)) = _
  rw [e_X10_isDay_15, zbo_nar]
  rfl
theorem s_XisTrain {I : zI} {L : zL} {N : Nat} (hN : I 11 9 = nI N) (hb : N < 2 ^ 30) (x : Int32) : zcall zZ nX9_isTrain [.ref 0, .int x] (hp I L) = some (some (.int (zbo (zin x N))), hp I L) := by
  rw [c_X9_isTrain, e_X9_isTrain_0, hN, zin_dec]
  by_cases h1 : x < 0
  · rw [decide_eq_true h1, cond_true, e_X9_isTrain_19, e_X9_isTrain_20]
    have : ¬ 0 ≤ x.toInt := by
      have := Int32.lt_iff_toInt_lt.mp h1
      have e : (0 : Int32).toInt = 0 := rfl
      omega
    rw [decide_eq_false this, Bool.false_and]
    rfl
  · rw [decide_eq_false h1, cond_false]
    have h0 : 0 ≤ x.toInt := by
      have e : (0 : Int32).toInt = 0 := rfl
      rcases Int.lt_or_le x.toInt 0 with q | q
      · exact absurd (Int32.lt_iff_toInt_lt.mpr (by omega)) h1
      · exact q
    rw [decide_eq_true h0, Bool.true_and]
    have e : decide (x < nI N) = decide (x.toInt < (N : Int)) := by
      rw [decide_eq_decide, Int32.lt_iff_toInt_lt, nI_toInt (by omega)]
    rw [e]
    by_cases h2 : x.toInt < (N : Int)
    · rw [decide_eq_true h2, Bool.not_true, cond_false, e_X9_isTrain_20]
      rfl
    · rw [decide_eq_false h2, Bool.not_false, cond_true, e_X9_isTrain_19, e_X9_isTrain_20]
      rfl
theorem s_MisTrain {I : zI} {L : zL} {N : Nat} (hN : I 53 3 = nI N) (hb : N < 2 ^ 30) (x : Int32) : zcall zZ nX10_isTrain [.ref 52, .int x] (hp I L) = some (some (.int (zbo (zin x N))), hp I L) := by
  rw [c_X10_isTrain, e_X10_isTrain_0, hN, s_in0 _ x hb]
  show Option.map _ (zrun zZ kX10_isTrain (15, [none, none], [.int (zbo (zin x N))], hp I L, 0, 0)) = _
  rw [e_X10_isTrain_15, zbo_nar]
  rfl
/-! weekdays -/
theorem rem7 {a : Nat} (ha : a < 2 ^ 31) : nI a - nI a / 7 * 7 = nI (a % 7) := pk_rem (d := 7) ha (by decide) (by decide)
theorem s_XweekdayOf {I : zI} {L : zL} {w d : Nat} (hd : d = 11 ∨ d = 18) (hw : I d 7 = nI w) {j : Nat} (hj : w + j < 2 ^ 31) : zcall zZ nX1_weekdayOf [.ref d, .int (nI j)] (hp I L) = some (some (.int (nI ((w + j) % 7))), hp I L) := by
  rw [c_X1_weekdayOf hd, e_X1_weekdayOf_0 hd, hw, nI_add, rem7 hj]
  rfl
theorem s_MweekdayOf {I : zI} {L : zL} {w : Nat} (hw : I 53 1 = nI w) {j : Nat} (hj : w + j < 2 ^ 31) : zcall zZ nX10_weekdayOf [.ref 52, .int (nI j)] (hp I L) = some (some (.int (nI ((w + j) % 7))), hp I L) := by
  rw [c_X10_weekdayOf, e_X10_weekdayOf_0, hw, nI_add, rem7 hj]
  rfl
