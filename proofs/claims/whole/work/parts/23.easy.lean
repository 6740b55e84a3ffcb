/-! behind a call that has come back -/
theorem zb_i {M : zMeth} {pc ce sl : Nat} {lo : List (Option Value)} {st : List Value} {h : zH} {v : Int32} : (some (some (Value.int v), h)).bind (fun q => zrun zZ M (pc, lo, q.1.toList ++ st, q.2, ce, sl)) = zrun zZ M (pc, lo, .int v :: st, h, ce, sl) := rfl
theorem zb_l {M : zMeth} {pc ce sl : Nat} {lo : List (Option Value)} {st : List Value} {h : zH} {v : Int64} : (some (some (Value.long v), h)).bind (fun q => zrun zZ M (pc, lo, q.1.toList ++ st, q.2, ce, sl)) = zrun zZ M (pc, lo, .long v :: st, h, ce, sl) := rfl
theorem zb_r {M : zMeth} {pc ce sl : Nat} {lo : List (Option Value)} {st : List Value} {h : zH} {v : Nat} : (some (some (Value.ref v), h)).bind (fun q => zrun zZ M (pc, lo, q.1.toList ++ st, q.2, ce, sl)) = zrun zZ M (pc, lo, .ref v :: st, h, ce, sl) := rfl
theorem zb_v {M : zMeth} {pc ce sl : Nat} {lo : List (Option Value)} {st : List Value} {h : zH} : (some ((none : Option Value), h)).bind (fun q => zrun zZ M (pc, lo, q.1.toList ++ st, q.2, ce, sl)) = zrun zZ M (pc, lo, st, h, ce, sl) := rfl
/-- what a run that has ended says of its call -/
theorem zm_s {r : Option Value} {h : zH} {ce sl : Nat} : Option.map (fun r : zRes => (r.1, r.2.1)) (some (r, h, ce, sl)) = some (r, h) := rfl
theorem zcb {α : Type} {b : Bool} {x y z : α} (ht : b = true → x = z) (hf : b = false → y = z) : cond b x y = z := by
  cases b
  · exact hf rfl
  · exact ht rfl
/-! one bit -/
theorem b_1 : ∀ i, i < 32 → bt 1 i = decide (i = 0) := by decide +kernel
theorem zbo_bt (b : Bool) {i : Nat} (hi : i < 32) : bt (zbo b) i = (b && decide (i = 0)) := by
  cases b
  · exact b_0 i
  · exact b_1 i hi
theorem bit1 (x : Int32) {k : Nat} (hk : k < 32) : (x >>> (nI k &&& 31)) &&& 1 = zbo (bt x k) := by
  apply b_ext
  intro i hi
  rw [b_and, b_sshr k hk x hi, b_1 i hi, zbo_bt _ hi]
  by_cases h : i = 0
  · subst h
    rw [Nat.add_zero, if_pos hk]
  · rw [decide_eq_false h, Bool.and_false, Bool.and_false]
theorem zbo_nI (b : Bool) : zbo b = nI b.toNat := by cases b <;> decide +kernel
theorem zbo_1 (b : Bool) : decide (zbo b = 1) = b := by cases b <;> decide +kernel
theorem bt_tb (x : Int32) (i : Nat) : bt x i = x.toBitVec.toNat.testBit i := rfl
theorem s_has (h : zH) (x : Int32) {k : Nat} (hk : k < 32) : zcall zZ nX10_has [.int x, .int (nI k)] h = some (some (.int (zbo (bt x k))), h) := by
  rw [c_X10_has, e_X10_has_0, bit1 x hk, zbo_1]
  cases bt x k
  · rw [Bool.not_false, cond_true, e_X10_has_14]
    rfl
  · rw [Bool.not_true, cond_false, e_X10_has_14]
    rfl
theorem s_flag (h : zH) (b : Bool) : zcall zZ nX10_flag [.int (zbo b)] h = some (some (.int (zbo b)), h) := by
  rw [c_X10_flag, e_X10_flag_0, zbo_0]
  cases b
  · rw [Bool.not_false, cond_true, e_X10_flag_9]
    rfl
  · rw [Bool.not_true, cond_false, e_X10_flag_9]
    rfl
theorem bitsOf_loop (h : zH) (x : Int32) : ∀ (m k : Nat), k + m = 31 → zrun zZ kX10_bitsOf (4, [some (.int x), some (.int (nI (cntN x.toBitVec.toNat k))), some (.int (nI k))], [], h, 0, 0) = some (some (.int (nI (cntN x.toBitVec.toNat 31))), h, 0, 0)
  | 0, k, hk => by
    have hk : k = 31 := by omega
    subst hk
    rw [e_X10_bitsOf_4, show (31 : Int32) = nI 31 from rfl, decide_eq_false (nI_nlt (Nat.le_refl 31) (by decide) : ¬ nI 31 < nI 31)]
    rfl
  | m + 1, k, hk => by
    rw [e_X10_bitsOf_4, bit1 x (by omega), show (31 : Int32) = nI 31 from rfl, decide_eq_true (nI_lt (by omega) (by decide) : nI k < nI 31), Bool.not_true, cond_false, zbo_nI, nI_add, nI_1, bt_tb]
    exact bitsOf_loop h x m (k + 1) (by omega)
theorem pop_31 {x : Int32} (hx : bt x 31 = false) : pop x = cntN x.toBitVec.toNat 31 := by
  unfold pop
  show cntN x.toBitVec.toNat 31 + (x.toBitVec.toNat.testBit 31).toNat = _
  rw [← bt_tb, hx]
  rfl
theorem s_bitsOf (h : zH) {x : Int32} (hx : bt x 31 = false) : zcall zZ nX10_bitsOf [.int x] h = some (some (.int (nI (pop x))), h) := by
  rw [c_X10_bitsOf, e_X10_bitsOf_0, pop_31 hx]
  have := bitsOf_loop h x 31 0 rfl
  rw [show nI (cntN x.toBitVec.toNat 0) = 0 from nI_0, show nI 0 = (0 : Int32) from nI_0] at this
  rw [this]
  rfl
