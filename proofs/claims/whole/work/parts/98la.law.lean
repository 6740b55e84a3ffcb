/-! the law: its steps, its calls -/
theorem mv_drop (I : zI) (L : zL) : zMv id (hp5 I L) (hp I L) := by
  refine ⟨by show zSH.length ≤ 900; decide, fun k hk => ?_, fun i j _ _ h => h, fun k n h => ?_⟩
  · have hk : k < 68 := hk
    refine ⟨?_, rfl, ?_, fun f hf => ?_⟩
    · show (zSH ++ [.inr (0, 5)])[k]? = zSH[k]?
      exact List.getElem?_append_left hk
    · show L k = zfil L 68 0 k
      rw [zfil_ne (by omega)]
    · obtain ⟨e1, e2⟩ := bR_ok k hk f hf
      show (match zfil zRR 68 none k f with
        | none => zRR k f = none
        | some j0 => ∃ j, j < zSH.length ∧ zRR k f = some j ∧ j = j0)
      rw [zfil_ne (show k ≠ 68 by omega)]
      cases hz : zRR k f with
      | none => rfl
      | some j =>
        rw [hz] at e2
        exact ⟨j, of_decide_eq_true e2, rfl, rfl⟩
  · have hk : k < 68 := (List.getElem?_eq_some_iff.mp h).1
    have e := sh4 k hk
    have h : zSH[k]? = some (Sum.inr (4, n)) := h
    rw [h] at e
    exact of_decide_eq_true e
theorem sg_ok : ∀ k, k < 68 → decide (zSH[sg k]? = zSH[k]?) = true ∧ ∀ f, f < 48 → (match zRS (sg k) f, zRR k f with | none, none => true | some a, some b => decide (b < 68) && decide (sg b = a) | _, _ => false) = true := by decide +kernel
theorem sg_v (i : Nat) : (sg i = i + 7 ∧ 11 ≤ i ∧ i ≤ 17) ∨ (sg i = i - 7 ∧ 18 ≤ i ∧ i ≤ 24) ∨ (sg i = i ∧ (i < 11 ∨ 24 < i)) := by
  have hi : (11 ≤ i ∧ i ≤ 17) ∨ (18 ≤ i ∧ i ≤ 24) ∨ (i < 11 ∨ 24 < i) := by omega
  rcases hi with a | a | a
  · exact Or.inl ⟨sg_x a, a⟩
  · exact Or.inr (Or.inl ⟨sg_y a, a⟩)
  · exact Or.inr (Or.inr ⟨sg_o a, a⟩)
theorem sg_inj {i j : Nat} (h : sg i = sg j) : i = j := by
  have h1 := sg_v i
  have h2 := sg_v j
  omega
theorem mv_swap (I : zI) (L : zL) : zMv sg (zSH, I, L, zRS) (hp (sgI I) (sgL L)) := by
  refine ⟨by show zSH.length ≤ 900; decide, fun k hk => ?_, fun i j _ _ h => sg_inj h, fun k n h => ?_⟩
  · have hk : k < 68 := hk
    obtain ⟨e1, e2⟩ := sg_ok k hk
    refine ⟨of_decide_eq_true e1, rfl, rfl, fun f hf => ?_⟩
    have e3 := e2 f hf
    show (match zRS (sg k) f with
      | none => zRR k f = none
      | some j0 => ∃ j, j < zSH.length ∧ zRR k f = some j ∧ sg j = j0)
    cases ha : zRS (sg k) f with
    | none =>
      cases hb : zRR k f with
      | none => rfl
      | some j =>
        rw [ha, hb] at e3
        cases e3
    | some a =>
      cases hb : zRR k f with
      | none =>
        rw [ha, hb] at e3
        cases e3
      | some j =>
        rw [ha, hb] at e3
        have e3 : (decide (j < 68) && decide (sg j = a)) = true := e3
        rw [Bool.and_eq_true] at e3
        exact ⟨j, of_decide_eq_true e3.1, rfl, of_decide_eq_true e3.2⟩
  · have hk : k < 68 := (List.getElem?_eq_some_iff.mp h).1
    have e := sh4 k hk
    have h : zSH[k]? = some (Sum.inr (4, n)) := h
    rw [h] at e
    exact of_decide_eq_true e
/-- a step of the law: the script is cell 1000 -/
def lstp (xL : Nat) (xs : Nat → Int32) (S : zS) : Option (Bool × zO) := match S with
  | (pc, lo, st, h, ce, sl) => match zfetch kL_law pc, st with
    | some (.iaload, _, _, _), .int i :: .ref k :: r => cond (Nat.beq k 1000) (some (zin i xL, .inl ([], (pc + 1, lo, .int (xs i.toNatClampNeg) :: r, h, ce, sl)))) (zstep kL_law (pc, lo, st, h, ce, sl))
    | some (.arraylength, _, _, _), .ref k :: r => cond (Nat.beq k 1000) (some (true, .inl ([], (pc + 1, lo, .int (nI xL) :: r, h, ce, sl)))) (zstep kL_law (pc, lo, st, h, ce, sl))
    | _, _ => zstep kL_law (pc, lo, st, h, ce, sl)
def lsel (xL : Nat) (xs : Nat → Int32) (S : zS) : Option zS := match lstp xL xs S with
  | some (true, .inl (bs, S')) => some (zsel bs S')
  | _ => none
def lgo (xL : Nat) (xs : Nat → Int32) : Nat → zS → Option (List Bool × zS)
  | 0, S => some ([], S)
  | k + 1, S => match lstp xL xs S with
    | some (g, .inl ([], S')) => match lgo xL xs k S' with
      | some (gs, T) => some (g :: gs, T)
      | none => none
    | _ => none
/-- what the law's walk stands on -/
def LW (A : Nat → Prop) (xK xV : Nat → Nat) (ad0 : Nat → Option Nat) (p : Program) (s : State) (m : MethodId) (args : Array Value) (meth : Method) (c : Code) (b xL : Nat) (xs : Nat → Int32) : Prop := zCx zZ kL_law A xK xV ad0 p s m args meth c ∧ va_X b xL xs s s.heap ∧ b < s.heap.size ∧ ¬ A b ∧ ad0 1000 = some b ∧ ∀ k, k < 1000 → ad0 k = none
section LWS
variable {D : va_G} {A : Nat → Prop} {xK xV : Nat → Nat} {ad0 : Nat → Option Nat} {p : Program} {l : Launch} {e : Env} {s : State} {m : MethodId} {args : Array Value} {below : List Frame} {meth : Method} {c : Code} {Q : State → Prop} {b xL : Nat} {xs : Nat → Int32}
theorem lstp_ok (W0 : LW A xK xV ad0 p s m args meth c b xL xs) {S S' : zS} {bs : List (Bool × zS)} (hs : lstp xL xs S = some (true, .inl (bs, S'))) (hk : zAW kL_law D A ad0 p l e s m args below meth c Q (zsel bs S')) : zAW kL_law D A ad0 p l e s m args below meth c Q S := by
  obtain ⟨C, hX, hbl, hbA, had, h0⟩ := W0
  obtain ⟨pc, lo, st, h, ce, sl⟩ := S
  cases hf : zfetch kL_law pc with
  | none =>
    simp only [lstp, hf] at hs
    exact zs_go C hs hk
  | some en =>
  obtain ⟨ins, len, ns, z⟩ := en
  cases ins
  case iaload =>
    have main : ∀ (i : Int32) (k : Nat) (r : List Value), lstp xL xs (pc, lo, .int i :: .ref k :: r, h, ce, sl) = some (true, .inl (bs, S')) → zAW kL_law D A ad0 p l e s m args below meth c Q (pc, lo, .int i :: .ref k :: r, h, ce, sl) := fun i k r hs => by
      simp only [lstp, hf] at hs
      cases hb : Nat.beq k 1000 with
      | false =>
        rw [hb, cond_false] at hs
        exact zs_go C hs hk
      | true =>
        rw [hb, cond_true] at hs
        obtain rfl := Nat.eq_of_beq_eq_true hb
        obtain ⟨hd, hle, hrr⟩ := zok_dec zZ C.2.2.2.2.2.2.2.2.2.1 hf
        have hle : len = 1 := hle.resolve_left (by simp [zsw_in])
        subst hle
        injection hs with hs; injection hs with hg hs; injection hs with hs; cases hs
        intro ad ws tys H locs ls cst hR hF
        obtain ⟨r1, rfl, hF1⟩ := zF2_int hF
        obtain ⟨a, r2, rfl, ha, hF2⟩ := zF2_ref hF1
        have hab : a = b := by
          have := hR.1 1000 b had
          rw [this] at ha
          cases ha
          rfl
        subst hab
        exact va_sld C.1 C.2.1 hX hbl hbA hR.2.2.2.2.2.1 (zin_of hg) hd (hk ad ws tys H locs ls (.int (xs i.toNatClampNeg) :: r2) hR ⟨rfl, hF2⟩)
    match st, hs with
    | [], hs => simp [lstp, hf, zstep] at hs
    | [v], hs => cases v <;> simp [lstp, hf, zstep] at hs
    | v :: w :: r, hs => cases v <;> cases w <;> first | exact main _ _ _ hs | (simp [lstp, hf, zstep] at hs; done)
  case arraylength =>
    have main : ∀ (k : Nat) (r : List Value), lstp xL xs (pc, lo, .ref k :: r, h, ce, sl) = some (true, .inl (bs, S')) → zAW kL_law D A ad0 p l e s m args below meth c Q (pc, lo, .ref k :: r, h, ce, sl) := fun k r hs => by
      simp only [lstp, hf] at hs
      cases hb : Nat.beq k 1000 with
      | false =>
        rw [hb, cond_false] at hs
        exact zs_go C hs hk
      | true =>
        rw [hb, cond_true] at hs
        obtain rfl := Nat.eq_of_beq_eq_true hb
        obtain ⟨hd, hle, hrr⟩ := zok_dec zZ C.2.2.2.2.2.2.2.2.2.1 hf
        have hle : len = 1 := hle.resolve_left (by simp [zsw_in])
        subst hle
        injection hs with hs; injection hs with hg hs; injection hs with hs; cases hs
        intro ad ws tys H locs ls cst hR hF
        obtain ⟨a, r2, rfl, ha, hF2⟩ := zF2_ref hF
        have hab : a = b := by
          have := hR.1 1000 b had
          rw [this] at ha
          cases ha
          rfl
        subst hab
        exact va_slen C.1 C.2.1 hX hbl hbA hR.2.2.2.2.2.1 hd (hk ad ws tys H locs ls (.int (nI xL) :: r2) hR ⟨rfl, hF2⟩)
    match st, hs with
    | [], hs => simp [lstp, hf, zstep] at hs
    | v :: r, hs => cases v <;> first | exact main _ _ hs | (simp [lstp, hf, zstep] at hs; done)
  all_goals
    simp only [lstp, hf] at hs
    exact zs_go C hs hk
theorem lsel_ok (W0 : LW A xK xV ad0 p s m args meth c b xL xs) {S T : zS} (hs : lsel xL xs S = some T) (hk : zAW kL_law D A ad0 p l e s m args below meth c Q T) : zAW kL_law D A ad0 p l e s m args below meth c Q S := by
  unfold lsel at hs
  split at hs
  · rename_i bs S' h1
    cases hs
    exact lstp_ok W0 h1 hk
  · cases hs
theorem lgo_ok (W0 : LW A xK xV ad0 p s m args meth c b xL xs) : ∀ k {S T : zS} {gs : List Bool}, lgo xL xs k S = some (gs, T) → (gs.all (fun g => g)) = true → zAW kL_law D A ad0 p l e s m args below meth c Q T → zAW kL_law D A ad0 p l e s m args below meth c Q S
  | 0, S, T, gs, h, _, hk => by
    cases h
    exact hk
  | k + 1, S, T, gs, h, hg, hk => by
    unfold lgo at h
    split at h
    · rename_i g S' h1
      split at h
      · rename_i gs' T' h2
        cases h
        rw [List.all_cons, Bool.and_eq_true] at hg
        have hg1 : g = true := hg.1
        subst hg1
        exact lstp_ok W0 h1 (lgo_ok W0 k h2 hg.2 hk)
      · cases h
    · cases h
theorem lcall (W0 : LW A xK xV ad0 p s m args meth c b xL xs) {pc : Nat} {lo : List (Option Value)} {st : List Value} {h : zH} {ce sl : Nat} {g : Bool} {y : Nat} {as : List Value} {pc' : Nat} {lo' : List (Option Value)} {st' : List Value} {h' : zH} {ce' sl' : Nat} {r : Option Value} {h2 : zH} (hy : zokM zZ (zZ y) = true) (hs : zstep kL_law (pc, lo, st, h, ce, sl) = some (g, .inr (.inr (y, as, (pc', lo', st', h', ce', sl'))))) (hg : g = true) (hc : zcall zZ y as h' = some (r, h2)) (hk : zAW kL_law D A ad0 p l e s m args below meth c Q (pc', lo', r.toList ++ st', h2, ce', sl')) : zAW kL_law D A ad0 p l e s m args below meth c Q (pc, lo, st, h, ce, sl) := by
  subst hg
  exact zs_call W0.1 hs (zmet_of hy hc) hk
/-- the two answers are the same -/
theorem lsame (W0 : LW A xK xV ad0 p s m args meth c b xL xs) {pc pc' pc2 : Nat} {lo : List (Option Value)} {h : zH} {ce sl : Nat} {r : Int32} (hs : zstep kL_law (pc, lo, [.int r, .int r], h, ce, sl) = some (true, .inl ([(decide (r = r), (pc', lo, [], h, ce, sl))], (pc2, lo, [], h, ce, sl)))) (hk : zAW kL_law D A ad0 p l e s m args below meth c Q (pc', lo, [], h, ce, sl)) : zAW kL_law D A ad0 p l e s m args below meth c Q (pc, lo, [.int r, .int r], h, ce, sl) := by
  refine zs_go W0.1 hs ?_
  have e1 : zsel [(decide (r = r), (pc', lo, [], h, ce, sl))] (pc2, lo, [], h, ce, sl) = (pc', lo, [], h, ce, sl) := by
    rw [decide_eq_true (rfl : r = r)]
    rfl
  rw [e1]
  exact hk
/-- the law's locals -/
def lloc (i : Nat) : List (Option Value) := [some (.ref 1000), some (.ref 0), some (.ref 52), some (.int (nI i))]
theorem lloc_ok {g : Nat → Nat} {i : Nat} (h0 : g 0 = 0) (h52 : g 52 = 52) : ∀ (j : Nat) (v : Value), (lloc i)[j]? = some (some v) → zok1 g 68 v := by
  intro j v h
  match j, h with
  | 0, h =>
    cases h
    show (1000 < 68 ∧ g 1000 = 1000) ∨ 1000 ≤ 1000
    exact Or.inr (Nat.le_refl _)
  | 1, h =>
    cases h
    show (0 < 68 ∧ g 0 = 0) ∨ 1000 ≤ 0
    exact Or.inl ⟨by decide, h0⟩
  | 2, h =>
    cases h
    show (52 < 68 ∧ g 52 = 52) ∨ 1000 ≤ 52
    exact Or.inl ⟨by decide, h52⟩
  | 3, h =>
    cases h
    trivial
  | _ + 4, h => cases h
/-- a method of both, its answers the same, what holds between calls holding again -/
theorem lcase (W0 : LW A xK xV ad0 p s m args meth c b xL xs) {pc0 pcX pcM k nX nM i ce sl : Nat} {as : List Value} {gs : List Bool} {I : zI} {L : zL} (hr : zret (zZ nX) = some .int ∨ zret (zZ nX) = some .boolean) (oX : zokM zZ (zZ nX) = true) (oM : zokM zZ (zZ nM) = true) (e1 : lgo xL xs k (pc0, lloc i, [], hp I L, ce, sl) = some (gs, (pcX, lloc i, as.reverse ++ [.ref 0], hp I L, ce, sl))) (hg : (gs.all (fun g => g)) = true) (c1 : zstep kL_law (pcX, lloc i, as.reverse ++ [.ref 0], hp I L, ce, sl) = some (Nat.ble ce 600000 && Nat.ble sl 7302250, .inr (.inr (nX, .ref 0 :: as, (pcX + 3, lloc i, [], hp I L, ce, sl))))) (e2 : ∀ r I L, lgo xL xs k (pcX + 3, lloc i, [.int r], hp I L, ce, sl) = some (gs, (pcM, lloc i, as.reverse ++ [.ref 52, .int r], hp I L, ce, sl))) (c2 : ∀ r I L, zstep kL_law (pcM, lloc i, as.reverse ++ [.ref 52, .int r], hp I L, ce, sl) = some (Nat.ble ce 600000 && Nat.ble sl 7302250, .inr (.inr (nM, .ref 52 :: as, (pcM + 3, lloc i, [.int r], hp I L, ce, sl))))) (b2 : ∀ r I L, zstep kL_law (pcM + 3, lloc i, [.int r, .int r], hp I L, ce, sl) = some (true, .inl ([(decide (r = r), (1374, lloc i, [], hp I L, ce, sl))], (pcM + 6, lloc i, [], hp I L, ce, sl)))) (hce : ce ≤ 600000) (hsl : sl ≤ 7302250) (hS : STP nX nM as I L) (hk : ∀ I2 L2, INV I2 L2 → zAW kL_law D A ad0 p l e s m args below meth c Q (1374, lloc i, [], hp I2 L2, ce, sl)) : zAW kL_law D A ad0 p l e s m args below meth c Q (pc0, lloc i, [], hp I L, ce, sl) := by
  obtain ⟨r, I1, L1, I2, L2, h1, h2, h3⟩ := hS
  obtain ⟨x, rfl⟩ := zcall_int hr h1
  have hgg : (Nat.ble ce 600000 && Nat.ble sl 7302250) = true := by
    rw [Nat.ble_eq_true_of_le hce, Nat.ble_eq_true_of_le hsl]
    rfl
  refine lgo_ok W0 k e1 hg (lcall W0 oX c1 hgg h1 ?_)
  refine lgo_ok W0 k (e2 x I1 L1) hg (lcall W0 oM (c2 x I1 L1) hgg h2 ?_)
  exact lsame W0 (b2 x I2 L2) (hk I2 L2 h3)
/-- the same, of a method that answers a long -/
theorem lcaseL (W0 : LW A xK xV ad0 p s m args meth c b xL xs) {pc0 pcX pcM k nX nM i ce sl : Nat} {as : List Value} {gs : List Bool} {I : zI} {L : zL} (hr : zret (zZ nX) = some .long) (oX : zokM zZ (zZ nX) = true) (oM : zokM zZ (zZ nM) = true) (e1 : lgo xL xs k (pc0, lloc i, [], hp I L, ce, sl) = some (gs, (pcX, lloc i, as.reverse ++ [.ref 0], hp I L, ce, sl))) (hg : (gs.all (fun g => g)) = true) (c1 : zstep kL_law (pcX, lloc i, as.reverse ++ [.ref 0], hp I L, ce, sl) = some (Nat.ble ce 600000 && Nat.ble sl 7302250, .inr (.inr (nX, .ref 0 :: as, (pcX + 3, lloc i, [], hp I L, ce, sl))))) (e2 : ∀ r I L, lgo xL xs k (pcX + 3, lloc i, [.long r], hp I L, ce, sl) = some (gs, (pcM, lloc i, as.reverse ++ [.ref 52, .long r], hp I L, ce, sl))) (c2 : ∀ r I L, zstep kL_law (pcM, lloc i, as.reverse ++ [.ref 52, .long r], hp I L, ce, sl) = some (Nat.ble ce 600000 && Nat.ble sl 7302250, .inr (.inr (nM, .ref 52 :: as, (pcM + 3, lloc i, [.long r], hp I L, ce, sl))))) (b1 : ∀ r I L, lgo xL xs 1 (pcM + 3, lloc i, [.long r, .long r], hp I L, ce, sl) = some ([true], (pcM + 4, lloc i, [.int (lg_cmp r r)], hp I L, ce, sl))) (b2 : ∀ I L, lsel xL xs (pcM + 4, lloc i, [.int 0], hp I L, ce, sl) = some (1374, lloc i, [], hp I L, ce, sl)) (hce : ce ≤ 600000) (hsl : sl ≤ 7302250) (hS : STP nX nM as I L) (hk : ∀ I2 L2, INV I2 L2 → zAW kL_law D A ad0 p l e s m args below meth c Q (1374, lloc i, [], hp I2 L2, ce, sl)) : zAW kL_law D A ad0 p l e s m args below meth c Q (pc0, lloc i, [], hp I L, ce, sl) := by
  obtain ⟨r, I1, L1, I2, L2, h1, h2, h3⟩ := hS
  obtain ⟨x, rfl⟩ := zcall_long hr h1
  have hgg : (Nat.ble ce 600000 && Nat.ble sl 7302250) = true := by
    rw [Nat.ble_eq_true_of_le hce, Nat.ble_eq_true_of_le hsl]
    rfl
  refine lgo_ok W0 k e1 hg (lcall W0 oX c1 hgg h1 ?_)
  refine lgo_ok W0 k (e2 x I1 L1) hg (lcall W0 oM (c2 x I1 L1) hgg h2 ?_)
  refine lgo_ok W0 1 (b1 x I2 L2) rfl ?_
  rw [show lg_cmp x x = 0 from (lg_cmp_eq x x).mpr rfl]
  exact lsel_ok W0 (b2 I2 L2) (hk I2 L2 h3)
/-- feed: the reference may make a row of five -/
theorem lcaseF (W0 : LW A xK xV ad0 p s m args meth c b xL xs) {pc0 pcX pcM k nX nM i ce sl : Nat} {as : List Value} {gs : List Bool} {I : zI} {L : zL} (hr : zret (zZ nX) = some .int ∨ zret (zZ nX) = some .boolean) (oX : zokM zZ (zZ nX) = true) (oM : zokM zZ (zZ nM) = true) (e1 : lgo xL xs k (pc0, lloc i, [], hp I L, ce, sl) = some (gs, (pcX, lloc i, as.reverse ++ [.ref 0], hp I L, ce, sl))) (hg : (gs.all (fun g => g)) = true) (c1 : zstep kL_law (pcX, lloc i, as.reverse ++ [.ref 0], hp I L, ce, sl) = some (Nat.ble ce 600000 && Nat.ble sl 7302250, .inr (.inr (nX, .ref 0 :: as, (pcX + 3, lloc i, [], hp I L, ce, sl))))) (e2 : ∀ r I L, lgo xL xs k (pcX + 3, lloc i, [.int r], hp I L, ce, sl) = some (gs, (pcM, lloc i, as.reverse ++ [.ref 52, .int r], hp I L, ce, sl))) (c2 : ∀ r I L, zstep kL_law (pcM, lloc i, as.reverse ++ [.ref 52, .int r], hp I L, ce, sl) = some (Nat.ble (ce + 1) 600000 && Nat.ble (sl + 5) 7302250, .inr (.inr (nM, .ref 52 :: as, (pcM + 3, lloc i, [.int r], hp I L, ce + 1, sl + 5))))) (b2 : ∀ r I L, zstep kL_law (pcM + 3, lloc i, [.int r, .int r], hp I L, ce + 1, sl + 5) = some (true, .inl ([(decide (r = r), (1374, lloc i, [], hp I L, ce + 1, sl + 5))], (pcM + 6, lloc i, [], hp I L, ce + 1, sl + 5)))) (hce : ce + 1 ≤ 600000) (hsl : sl + 5 ≤ 7302250) (hS : STP nX nM as I L ∨ ∃ r I1 I2, zcall zZ nX (.ref 0 :: as) (hp I L) = some (some r, hp I1 L) ∧ zcall zZ nM (.ref 52 :: as) (hp I1 L) = some (some r, hp5 I2 L) ∧ INV I2 L) (hk : ∀ I2 L2, INV I2 L2 → zAW kL_law D A ad0 p l e s m args below meth c Q (1374, lloc i, [], hp I2 L2, ce + 1, sl + 5)) : zAW kL_law D A ad0 p l e s m args below meth c Q (pc0, lloc i, [], hp I L, ce, sl) := by
  have hgg : (Nat.ble ce 600000 && Nat.ble sl 7302250) = true := by
    rw [Nat.ble_eq_true_of_le (show ce ≤ 600000 by omega), Nat.ble_eq_true_of_le (show sl ≤ 7302250 by omega)]
    rfl
  have hgh : (Nat.ble (ce + 1) 600000 && Nat.ble (sl + 5) 7302250) = true := by
    rw [Nat.ble_eq_true_of_le hce, Nat.ble_eq_true_of_le hsl]
    rfl
  rcases hS with ⟨r, I1, L1, I2, L2, h1, h2, h3⟩ | ⟨r, I1, I2, h1, h2, h3⟩
  · obtain ⟨x, rfl⟩ := zcall_int hr h1
    refine lgo_ok W0 k e1 hg (lcall W0 oX c1 hgg h1 ?_)
    refine lgo_ok W0 k (e2 x I1 L1) hg (lcall W0 oM (c2 x I1 L1) hgh h2 ?_)
    exact lsame W0 (b2 x I2 L2) (hk I2 L2 h3)
  · obtain ⟨x, rfl⟩ := zcall_int hr h1
    refine lgo_ok W0 k e1 hg (lcall W0 oX c1 hgg h1 ?_)
    refine lgo_ok W0 k (e2 x I1 L) hg (lcall W0 oM (c2 x I1 L) hgh h2 ?_)
    refine zAW_mv (h' := hp I2 L) (mv_drop I2 L) W0.2.2.2.2.2 (lloc_ok rfl rfl) (fun v hv => ?_) ?_
    · have hv : v ∈ [Value.int x, Value.int x] := hv
      simp at hv
      rw [hv]
      trivial
    · exact lsame W0 (b2 x I2 L) (hk I2 L h3)
/-- desk: the desks may change places -/
theorem lcaseD (W0 : LW A xK xV ad0 p s m args meth c b xL xs) {pc0 pcX pcM i ce sl : Nat} {I : zI} {L : zL} (hr : zret (zZ nX9_desk) = some .int ∨ zret (zZ nX9_desk) = some .boolean) (oX : zokM zZ (zZ nX9_desk) = true) (oM : zokM zZ (zZ nX10_desk) = true) (e1 : lgo xL xs 1 (pc0, lloc i, [], hp I L, ce, sl) = some ([true], (pcX, lloc i, [.ref 0], hp I L, ce, sl))) (c1 : zstep kL_law (pcX, lloc i, [.ref 0], hp I L, ce, sl) = some (Nat.ble ce 600000 && Nat.ble sl 7302250, .inr (.inr (nX9_desk, [.ref 0], (pcX + 3, lloc i, [], hp I L, ce, sl))))) (e2 : ∀ r I L, lgo xL xs 1 (pcX + 3, lloc i, [.int r], hp I L, ce, sl) = some ([true], (pcM, lloc i, [.ref 52, .int r], hp I L, ce, sl))) (c2 : ∀ r I L, zstep kL_law (pcM, lloc i, [.ref 52, .int r], hp I L, ce, sl) = some (Nat.ble ce 600000 && Nat.ble sl 7302250, .inr (.inr (nX10_desk, [.ref 52], (pcM + 3, lloc i, [.int r], hp I L, ce, sl))))) (b2 : ∀ r I L, zstep kL_law (pcM + 3, lloc i, [.int r, .int r], hp I L, ce, sl) = some (true, .inl ([(decide (r = r), (1374, lloc i, [], hp I L, ce, sl))], (pcM + 6, lloc i, [], hp I L, ce, sl)))) (hce : ce ≤ 600000) (hsl : sl ≤ 7302250) (hI : INV I L) (hk : ∀ I2 L2, INV I2 L2 → zAW kL_law D A ad0 p l e s m args below meth c Q (1374, lloc i, [], hp I2 L2, ce, sl)) : zAW kL_law D A ad0 p l e s m args below meth c Q (pc0, lloc i, [], hp I L, ce, sl) := by
  have hgg : (Nat.ble ce 600000 && Nat.ble sl 7302250) = true := by
    rw [Nat.ble_eq_true_of_le hce, Nat.ble_eq_true_of_le hsl]
    rfl
  rcases p_desk hI with ⟨r, I1, L1, I2, L2, h1, h2, h3⟩ | ⟨r, I1, L1, I2, L2, h1, h2, h3⟩
  · obtain ⟨x, rfl⟩ := zcall_int hr h1
    refine lgo_ok W0 1 e1 rfl (lcall W0 oX c1 hgg h1 ?_)
    refine lgo_ok W0 1 (e2 x I1 L1) rfl (lcall W0 oM (c2 x I1 L1) hgg h2 ?_)
    exact lsame W0 (b2 x I2 L2) (hk I2 L2 h3)
  · obtain ⟨x, rfl⟩ := zcall_int hr h1
    refine lgo_ok W0 1 e1 rfl (lcall W0 oX c1 hgg h1 ?_)
    refine zAW_mv (h' := hp (sgI I1) (sgL L1)) (mv_swap I1 L1) W0.2.2.2.2.2 (lloc_ok rfl rfl) (fun v hv => ?_) ?_
    · have hv : v ∈ [Value.int x] := hv
      simp at hv
      rw [hv]
      trivial
    · refine lgo_ok W0 1 (e2 x (sgI I1) (sgL L1)) rfl (lcall W0 oM (c2 x (sgI I1) (sgL L1)) hgg h2 ?_)
      exact lsame W0 (b2 x I2 L2) (hk I2 L2 h3)
end LWS
