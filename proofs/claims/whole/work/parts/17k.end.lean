/-! calls without a frame of their own here; the end of a method; the whole -/
section ZG
variable {Z : Nat → zMeth} {M : zMeth} {D : va_G} {A : Nat → Prop} {xK xV : Nat → Nat} {ad0 : Nat → Option Nat} {p : Program} {l : Launch} {e : Env} {s : State} {m : MethodId} {args : Array Value} {below : List Frame} {meth : Method} {c : Code} {Q : State → Prop}
variable {pc len : Nat} {lo : List (Option Value)} {st : List Value} {h : zH} {ce sl : Nat} {ns : List Nat} {z : Int} {bs : List (Bool × zS)} {S' : zS}
theorem zs_objinit {i : Nat} {nr : List Nat} (C : zCx Z M A xK xV ad0 p s m args meth c) (hf : zfetch M pc = some (.invokespecial i, len, 3 :: nr, z)) (hs : zstep M (pc, lo, st, h, ce, sl) = some (true, .inl (bs, S'))) (hk : zAW M D A ad0 p l e s m args below meth c Q (zsel bs S')) : zAW M D A ad0 p l e s m args below meth c Q (pc, lo, st, h, ce, sl) := by
  obtain ⟨hx, hb, hml, hown, hts, hA, hr, hlk, hnm, hok, hX, hx0, hx1⟩ := C
  obtain ⟨hd, hle, hrr⟩ := zok_dec Z hok hf
  have hle : len = 3 := hle.resolve_left (by simp [zsw_in])
  subst hle
  simp only [zstep, hf, zinv, zg] at hs
  split at hs
  · rename_i k r
    injection hs with hs; injection hs with hg hs; injection hs with hs; injection hs with hb1 hb2; subst hb1; subst hb2
    match nr, hrr with
    | w1 :: w2 :: w3 :: _, hrr =>
      simp only [zokr, Bool.and_eq_true, decide_eq_true_eq] at hrr
      obtain ⟨⟨⟨h1, h2⟩, h3⟩, h4⟩ := hrr
      intro ad ws tys H locs ls cst hR hF
      obtain ⟨a, r1, rfl, ha, hF1⟩ := zF2_ref hF
      have hsz : ls.size = zml M := hR.2.2.2.2.2.2.choose_spec.1.1
      have hg := Nat.le_of_ble_eq_true hg
      have hcs := zF2_cs hF1
      exact W.objInit hx hb hown (hts _ (zw_in h1)) (hts _ (zw_in h2)) (hts _ (zw_in h3)) (g := F0 m pc ls (.ref a :: r1)) rfl (hsz.trans hml.symm) rfl hd h4 (by show 0 + (r1.map fun v => v.category).sum + 12 ≤ _; rw [hcs]; omega) (hk ad ws tys H locs ls r1 hR hF1)
    | [], hrr => simp [zokr] at hrr
    | [_], hrr => simp [zokr] at hrr
    | [_, _], hrr => simp [zokr] at hrr
  · cases hs
theorem zcpy_eq {f : Nat → Nat → Int32} {j q k p n : Nat} : zcpy f j q k p n k = va_cpy (f j) (f k) q p n := by
  funext b
  unfold zcpy va_cpy
  by_cases h : p ≤ b ∧ b < p + n
  · rw [if_pos h]
    have h1 : Nat.ble p b = true := Nat.ble_eq_true_of_le h.1
    have h2 : Nat.blt b (p + n) = true := Nat.blt_eq.mpr h.2
    simp [h1, h2]
  · rw [if_neg h]
    by_cases h1 : p ≤ b
    · have h2 : Nat.blt b (p + n) = false := by
        cases hq : Nat.blt b (p + n) with
        | false => rfl
        | true => exact absurd ⟨h1, Nat.blt_eq.mp hq⟩ h
      simp [h2]
    · have h2 : Nat.ble p b = false := by
        cases hq : Nat.ble p b with
        | false => rfl
        | true => exact absurd (Nat.le_of_ble_eq_true hq) h1
      simp [h2]
theorem zcpy_ne {f : Nat → Nat → Int32} {j q k p n a : Nat} (h : a ≠ k) : zcpy f j q k p n a = f a := by
  funext b
  have : Nat.beq a k = false := by
    cases hq : Nat.beq a k with
    | false => rfl
    | true => exact absurd (Nat.eq_of_beq_eq_true hq) h
  simp [zcpy, this]
theorem zs_copy {i : Nat} {nr : List Nat} (C : zCx Z M A xK xV ad0 p s m args meth c) (hf : zfetch M pc = some (.invokestatic i, len, 4 :: nr, z)) (hs : zstep M (pc, lo, st, h, ce, sl) = some (true, .inl (bs, S'))) (hk : zAW M D A ad0 p l e s m args below meth c Q (zsel bs S')) : zAW M D A ad0 p l e s m args below meth c Q (pc, lo, st, h, ce, sl) := by
  obtain ⟨hx, hb, hml, hown, hts, hA, hr, hlk, hnm, hok, hX, hx0, hx1⟩ := C
  obtain ⟨hd, hle, hrr⟩ := zok_dec Z hok hf
  have hle : len = 3 := hle.resolve_left (by simp [zsw_in])
  subst hle
  simp only [zstep, hf, zinv, zg] at hs
  split at hs
  · rename_i n dp k sp j r
    split at hs
    · rename_i n0 n1 hn0 hn1
      injection hs with hs; injection hs with hg hs; injection hs with hs; injection hs with hb1 hb2; subst hb1; subst hb2
      simp only [Bool.and_eq_true] at hg
      obtain ⟨⟨⟨⟨⟨g1, g2⟩, g3⟩, g4⟩, g5⟩, g6⟩ := hg
      match nr, hrr with
      | w1 :: w2 :: w3 :: w4 :: _, hrr =>
        simp only [zokr, Bool.and_eq_true, decide_eq_true_eq] at hrr
        obtain ⟨⟨⟨⟨⟨h1, h2⟩, h3⟩, h4⟩, h5⟩, h6⟩ := hrr
        intro ad ws tys H locs ls cst hR hF
        obtain ⟨r1, rfl, hF1⟩ := zF2_int hF
        obtain ⟨r2, rfl, hF2⟩ := zF2_int hF1
        obtain ⟨a, r3, rfl, ha, hF3⟩ := zF2_ref hF2
        obtain ⟨r4, rfl, hF4⟩ := zF2_int hF3
        obtain ⟨b, r5, rfl, hb9, hF5⟩ := zF2_ref hF4
        obtain ⟨q1, hWd, hK, hP, hD, hS, hLo⟩ := id hR
        have hsz : ls.size = zml M := hLo.choose_spec.1.1
        obtain ⟨w0, hv1, cA, t0, ht, hv2⟩ := hWd.at (zisA_at hn1) ha
        have hv2 : w0 = _ := hv2
        subst hv2
        obtain ⟨w9, hu1, cB, t1, hu, hu2⟩ := hWd.at (zisA_at hn0) hb9
        have hu2 : w9 = _ := hu2
        subst hu2
        have hcs := zF2_cs hF5
        have g6 := Nat.le_of_ble_eq_true g6
        have hnf : nativeFrameWords "java/lang/System" "arraycopy" 5 = 7 := by decide +kernel
        refine va_copyi (ty := .int) hx hb (hml.trans hsz.symm) hown (hts _ (zw_in h1)) (hts _ (zw_in h2)) (hts _ (zw_in h3)) (hts _ (zw_in h4)) hK hP hD hS j k t1 t0 hu1 hv1 hu ht rfl (by simpa using g1) (by simpa using g2) (by simpa using g3) (Nat.le_of_ble_eq_true g4) (Nat.le_of_ble_eq_true g5) (fun _ _ => rfl) h5 (by rw [hcs, hnf]; omega) hd (fun H1 locs1 hP1 hD1 hS1 => ?_)
        rw [← zcpy_eq] at hP1 hD1
        exact hk ad _ tys H1 locs1 ls r5 ⟨q1, hWd.set (h' := (h.1, zcpy h.2.1 j sp.toNatClampNeg k dp.toNatClampNeg n.toNatClampNeg, h.2.2.1, h.2.2.2)) rfl (zisA_at hn1) ha hv1 ⟨cA, t0, ht, rfl⟩ (fun j hj => ⟨zcpy_ne hj, rfl, rfl⟩), hK, hP1, hD1, hS1, hLo⟩ hF5
      | [], hrr => simp [zokr] at hrr
      | [_], hrr => simp [zokr] at hrr
      | [_, _], hrr => simp [zokr] at hrr
      | [_, _, _], hrr => simp [zokr] at hrr
    · cases hs
  · cases hs
set_option maxRecDepth 20000 in
theorem zs_strlen {i : Nat} {nr : List Nat} (C : zCx Z M A xK xV ad0 p s m args meth c) (hf : zfetch M pc = some (.invokevirtual i, len, 5 :: nr, z)) (hs : zstep M (pc, lo, st, h, ce, sl) = some (true, .inl (bs, S'))) (hk : zAW M D A ad0 p l e s m args below meth c Q (zsel bs S')) : zAW M D A ad0 p l e s m args below meth c Q (pc, lo, st, h, ce, sl) := by
  obtain ⟨hx, hb, hml, hown, hts, hA, hr, hlk, hnm, hok, hX, hx0, hx1⟩ := C
  obtain ⟨hd, hle, hrr⟩ := zok_dec Z hok hf
  have hle : len = 3 := hle.resolve_left (by simp [zsw_in])
  subst hle
  simp only [zstep, hf, zinv, zg] at hs
  split at hs
  · rename_i k0 r
    obtain ⟨k, hk0⟩ : ∃ k : Nat, k = k0 := ⟨k0, rfl⟩
    subst hk0
    injection hs with hs; injection hs with hg hs; injection hs with hs; injection hs with hb1 hb2; subst hb1; subst hb2
    simp only [Bool.and_eq_true] at hg
    obtain ⟨⟨⟨⟨g1, g2⟩, g3⟩, hce⟩, hsl⟩ := hg
    have g1 := Nat.le_of_ble_eq_true g1
    have g2 := Nat.le_of_ble_eq_true g2
    have g3 := Nat.le_of_ble_eq_true g3
    match nr, hrr with
    | [], hrr => simp [zokr] at hrr
    | w1 :: _, hrr =>
    simp only [zokr, Bool.and_eq_true, decide_eq_true_eq] at hrr
    obtain ⟨⟨h1, h2⟩, h3⟩ := hrr
    intro ad ws tys H locs ls cst hR hF
    obtain ⟨q1, hWd, hK, hP, hD, hS, hLo⟩ := id hR
    obtain ⟨a, rl, rfl, ha, hFl⟩ := zF2_ref hF
    have hi : k - 1001 < 2 := by omega
    have hak : a = xK (k - 1001) := by
      rcases (show k = 1001 ∨ k = 1002 by omega) with rfl | rfl
      · have := q1 _ _ hx0
        rw [ha] at this
        exact Option.some.inj this
      · have := q1 _ _ hx1
        rw [ha] at this
        exact Option.some.inj this
    subst hak
    have hcs := zF2_cs hFl
    refine va_calli (va_runV (C := RJ0) (b := xK (k - 1001)) (As := []) (rest := rl) ⟨hx, hb, hml, hown, hts⟩ (zc_length l xK xV hi) ⟨callB_of (bytes := cJ0_length_8abf5) (maxL := 1) (ret := (some .int)) 0 hts (zgood (zw_in (i := 7037) (by decide +kernel))) rfl rfl rfl (hts (.initialized RJ0) (zw_in (i := 7003) (by decide +kernel))) (hts _ (zw_in h1)) (by decide +kernel) ⟨Nat.le_trans (by decide : 1 + 1 ≤ 4) h2, Nat.le_trans (by decide : 8 + (1 + 11) + 20 ≤ 85) h3⟩, hts (.instanceMethod yJ0_length_8abf5) (zw_in (i := 7035) (by decide +kernel)), hts (.selects RJ0 yJ0_length_8abf5 yJ0_length_8abf5) (zw_in (i := 7036) (by decide +kernel))⟩ ⟨zblind, vk_recv hX.1 hi hS, fun U hU hW => ⟨rfl, by
      show zX xK xV zFl U U.heap
      rw [hU]
      exact ((hX.kept (fun a h1 h2 => hS.2.1 a h1 h2)).warm hW).narrow (fun _ z => z.elim)⟩⟩ rfl rfl hLo.choose_spec.1.1 rfl (lv_room (by rw [hcs]; exact g3)) hd ⟨Nat.le_of_ble_eq_true hce, Nat.le_of_ble_eq_true hsl⟩) hS (fun q _ z => z.elim) (fun q z => z.elim) (fun rv u t H1 locs1 ht hvm hw hB hz1 hk1 hS1 => ?_)
    subst hw
    exact hk ad ws tys H1 locs1 ls _ ⟨q1, hWd, hK, hP.kept (fun i q hq => hk1 q.1 ((hP i q hq).lt) (fun z => z)), hD, hS1, hLo⟩ ⟨rfl, hFl⟩
  · cases hs
set_option maxRecDepth 20000 in
theorem zs_strchar {i : Nat} {nr : List Nat} (C : zCx Z M A xK xV ad0 p s m args meth c) (hf : zfetch M pc = some (.invokevirtual i, len, 6 :: nr, z)) (hs : zstep M (pc, lo, st, h, ce, sl) = some (true, .inl (bs, S'))) (hk : zAW M D A ad0 p l e s m args below meth c Q (zsel bs S')) : zAW M D A ad0 p l e s m args below meth c Q (pc, lo, st, h, ce, sl) := by
  obtain ⟨hx, hb, hml, hown, hts, hA, hr, hlk, hnm, hok, hX, hx0, hx1⟩ := C
  obtain ⟨hd, hle, hrr⟩ := zok_dec Z hok hf
  have hle : len = 3 := hle.resolve_left (by simp [zsw_in])
  subst hle
  simp only [zstep, hf, zinv, zg] at hs
  split at hs
  · rename_i i k0 r
    obtain ⟨k, hk0⟩ : ∃ k : Nat, k = k0 := ⟨k0, rfl⟩
    subst hk0
    injection hs with hs; injection hs with hg hs; injection hs with hs; injection hs with hb1 hb2; subst hb1; subst hb2
    simp only [Bool.and_eq_true] at hg
    obtain ⟨⟨⟨⟨⟨g1, g2⟩, g3⟩, g4⟩, hce⟩, hsl⟩ := hg
    have g1 := Nat.le_of_ble_eq_true g1
    have g2 := Nat.le_of_ble_eq_true g2
    have g3 := Nat.le_of_ble_eq_true g3
    match nr, hrr with
    | [], hrr => simp [zokr] at hrr
    | w1 :: _, hrr =>
    simp only [zokr, Bool.and_eq_true, decide_eq_true_eq] at hrr
    obtain ⟨⟨h1, h2⟩, h3⟩ := hrr
    intro ad ws tys H locs ls cst hR hF
    obtain ⟨q1, hWd, hK, hP, hD, hS, hLo⟩ := id hR
    obtain ⟨r1, rfl, hF1⟩ := zF2_int hF
    obtain ⟨a, rl, rfl, ha, hFl⟩ := zF2_ref hF1
    have hi : k - 1001 < 2 := by omega
    have hak : a = xK (k - 1001) := by
      rcases (show k = 1001 ∨ k = 1002 by omega) with rfl | rfl
      · have := q1 _ _ hx0
        rw [ha] at this
        exact Option.some.inj this
      · have := q1 _ _ hx1
        rw [ha] at this
        exact Option.some.inj this
    subst hak
    have hcs := zF2_cs hFl
    refine va_calli (va_runV (C := RJ0) (b := xK (k - 1001)) (As := [.int i]) (rest := rl) ⟨hx, hb, hml, hown, hts⟩ (zc_charAt l xK xV hi (zin_of g4)) ⟨callB_of (bytes := cJ0_charAt_5068e) (maxL := 2) (ret := (some .char)) 1 hts (zgood (zw_in (i := 7047) (by decide +kernel))) rfl rfl rfl (hts (.initialized RJ0) (zw_in (i := 7003) (by decide +kernel))) (hts _ (zw_in h1)) (by decide +kernel) ⟨Nat.le_trans (by decide : 3 + 1 ≤ 4) h2, Nat.le_trans (by decide : 8 + (2 + 11) + 64 ≤ 85) h3⟩, hts (.instanceMethod yJ0_charAt_5068e) (zw_in (i := 7045) (by decide +kernel)), hts (.selects RJ0 yJ0_charAt_5068e yJ0_charAt_5068e) (zw_in (i := 7046) (by decide +kernel))⟩ ⟨zblind, vk_recv hX.1 hi hS, fun U hU hW => ⟨rfl, by
      show zX xK xV zFl U U.heap
      rw [hU]
      exact ((hX.kept (fun a h1 h2 => hS.2.1 a h1 h2)).warm hW).narrow (fun _ z => z.elim)⟩⟩ rfl rfl hLo.choose_spec.1.1 rfl (lv_room (by rw [hcs]; exact g3)) hd ⟨Nat.le_of_ble_eq_true hce, Nat.le_of_ble_eq_true hsl⟩) hS (fun q _ z => z.elim) (fun q z => z.elim) (fun rv u t H1 locs1 ht hvm hw hB hz1 hk1 hS1 => ?_)
    subst hw
    exact hk ad ws tys H1 locs1 ls _ ⟨q1, hWd, hK, hP.kept (fun i q hq => hk1 q.1 ((hP i q hq).lt) (fun z => z)), hD, hS1, hLo⟩ ⟨rfl, hFl⟩
  · cases hs
end ZG
