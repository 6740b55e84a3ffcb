/-! what makes cells; switches -/
def zdef (ty : FieldType) : Value := match ty with
  | .int => .int 0
  | .boolean => .int 0
  | .long => .long 0
  | _ => .null
theorem zdef_ok : ∀ ci, ci < 11 → ∀ f, f < zN ci → zdef (zty ci f) = defaultValue (zty ci f) := by decide +kernel
theorem zsw_first {g : Nat → Int → Bool × zS} (d : zS) : ∀ (os : List Int) (g : Nat → Int → Bool × zS), (∃ i o, os[i]? = some o ∧ (g i o).1 = true ∧ zsel (os.mapIdx g) d = (g i o).2) ∨ ((∀ i o, os[i]? = some o → (g i o).1 = false) ∧ zsel (os.mapIdx g) d = d) := by
  intro os
  induction os with
  | nil => intro g; exact Or.inr ⟨fun i o h => by simp at h, rfl⟩
  | cons a os ih =>
    intro g
    rw [List.mapIdx_cons]
    cases hg : (g 0 a).1 with
    | true =>
      refine Or.inl ⟨0, a, rfl, hg, ?_⟩
      show zsw ((g 0 a) :: _) id d = _
      rw [show g 0 a = ((g 0 a).1, (g 0 a).2) from rfl, hg]
      rfl
    | false =>
      have e : zsel (g 0 a :: os.mapIdx (fun i => g (i + 1))) d = zsel (os.mapIdx (fun i => g (i + 1))) d := by
        show zsw ((g 0 a) :: _) id d = _
        rw [show g 0 a = ((g 0 a).1, (g 0 a).2) from rfl, hg]
        rfl
      rw [e]
      rcases ih (fun i => g (i + 1)) with ⟨i, o, h1, h2, h3⟩ | ⟨h1, h2⟩
      · exact Or.inl ⟨i + 1, o, by simpa using h1, h2, h3⟩
      · refine Or.inr ⟨fun i o h => ?_, h2⟩
        cases i with
        | zero => simp at h; subst h; exact hg
        | succ i => exact h1 i o (by simpa using h)
section ZM
variable {Z : Nat → zMeth} {M : zMeth} {D : va_G} {A : Nat → Prop} {xK xV : Nat → Nat} {ad0 : Nat → Option Nat} {p : Program} {l : Launch} {e : Env} {s : State} {m : MethodId} {args : Array Value} {below : List Frame} {meth : Method} {c : Code} {Q : State → Prop}
variable {pc len : Nat} {lo : List (Option Value)} {st : List Value} {h : zH} {ce sl : Nat} {ns : List Nat} {z : Int} {bs : List (Bool × zS)} {S' : zS}
theorem zs_new {i : Nat} (C : zCx Z M A xK xV ad0 p s m args meth c) (hf : zfetch M pc = some (.new i, len, ns, z)) (hs : zstep M (pc, lo, st, h, ce, sl) = some (true, .inl (bs, S'))) (hk : zAW M D A ad0 p l e s m args below meth c Q (zsel bs S')) : zAW M D A ad0 p l e s m args below meth c Q (pc, lo, st, h, ce, sl) := by
  obtain ⟨hx, hb, hml, hown, hts, hA, hr, hlk, hnm, hok, hX, hx0, hx1⟩ := C
  obtain ⟨hd, hle, hrr⟩ := zok_dec Z hok hf
  have hle : len = 3 := hle.resolve_left (by simp [zsw_in])
  subst hle
  simp only [zstep, hf, zg, zk] at hs
  split at hs
  · rename_i ci ns'
    injection hs with hs; injection hs with hg hs; injection hs with hs; injection hs with hb1 hb2; subst hb1; subst hb2
    simp only [Bool.and_eq_true] at hg
    obtain ⟨⟨⟨hci, hlt⟩, hce⟩, hsl⟩ := hg
    have hci := Nat.blt_eq.mp hci
    have hlt := Nat.blt_eq.mp hlt
    match ns', hrr with
    | w1 :: w2 :: w3 :: _, hrr =>
      simp only [zokr, Bool.and_eq_true] at hrr
      obtain ⟨⟨hw1, hw2⟩, hw3⟩ := hrr
      intro ad ws tys H locs ls cst hR hF
      obtain ⟨g1, hWd, hK, hP, hD, hS, hLo⟩ := id hR
      refine va_new (ci := ci) (fs := (List.range (zN ci)).map (fun j => zdef (zty ci j))) hx hb hts (zcl_in hci) (zty ci) (zcl_ty hci) hown (hts _ (zw_in hw1)) (hts _ (zw_in hw2)) (hts _ (zw_in hw3)) hK hP hD hS hA (zcl_at hci) (fun j hj => ?_) (Nat.le_of_ble_eq_true hce) (Nat.le_of_ble_eq_true hsl) hd (fun q H1 hP1 hD1 hS1 => ?_)
      · rw [← zdef_ok ci hci j hj]
        simp [vp_V, hj]
      · have hno : ad h.1.length = none := hWd.2.2.1 _ (Nat.le_refl _) (by omega)
        have hWd1 := hWd.push (h' := znewo h ci) (e := .inl ci) (a := q) (w := .inr (ci, (List.range (zN ci)).map (fun j => zdef (zty ci j)))) (ty := []) hlt rfl ⟨_, rfl, hci, by simp, fun f hf9 => ⟨zdef (zty ci f), by simp [hf9], by
          unfold zfv zdef znewo
          generalize zty ci f = ty
          cases ty <;> simp [zfil_eq, zv, va_rf]⟩⟩ (fun j hj => ⟨zfil_ne hj, zfil_ne hj, zfil_ne hj⟩)
        rw [List.append_nil] at hWd1
        exact hk (zadd ad h.1.length q) _ tys H1 locs ls (.ref q :: cst) ⟨g1.tr (zadd_le hno), hWd1, hK, hP1, hD1, hS1, hLo.mono (zadd_le hno)⟩ ⟨⟨q, by simp [zadd], rfl⟩, hF.mono (zadd_le hno)⟩
    | [], hrr => simp [zokr] at hrr
    | [_], hrr => simp [zokr] at hrr
    | [_, _], hrr => simp [zokr] at hrr
  · cases hs
theorem zs_newarray {at9 : ArrayType} (C : zCx Z M A xK xV ad0 p s m args meth c) (hf : zfetch M pc = some (.newarray at9, len, ns, z)) (hs : zstep M (pc, lo, st, h, ce, sl) = some (true, .inl (bs, S'))) (hk : zAW M D A ad0 p l e s m args below meth c Q (zsel bs S')) : zAW M D A ad0 p l e s m args below meth c Q (pc, lo, st, h, ce, sl) := by
  obtain ⟨hx, hb, hml, hown, hts, hA, hr, hlk, hnm, hok, hX, hx0, hx1⟩ := C
  obtain ⟨hd, hle, hrr⟩ := zok_dec Z hok hf
  have hle : len = 2 := hle.resolve_left (by simp [zsw_in])
  subst hle
  simp only [zstep, hf, zg, zk] at hs
  split at hs
  · rename_i n r
    split at hs
    · rename_i t hs9
      injection hs with hs; injection hs with hg hs; injection hs with hs; injection hs with hb1 hb2; subst hb1; subst hb2
      simp only [Bool.and_eq_true] at hg
      obtain ⟨⟨⟨⟨hn0, hn1⟩, hlt⟩, hce⟩, hsl⟩ := hg
      have hlt := Nat.blt_eq.mp hlt
      have hn0 : ¬ n < 0 := by simpa using hn0
      have hn1 := Nat.le_of_ble_eq_true hn1
      match ns, hrr with
      | [], hrr => simp [zokr] at hrr
      | w :: _, hrr =>
      have hw : zw w (.arrayClass (newarray.typeOf at9)) = true := hrr
      intro ad ws tys H locs ls cst hR hF
      obtain ⟨r1, rfl, hF1⟩ := zF2_int hF
      obtain ⟨g1, hWd, hK, hP, hD, hS, hLo⟩ := id hR
      have hno : ad h.1.length = none := hWd.2.2.1 _ (Nat.le_refl _) (by omega)
      unfold zatk at hs9
      split at hs9
      · cases hs9
        refine va_newa (atype := .int) (a0 := (n.toNatClampNeg, .inl (fun _ => 0))) hx hb (hts _ (zw_in hw)) rfl hK hP hD hS hA (fun _ => rfl) hn0 rfl (by simp only [newarray.typeOf, componentBytes]; omega) (Nat.le_of_ble_eq_true hce) (Nat.le_of_ble_eq_true hsl) hd (fun q cA H1 hK1 hP1 hD1 hS1 => ?_)
        have hWd1 := hWd.push (h' := znewa h 0 n.toNatClampNeg) (e := .inr (0, n.toNatClampNeg)) (a := q) (w := .inl (cA, n.toNatClampNeg, .inl (fun _ => 0))) (ty := [(cA, newarray.typeOf .int)]) hlt rfl ⟨cA, tys.length, by rw [List.getElem?_append_right (Nat.le_refl _), Nat.sub_self]; rfl, by
          show Sum.inl _ = Sum.inl _
          congr 4
          funext b
          exact zfil_eq.symm⟩ (fun j hj => ⟨zfil_ne hj, zfil_ne hj, zfil_ne hj⟩)
        exact hk (zadd ad h.1.length q) _ _ H1 locs ls (.ref q :: r1) ⟨g1.tr (zadd_le hno), hWd1, hK1, hP1, hD1, hS1, hLo.mono (zadd_le hno)⟩ ⟨⟨q, by simp [zadd], rfl⟩, hF1.mono (zadd_le hno)⟩
      · cases hs9
        refine va_newa (atype := .long) (a0 := (n.toNatClampNeg, .inr (.inl (fun _ => 0)))) hx hb (hts _ (zw_in hw)) rfl hK hP hD hS hA (fun _ => rfl) hn0 rfl (by simp only [newarray.typeOf, componentBytes]; omega) (Nat.le_of_ble_eq_true hce) (Nat.le_of_ble_eq_true hsl) hd (fun q cA H1 hK1 hP1 hD1 hS1 => ?_)
        have hWd1 := hWd.push (h' := znewa h 1 n.toNatClampNeg) (e := .inr (1, n.toNatClampNeg)) (a := q) (w := .inl (cA, n.toNatClampNeg, .inr (.inl (fun _ => 0)))) (ty := [(cA, newarray.typeOf .long)]) hlt rfl ⟨cA, tys.length, by rw [List.getElem?_append_right (Nat.le_refl _), Nat.sub_self]; rfl, by
          show Sum.inl _ = Sum.inl _
          congr 5
          funext b
          exact zfil_eq.symm⟩ (fun j hj => ⟨zfil_ne hj, zfil_ne hj, zfil_ne hj⟩)
        exact hk (zadd ad h.1.length q) _ _ H1 locs ls (.ref q :: r1) ⟨g1.tr (zadd_le hno), hWd1, hK1, hP1, hD1, hS1, hLo.mono (zadd_le hno)⟩ ⟨⟨q, by simp [zadd], rfl⟩, hF1.mono (zadd_le hno)⟩
      · cases hs9
        refine va_newa (atype := .byte) (a0 := (n.toNatClampNeg, .inl (fun _ => 0))) hx hb (hts _ (zw_in hw)) rfl hK hP hD hS hA (fun _ => rfl) hn0 rfl (by simp only [newarray.typeOf, componentBytes]; omega) (Nat.le_of_ble_eq_true hce) (Nat.le_of_ble_eq_true hsl) hd (fun q cA H1 hK1 hP1 hD1 hS1 => ?_)
        have hWd1 := hWd.push (h' := znewa h 2 n.toNatClampNeg) (e := .inr (2, n.toNatClampNeg)) (a := q) (w := .inl (cA, n.toNatClampNeg, .inl (fun _ => 0))) (ty := [(cA, newarray.typeOf .byte)]) hlt rfl ⟨cA, tys.length, by rw [List.getElem?_append_right (Nat.le_refl _), Nat.sub_self]; rfl, by
          show Sum.inl _ = Sum.inl _
          congr 4
          funext b
          exact zfil_eq.symm⟩ (fun j hj => ⟨zfil_ne hj, zfil_ne hj, zfil_ne hj⟩)
        exact hk (zadd ad h.1.length q) _ _ H1 locs ls (.ref q :: r1) ⟨g1.tr (zadd_le hno), hWd1, hK1, hP1, hD1, hS1, hLo.mono (zadd_le hno)⟩ ⟨⟨q, by simp [zadd], rfl⟩, hF1.mono (zadd_le hno)⟩
      · cases hs9
        refine va_newa (atype := .boolean) (a0 := (n.toNatClampNeg, .inl (fun _ => 0))) hx hb (hts _ (zw_in hw)) rfl hK hP hD hS hA (fun _ => rfl) hn0 rfl (by simp only [newarray.typeOf, componentBytes]; omega) (Nat.le_of_ble_eq_true hce) (Nat.le_of_ble_eq_true hsl) hd (fun q cA H1 hK1 hP1 hD1 hS1 => ?_)
        have hWd1 := hWd.push (h' := znewa h 3 n.toNatClampNeg) (e := .inr (3, n.toNatClampNeg)) (a := q) (w := .inl (cA, n.toNatClampNeg, .inl (fun _ => 0))) (ty := [(cA, newarray.typeOf .boolean)]) hlt rfl ⟨cA, tys.length, by rw [List.getElem?_append_right (Nat.le_refl _), Nat.sub_self]; rfl, by
          show Sum.inl _ = Sum.inl _
          congr 4
          funext b
          exact zfil_eq.symm⟩ (fun j hj => ⟨zfil_ne hj, zfil_ne hj, zfil_ne hj⟩)
        exact hk (zadd ad h.1.length q) _ _ H1 locs ls (.ref q :: r1) ⟨g1.tr (zadd_le hno), hWd1, hK1, hP1, hD1, hS1, hLo.mono (zadd_le hno)⟩ ⟨⟨q, by simp [zadd], rfl⟩, hF1.mono (zadd_le hno)⟩
      · cases hs9
    · cases hs
  · cases hs
theorem zs_anewarray {i : Nat} (C : zCx Z M A xK xV ad0 p s m args meth c) (hf : zfetch M pc = some (.anewarray i, len, ns, z)) (hs : zstep M (pc, lo, st, h, ce, sl) = some (true, .inl (bs, S'))) (hk : zAW M D A ad0 p l e s m args below meth c Q (zsel bs S')) : zAW M D A ad0 p l e s m args below meth c Q (pc, lo, st, h, ce, sl) := by
  obtain ⟨hx, hb, hml, hown, hts, hA, hr, hlk, hnm, hok, hX, hx0, hx1⟩ := C
  obtain ⟨hd, hle, hrr⟩ := zok_dec Z hok hf
  have hle : len = 3 := hle.resolve_left (by simp [zsw_in])
  subst hle
  simp only [zstep, hf, zg, zk] at hs
  split at hs
  · rename_i n r
    injection hs with hs; injection hs with hg hs; injection hs with hs; injection hs with hb1 hb2; subst hb1; subst hb2
    simp only [Bool.and_eq_true] at hg
    obtain ⟨⟨⟨⟨hn0, hn1⟩, hlt⟩, hce⟩, hsl⟩ := hg
    have hlt := Nat.blt_eq.mp hlt
    have hn0 : ¬ n < 0 := by simpa using hn0
    have hn1 := Nat.le_of_ble_eq_true hn1
    match ns, hrr with
    | [], hrr => simp [zokr] at hrr
    | w1 :: _, hrr =>
    simp only [zokr] at hrr
    intro ad ws tys H locs ls cst hR hF
    obtain ⟨r1, rfl, hF1⟩ := zF2_int hF
    obtain ⟨g1, hWd, hK, hP, hD, hS, hLo⟩ := id hR
    have hno : ad h.1.length = none := hWd.2.2.1 _ (Nat.le_refl _) (by omega)
    refine va_newq hx hb hown (hts _ (zw_in hrr)) hX.2.2.2.2.2.1 hK hP hD hS hA hn0 rfl (by omega) (Nat.le_of_ble_eq_true hce) (Nat.le_of_ble_eq_true hsl) hd (fun q cA H1 hK1 hP1 hD1 hS1 => ?_)
    have hWd1 := hWd.push (h' := znewa h 4 n.toNatClampNeg) (e := .inr (4, n.toNatClampNeg)) (a := q) (w := .inl (cA, n.toNatClampNeg, .inr (.inr (.inr (.inr (fun _ => none)))))) (ty := [(cA, .object "DayWords$Row")]) hlt rfl ⟨cA, tys.length, by rw [List.getElem?_append_right (Nat.le_refl _), Nat.sub_self]; rfl, _, rfl, fun j _ => by
      show zo _ (zfil h.2.2.2 h.1.length none h.1.length j) none
      rw [zfil_eq]
      exact rfl⟩ (fun j hj => ⟨zfil_ne hj, zfil_ne hj, zfil_ne hj⟩)
    exact hk (zadd ad h.1.length q) _ _ H1 locs ls (.ref q :: r1) ⟨g1.tr (zadd_le hno), hWd1, hK1, hP1, hD1, hS1, hLo.mono (zadd_le hno)⟩ ⟨⟨q, by simp [zadd], rfl⟩, hF1.mono (zadd_le hno)⟩
  · cases hs
theorem zs_tableswitch {d0 a0 b0 : Int} {offs : Array Int} (C : zCx Z M A xK xV ad0 p s m args meth c) (hf : zfetch M pc = some (.tableswitch d0 a0 b0 offs, len, ns, z)) (hs : zstep M (pc, lo, st, h, ce, sl) = some (true, .inl (bs, S'))) (hk : zAW M D A ad0 p l e s m args below meth c Q (zsel bs S')) : zAW M D A ad0 p l e s m args below meth c Q (pc, lo, st, h, ce, sl) := by
  obtain ⟨hx, hb, hml, hown, hts, hA, hr, hlk, hnm, hok, hX, hx0, hx1⟩ := C
  obtain ⟨hd, hle, hrr⟩ := zok_dec Z hok hf
  simp only [zstep, hf, zg, zk] at hs
  split at hs
  · rename_i x r
    cases hs
    simp only [zokr, Bool.and_eq_true, decide_eq_true_eq, List.all_eq_true] at hrr
    obtain ⟨⟨⟨⟨h1, h2⟩, h3⟩, h4⟩, h5⟩ := hrr
    subst h2
    intro ad ws tys H locs ls cst hR hF
    obtain ⟨r1, rfl, hF1⟩ := zF2_int hF
    rcases zsw_first (g := fun _ _ => (true, (pc, lo, r, h, ce, sl))) (zoff pc d0, lo, r, h, ce, sl) offs.toList (fun i o => (decide (x = Int32.ofInt (0 + (i : Int))), (zoff pc o, lo, r, h, ce, sl))) with ⟨i, o, q1, q2, q3⟩ | ⟨q1, q2⟩
    · rw [q3] at hk
      have hi : i < offs.toList.length := (List.getElem?_eq_some_iff.mp q1).1
      have hi2 : i < offs.size := by simpa using hi
      have hxi : x = Int32.ofInt (0 + (i : Int)) := of_decide_eq_true q2
      have hxt : x.toInt = (i : Int) := by
        rw [hxi, Int.zero_add, Int32.toInt_ofInt_of_le] <;> simp <;> omega
      refine lv_tableIn hx hb hd (by omega) (by omega) (off := o) ?_ (zoff_eq (h5 o (List.mem_of_getElem? q1))) (hk ad ws tys H locs ls r1 hR hF1)
      rw [hxt, Int.sub_zero, Int.toNat_natCast, ← Array.getElem?_toList]
      exact q1
    · rw [q2] at hk
      refine lv_tableOut hx hb hd ?_ (zoff_eq h1) (hk ad ws tys H locs ls r1 hR hF1)
      rcases Classical.em (x.toInt < 0 ∨ b0 < x.toInt) with q | q
      · exact q
      · exfalso
        have hlt : x.toInt.toNat < offs.toList.length := by rw [Array.length_toList]; omega
        have := q1 x.toInt.toNat _ (List.getElem?_eq_getElem hlt)
        have hx9 : x = Int32.ofInt (0 + (x.toInt.toNat : Int)) := by
          rw [Int.zero_add, Int.toNat_of_nonneg (by omega), Int32.ofInt_toInt]
        exact absurd hx9 (of_decide_eq_false this)
  · cases hs
theorem zsw_look {pc : Nat} {lo : List (Option Value)} {r : List Value} {h : zH} {ce sl : Nat} {x : Int32} {d : Int} : ∀ (ps : List (Int × Int)), (∀ q ∈ ps, (Int32.ofInt q.1).toInt = q.1) → zsel (ps.map (fun q => (decide (x = Int32.ofInt q.1), (zoff pc q.2, lo, r, h, ce, sl)))) (zoff pc d, lo, r, h, ce, sl) = (zoff pc (Op.lookupswitch.offset ps d x.toInt), lo, r, h, ce, sl)
  | [], _ => rfl
  | (a, o) :: ps, hq => by
    rw [Op.lookupswitch.offset_cons]
    have ih := zsw_look (pc := pc) (lo := lo) (r := r) (h := h) (ce := ce) (sl := sl) (x := x) (d := d) ps (fun q h => hq q (List.mem_cons_of_mem _ h))
    have ha := hq (a, o) List.mem_cons_self
    by_cases hx : x = Int32.ofInt a
    · have hz : decide (x = Int32.ofInt a) = true := decide_eq_true hx
      rw [if_pos (by rw [hx]; exact ha.symm)]
      show zsw ((decide (x = Int32.ofInt a), _) :: _) id _ = _
      rw [hz]
      rfl
    · have hz : decide (x = Int32.ofInt a) = false := decide_eq_false hx
      rw [if_neg (fun q => hx (Int32.toInt_inj.mp (by rw [ha]; exact q.symm))), ← ih]
      show zsw ((decide (x = Int32.ofInt a), _) :: _) id _ = _
      rw [hz]
      rfl
theorem zlook_ok {pc : Nat} {d : Int} {x : Int} : ∀ (ps : List (Int × Int)), 0 ≤ (pc : Int) + d → (∀ q ∈ ps, 0 ≤ (pc : Int) + q.2) → 0 ≤ (pc : Int) + Op.lookupswitch.offset ps d x
  | [], h, _ => h
  | (a, o) :: ps, h, hq => by
    rw [Op.lookupswitch.offset_cons]
    split
    · exact hq (a, o) List.mem_cons_self
    · exact zlook_ok ps h (fun q h => hq q (List.mem_cons_of_mem _ h))
theorem zs_lookupswitch {d0 : Int} {ps : Array (Int × Int)} (C : zCx Z M A xK xV ad0 p s m args meth c) (hf : zfetch M pc = some (.lookupswitch d0 ps, len, ns, z)) (hs : zstep M (pc, lo, st, h, ce, sl) = some (true, .inl (bs, S'))) (hk : zAW M D A ad0 p l e s m args below meth c Q (zsel bs S')) : zAW M D A ad0 p l e s m args below meth c Q (pc, lo, st, h, ce, sl) := by
  obtain ⟨hx, hb, hml, hown, hts, hA, hr, hlk, hnm, hok, hX, hx0, hx1⟩ := C
  obtain ⟨hd, hle, hrr⟩ := zok_dec Z hok hf
  simp only [zstep, hf, zg, zk] at hs
  split at hs
  · rename_i x r
    cases hs
    simp only [zokr, Bool.and_eq_true, decide_eq_true_eq, List.all_eq_true (l := ps.toList)] at hrr
    obtain ⟨⟨h1, h2⟩, h3⟩ := hrr
    intro ad ws tys H locs ls cst hR hF
    obtain ⟨r1, rfl, hF1⟩ := zF2_int hF
    rw [zsw_look ps.toList (fun q hq => (h3 q hq).2)] at hk
    exact lv_lookup hx hb hd h2 rfl (zoff_eq (zlook_ok _ h1 (fun q hq => (h3 q hq).1))) (hk ad ws tys H locs ls r1 hR hF1)
  · cases hs
end ZM
