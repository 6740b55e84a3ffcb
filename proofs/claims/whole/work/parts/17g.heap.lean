/-! tables of the classes, by number -/
def zlay : List (List Nat) := [[7171, 7173], [7221, 7223, 7225, 7227, 7229, 7231, 7233, 7235, 7237, 7239, 8001], [8150, 8152, 8154, 8156, 8158, 8160, 8162, 8164, 8166, 8168, 8170, 8172, 8174, 8176, 8178, 8180], [7084], [7130, 7132, 7134, 7136, 7138, 7140, 7142, 7144, 7146, 7148, 7150, 7152, 7154, 7156, 7158], [8113, 8115], [7100, 7102], [8063, 8065, 8067, 8069, 8071, 8073, 8075, 8077, 8079, 8081, 8083, 8085, 8087, 8089], [8101], [8196, 8198, 8200, 8202, 8204, 8206, 8208, 8210, 8212, 8214, 8216, 8218, 8220], [11021, 11023, 11025, 11027, 11029, 11031, 11033, 11035, 11037, 11039, 11041, 11043, 11045, 11047, 11049, 11051, 11053, 11055, 11057, 11059, 11061, 11063, 11065, 11067, 11069, 11071, 11073, 11075, 11077, 11079, 11081, 11083, 11085, 11087, 11089, 11091, 11093, 11095, 11097, 11099, 11101, 11103, 11105, 11107, 11109, 11111, 11113, 11115]]
theorem zlay_ok : ∀ ci, ci < 11 → ∀ f, f < zN ci → zw ((zlay.getD ci []).getD f 0) (u_lay (zcn ci) (zTT ci) f) = true := by decide +kernel
theorem zcl_in {ci : Nat} (h : ci < 11) : ∀ w ∈ u_ws (zcn ci) (zTT ci) (zN ci), w ∈ zT := by
  intro w hw
  obtain ⟨f, hf, rfl⟩ := List.mem_map.mp hw
  exact zw_in (zlay_ok ci h f (List.mem_range.mp hf))
theorem zcl_at {ci : Nat} (h : ci < 11) : vwCl[ci]? = some (zcn ci, zTT ci, zN ci) := by
  rcases (show ci = 0 ∨ ci = 1 ∨ ci = 2 ∨ ci = 3 ∨ ci = 4 ∨ ci = 5 ∨ ci = 6 ∨ ci = 7 ∨ ci = 8 ∨ ci = 9 ∨ ci = 10 by omega) with rfl | rfl | rfl | rfl | rfl | rfl | rfl | rfl | rfl | rfl | rfl <;> rfl
theorem zcl_ty {ci : Nat} (h : ci < 11) : ∀ f, f < zN ci → parseFieldDescriptor (zTT ci f).2.2.1 = some (zty ci f) := by
  rcases (show ci = 0 ∨ ci = 1 ∨ ci = 2 ∨ ci = 3 ∨ ci = 4 ∨ ci = 5 ∨ ci = 6 ∨ ci = 7 ∨ ci = 8 ∨ ci = 9 ∨ ci = 10 by omega) with rfl | rfl | rfl | rfl | rfl | rfl | rfl | rfl | rfl | rfl | rfl
  · exact tyX0_ok
  · exact tyX1_ok
  · exact tyX2_ok
  · exact tyX3_ok
  · exact tyX4_ok
  · exact tyX5_ok
  · exact tyX6_ok
  · exact tyX7_ok
  · exact tyX8_ok
  · exact tyX9_ok
  · exact tyX10_ok
theorem zcl_nm {ci : Nat} (h : ci < 11) : ∀ a, a < zN ci → ∀ b, b < zN ci → a ≠ b → (zTT ci a).2.1 ≠ (zTT ci b).2.1 := by
  rcases (show ci = 0 ∨ ci = 1 ∨ ci = 2 ∨ ci = 3 ∨ ci = 4 ∨ ci = 5 ∨ ci = 6 ∨ ci = 7 ∨ ci = 8 ∨ ci = 9 ∨ ci = 10 by omega) with rfl | rfl | rfl | rfl | rfl | rfl | rfl | rfl | rfl | rfl | rfl
  · exact nmX0
  · exact nmX1
  · exact nmX2
  · exact nmX3
  · exact nmX4
  · exact nmX5
  · exact nmX6
  · exact nmX7
  · exact nmX8
  · exact nmX9
  · exact nmX10
/-! worlds change -/
theorem zup_ne {α : Type} {f : Nat → Nat → α} {k i j : Nat} {v : α} (h : j ≠ k) : zup f k i v j = f j := by
  funext b
  have : Nat.beq j k = false := by
    cases hq : Nat.beq j k with
    | false => rfl
    | true => exact absurd (Nat.eq_of_beq_eq_true hq) h
  simp [zup, this]
theorem zup_eq {α : Type} {f : Nat → Nat → α} {k i b : Nat} {v : α} : zup f k i v k b = if b = i then v else f k b := by
  by_cases h : b = i
  · subst h
    simp [zup]
  · have : Nat.beq b i = false := by
      cases hq : Nat.beq b i with
      | false => rfl
      | true => exact absurd (Nat.eq_of_beq_eq_true hq) h
    simp [zup, this, h]
theorem zfil_ne {α : Type} {f : Nat → Nat → α} {k j : Nat} {v : α} (h : j ≠ k) : zfil f k v j = f j := by
  funext b
  have : Nat.beq j k = false := by
    cases hq : Nat.beq j k with
    | false => rfl
    | true => exact absurd (Nat.eq_of_beq_eq_true hq) h
  simp [zfil, this]
theorem zfil_eq {α : Type} {f : Nat → Nat → α} {k b : Nat} {v : α} : zfil f k v k b = v := by simp [zfil]
theorem zfv_congr {h h' : zH} {k f : Nat} {ty : FieldType} (h1 : h'.2.1 k = h.2.1 k) (h2 : h'.2.2.1 k = h.2.2.1 k) (h3 : h'.2.2.2 k = h.2.2.2 k) : zfv h' ty k f = zfv h ty k f := by
  unfold zfv
  split <;> simp only [h1, h2, h3]
theorem zce.congr {ad : Nat → Option Nat} {tys : List (ClassId × FieldType)} {h h' : zH} {k : Nat} {e : zK} {w : va_E} (h1 : h'.2.1 k = h.2.1 k) (h2 : h'.2.2.1 k = h.2.2.1 k) (h3 : h'.2.2.2 k = h.2.2.2 k) (hz : zce ad tys h k e w) : zce ad tys h' k e w := by
  cases e with
  | inl ci =>
    obtain ⟨fs, e1, e2, e3, e4⟩ := hz
    refine ⟨fs, e1, e2, e3, fun f hf => ?_⟩
    obtain ⟨x, g1, g2⟩ := e4 f hf
    exact ⟨x, g1, by rw [zfv_congr h1 h2 h3]; exact g2⟩
  | inr q =>
    obtain ⟨t, n⟩ := q
    obtain ⟨cA, t0, e1, e2⟩ := hz
    refine ⟨cA, t0, e1, ?_⟩
    match t, e2 with
    | 0, e2 => show w = _; rw [h1]; exact e2
    | 1, e2 => show w = _; rw [h2]; exact e2
    | 2, e2 => show w = _; rw [h1]; exact e2
    | 3, e2 => show w = _; rw [h1]; exact e2
    | 4, e2 =>
      obtain ⟨f, e3, e4⟩ := e2
      exact ⟨f, e3, fun j hj => by rw [h3]; exact e4 j hj⟩
    | _ + 5, e2 => exact e2.elim
theorem zce.mono {ad ad' : Nat → Option Nat} (hl : zle ad ad') {tys tys' : List (ClassId × FieldType)} {h : zH} {k : Nat} {e : zK} {w : va_E} (hz : zce ad tys h k e w) : zce ad' (tys ++ tys') h k e w := by
  cases e with
  | inl ci =>
    obtain ⟨fs, e1, e2, e3, e4⟩ := hz
    refine ⟨fs, e1, e2, e3, fun f hf => ?_⟩
    obtain ⟨x, g1, g2⟩ := e4 f hf
    exact ⟨x, g1, g2.mono hl⟩
  | inr q =>
    obtain ⟨t, n⟩ := q
    obtain ⟨cA, t0, e1, e2⟩ := hz
    refine ⟨cA, t0, by rw [List.getElem?_append_left (List.getElem?_eq_some_iff.mp e1).1]; exact e1, ?_⟩
    match t, e2 with
    | 0, e2 => exact e2
    | 1, e2 => exact e2
    | 2, e2 => exact e2
    | 3, e2 => exact e2
    | 4, e2 =>
      obtain ⟨f, e3, e4⟩ := e2
      exact ⟨f, e3, fun j hj => (e4 j hj).mono hl⟩
    | _ + 5, e2 => exact e2.elim
theorem zWd.at {ad : Nat → Option Nat} {ws : va_W} {tys : List (ClassId × FieldType)} {h : zH} (hW : zWd ad ws tys h) {k a : Nat} {e : zK} (he : znth h.1 k = some e) (ha : ad k = some a) : ∃ w, ws[k]? = some (a, w) ∧ zce ad tys h k e w := by
  rw [znth_eq] at he
  obtain ⟨a', w, h1, h2, h3⟩ := hW.2.2.2 k e he
  rw [ha] at h2
  cases h2
  exact ⟨w, h1, h3⟩
theorem zWd.set {ad : Nat → Option Nat} {ws : va_W} {tys : List (ClassId × FieldType)} {h h' : zH} (hW : zWd ad ws tys h) (hsh : h'.1 = h.1) {k a : Nat} {e : zK} {w0 w : va_E} (he : znth h.1 k = some e) (ha : ad k = some a) (hk : ws[k]? = some (a, w0)) (hn : zce ad tys h' k e w) (ho : ∀ j, j ≠ k → h'.2.1 j = h.2.1 j ∧ h'.2.2.1 j = h.2.2.1 j ∧ h'.2.2.2 j = h.2.2.2 j) : zWd ad (ws.set k (a, w)) tys h' := by
  rw [znth_eq] at he
  refine ⟨by rw [List.length_set, hsh]; exact hW.1, by rw [hsh]; exact hW.2.1, by rw [hsh]; exact hW.2.2.1, fun j e' hj => ?_⟩
  rw [hsh] at hj
  by_cases hjk : j = k
  · subst hjk
    rw [he] at hj
    cases hj
    exact ⟨a, w, by rw [List.getElem?_set_self (List.getElem?_eq_some_iff.mp hk).1], ha, hn⟩
  · obtain ⟨a', w', h1, h2, h3⟩ := hW.2.2.2 j e' hj
    obtain ⟨o1, o2, o3⟩ := ho j hjk
    exact ⟨a', w', by rw [List.getElem?_set_ne (fun q => hjk q.symm)]; exact h1, h2, h3.congr o1 o2 o3⟩
/-- a cell more -/
def zadd (ad : Nat → Option Nat) (k a : Nat) : Nat → Option Nat := fun j => if j = k then some a else ad j
theorem zadd_le {ad : Nat → Option Nat} {k : Nat} (h : ad k = none) {a : Nat} : zle ad (zadd ad k a) := by
  intro j x hj
  unfold zadd
  by_cases q : j = k
  · subst q; rw [h] at hj; cases hj
  · rw [if_neg q]; exact hj
theorem zWd.push {ad : Nat → Option Nat} {ws : va_W} {tys : List (ClassId × FieldType)} {h h' : zH} (hW : zWd ad ws tys h) (hlt : h.1.length < 900) {e : zK} (hsh : h'.1 = h.1 ++ [e]) {a : Nat} {w : va_E} {ty : List (ClassId × FieldType)} (hn : zce (zadd ad h.1.length a) (tys ++ ty) h' h.1.length e w) (ho : ∀ j, j ≠ h.1.length → h'.2.1 j = h.2.1 j ∧ h'.2.2.1 j = h.2.2.1 j ∧ h'.2.2.2 j = h.2.2.2 j) : zWd (zadd ad h.1.length a) (ws ++ [(a, w)]) (tys ++ ty) h' := by
  have hno : ad h.1.length = none := hW.2.2.1 _ (Nat.le_refl _) (by omega)
  refine ⟨by rw [hsh, List.length_append, List.length_append, hW.1]; rfl, by rw [hsh, List.length_append]; exact hlt, fun j h1 h2 => ?_, fun j e' hj => ?_⟩
  · rw [hsh, List.length_append] at h1
    have h1 : h.1.length + 1 ≤ j := h1
    unfold zadd
    rw [if_neg (by omega)]
    exact hW.2.2.1 j (by omega) h2
  rw [hsh] at hj
  by_cases hjl : j < h.1.length
  · rw [List.getElem?_append_left hjl] at hj
    obtain ⟨a', w', h1, h2, h3⟩ := hW.2.2.2 j e' hj
    have hne : j ≠ h.1.length := Nat.ne_of_lt hjl
    obtain ⟨o1, o2, o3⟩ := ho j hne
    exact ⟨a', w', by rw [List.getElem?_append_left (by rw [hW.1]; exact hjl)]; exact h1, zadd_le hno _ _ h2, (h3.mono (zadd_le hno)).congr o1 o2 o3⟩
  · have hjl2 : j - h.1.length < 1 := by
      rw [List.getElem?_append_right (by omega)] at hj
      exact (List.getElem?_eq_some_iff.mp hj).1
    have hj3 : j = h.1.length := by omega
    subst hj3
    rw [List.getElem?_append_right (Nat.le_refl _), Nat.sub_self] at hj
    cases hj
    refine ⟨a, w, ?_, by simp [zadd], hn⟩
    rw [List.getElem?_append_right (by rw [hW.1]; exact Nat.le_refl _), hW.1, Nat.sub_self]
    rfl
theorem zisC_at {h : zH} {k ci : Nat} (hc : zisC h k ci = true) : znth h.1 k = some (.inl ci) := by
  unfold zisC at hc
  split at hc
  · rename_i x hx
    rw [hx, Nat.eq_of_beq_eq_true hc]
  · cases hc
theorem zisA_at {h : zH} {k t n : Nat} (hc : zisA h k t = some n) : znth h.1 k = some (.inr (t, n)) := by
  unfold zisA at hc
  split at hc
  · rename_i t' n' hx
    cases hb : Nat.beq t' t with
    | true => rw [hb] at hc; cases hc; rw [hx, Nat.eq_of_beq_eq_true hb]
    | false => rw [hb] at hc; cases hc
  · cases hc
theorem zlen_at {h : zH} {k n : Nat} (hc : zlen h k = some n) : ∃ t, znth h.1 k = some (.inr (t, n)) := by
  unfold zlen at hc
  split at hc
  · rename_i t' n' hx
    cases hc
    exact ⟨t', hx⟩
  · cases hc
theorem zin_of {i : Int32} {n : Nat} (h : zin i n = true) : vp_in i n := by
  simp only [zin, Bool.not_eq_true', Bool.or_eq_false_iff, decide_eq_false_iff_not] at h
  rintro (q | q)
  · exact h.1 q
  · rw [Nat.ble_eq_true_of_le q] at h
    cases h.2
section ZH
variable {Z : Nat → zMeth} {M : zMeth} {D : va_G} {A : Nat → Prop} {xK xV : Nat → Nat} {ad0 : Nat → Option Nat} {p : Program} {l : Launch} {e : Env} {s : State} {m : MethodId} {args : Array Value} {below : List Frame} {meth : Method} {c : Code} {Q : State → Prop}
variable {pc len : Nat} {lo : List (Option Value)} {st : List Value} {h : zH} {ce sl : Nat} {ns : List Nat} {z : Int} {bs : List (Bool × zS)} {S' : zS}
theorem zs_getfield {i : Nat} (C : zCx Z M A xK xV ad0 p s m args meth c) (hf : zfetch M pc = some (.getfield i, len, ns, z)) (hs : zstep M (pc, lo, st, h, ce, sl) = some (true, .inl (bs, S'))) (hk : zAW M D A ad0 p l e s m args below meth c Q (zsel bs S')) : zAW M D A ad0 p l e s m args below meth c Q (pc, lo, st, h, ce, sl) := by
  obtain ⟨hx, hb, hml, hown, hts, hA, hr, hlk, hnm, hok, hX, hx0, hx1⟩ := C
  obtain ⟨hd, hle, hrr⟩ := zok_dec Z hok hf
  have hle : len = 3 := hle.resolve_left (by simp [zsw_in])
  subst hle
  simp only [zstep, hf, zg] at hs
  split at hs
  · rename_i ci f ns' k r
    injection hs with hs; injection hs with hg hs; injection hs with hs; injection hs with hb1 hb2; subst hb1; subst hb2
    match ns', hrr with
    | [], hrr => simp [zokr] at hrr
    | w :: _, hrr =>
      simp only [zokr, Bool.and_eq_true, decide_eq_true_eq] at hrr
      obtain ⟨⟨hci, hfi⟩, hw⟩ := hrr
      intro ad ws tys H locs ls cst hR hF
      obtain ⟨a, r1, rfl, ha, hF1⟩ := zF2_ref hF
      obtain ⟨g1, hWd, hK, hP, hD, hS, hLo⟩ := id hR
      obtain ⟨w0, hw1, hw2⟩ := hWd.at (zisC_at hg) ha
      obtain ⟨fs, rfl, -, hfl, hfs⟩ := hw2
      obtain ⟨x, hx2, hx3⟩ := hfs f hfi
      exact va_get hx hb hts (zcl_in hci) hown hK hP k hw1 (zcl_at hci) f hfi (hts _ (zw_in hw)) (fun _ h9 => h9) hx2 hd (hk ad ws tys H locs ls (x :: r1) hR ⟨hx3, hF1⟩)
  · cases hs
theorem zs_putcore {i k f ci a : Nat} {ad : Nat → Option Nat} {ws : va_W} {tys : List (ClassId × FieldType)} {H : Heap} {locs : List Loc} {ls : Array Slot} {r1 : List Value} {h' : zH} {v w : Value} {n3 : Nat} (C : zCx Z M A xK xV ad0 p s m args meth c) (hd : decode (zb M) pc = .ok (.putfield i, 3)) (hci : ci < 11) (hfi : f < zN ci) (hw : (Cond.fieldLink (zy M).cls i (zTT ci f).1 (zTT ci f).2.1 (zTT ci f).2.2.1).before args s = true) (hfin : (zTT ci f).2.2.2 = false ∨ ((zy M).name = "<init>" ∧ (zTT ci f).1 = (zy M).cls)) (hn : narrow (zty ci f) w = w) (hfit : fits (zty ci f) w = true) (hR : zRe M D A ad0 ad ws tys s H locs ls lo h) (ha : ad k = some a) (hg : zisC h k ci = true) (hsh : h'.1 = h.1) (ho : ∀ j, j ≠ k → h'.2.1 j = h.2.1 j ∧ h'.2.2.1 j = h.2.2.1 j ∧ h'.2.2.2 j = h.2.2.2 j) (hsame : ∀ g, g < zN ci → g ≠ f → zfv h' (zty ci g) k g = zfv h (zty ci g) k g) (hnew : zv ad (zfv h' (zty ci f) k f) w)
    (hk : ∀ ws H locs, zRe M D A ad0 ad ws tys s H locs ls lo h' → W p l e (zrm M) s m args below meth c H locs ce sl Q (F0 m (pc + 3) ls r1)) : W p l e (zrm M) s m args below meth c H locs ce sl Q (F0 m pc ls (w :: .ref a :: r1)) := by
  obtain ⟨hx, hb, hml, hown, hts, hA, hr, hlk, hnm, hok, hX, hx0, hx1⟩ := C
  obtain ⟨g1, hWd, hK, hP, hD, hS, hLo⟩ := hR
  have he := zisC_at hg
  obtain ⟨w0, hw1, hw2⟩ := hWd.at he ha
  obtain ⟨fs, rfl, -, hfl, hfs⟩ := hw2
  have kk : ∀ (H1 : Heap) (locs1 : List Loc), va_P D vwCl (ws.set k (a, .inr (ci, fs.set f w))) H1 → va_D A (ws.set k (a, .inr (ci, fs.set f w))) → va_S A s.heap H1 locs1 → W p l e (zrm M) s m args below meth c H1 locs1 ce sl Q (F0 m (pc + 3) ls r1) := by
    intro H1 locs1 hP1 hD1 hS1
    refine hk _ H1 locs1 ⟨g1, hWd.set hsh he ha hw1 ?_ ho, hK, hP1, hD1, hS1, hLo⟩
    refine ⟨fs.set f w, rfl, hci, by rw [List.length_set]; exact hfl, fun g hg9 => ?_⟩
    by_cases q : g = f
    · subst q
      exact ⟨w, by rw [List.getElem?_set_self (by omega)], hnew⟩
    · obtain ⟨x, q1, q2⟩ := hfs g hg9
      exact ⟨x, by rw [List.getElem?_set_ne (fun z => q z.symm)]; exact q1, by rw [hsame g hg9 q]; exact q2⟩
  by_cases hfn : (zTT ci f).2.2.2 = false
  · exact va_put (ty := zty ci f) hx hb hts (zcl_in hci) (zty ci) (zcl_ty hci) (zcl_nm hci) hown hK hP hD hS k hw1 (zcl_at hci) f hfi hw (fun _ h9 => h9) hfn (zcl_ty hci f hfi) hn hfit (by omega) hd kk
  · obtain ⟨q1, q2⟩ := hfin.resolve_left hfn
    exact va_putF (ty := zty ci f) hx hb hts (zcl_in hci) (zty ci) (zcl_ty hci) (zcl_nm hci) hown hK hP hD hS k hw1 (zcl_at hci) f hfi hw (fun _ h9 => h9) (by simpa using hfn) (hnm.trans q1) q2 (zcl_ty hci f hfi) hn hfit (by omega) hd kk
theorem zfv_put_i {h : zH} {k f g : Nat} {ty : FieldType} {x : Int32} (hne : g ≠ f) : zfv (h.1, zup h.2.1 k f x, h.2.2.1, h.2.2.2) ty k g = zfv h ty k g := by
  unfold zfv
  split <;> simp only [zup_eq, if_neg hne]
theorem zfv_put_l {h : zH} {k f g : Nat} {ty : FieldType} {x : Int64} (hne : g ≠ f) : zfv (h.1, h.2.1, zup h.2.2.1 k f x, h.2.2.2) ty k g = zfv h ty k g := by
  unfold zfv
  split <;> simp only [zup_eq, if_neg hne]
theorem zfv_put_r {h : zH} {k f g : Nat} {ty : FieldType} {x : Option Nat} (hne : g ≠ f) : zfv (h.1, h.2.1, h.2.2.1, zup h.2.2.2 k f x) ty k g = zfv h ty k g := by
  unfold zfv
  split <;> simp only [zup_eq, if_neg hne]
theorem zs_putfield {i : Nat} (C : zCx Z M A xK xV ad0 p s m args meth c) (hf : zfetch M pc = some (.putfield i, len, ns, z)) (hs : zstep M (pc, lo, st, h, ce, sl) = some (true, .inl (bs, S'))) (hk : zAW M D A ad0 p l e s m args below meth c Q (zsel bs S')) : zAW M D A ad0 p l e s m args below meth c Q (pc, lo, st, h, ce, sl) := by
  have C0 := C
  obtain ⟨hx, hb, hml, hown, hts, hA, hr, hlk, hnm, hok, hX, hx0, hx1⟩ := C
  obtain ⟨hd, hle, hrr⟩ := zok_dec Z hok hf
  have hle : len = 3 := hle.resolve_left (by simp [zsw_in])
  subst hle
  simp only [zstep, hf] at hs
  split at hs
  · rename_i ci f ns' v k r
    match ns', hrr with
    | [], hrr => simp [zokr] at hrr
    | w :: _, hrr =>
      simp only [zokr, Bool.and_eq_true, decide_eq_true_eq, Bool.or_eq_true, Bool.not_eq_true'] at hrr
      obtain ⟨⟨⟨hci, hfi⟩, hw⟩, hfin⟩ := hrr
      split at hs
      · rename_i g h' hp
        simp only [zg] at hs
        injection hs with hs; injection hs with hg hs; injection hs with hs; injection hs with hb1 hb2; subst hb1; subst hb2
        rw [Bool.and_eq_true] at hg
        obtain ⟨hg, hg2⟩ := hg
        intro ad ws tys H locs ls cst hR hF
        unfold zput at hp
        generalize hty : zty ci f = ty at hp
        have hwl := hts _ (zw_in hw)
        split at hp
        · rename_i x
          injection hp with hp; injection hp with hp1 hp2; subst hp2
          obtain ⟨r0, rfl, hF0⟩ := zF2_int hF
          obtain ⟨a, r1, rfl, ha, hF1⟩ := zF2_ref hF0
          exact zs_putcore (n3 := 0) (h := h) (lo := lo) (h' := (h.1, zup h.2.1 k f x, h.2.2.1, h.2.2.2)) (v := .int x) C0 hd hci hfi hwl hfin (by rw [hty]; rfl) (by rw [hty]; rfl) hR ha hg rfl (fun j hj => ⟨zup_ne hj, rfl, rfl⟩) (fun g _ hne => zfv_put_i hne) (by rw [hty]; simp [zfv, zup_eq, zv]) (fun ws H locs hR2 => hk ad ws tys H locs ls r1 hR2 hF1)
        · rename_i x
          injection hp with hp; injection hp with hp1 hp2; subst hp2
          obtain ⟨r0, rfl, hF0⟩ := zF2_int hF
          obtain ⟨a, r1, rfl, ha, hF1⟩ := zF2_ref hF0
          rw [← hp1] at hg2
          have hx9 : x = 0 ∨ x = 1 := by simpa [znar] using hg2
          exact zs_putcore (n3 := 0) (h := h) (lo := lo) (h' := (h.1, zup h.2.1 k f x, h.2.2.1, h.2.2.2)) (v := .int x) C0 hd hci hfi hwl hfin (by rw [hty]; rcases hx9 with rfl | rfl <;> rfl) (by rw [hty]; rcases hx9 with rfl | rfl <;> rfl) hR ha hg rfl (fun j hj => ⟨zup_ne hj, rfl, rfl⟩) (fun g _ hne => zfv_put_i hne) (by rw [hty]; simp [zfv, zup_eq, zv]) (fun ws H locs hR2 => hk ad ws tys H locs ls r1 hR2 hF1)
        · rename_i x
          injection hp with hp; injection hp with hp1 hp2; subst hp2
          obtain ⟨r0, rfl, hF0⟩ := zF2_long hF
          obtain ⟨a, r1, rfl, ha, hF1⟩ := zF2_ref hF0
          exact zs_putcore (n3 := 0) (h := h) (lo := lo) (h' := (h.1, h.2.1, zup h.2.2.1 k f x, h.2.2.2)) (v := .long x) C0 hd hci hfi hwl hfin (by rw [hty]; rfl) (by rw [hty]; rfl) hR ha hg rfl (fun j hj => ⟨rfl, zup_ne hj, rfl⟩) (fun g _ hne => zfv_put_l hne) (by rw [hty]; simp [zfv, zup_eq, zv]) (fun ws H locs hR2 => hk ad ws tys H locs ls r1 hR2 hF1)
        · rename_i nm x
          injection hp with hp; injection hp with hp1 hp2; subst hp2
          obtain ⟨b, r0, rfl, hb9, hF0⟩ := zF2_ref hF
          obtain ⟨a, r1, rfl, ha, hF1⟩ := zF2_ref hF0
          exact zs_putcore (n3 := 0) (h := h) (lo := lo) (h' := (h.1, h.2.1, h.2.2.1, zup h.2.2.2 k f (some x))) (v := .ref x) C0 hd hci hfi hwl hfin (by rw [hty]; rfl) (by rw [hty]; rfl) hR ha hg rfl (fun j hj => ⟨rfl, rfl, zup_ne hj⟩) (fun g _ hne => zfv_put_r hne) (by rw [hty]; simp only [zfv, zup_eq, if_pos]; exact ⟨b, hb9, rfl⟩) (fun ws H locs hR2 => hk ad ws tys H locs ls r1 hR2 hF1)
        · rename_i nm x
          injection hp with hp; injection hp with hp1 hp2; subst hp2
          obtain ⟨b, r0, rfl, hb9, hF0⟩ := zF2_ref hF
          obtain ⟨a, r1, rfl, ha, hF1⟩ := zF2_ref hF0
          exact zs_putcore (n3 := 0) (h := h) (lo := lo) (h' := (h.1, h.2.1, h.2.2.1, zup h.2.2.2 k f (some x))) (v := .ref x) C0 hd hci hfi hwl hfin (by rw [hty]; rfl) (by rw [hty]; rfl) hR ha hg rfl (fun j hj => ⟨rfl, rfl, zup_ne hj⟩) (fun g _ hne => zfv_put_r hne) (by rw [hty]; simp only [zfv, zup_eq, if_pos]; exact ⟨b, hb9, rfl⟩) (fun ws H locs hR2 => hk ad ws tys H locs ls r1 hR2 hF1)
        · cases hp
      · cases hs
  · cases hs
theorem zs_arr {k a i : Nat} {ad : Nat → Option Nat} {ws : va_W} {tys : List (ClassId × FieldType)} {h h' : zH} {e0 : zK} {w0 w : va_E} (hWd : zWd ad ws tys h) (he : znth h.1 k = some e0) (ha : ad k = some a) (hw1 : ws[k]? = some (a, w0)) (hsh : h'.1 = h.1) (hn : zce ad tys h' k e0 w) (ho : ∀ j, j ≠ k → h'.2.1 j = h.2.1 j ∧ h'.2.2.1 j = h.2.2.1 j ∧ h'.2.2.2 j = h.2.2.2 j) : zWd ad (ws.set k (a, w)) tys h' := hWd.set hsh he ha hw1 hn ho
theorem zup_upd {f : Nat → Nat → Int32} {k i : Nat} {x : Int32} : upd (f k) i x = zup f k i x k := by
  funext b
  rw [zup_eq]
  rfl
theorem zup_updL {f : Nat → Nat → Int64} {k i : Nat} {x : Int64} : vp_updL (f k) i x = zup f k i x k := by
  funext b
  rw [zup_eq]
  rfl
theorem zs_iaload (C : zCx Z M A xK xV ad0 p s m args meth c) (hf : zfetch M pc = some (.iaload, len, ns, z)) (hs : zstep M (pc, lo, st, h, ce, sl) = some (true, .inl (bs, S'))) (hk : zAW M D A ad0 p l e s m args below meth c Q (zsel bs S')) : zAW M D A ad0 p l e s m args below meth c Q (pc, lo, st, h, ce, sl) := by
  obtain ⟨hx, hb, hml, hown, hts, hA, hr, hlk, hnm, hok, hX, hx0, hx1⟩ := C
  obtain ⟨hd, hle, hrr⟩ := zok_dec Z hok hf
  have hle : len = 1 := hle.resolve_left (by simp [zsw_in])
  subst hle
  simp only [zstep, hf, zg, zk] at hs
  split at hs
  · rename_i i k r
    split at hs
    · rename_i n hn
      injection hs with hs; injection hs with hg hs; injection hs with hs; injection hs with hb1 hb2; subst hb1; subst hb2
      intro ad ws tys H locs ls cst hR hF
      obtain ⟨r0, rfl, hF0⟩ := zF2_int hF
      obtain ⟨a, r1, rfl, ha, hF1⟩ := zF2_ref hF0
      obtain ⟨g1, hWd, hK, hP, hD, hS, hLo⟩ := id hR
      obtain ⟨w0, hw1, cA, t0, ht, hw2⟩ := hWd.at (zisA_at hn) ha
      have hw2 : w0 = _ := hw2
      subst hw2
      exact va_iald hx hb hK hP k t0 hw1 ht (zin_of hg) hd (hk ad ws tys H locs ls (_ :: r1) hR ⟨rfl, hF1⟩)
    · cases hs
  · cases hs
theorem zs_laload (C : zCx Z M A xK xV ad0 p s m args meth c) (hf : zfetch M pc = some (.laload, len, ns, z)) (hs : zstep M (pc, lo, st, h, ce, sl) = some (true, .inl (bs, S'))) (hk : zAW M D A ad0 p l e s m args below meth c Q (zsel bs S')) : zAW M D A ad0 p l e s m args below meth c Q (pc, lo, st, h, ce, sl) := by
  obtain ⟨hx, hb, hml, hown, hts, hA, hr, hlk, hnm, hok, hX, hx0, hx1⟩ := C
  obtain ⟨hd, hle, hrr⟩ := zok_dec Z hok hf
  have hle : len = 1 := hle.resolve_left (by simp [zsw_in])
  subst hle
  simp only [zstep, hf, zg, zk] at hs
  split at hs
  · rename_i i k r
    split at hs
    · rename_i n hn
      injection hs with hs; injection hs with hg hs; injection hs with hs; injection hs with hb1 hb2; subst hb1; subst hb2
      intro ad ws tys H locs ls cst hR hF
      obtain ⟨r0, rfl, hF0⟩ := zF2_int hF
      obtain ⟨a, r1, rfl, ha, hF1⟩ := zF2_ref hF0
      obtain ⟨g1, hWd, hK, hP, hD, hS, hLo⟩ := id hR
      obtain ⟨w0, hw1, cA, t0, ht, hw2⟩ := hWd.at (zisA_at hn) ha
      have hw2 : w0 = _ := hw2
      subst hw2
      exact va_lald hx hb hK hP k t0 hw1 ht (zin_of hg) hd (hk ad ws tys H locs ls (_ :: r1) hR ⟨rfl, hF1⟩)
    · cases hs
  · cases hs
theorem zs_aaload (C : zCx Z M A xK xV ad0 p s m args meth c) (hf : zfetch M pc = some (.aaload, len, ns, z)) (hs : zstep M (pc, lo, st, h, ce, sl) = some (true, .inl (bs, S'))) (hk : zAW M D A ad0 p l e s m args below meth c Q (zsel bs S')) : zAW M D A ad0 p l e s m args below meth c Q (pc, lo, st, h, ce, sl) := by
  obtain ⟨hx, hb, hml, hown, hts, hA, hr, hlk, hnm, hok, hX, hx0, hx1⟩ := C
  obtain ⟨hd, hle, hrr⟩ := zok_dec Z hok hf
  have hle : len = 1 := hle.resolve_left (by simp [zsw_in])
  subst hle
  simp only [zstep, hf, zg, zk] at hs
  split at hs
  · rename_i i k r
    split at hs
    · rename_i n hn
      injection hs with hs; injection hs with hg hs; injection hs with hs; injection hs with hb1 hb2; subst hb1; subst hb2
      intro ad ws tys H locs ls cst hR hF
      obtain ⟨r0, rfl, hF0⟩ := zF2_int hF
      obtain ⟨a, r1, rfl, ha, hF1⟩ := zF2_ref hF0
      obtain ⟨g1, hWd, hK, hP, hD, hS, hLo⟩ := id hR
      obtain ⟨w0, hw1, cA, t0, ht, hw2⟩ := hWd.at (zisA_at hn) ha
      obtain ⟨f, hw2, hw3⟩ := hw2
      subst hw2
      have hlt : i.toNatClampNeg < n := Nat.not_le.mp fun q => zin_of hg (Or.inr q)
      exact va_aldq hx hb hK hP k t0 hw1 ht (zin_of hg) hd (hk ad ws tys H locs ls (_ :: r1) hR ⟨zv_rf (hw3 _ hlt), hF1⟩)
    · cases hs
  · cases hs
theorem zs_baload (C : zCx Z M A xK xV ad0 p s m args meth c) (hf : zfetch M pc = some (.baload, len, ns, z)) (hs : zstep M (pc, lo, st, h, ce, sl) = some (true, .inl (bs, S'))) (hk : zAW M D A ad0 p l e s m args below meth c Q (zsel bs S')) : zAW M D A ad0 p l e s m args below meth c Q (pc, lo, st, h, ce, sl) := by
  obtain ⟨hx, hb, hml, hown, hts, hA, hr, hlk, hnm, hok, hX, hx0, hx1⟩ := C
  obtain ⟨hd, hle, hrr⟩ := zok_dec Z hok hf
  have hle : len = 1 := hle.resolve_left (by simp [zsw_in])
  subst hle
  simp only [zstep, hf, zg, zk] at hs
  split at hs
  · rename_i i k r
    split at hs
    · rename_i n hn
      injection hs with hs; injection hs with hg hs; injection hs with hs; injection hs with hb1 hb2; subst hb1; subst hb2
      rw [Bool.and_eq_true, Bool.or_eq_true] at hg
      obtain ⟨hg, hg2⟩ := hg
      obtain ⟨t, hn⟩ := zlen_at hn
      intro ad ws tys H locs ls cst hR hF
      obtain ⟨r0, rfl, hF0⟩ := zF2_int hF
      obtain ⟨a, r1, rfl, ha, hF1⟩ := zF2_ref hF0
      obtain ⟨g1, hWd, hK, hP, hD, hS, hLo⟩ := id hR
      obtain ⟨w0, hw1, cA, t0, ht, hw2⟩ := hWd.at hn ha
      have ht9 : t = 2 ∨ t = 3 := by
        rcases hg2 with q | q
        · obtain ⟨n', q⟩ := Option.isSome_iff_exists.mp q
          have := (zisA_at q).symm.trans hn
          injection this with this; injection this with this; injection this with this
          exact Or.inl this.symm
        · obtain ⟨n', q⟩ := Option.isSome_iff_exists.mp q
          have := (zisA_at q).symm.trans hn
          injection this with this; injection this with this; injection this with this
          exact Or.inr this.symm
      rcases ht9 with rfl | rfl
      · have hw2 : w0 = _ := hw2
        subst hw2
        exact va_bald hx hb hK hP k t0 hw1 ht (zin_of hg) hd (hk ad ws tys H locs ls (_ :: r1) hR ⟨rfl, hF1⟩)
      · have hw2 : w0 = _ := hw2
        subst hw2
        exact va_zald hx hb hK hP k t0 hw1 ht (zin_of hg) hd (hk ad ws tys H locs ls (_ :: r1) hR ⟨rfl, hF1⟩)
    · cases hs
  · cases hs
theorem zs_iastore (C : zCx Z M A xK xV ad0 p s m args meth c) (hf : zfetch M pc = some (.iastore, len, ns, z)) (hs : zstep M (pc, lo, st, h, ce, sl) = some (true, .inl (bs, S'))) (hk : zAW M D A ad0 p l e s m args below meth c Q (zsel bs S')) : zAW M D A ad0 p l e s m args below meth c Q (pc, lo, st, h, ce, sl) := by
  obtain ⟨hx, hb, hml, hown, hts, hA, hr, hlk, hnm, hok, hX, hx0, hx1⟩ := C
  obtain ⟨hd, hle, hrr⟩ := zok_dec Z hok hf
  have hle : len = 1 := hle.resolve_left (by simp [zsw_in])
  subst hle
  simp only [zstep, hf, zg, zk] at hs
  split at hs
  · rename_i x i k r
    split at hs
    · rename_i n hn
      injection hs with hs; injection hs with hg hs; injection hs with hs; injection hs with hb1 hb2; subst hb1; subst hb2
      intro ad ws tys H locs ls cst hR hF
      obtain ⟨r9, rfl, hF9⟩ := zF2_int hF
      obtain ⟨r0, rfl, hF0⟩ := zF2_int hF9
      obtain ⟨a, r1, rfl, ha, hF1⟩ := zF2_ref hF0
      obtain ⟨g1, hWd, hK, hP, hD, hS, hLo⟩ := id hR
      obtain ⟨w0, hw1, cA, t0, ht, hw2⟩ := hWd.at (zisA_at hn) ha
      have hw2 : w0 = _ := hw2
      subst hw2
      refine va_iast hx hb hK hP hD hS k t0 hw1 ht (zin_of hg) hd (fun H1 locs1 hP1 hD1 hS1 => ?_)
      rw [zup_upd] at hP1 hD1
      exact hk ad _ tys H1 locs1 ls r1 ⟨g1, hWd.set (h' := (h.1, zup h.2.1 k i.toNatClampNeg x, h.2.2.1, h.2.2.2)) rfl (zisA_at hn) ha hw1 ⟨cA, t0, ht, rfl⟩ (fun j hj => ⟨zup_ne hj, rfl, rfl⟩), hK, hP1, hD1, hS1, hLo⟩ hF1
    · cases hs
  · cases hs
theorem zs_lastore (C : zCx Z M A xK xV ad0 p s m args meth c) (hf : zfetch M pc = some (.lastore, len, ns, z)) (hs : zstep M (pc, lo, st, h, ce, sl) = some (true, .inl (bs, S'))) (hk : zAW M D A ad0 p l e s m args below meth c Q (zsel bs S')) : zAW M D A ad0 p l e s m args below meth c Q (pc, lo, st, h, ce, sl) := by
  obtain ⟨hx, hb, hml, hown, hts, hA, hr, hlk, hnm, hok, hX, hx0, hx1⟩ := C
  obtain ⟨hd, hle, hrr⟩ := zok_dec Z hok hf
  have hle : len = 1 := hle.resolve_left (by simp [zsw_in])
  subst hle
  simp only [zstep, hf, zg, zk] at hs
  split at hs
  · rename_i x i k r
    split at hs
    · rename_i n hn
      injection hs with hs; injection hs with hg hs; injection hs with hs; injection hs with hb1 hb2; subst hb1; subst hb2
      intro ad ws tys H locs ls cst hR hF
      obtain ⟨r9, rfl, hF9⟩ := zF2_long hF
      obtain ⟨r0, rfl, hF0⟩ := zF2_int hF9
      obtain ⟨a, r1, rfl, ha, hF1⟩ := zF2_ref hF0
      obtain ⟨g1, hWd, hK, hP, hD, hS, hLo⟩ := id hR
      obtain ⟨w0, hw1, cA, t0, ht, hw2⟩ := hWd.at (zisA_at hn) ha
      have hw2 : w0 = _ := hw2
      subst hw2
      refine va_last hx hb hK hP hD hS k t0 hw1 ht (zin_of hg) hd (fun H1 locs1 hP1 hD1 hS1 => ?_)
      rw [zup_updL] at hP1 hD1
      exact hk ad _ tys H1 locs1 ls r1 ⟨g1, hWd.set (h' := (h.1, h.2.1, zup h.2.2.1 k i.toNatClampNeg x, h.2.2.2)) rfl (zisA_at hn) ha hw1 ⟨cA, t0, ht, rfl⟩ (fun j hj => ⟨rfl, zup_ne hj, rfl⟩), hK, hP1, hD1, hS1, hLo⟩ hF1
    · cases hs
  · cases hs
theorem zs_bastore (C : zCx Z M A xK xV ad0 p s m args meth c) (hf : zfetch M pc = some (.bastore, len, ns, z)) (hs : zstep M (pc, lo, st, h, ce, sl) = some (true, .inl (bs, S'))) (hk : zAW M D A ad0 p l e s m args below meth c Q (zsel bs S')) : zAW M D A ad0 p l e s m args below meth c Q (pc, lo, st, h, ce, sl) := by
  obtain ⟨hx, hb, hml, hown, hts, hA, hr, hlk, hnm, hok, hX, hx0, hx1⟩ := C
  obtain ⟨hd, hle, hrr⟩ := zok_dec Z hok hf
  have hle : len = 1 := hle.resolve_left (by simp [zsw_in])
  subst hle
  simp only [zstep, hf, zg, zk] at hs
  split at hs
  · rename_i x i k r
    split at hs
    · rename_i n hn
      injection hs with hs; injection hs with hg hs; injection hs with hs; injection hs with hb1 hb2; subst hb1; subst hb2
      intro ad ws tys H locs ls cst hR hF
      obtain ⟨r9, rfl, hF9⟩ := zF2_int hF
      obtain ⟨r0, rfl, hF0⟩ := zF2_int hF9
      obtain ⟨a, r1, rfl, ha, hF1⟩ := zF2_ref hF0
      obtain ⟨g1, hWd, hK, hP, hD, hS, hLo⟩ := id hR
      obtain ⟨w0, hw1, cA, t0, ht, hw2⟩ := hWd.at hn ha
      have hw2 : w0 = _ := hw2
      subst hw2
      refine va_bast hx hb hK hP hD hS k t0 hw1 ht (zin_of hg) hd (fun H1 locs1 hP1 hD1 hS1 => ?_)
      rw [zup_upd] at hP1 hD1
      exact hk ad _ tys H1 locs1 ls r1 ⟨g1, hWd.set (h' := (h.1, zup h.2.1 k i.toNatClampNeg (vp_nar .byte x), h.2.2.1, h.2.2.2)) rfl hn ha hw1 ⟨cA, t0, ht, rfl⟩ (fun j hj => ⟨zup_ne hj, rfl, rfl⟩), hK, hP1, hD1, hS1, hLo⟩ hF1
    · rename_i n hn
      injection hs with hs; injection hs with hg hs; injection hs with hs; injection hs with hb1 hb2; subst hb1; subst hb2
      intro ad ws tys H locs ls cst hR hF
      obtain ⟨r9, rfl, hF9⟩ := zF2_int hF
      obtain ⟨r0, rfl, hF0⟩ := zF2_int hF9
      obtain ⟨a, r1, rfl, ha, hF1⟩ := zF2_ref hF0
      obtain ⟨g1, hWd, hK, hP, hD, hS, hLo⟩ := id hR
      obtain ⟨w0, hw1, cA, t0, ht, hw2⟩ := hWd.at hn ha
      have hw2 : w0 = _ := hw2
      subst hw2
      refine va_zast hx hb hK hP hD hS k t0 hw1 ht (zin_of hg) hd (fun H1 locs1 hP1 hD1 hS1 => ?_)
      rw [zup_upd] at hP1 hD1
      exact hk ad _ tys H1 locs1 ls r1 ⟨g1, hWd.set (h' := (h.1, zup h.2.1 k i.toNatClampNeg (vp_nar .boolean x), h.2.2.1, h.2.2.2)) rfl hn ha hw1 ⟨cA, t0, ht, rfl⟩ (fun j hj => ⟨zup_ne hj, rfl, rfl⟩), hK, hP1, hD1, hS1, hLo⟩ hF1
    · cases hs
  · cases hs
theorem zs_aastore (C : zCx Z M A xK xV ad0 p s m args meth c) (hf : zfetch M pc = some (.aastore, len, ns, z)) (hs : zstep M (pc, lo, st, h, ce, sl) = some (true, .inl (bs, S'))) (hk : zAW M D A ad0 p l e s m args below meth c Q (zsel bs S')) : zAW M D A ad0 p l e s m args below meth c Q (pc, lo, st, h, ce, sl) := by
  obtain ⟨hx, hb, hml, hown, hts, hA, hr, hlk, hnm, hok, hX, hx0, hx1⟩ := C
  obtain ⟨hd, hle, hrr⟩ := zok_dec Z hok hf
  have hle : len = 1 := hle.resolve_left (by simp [zsw_in])
  subst hle
  simp only [zstep, hf, zg, zk] at hs
  split at hs
  · rename_i x i k r
    split at hs
    · rename_i n hn
      injection hs with hs; injection hs with hg hs; injection hs with hs; injection hs with hb1 hb2; subst hb1; subst hb2
      rw [Bool.and_eq_true] at hg
      obtain ⟨hg, hg2⟩ := hg
      intro ad ws tys H locs ls cst hR hF
      obtain ⟨b, r9, rfl, hb9, hF9⟩ := zF2_ref hF
      obtain ⟨r0, rfl, hF0⟩ := zF2_int hF9
      obtain ⟨a, r1, rfl, ha, hF1⟩ := zF2_ref hF0
      obtain ⟨g1, hWd, hK, hP, hD, hS, hLo⟩ := id hR
      obtain ⟨w0, hw1, cA, t0, ht, f, hw2, hw3⟩ := hWd.at (zisA_at hn) ha
      subst hw2
      obtain ⟨w9, hv1, fs, hv2, -⟩ := hWd.at (zisC_at hg2) hb9
      subst hv2
      refine va_astq (r := (RX5, TX5, 2)) hx hb hK hP hD hS k t0 x 5 hw1 ht hv1 rfl (zin_of hg) hd (fun H1 locs1 hP1 hD1 hS1 => ?_)
      refine hk ad _ tys H1 locs1 ls r1 ⟨g1, hWd.set (h' := (h.1, h.2.1, h.2.2.1, zup h.2.2.2 k i.toNatClampNeg (some x))) rfl (zisA_at hn) ha hw1 ⟨cA, t0, ht, _, rfl, fun j hj => ?_⟩ (fun j hj => ⟨rfl, rfl, zup_ne hj⟩), hK, hP1, hD1, hS1, hLo⟩ hF1
      show zo ad (zup h.2.2.2 k i.toNatClampNeg (some x) k j) (va_up f i.toNatClampNeg (some b) j)
      rw [zup_eq]
      unfold va_up
      by_cases q : j = i.toNatClampNeg
      · rw [if_pos q, if_pos q]
        exact ⟨b, hb9, rfl⟩
      · rw [if_neg q, if_neg q]
        exact hw3 j hj
    · cases hs
  · cases hs
theorem zs_arraylength (C : zCx Z M A xK xV ad0 p s m args meth c) (hf : zfetch M pc = some (.arraylength, len, ns, z)) (hs : zstep M (pc, lo, st, h, ce, sl) = some (true, .inl (bs, S'))) (hk : zAW M D A ad0 p l e s m args below meth c Q (zsel bs S')) : zAW M D A ad0 p l e s m args below meth c Q (pc, lo, st, h, ce, sl) := by
  obtain ⟨hx, hb, hml, hown, hts, hA, hr, hlk, hnm, hok, hX, hx0, hx1⟩ := C
  obtain ⟨hd, hle, hrr⟩ := zok_dec Z hok hf
  have hle : len = 1 := hle.resolve_left (by simp [zsw_in])
  subst hle
  simp only [zstep, hf, zg, zk] at hs
  split at hs
  · rename_i k r
    split at hs
    · rename_i n hn
      cases hs
      obtain ⟨t, hn⟩ := zlen_at hn
      intro ad ws tys H locs ls cst hR hF
      obtain ⟨a, r1, rfl, ha, hF1⟩ := zF2_ref hF
      obtain ⟨g1, hWd, hK, hP, hD, hS, hLo⟩ := id hR
      obtain ⟨w0, hw1, cA, t0, ht, hw2⟩ := hWd.at hn ha
      have hq : ∃ x : vp_A, w0 = .inl (cA, x) ∧ x.1 = n := by
        match t, hw2 with
        | 0, hw2 => exact ⟨_, hw2, rfl⟩
        | 1, hw2 => exact ⟨_, hw2, rfl⟩
        | 2, hw2 => exact ⟨_, hw2, rfl⟩
        | 3, hw2 => exact ⟨_, hw2, rfl⟩
        | 4, hw2 => obtain ⟨f, q, -⟩ := hw2; exact ⟨_, q, rfl⟩
        | _ + 5, hw2 => exact hw2.elim
      obtain ⟨x, rfl, rfl⟩ := hq
      exact va_alen hx hb hK hP k t0 hw1 ht rfl hd (hk ad ws tys H locs ls (_ :: r1) hR ⟨rfl, hF1⟩)
    · cases hs
  · cases hs
end ZH
