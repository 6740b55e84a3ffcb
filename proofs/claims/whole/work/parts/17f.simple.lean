/-! the cells -/
def zaT (t : Nat) : FieldType := match t with
  | 0 => .int | 1 => .long | 2 => .byte | 3 => .boolean | _ => .object "DayWords$Row"
def zce (ad : Nat → Option Nat) (tys : List (ClassId × FieldType)) (h : zH) (k : Nat) (e : zK) (w : va_E) : Prop := match e with
  | .inl ci => ∃ fs : List Value, w = .inr (ci, fs) ∧ ci < 11 ∧ fs.length = zN ci ∧ ∀ f, f < zN ci → ∃ x, fs[f]? = some x ∧ zv ad (zfv h (zty ci f) k f) x
  | .inr (t, n) => ∃ (cA : ClassId) (t0 : Nat), tys[t0]? = some (cA, zaT t) ∧ match t with
    | 0 => w = .inl (cA, n, .inl (h.2.1 k))
    | 1 => w = .inl (cA, n, .inr (.inl (h.2.2.1 k)))
    | 2 => w = .inl (cA, n, .inl (h.2.1 k))
    | 3 => w = .inl (cA, n, .inl (h.2.1 k))
    | 4 => ∃ f : Nat → Option Nat, w = .inl (cA, n, .inr (.inr (.inr (.inr f)))) ∧ ∀ j, j < n → zo ad (h.2.2.2 k j) (f j)
    | _ => False
def zWd (ad : Nat → Option Nat) (ws : va_W) (tys : List (ClassId × FieldType)) (h : zH) : Prop := ws.length = h.1.length ∧ h.1.length ≤ 900 ∧ (∀ k, h.1.length ≤ k → k < 1000 → ad k = none) ∧ ∀ k e, h.1[k]? = some e → ∃ a w, ws[k]? = some (a, w) ∧ ad k = some a ∧ zce ad tys h k e w
def zX (xK xV : Nat → Nat) (A : Nat → Prop) (U : State) (H : Heap) : Prop := vk_S 2 zlens zbyt xK xV A U H ∧ vk_R "DayWords$Lexicon" 15 (ztx.getD 0 "") (xK 0) U ∧ vk_R "DayWordsModel" 98 (ztx.getD 1 "") (xK 1) U ∧ va_Z "java/lang/String" "COMPACT_STRINGS" "Z" (.int 1) A U H ∧ va_Zq "jdk/internal/util/Preconditions" "SIOOBE_FORMATTER" "Ljava/util/function/BiFunction;" A U H ∧ va_AO "DayWords$Row" U ∧ ∀ q ∈ zNe, va_Nw (.methodLinkNest q.1 q.2.1 q.2.2 "DayWords") U
/-- a frame of method M -/
def zCx (Z : Nat → zMeth) (M : zMeth) (A : Nat → Prop) (xK xV : Nat → Nat) (ad0 : Nat → Option Nat) (p : Program) (s : State) (m : MethodId) (args : Array Value) (meth : Method) (c : Code) : Prop :=
  p.tables.exec = Jvm.exec ∧ c.code = zb M ∧ c.maxLocals = zml M ∧ s.vm.findClass (zy M).cls = some m.cls ∧ (∀ w ∈ zT, w.before args s = true) ∧ (∀ q, s.heap.size ≤ q → A q) ∧ meth.sig.returnType = zret M ∧ meth.locks = false ∧ meth.name = (zy M).name ∧ zokM Z M = true ∧ zX xK xV A s s.heap ∧ ad0 1001 = some (xK 0) ∧ ad0 1002 = some (xK 1)
/-- the two machines side by side, between two instructions -/
def zRe (M : zMeth) (D : va_G) (A : Nat → Prop) (ad0 ad : Nat → Option Nat) (ws : va_W) (tys : List (ClassId × FieldType)) (s : State) (H : Heap) (locs : List Loc) (ls : Array Slot) (lo : List (Option Value)) (h : zH) : Prop :=
  zle ad0 ad ∧ zWd ad ws tys h ∧ va_K D vwCl tys s ∧ va_P D vwCl ws H ∧ va_D A ws ∧ va_S A s.heap H locs ∧ zLo ad ls (zml M) lo
def zAW (M : zMeth) (D : va_G) (A : Nat → Prop) (ad0 : Nat → Option Nat) (p : Program) (l : Launch) (e : Env) (s : State) (m : MethodId) (args : Array Value) (below : List Frame) (meth : Method) (c : Code) (Q : State → Prop) (S : zS) : Prop :=
  ∀ (ad : Nat → Option Nat) (ws : va_W) (tys : List (ClassId × FieldType)) (H : Heap) (locs : List Loc) (ls : Array Slot) (cst : List Value),
    zRe M D A ad0 ad ws tys s H locs ls S.2.1 S.2.2.2.1 → zF2 ad S.2.2.1 cst → W p l e (zrm M) s m args below meth c H locs S.2.2.2.2.1 S.2.2.2.2.2 Q (F0 m S.1 ls cst)
def zsel (bs : List (Bool × zS)) (d : zS) : zS := zsw bs id d
theorem zoff_eq {pc : Nat} {o : Int} (h : 0 ≤ (pc : Int) + o) : (pc : Int) + o = ((zoff pc o : Nat) : Int) := (Int.toNat_of_nonneg h).symm
section ZS
variable {Z : Nat → zMeth} {M : zMeth} {D : va_G} {A : Nat → Prop} {xK xV : Nat → Nat} {ad0 : Nat → Option Nat} {p : Program} {l : Launch} {e : Env} {s : State} {m : MethodId} {args : Array Value} {below : List Frame} {meth : Method} {c : Code} {Q : State → Prop}
variable {pc len : Nat} {lo : List (Option Value)} {st : List Value} {h : zH} {ce sl : Nat} {ns : List Nat} {z : Int} {bs : List (Bool × zS)} {S' : zS}
theorem zs_iconst {n : Int} (C : zCx Z M A xK xV ad0 p s m args meth c) (hf : zfetch M pc = some (.iconst n, len, ns, z)) (hs : zstep M (pc, lo, st, h, ce, sl) = some (true, .inl (bs, S'))) (hk : zAW M D A ad0 p l e s m args below meth c Q (zsel bs S')) : zAW M D A ad0 p l e s m args below meth c Q (pc, lo, st, h, ce, sl) := by
  obtain ⟨hx, hb, hml, hown, hts, hA, hr, hlk, hnm, hok, hX, hx0, hx1⟩ := C
  obtain ⟨hd, hle, hrr⟩ := zok_dec Z hok hf
  have hle : len = 1 := hle.resolve_left (by simp [zsw_in])
  subst hle
  simp only [zstep, hf] at hs
  cases hs
  intro ad ws tys H locs ls cst hR hF
  exact lv_iconst hx hb hd rfl (hk ad ws tys H locs ls (.int (Int32.ofInt n) :: cst) hR ⟨rfl, hF⟩)
theorem zs_bipush {n : Int} (C : zCx Z M A xK xV ad0 p s m args meth c) (hf : zfetch M pc = some (.bipush n, len, ns, z)) (hs : zstep M (pc, lo, st, h, ce, sl) = some (true, .inl (bs, S'))) (hk : zAW M D A ad0 p l e s m args below meth c Q (zsel bs S')) : zAW M D A ad0 p l e s m args below meth c Q (pc, lo, st, h, ce, sl) := by
  obtain ⟨hx, hb, hml, hown, hts, hA, hr, hlk, hnm, hok, hX, hx0, hx1⟩ := C
  obtain ⟨hd, hle, hrr⟩ := zok_dec Z hok hf
  have hle : len = 2 := hle.resolve_left (by simp [zsw_in])
  subst hle
  simp only [zstep, hf] at hs
  cases hs
  intro ad ws tys H locs ls cst hR hF
  exact lv_bipush hx hb hd rfl (hk ad ws tys H locs ls (.int (Int8.ofInt n).toInt32 :: cst) hR ⟨rfl, hF⟩)
theorem zs_sipush {n : Int} (C : zCx Z M A xK xV ad0 p s m args meth c) (hf : zfetch M pc = some (.sipush n, len, ns, z)) (hs : zstep M (pc, lo, st, h, ce, sl) = some (true, .inl (bs, S'))) (hk : zAW M D A ad0 p l e s m args below meth c Q (zsel bs S')) : zAW M D A ad0 p l e s m args below meth c Q (pc, lo, st, h, ce, sl) := by
  obtain ⟨hx, hb, hml, hown, hts, hA, hr, hlk, hnm, hok, hX, hx0, hx1⟩ := C
  obtain ⟨hd, hle, hrr⟩ := zok_dec Z hok hf
  have hle : len = 3 := hle.resolve_left (by simp [zsw_in])
  subst hle
  simp only [zstep, hf] at hs
  cases hs
  intro ad ws tys H locs ls cst hR hF
  exact lv_sipush hx hb hd rfl (hk ad ws tys H locs ls (.int (Int16.ofInt n).toInt32 :: cst) hR ⟨rfl, hF⟩)
theorem zs_lconst {n : Fin 2} (C : zCx Z M A xK xV ad0 p s m args meth c) (hf : zfetch M pc = some (.lconst n, len, ns, z)) (hs : zstep M (pc, lo, st, h, ce, sl) = some (true, .inl (bs, S'))) (hk : zAW M D A ad0 p l e s m args below meth c Q (zsel bs S')) : zAW M D A ad0 p l e s m args below meth c Q (pc, lo, st, h, ce, sl) := by
  obtain ⟨hx, hb, hml, hown, hts, hA, hr, hlk, hnm, hok, hX, hx0, hx1⟩ := C
  obtain ⟨hd, hle, hrr⟩ := zok_dec Z hok hf
  have hle : len = 1 := hle.resolve_left (by simp [zsw_in])
  subst hle
  simp only [zstep, hf] at hs
  cases hs
  intro ad ws tys H locs ls cst hR hF
  exact lv_lconst hx hb hd rfl (hk ad ws tys H locs ls (.long (Int64.ofNat (n : Nat)) :: cst) hR ⟨rfl, hF⟩)
theorem zs_null (C : zCx Z M A xK xV ad0 p s m args meth c) (hf : zfetch M pc = some (.aconst_null, len, ns, z)) (hs : zstep M (pc, lo, st, h, ce, sl) = some (true, .inl (bs, S'))) (hk : zAW M D A ad0 p l e s m args below meth c Q (zsel bs S')) : zAW M D A ad0 p l e s m args below meth c Q (pc, lo, st, h, ce, sl) := by
  obtain ⟨hx, hb, hml, hown, hts, hA, hr, hlk, hnm, hok, hX, hx0, hx1⟩ := C
  obtain ⟨hd, hle, hrr⟩ := zok_dec Z hok hf
  have hle : len = 1 := hle.resolve_left (by simp [zsw_in])
  subst hle
  simp only [zstep, hf] at hs
  cases hs
  intro ad ws tys H locs ls cst hR hF
  exact lv_null hx hb hd (hk ad ws tys H locs ls (.null :: cst) hR ⟨rfl, hF⟩)
theorem zs_ldc {i : Nat} (C : zCx Z M A xK xV ad0 p s m args meth c) (hf : zfetch M pc = some (.ldc i, len, ns, z)) (hs : zstep M (pc, lo, st, h, ce, sl) = some (true, .inl (bs, S'))) (hk : zAW M D A ad0 p l e s m args below meth c Q (zsel bs S')) : zAW M D A ad0 p l e s m args below meth c Q (pc, lo, st, h, ce, sl) := by
  obtain ⟨hx, hb, hml, hown, hts, hA, hr, hlk, hnm, hok, hX, hx0, hx1⟩ := C
  obtain ⟨hd, hle, hrr⟩ := zok_dec Z hok hf
  have hle : len = 2 := hle.resolve_left (by simp [zsw_in])
  subst hle
  simp only [zstep, hf] at hs
  split at hs
  · cases hs
    rename_i w
    intro ad ws tys H locs ls cst hR hF
    cases w with
    | nil => simp [zokr] at hrr
    | cons w r =>
      exact lv_ldc hx hb hown (hts _ (zw_in hrr)) hd (hk ad ws tys H locs ls (.int (Int32.ofInt z) :: cst) hR ⟨rfl, hF⟩)
  · cases hs
    rename_i k r
    intro ad ws tys H locs ls cst hR hF
    simp only [zokr, Bool.and_eq_true, decide_eq_true_eq] at hrr
    obtain ⟨⟨hk2, ho⟩, hi⟩ := hrr
    obtain ⟨-, hR0, hR1, -⟩ := hX
    rcases (show k = 0 ∨ k = 1 by omega) with rfl | rfl
    · rw [if_pos rfl] at ho hi
      subst hi
      rw [ho] at hown
      exact va_ldcS hx hb hown hR0 hd (hk ad ws tys H locs ls (.ref (xK 0) :: cst) hR ⟨⟨xK 0, hR.1 _ _ hx0, rfl⟩, hF⟩)
    · rw [if_neg (by decide)] at ho hi
      subst hi
      rw [ho] at hown
      exact va_ldcS hx hb hown hR1 hd (hk ad ws tys H locs ls (.ref (xK 1) :: cst) hR ⟨⟨xK 1, hR.1 _ _ hx1, rfl⟩, hF⟩)
  · cases hs
theorem zs_ldcw {i : Nat} (C : zCx Z M A xK xV ad0 p s m args meth c) (hf : zfetch M pc = some (.ldc_w i, len, ns, z)) (hs : zstep M (pc, lo, st, h, ce, sl) = some (true, .inl (bs, S'))) (hk : zAW M D A ad0 p l e s m args below meth c Q (zsel bs S')) : zAW M D A ad0 p l e s m args below meth c Q (pc, lo, st, h, ce, sl) := by
  obtain ⟨hx, hb, hml, hown, hts, hA, hr, hlk, hnm, hok, hX, hx0, hx1⟩ := C
  obtain ⟨hd, hle, hrr⟩ := zok_dec Z hok hf
  have hle : len = 3 := hle.resolve_left (by simp [zsw_in])
  subst hle
  simp only [zstep, hf] at hs
  cases hs
  intro ad ws tys H locs ls cst hR hF
  match ns, hrr with
  | _ :: w :: _, hrr => exact lv_ldcw hx hb hown (hts _ (zw_in hrr)) hd (hk ad ws tys H locs ls (.int (Int32.ofInt z) :: cst) hR ⟨rfl, hF⟩)
  | [], hrr => simp [zokr] at hrr
  | [_], hrr => simp [zokr] at hrr
theorem zs_ldc2 {i : Nat} (C : zCx Z M A xK xV ad0 p s m args meth c) (hf : zfetch M pc = some (.ldc2_w i, len, ns, z)) (hs : zstep M (pc, lo, st, h, ce, sl) = some (true, .inl (bs, S'))) (hk : zAW M D A ad0 p l e s m args below meth c Q (zsel bs S')) : zAW M D A ad0 p l e s m args below meth c Q (pc, lo, st, h, ce, sl) := by
  obtain ⟨hx, hb, hml, hown, hts, hA, hr, hlk, hnm, hok, hX, hx0, hx1⟩ := C
  obtain ⟨hd, hle, hrr⟩ := zok_dec Z hok hf
  have hle : len = 3 := hle.resolve_left (by simp [zsw_in])
  subst hle
  simp only [zstep, hf] at hs
  cases hs
  intro ad ws tys H locs ls cst hR hF
  match ns, hrr with
  | _ :: w :: _, hrr => exact lv_ldc2 hx hb hown (hts _ (zw_in hrr)) hd (hk ad ws tys H locs ls (.long (Int64.ofInt z) :: cst) hR ⟨rfl, hF⟩)
  | [], hrr => simp [zokr] at hrr
  | [_], hrr => simp [zokr] at hrr
theorem zs_iload_n {k : Fin 4} (C : zCx Z M A xK xV ad0 p s m args meth c) (hf : zfetch M pc = some (.iload_n k, len, ns, z)) (hs : zstep M (pc, lo, st, h, ce, sl) = some (true, .inl (bs, S'))) (hk : zAW M D A ad0 p l e s m args below meth c Q (zsel bs S')) : zAW M D A ad0 p l e s m args below meth c Q (pc, lo, st, h, ce, sl) := by
  obtain ⟨hx, hb, hml, hown, hts, hA, hr, hlk, hnm, hok, hX, hx0, hx1⟩ := C
  obtain ⟨hd, hle, hrr⟩ := zok_dec Z hok hf
  have hle : len = 1 := hle.resolve_left (by simp [zsw_in])
  subst hle
  simp only [zstep, hf] at hs
  simp only [zldi] at hs
  split at hs
  · rename_i x hx9
    cases hs
    intro ad ws tys H locs ls cst hR hF
    obtain ⟨w, hw1, hw2⟩ := hR.2.2.2.2.2.2.at hx9
    cases hw1
    exact lv_iload_n hx hb hd rfl hw2 (hk ad ws tys H locs ls (.int x :: cst) hR ⟨rfl, hF⟩)
  · cases hs
theorem zs_iload {k : Nat} (C : zCx Z M A xK xV ad0 p s m args meth c) (hf : zfetch M pc = some (.iload k, len, ns, z)) (hs : zstep M (pc, lo, st, h, ce, sl) = some (true, .inl (bs, S'))) (hk : zAW M D A ad0 p l e s m args below meth c Q (zsel bs S')) : zAW M D A ad0 p l e s m args below meth c Q (pc, lo, st, h, ce, sl) := by
  obtain ⟨hx, hb, hml, hown, hts, hA, hr, hlk, hnm, hok, hX, hx0, hx1⟩ := C
  obtain ⟨hd, hle, hrr⟩ := zok_dec Z hok hf
  have hle : len = 2 := hle.resolve_left (by simp [zsw_in])
  subst hle
  simp only [zstep, hf] at hs
  simp only [zldi] at hs
  split at hs
  · rename_i x hx9
    cases hs
    intro ad ws tys H locs ls cst hR hF
    obtain ⟨w, hw1, hw2⟩ := hR.2.2.2.2.2.2.at hx9
    cases hw1
    exact lv_iload hx hb hd hw2 (hk ad ws tys H locs ls (.int x :: cst) hR ⟨rfl, hF⟩)
  · cases hs
theorem zs_lload_n {k : Fin 4} (C : zCx Z M A xK xV ad0 p s m args meth c) (hf : zfetch M pc = some (.lload_n k, len, ns, z)) (hs : zstep M (pc, lo, st, h, ce, sl) = some (true, .inl (bs, S'))) (hk : zAW M D A ad0 p l e s m args below meth c Q (zsel bs S')) : zAW M D A ad0 p l e s m args below meth c Q (pc, lo, st, h, ce, sl) := by
  obtain ⟨hx, hb, hml, hown, hts, hA, hr, hlk, hnm, hok, hX, hx0, hx1⟩ := C
  obtain ⟨hd, hle, hrr⟩ := zok_dec Z hok hf
  have hle : len = 1 := hle.resolve_left (by simp [zsw_in])
  subst hle
  simp only [zstep, hf] at hs
  simp only [zldl] at hs
  split at hs
  · rename_i x hx9
    cases hs
    intro ad ws tys H locs ls cst hR hF
    obtain ⟨w, hw1, hw2⟩ := hR.2.2.2.2.2.2.at hx9
    cases hw1
    exact lv_lload_n hx hb hd rfl hw2 (hk ad ws tys H locs ls (.long x :: cst) hR ⟨rfl, hF⟩)
  · cases hs
theorem zs_lload {k : Nat} (C : zCx Z M A xK xV ad0 p s m args meth c) (hf : zfetch M pc = some (.lload k, len, ns, z)) (hs : zstep M (pc, lo, st, h, ce, sl) = some (true, .inl (bs, S'))) (hk : zAW M D A ad0 p l e s m args below meth c Q (zsel bs S')) : zAW M D A ad0 p l e s m args below meth c Q (pc, lo, st, h, ce, sl) := by
  obtain ⟨hx, hb, hml, hown, hts, hA, hr, hlk, hnm, hok, hX, hx0, hx1⟩ := C
  obtain ⟨hd, hle, hrr⟩ := zok_dec Z hok hf
  have hle : len = 2 := hle.resolve_left (by simp [zsw_in])
  subst hle
  simp only [zstep, hf] at hs
  simp only [zldl] at hs
  split at hs
  · rename_i x hx9
    cases hs
    intro ad ws tys H locs ls cst hR hF
    obtain ⟨w, hw1, hw2⟩ := hR.2.2.2.2.2.2.at hx9
    cases hw1
    exact lv_lload hx hb hd hw2 (hk ad ws tys H locs ls (.long x :: cst) hR ⟨rfl, hF⟩)
  · cases hs
theorem zs_aload_n {k : Fin 4} (C : zCx Z M A xK xV ad0 p s m args meth c) (hf : zfetch M pc = some (.aload_n k, len, ns, z)) (hs : zstep M (pc, lo, st, h, ce, sl) = some (true, .inl (bs, S'))) (hk : zAW M D A ad0 p l e s m args below meth c Q (zsel bs S')) : zAW M D A ad0 p l e s m args below meth c Q (pc, lo, st, h, ce, sl) := by
  obtain ⟨hx, hb, hml, hown, hts, hA, hr, hlk, hnm, hok, hX, hx0, hx1⟩ := C
  obtain ⟨hd, hle, hrr⟩ := zok_dec Z hok hf
  have hle : len = 1 := hle.resolve_left (by simp [zsw_in])
  subst hle
  simp only [zstep, hf] at hs
  simp only [zlda] at hs
  split at hs
  · rename_i x hx9
    cases hs
    intro ad ws tys H locs ls cst hR hF
    obtain ⟨w, hw1, hw2⟩ := hR.2.2.2.2.2.2.at hx9
    obtain ⟨a, ha1, rfl⟩ := hw1
    exact lv_aload_n hx hb hd rfl hw2 (hk ad ws tys H locs ls (.ref a :: cst) hR ⟨⟨a, ha1, rfl⟩, hF⟩)
  · rename_i hx9
    cases hs
    intro ad ws tys H locs ls cst hR hF
    obtain ⟨w, hw1, hw2⟩ := hR.2.2.2.2.2.2.at hx9
    cases hw1
    exact lv_aload_nN hx hb hd rfl hw2 (hk ad ws tys H locs ls (.null :: cst) hR ⟨rfl, hF⟩)
  · cases hs
theorem zs_aload {k : Nat} (C : zCx Z M A xK xV ad0 p s m args meth c) (hf : zfetch M pc = some (.aload k, len, ns, z)) (hs : zstep M (pc, lo, st, h, ce, sl) = some (true, .inl (bs, S'))) (hk : zAW M D A ad0 p l e s m args below meth c Q (zsel bs S')) : zAW M D A ad0 p l e s m args below meth c Q (pc, lo, st, h, ce, sl) := by
  obtain ⟨hx, hb, hml, hown, hts, hA, hr, hlk, hnm, hok, hX, hx0, hx1⟩ := C
  obtain ⟨hd, hle, hrr⟩ := zok_dec Z hok hf
  have hle : len = 2 := hle.resolve_left (by simp [zsw_in])
  subst hle
  simp only [zstep, hf] at hs
  simp only [zlda] at hs
  split at hs
  · rename_i x hx9
    cases hs
    intro ad ws tys H locs ls cst hR hF
    obtain ⟨w, hw1, hw2⟩ := hR.2.2.2.2.2.2.at hx9
    obtain ⟨a, ha1, rfl⟩ := hw1
    exact lv_aload hx hb hd hw2 (hk ad ws tys H locs ls (.ref a :: cst) hR ⟨⟨a, ha1, rfl⟩, hF⟩)
  · rename_i hx9
    cases hs
    intro ad ws tys H locs ls cst hR hF
    obtain ⟨w, hw1, hw2⟩ := hR.2.2.2.2.2.2.at hx9
    cases hw1
    exact lv_aloadN hx hb hd hw2 (hk ad ws tys H locs ls (.null :: cst) hR ⟨rfl, hF⟩)
  · cases hs
theorem zs_istore_n {k : Fin 4} (C : zCx Z M A xK xV ad0 p s m args meth c) (hf : zfetch M pc = some (.istore_n k, len, ns, z)) (hs : zstep M (pc, lo, st, h, ce, sl) = some (true, .inl (bs, S'))) (hk : zAW M D A ad0 p l e s m args below meth c Q (zsel bs S')) : zAW M D A ad0 p l e s m args below meth c Q (pc, lo, st, h, ce, sl) := by
  obtain ⟨hx, hb, hml, hown, hts, hA, hr, hlk, hnm, hok, hX, hx0, hx1⟩ := C
  obtain ⟨hd, hle, hrr⟩ := zok_dec Z hok hf
  have hle : len = 1 := hle.resolve_left (by simp [zsw_in])
  subst hle
  simp only [zstep, hf] at hs
  simp only [zis, zg] at hs
  split at hs
  · rename_i x r
    injection hs with hs; injection hs with hg hs; injection hs with hs; injection hs with hb1 hb2; subst hb1; subst hb2
    intro ad ws tys H locs ls cst hR hF
    obtain ⟨r', rfl, hF1⟩ := zF2_int hF
    obtain ⟨h1, h2, h3, h4, h5, h6, lv, h7, h8⟩ := hR
    exact lv_istore_n hx hb hd rfl h7 (Nat.blt_eq.mp hg) rfl (fun ls hl => hk ad ws tys H locs ls r' ⟨h1, h2, h3, h4, h5, h6, zLo.st1 h8 rfl hl⟩ hF1)
  · cases hs
theorem zs_istore {k : Nat} (C : zCx Z M A xK xV ad0 p s m args meth c) (hf : zfetch M pc = some (.istore k, len, ns, z)) (hs : zstep M (pc, lo, st, h, ce, sl) = some (true, .inl (bs, S'))) (hk : zAW M D A ad0 p l e s m args below meth c Q (zsel bs S')) : zAW M D A ad0 p l e s m args below meth c Q (pc, lo, st, h, ce, sl) := by
  obtain ⟨hx, hb, hml, hown, hts, hA, hr, hlk, hnm, hok, hX, hx0, hx1⟩ := C
  obtain ⟨hd, hle, hrr⟩ := zok_dec Z hok hf
  have hle : len = 2 := hle.resolve_left (by simp [zsw_in])
  subst hle
  simp only [zstep, hf] at hs
  simp only [zis, zg] at hs
  split at hs
  · rename_i x r
    injection hs with hs; injection hs with hg hs; injection hs with hs; injection hs with hb1 hb2; subst hb1; subst hb2
    intro ad ws tys H locs ls cst hR hF
    obtain ⟨r', rfl, hF1⟩ := zF2_int hF
    obtain ⟨h1, h2, h3, h4, h5, h6, lv, h7, h8⟩ := hR
    exact lv_istore hx hb hd h7 (Nat.blt_eq.mp hg) rfl (fun ls hl => hk ad ws tys H locs ls r' ⟨h1, h2, h3, h4, h5, h6, zLo.st1 h8 rfl hl⟩ hF1)
  · cases hs
theorem zs_lstore_n {k : Fin 4} (C : zCx Z M A xK xV ad0 p s m args meth c) (hf : zfetch M pc = some (.lstore_n k, len, ns, z)) (hs : zstep M (pc, lo, st, h, ce, sl) = some (true, .inl (bs, S'))) (hk : zAW M D A ad0 p l e s m args below meth c Q (zsel bs S')) : zAW M D A ad0 p l e s m args below meth c Q (pc, lo, st, h, ce, sl) := by
  obtain ⟨hx, hb, hml, hown, hts, hA, hr, hlk, hnm, hok, hX, hx0, hx1⟩ := C
  obtain ⟨hd, hle, hrr⟩ := zok_dec Z hok hf
  have hle : len = 1 := hle.resolve_left (by simp [zsw_in])
  subst hle
  simp only [zstep, hf] at hs
  simp only [zls, zg] at hs
  split at hs
  · rename_i x r
    injection hs with hs; injection hs with hg hs; injection hs with hs; injection hs with hb1 hb2; subst hb1; subst hb2
    intro ad ws tys H locs ls cst hR hF
    obtain ⟨r', rfl, hF1⟩ := zF2_long hF
    obtain ⟨h1, h2, h3, h4, h5, h6, lv, h7, h8⟩ := hR
    exact lv_lstore_n hx hb hd rfl h7 (Nat.blt_eq.mp hg) rfl (fun ls hl => hk ad ws tys H locs ls r' ⟨h1, h2, h3, h4, h5, h6, zLo.st2 h8 rfl hl⟩ hF1)
  · cases hs
theorem zs_lstore {k : Nat} (C : zCx Z M A xK xV ad0 p s m args meth c) (hf : zfetch M pc = some (.lstore k, len, ns, z)) (hs : zstep M (pc, lo, st, h, ce, sl) = some (true, .inl (bs, S'))) (hk : zAW M D A ad0 p l e s m args below meth c Q (zsel bs S')) : zAW M D A ad0 p l e s m args below meth c Q (pc, lo, st, h, ce, sl) := by
  obtain ⟨hx, hb, hml, hown, hts, hA, hr, hlk, hnm, hok, hX, hx0, hx1⟩ := C
  obtain ⟨hd, hle, hrr⟩ := zok_dec Z hok hf
  have hle : len = 2 := hle.resolve_left (by simp [zsw_in])
  subst hle
  simp only [zstep, hf] at hs
  simp only [zls, zg] at hs
  split at hs
  · rename_i x r
    injection hs with hs; injection hs with hg hs; injection hs with hs; injection hs with hb1 hb2; subst hb1; subst hb2
    intro ad ws tys H locs ls cst hR hF
    obtain ⟨r', rfl, hF1⟩ := zF2_long hF
    obtain ⟨h1, h2, h3, h4, h5, h6, lv, h7, h8⟩ := hR
    exact lv_lstore hx hb hd h7 (Nat.blt_eq.mp hg) rfl (fun ls hl => hk ad ws tys H locs ls r' ⟨h1, h2, h3, h4, h5, h6, zLo.st2 h8 rfl hl⟩ hF1)
  · cases hs
theorem zs_astore_n {k : Fin 4} (C : zCx Z M A xK xV ad0 p s m args meth c) (hf : zfetch M pc = some (.astore_n k, len, ns, z)) (hs : zstep M (pc, lo, st, h, ce, sl) = some (true, .inl (bs, S'))) (hk : zAW M D A ad0 p l e s m args below meth c Q (zsel bs S')) : zAW M D A ad0 p l e s m args below meth c Q (pc, lo, st, h, ce, sl) := by
  obtain ⟨hx, hb, hml, hown, hts, hA, hr, hlk, hnm, hok, hX, hx0, hx1⟩ := C
  obtain ⟨hd, hle, hrr⟩ := zok_dec Z hok hf
  have hle : len = 1 := hle.resolve_left (by simp [zsw_in])
  subst hle
  simp only [zstep, hf] at hs
  simp only [zas, zg] at hs
  split at hs
  · rename_i x r
    injection hs with hs; injection hs with hg hs; injection hs with hs; injection hs with hb1 hb2; subst hb1; subst hb2
    intro ad ws tys H locs ls cst hR hF
    obtain ⟨a, r', rfl, ha, hF1⟩ := zF2_ref hF
    obtain ⟨h1, h2, h3, h4, h5, h6, lv, h7, h8⟩ := hR
    exact lv_astore_n hx hb hd rfl h7 (Nat.blt_eq.mp hg) rfl (fun ls hl => hk ad ws tys H locs ls r' ⟨h1, h2, h3, h4, h5, h6, zLo.st1 h8 ⟨a, ha, rfl⟩ hl⟩ hF1)
  · rename_i r
    injection hs with hs; injection hs with hg hs; injection hs with hs; injection hs with hb1 hb2; subst hb1; subst hb2
    intro ad ws tys H locs ls cst hR hF
    obtain ⟨r', rfl, hF1⟩ := zF2_null hF
    obtain ⟨h1, h2, h3, h4, h5, h6, lv, h7, h8⟩ := hR
    exact lv_astore_nN hx hb hd rfl h7 (Nat.blt_eq.mp hg) rfl (fun ls hl => hk ad ws tys H locs ls r' ⟨h1, h2, h3, h4, h5, h6, zLo.st1 h8 rfl hl⟩ hF1)
  · cases hs
theorem zs_astore {k : Nat} (C : zCx Z M A xK xV ad0 p s m args meth c) (hf : zfetch M pc = some (.astore k, len, ns, z)) (hs : zstep M (pc, lo, st, h, ce, sl) = some (true, .inl (bs, S'))) (hk : zAW M D A ad0 p l e s m args below meth c Q (zsel bs S')) : zAW M D A ad0 p l e s m args below meth c Q (pc, lo, st, h, ce, sl) := by
  obtain ⟨hx, hb, hml, hown, hts, hA, hr, hlk, hnm, hok, hX, hx0, hx1⟩ := C
  obtain ⟨hd, hle, hrr⟩ := zok_dec Z hok hf
  have hle : len = 2 := hle.resolve_left (by simp [zsw_in])
  subst hle
  simp only [zstep, hf] at hs
  simp only [zas, zg] at hs
  split at hs
  · rename_i x r
    injection hs with hs; injection hs with hg hs; injection hs with hs; injection hs with hb1 hb2; subst hb1; subst hb2
    intro ad ws tys H locs ls cst hR hF
    obtain ⟨a, r', rfl, ha, hF1⟩ := zF2_ref hF
    obtain ⟨h1, h2, h3, h4, h5, h6, lv, h7, h8⟩ := hR
    exact lv_astore hx hb hd h7 (Nat.blt_eq.mp hg) rfl (fun ls hl => hk ad ws tys H locs ls r' ⟨h1, h2, h3, h4, h5, h6, zLo.st1 h8 ⟨a, ha, rfl⟩ hl⟩ hF1)
  · rename_i r
    injection hs with hs; injection hs with hg hs; injection hs with hs; injection hs with hb1 hb2; subst hb1; subst hb2
    intro ad ws tys H locs ls cst hR hF
    obtain ⟨r', rfl, hF1⟩ := zF2_null hF
    obtain ⟨h1, h2, h3, h4, h5, h6, lv, h7, h8⟩ := hR
    exact lv_astoreN hx hb hd h7 (Nat.blt_eq.mp hg) rfl (fun ls hl => hk ad ws tys H locs ls r' ⟨h1, h2, h3, h4, h5, h6, zLo.st1 h8 rfl hl⟩ hF1)
  · cases hs
theorem zs_iinc {i : Nat} {n : Int} (C : zCx Z M A xK xV ad0 p s m args meth c) (hf : zfetch M pc = some (.iinc i n, len, ns, z)) (hs : zstep M (pc, lo, st, h, ce, sl) = some (true, .inl (bs, S'))) (hk : zAW M D A ad0 p l e s m args below meth c Q (zsel bs S')) : zAW M D A ad0 p l e s m args below meth c Q (pc, lo, st, h, ce, sl) := by
  obtain ⟨hx, hb, hml, hown, hts, hA, hr, hlk, hnm, hok, hX, hx0, hx1⟩ := C
  obtain ⟨hd, hle, hrr⟩ := zok_dec Z hok hf
  have hle : len = 3 := hle.resolve_left (by simp [zsw_in])
  subst hle
  simp only [zstep, hf] at hs
  simp only [zg] at hs
  split at hs
  · rename_i x hx9
    injection hs with hs; injection hs with hg hs; injection hs with hs; injection hs with hb1 hb2; subst hb1; subst hb2
    intro ad ws tys H locs ls cst hR hF
    obtain ⟨h1, h2, h3, h4, h5, h6, lv, h7, h8⟩ := hR
    rw [znth_eq] at hx9
    obtain ⟨w, hw1, hw2⟩ := h8 _ _ hx9
    cases hw1
    obtain ⟨k, hk9⟩ := List.getElem?_of_mem hw2
    exact lv_iinc hx hb hd h7 hk9 rfl (Nat.blt_eq.mp hg) rfl (fun ls hl => hk ad ws tys H locs ls cst ⟨h1, h2, h3, h4, h5, h6, zLo.st1 h8 rfl hl⟩ hF)
  · cases hs
theorem zs_iadd (C : zCx Z M A xK xV ad0 p s m args meth c) (hf : zfetch M pc = some (.iadd, len, ns, z)) (hs : zstep M (pc, lo, st, h, ce, sl) = some (true, .inl (bs, S'))) (hk : zAW M D A ad0 p l e s m args below meth c Q (zsel bs S')) : zAW M D A ad0 p l e s m args below meth c Q (pc, lo, st, h, ce, sl) := by
  obtain ⟨hx, hb, hml, hown, hts, hA, hr, hlk, hnm, hok, hX, hx0, hx1⟩ := C
  obtain ⟨hd, hle, hrr⟩ := zok_dec Z hok hf
  have hle : len = 1 := hle.resolve_left (by simp [zsw_in])
  subst hle
  simp only [zstep, hf] at hs
  simp only [zi2, zk] at hs
  split at hs
  · rename_i y x r
    cases hs
    intro ad ws tys H locs ls cst hR hF
    obtain ⟨r1, rfl, hF1⟩ := zF2_int hF
    obtain ⟨r2, rfl, hF2⟩ := zF2_int hF1
    exact lv_iadd hx hb hd (hk ad ws tys H locs ls (_ :: r2) hR ⟨rfl, hF2⟩)
  · cases hs
theorem zs_isub (C : zCx Z M A xK xV ad0 p s m args meth c) (hf : zfetch M pc = some (.isub, len, ns, z)) (hs : zstep M (pc, lo, st, h, ce, sl) = some (true, .inl (bs, S'))) (hk : zAW M D A ad0 p l e s m args below meth c Q (zsel bs S')) : zAW M D A ad0 p l e s m args below meth c Q (pc, lo, st, h, ce, sl) := by
  obtain ⟨hx, hb, hml, hown, hts, hA, hr, hlk, hnm, hok, hX, hx0, hx1⟩ := C
  obtain ⟨hd, hle, hrr⟩ := zok_dec Z hok hf
  have hle : len = 1 := hle.resolve_left (by simp [zsw_in])
  subst hle
  simp only [zstep, hf] at hs
  simp only [zi2, zk] at hs
  split at hs
  · rename_i y x r
    cases hs
    intro ad ws tys H locs ls cst hR hF
    obtain ⟨r1, rfl, hF1⟩ := zF2_int hF
    obtain ⟨r2, rfl, hF2⟩ := zF2_int hF1
    exact lv_isub hx hb hd (hk ad ws tys H locs ls (_ :: r2) hR ⟨rfl, hF2⟩)
  · cases hs
theorem zs_imul (C : zCx Z M A xK xV ad0 p s m args meth c) (hf : zfetch M pc = some (.imul, len, ns, z)) (hs : zstep M (pc, lo, st, h, ce, sl) = some (true, .inl (bs, S'))) (hk : zAW M D A ad0 p l e s m args below meth c Q (zsel bs S')) : zAW M D A ad0 p l e s m args below meth c Q (pc, lo, st, h, ce, sl) := by
  obtain ⟨hx, hb, hml, hown, hts, hA, hr, hlk, hnm, hok, hX, hx0, hx1⟩ := C
  obtain ⟨hd, hle, hrr⟩ := zok_dec Z hok hf
  have hle : len = 1 := hle.resolve_left (by simp [zsw_in])
  subst hle
  simp only [zstep, hf] at hs
  simp only [zi2, zk] at hs
  split at hs
  · rename_i y x r
    cases hs
    intro ad ws tys H locs ls cst hR hF
    obtain ⟨r1, rfl, hF1⟩ := zF2_int hF
    obtain ⟨r2, rfl, hF2⟩ := zF2_int hF1
    exact lv_imul hx hb hd (hk ad ws tys H locs ls (_ :: r2) hR ⟨rfl, hF2⟩)
  · cases hs
theorem zs_iand (C : zCx Z M A xK xV ad0 p s m args meth c) (hf : zfetch M pc = some (.iand, len, ns, z)) (hs : zstep M (pc, lo, st, h, ce, sl) = some (true, .inl (bs, S'))) (hk : zAW M D A ad0 p l e s m args below meth c Q (zsel bs S')) : zAW M D A ad0 p l e s m args below meth c Q (pc, lo, st, h, ce, sl) := by
  obtain ⟨hx, hb, hml, hown, hts, hA, hr, hlk, hnm, hok, hX, hx0, hx1⟩ := C
  obtain ⟨hd, hle, hrr⟩ := zok_dec Z hok hf
  have hle : len = 1 := hle.resolve_left (by simp [zsw_in])
  subst hle
  simp only [zstep, hf] at hs
  simp only [zi2, zk] at hs
  split at hs
  · rename_i y x r
    cases hs
    intro ad ws tys H locs ls cst hR hF
    obtain ⟨r1, rfl, hF1⟩ := zF2_int hF
    obtain ⟨r2, rfl, hF2⟩ := zF2_int hF1
    exact lv_iand hx hb hd (hk ad ws tys H locs ls (_ :: r2) hR ⟨rfl, hF2⟩)
  · cases hs
theorem zs_ior (C : zCx Z M A xK xV ad0 p s m args meth c) (hf : zfetch M pc = some (.ior, len, ns, z)) (hs : zstep M (pc, lo, st, h, ce, sl) = some (true, .inl (bs, S'))) (hk : zAW M D A ad0 p l e s m args below meth c Q (zsel bs S')) : zAW M D A ad0 p l e s m args below meth c Q (pc, lo, st, h, ce, sl) := by
  obtain ⟨hx, hb, hml, hown, hts, hA, hr, hlk, hnm, hok, hX, hx0, hx1⟩ := C
  obtain ⟨hd, hle, hrr⟩ := zok_dec Z hok hf
  have hle : len = 1 := hle.resolve_left (by simp [zsw_in])
  subst hle
  simp only [zstep, hf] at hs
  simp only [zi2, zk] at hs
  split at hs
  · rename_i y x r
    cases hs
    intro ad ws tys H locs ls cst hR hF
    obtain ⟨r1, rfl, hF1⟩ := zF2_int hF
    obtain ⟨r2, rfl, hF2⟩ := zF2_int hF1
    exact lv_ior hx hb hd (hk ad ws tys H locs ls (_ :: r2) hR ⟨rfl, hF2⟩)
  · cases hs
theorem zs_ixor (C : zCx Z M A xK xV ad0 p s m args meth c) (hf : zfetch M pc = some (.ixor, len, ns, z)) (hs : zstep M (pc, lo, st, h, ce, sl) = some (true, .inl (bs, S'))) (hk : zAW M D A ad0 p l e s m args below meth c Q (zsel bs S')) : zAW M D A ad0 p l e s m args below meth c Q (pc, lo, st, h, ce, sl) := by
  obtain ⟨hx, hb, hml, hown, hts, hA, hr, hlk, hnm, hok, hX, hx0, hx1⟩ := C
  obtain ⟨hd, hle, hrr⟩ := zok_dec Z hok hf
  have hle : len = 1 := hle.resolve_left (by simp [zsw_in])
  subst hle
  simp only [zstep, hf] at hs
  simp only [zi2, zk] at hs
  split at hs
  · rename_i y x r
    cases hs
    intro ad ws tys H locs ls cst hR hF
    obtain ⟨r1, rfl, hF1⟩ := zF2_int hF
    obtain ⟨r2, rfl, hF2⟩ := zF2_int hF1
    exact lv_ixor hx hb hd (hk ad ws tys H locs ls (_ :: r2) hR ⟨rfl, hF2⟩)
  · cases hs
theorem zs_ishl (C : zCx Z M A xK xV ad0 p s m args meth c) (hf : zfetch M pc = some (.ishl, len, ns, z)) (hs : zstep M (pc, lo, st, h, ce, sl) = some (true, .inl (bs, S'))) (hk : zAW M D A ad0 p l e s m args below meth c Q (zsel bs S')) : zAW M D A ad0 p l e s m args below meth c Q (pc, lo, st, h, ce, sl) := by
  obtain ⟨hx, hb, hml, hown, hts, hA, hr, hlk, hnm, hok, hX, hx0, hx1⟩ := C
  obtain ⟨hd, hle, hrr⟩ := zok_dec Z hok hf
  have hle : len = 1 := hle.resolve_left (by simp [zsw_in])
  subst hle
  simp only [zstep, hf] at hs
  simp only [zi2, zk] at hs
  split at hs
  · rename_i y x r
    cases hs
    intro ad ws tys H locs ls cst hR hF
    obtain ⟨r1, rfl, hF1⟩ := zF2_int hF
    obtain ⟨r2, rfl, hF2⟩ := zF2_int hF1
    exact lv_ishl hx hb hd (hk ad ws tys H locs ls (_ :: r2) hR ⟨rfl, hF2⟩)
  · cases hs
theorem zs_ishr (C : zCx Z M A xK xV ad0 p s m args meth c) (hf : zfetch M pc = some (.ishr, len, ns, z)) (hs : zstep M (pc, lo, st, h, ce, sl) = some (true, .inl (bs, S'))) (hk : zAW M D A ad0 p l e s m args below meth c Q (zsel bs S')) : zAW M D A ad0 p l e s m args below meth c Q (pc, lo, st, h, ce, sl) := by
  obtain ⟨hx, hb, hml, hown, hts, hA, hr, hlk, hnm, hok, hX, hx0, hx1⟩ := C
  obtain ⟨hd, hle, hrr⟩ := zok_dec Z hok hf
  have hle : len = 1 := hle.resolve_left (by simp [zsw_in])
  subst hle
  simp only [zstep, hf] at hs
  simp only [zi2, zk] at hs
  split at hs
  · rename_i y x r
    cases hs
    intro ad ws tys H locs ls cst hR hF
    obtain ⟨r1, rfl, hF1⟩ := zF2_int hF
    obtain ⟨r2, rfl, hF2⟩ := zF2_int hF1
    exact lv_ishr hx hb hd (hk ad ws tys H locs ls (_ :: r2) hR ⟨rfl, hF2⟩)
  · cases hs
theorem zs_iushr (C : zCx Z M A xK xV ad0 p s m args meth c) (hf : zfetch M pc = some (.iushr, len, ns, z)) (hs : zstep M (pc, lo, st, h, ce, sl) = some (true, .inl (bs, S'))) (hk : zAW M D A ad0 p l e s m args below meth c Q (zsel bs S')) : zAW M D A ad0 p l e s m args below meth c Q (pc, lo, st, h, ce, sl) := by
  obtain ⟨hx, hb, hml, hown, hts, hA, hr, hlk, hnm, hok, hX, hx0, hx1⟩ := C
  obtain ⟨hd, hle, hrr⟩ := zok_dec Z hok hf
  have hle : len = 1 := hle.resolve_left (by simp [zsw_in])
  subst hle
  simp only [zstep, hf] at hs
  simp only [zi2, zk] at hs
  split at hs
  · rename_i y x r
    cases hs
    intro ad ws tys H locs ls cst hR hF
    obtain ⟨r1, rfl, hF1⟩ := zF2_int hF
    obtain ⟨r2, rfl, hF2⟩ := zF2_int hF1
    exact lv_iushr hx hb hd rfl (hk ad ws tys H locs ls (_ :: r2) hR ⟨rfl, hF2⟩)
  · cases hs
theorem zs_idiv (C : zCx Z M A xK xV ad0 p s m args meth c) (hf : zfetch M pc = some (.idiv, len, ns, z)) (hs : zstep M (pc, lo, st, h, ce, sl) = some (true, .inl (bs, S'))) (hk : zAW M D A ad0 p l e s m args below meth c Q (zsel bs S')) : zAW M D A ad0 p l e s m args below meth c Q (pc, lo, st, h, ce, sl) := by
  obtain ⟨hx, hb, hml, hown, hts, hA, hr, hlk, hnm, hok, hX, hx0, hx1⟩ := C
  obtain ⟨hd, hle, hrr⟩ := zok_dec Z hok hf
  have hle : len = 1 := hle.resolve_left (by simp [zsw_in])
  subst hle
  simp only [zstep, hf] at hs
  simp only [zg] at hs
  split at hs
  · rename_i y x r
    injection hs with hs; injection hs with hg hs; injection hs with hs; injection hs with hb1 hb2; subst hb1; subst hb2
    intro ad ws tys H locs ls cst hR hF
    obtain ⟨r1, rfl, hF1⟩ := zF2_int hF
    obtain ⟨r2, rfl, hF2⟩ := zF2_int hF1
    exact lv_idiv hx hb hd (by simpa using hg) (hk ad ws tys H locs ls (_ :: r2) hR ⟨rfl, hF2⟩)
  · cases hs
theorem zs_irem (C : zCx Z M A xK xV ad0 p s m args meth c) (hf : zfetch M pc = some (.irem, len, ns, z)) (hs : zstep M (pc, lo, st, h, ce, sl) = some (true, .inl (bs, S'))) (hk : zAW M D A ad0 p l e s m args below meth c Q (zsel bs S')) : zAW M D A ad0 p l e s m args below meth c Q (pc, lo, st, h, ce, sl) := by
  obtain ⟨hx, hb, hml, hown, hts, hA, hr, hlk, hnm, hok, hX, hx0, hx1⟩ := C
  obtain ⟨hd, hle, hrr⟩ := zok_dec Z hok hf
  have hle : len = 1 := hle.resolve_left (by simp [zsw_in])
  subst hle
  simp only [zstep, hf] at hs
  simp only [zg] at hs
  split at hs
  · rename_i y x r
    injection hs with hs; injection hs with hg hs; injection hs with hs; injection hs with hb1 hb2; subst hb1; subst hb2
    intro ad ws tys H locs ls cst hR hF
    obtain ⟨r1, rfl, hF1⟩ := zF2_int hF
    obtain ⟨r2, rfl, hF2⟩ := zF2_int hF1
    exact lv_irem hx hb hd (by simpa using hg) (hk ad ws tys H locs ls (_ :: r2) hR ⟨rfl, hF2⟩)
  · cases hs
theorem zs_ineg (C : zCx Z M A xK xV ad0 p s m args meth c) (hf : zfetch M pc = some (.ineg, len, ns, z)) (hs : zstep M (pc, lo, st, h, ce, sl) = some (true, .inl (bs, S'))) (hk : zAW M D A ad0 p l e s m args below meth c Q (zsel bs S')) : zAW M D A ad0 p l e s m args below meth c Q (pc, lo, st, h, ce, sl) := by
  obtain ⟨hx, hb, hml, hown, hts, hA, hr, hlk, hnm, hok, hX, hx0, hx1⟩ := C
  obtain ⟨hd, hle, hrr⟩ := zok_dec Z hok hf
  have hle : len = 1 := hle.resolve_left (by simp [zsw_in])
  subst hle
  simp only [zstep, hf] at hs
  simp only [zi1, zk] at hs
  split at hs
  · rename_i x r
    cases hs
    intro ad ws tys H locs ls cst hR hF
    obtain ⟨r1, rfl, hF1⟩ := zF2_int hF
    exact lv_ineg hx hb hd (hk ad ws tys H locs ls (_ :: r1) hR ⟨rfl, hF1⟩)
  · cases hs
theorem zs_i2l (C : zCx Z M A xK xV ad0 p s m args meth c) (hf : zfetch M pc = some (.i2l, len, ns, z)) (hs : zstep M (pc, lo, st, h, ce, sl) = some (true, .inl (bs, S'))) (hk : zAW M D A ad0 p l e s m args below meth c Q (zsel bs S')) : zAW M D A ad0 p l e s m args below meth c Q (pc, lo, st, h, ce, sl) := by
  obtain ⟨hx, hb, hml, hown, hts, hA, hr, hlk, hnm, hok, hX, hx0, hx1⟩ := C
  obtain ⟨hd, hle, hrr⟩ := zok_dec Z hok hf
  have hle : len = 1 := hle.resolve_left (by simp [zsw_in])
  subst hle
  simp only [zstep, hf] at hs
  simp only [zi1, zk] at hs
  split at hs
  · rename_i x r
    cases hs
    intro ad ws tys H locs ls cst hR hF
    obtain ⟨r1, rfl, hF1⟩ := zF2_int hF
    exact lv_i2l hx hb hd rfl (hk ad ws tys H locs ls (_ :: r1) hR ⟨rfl, hF1⟩)
  · cases hs
theorem zs_i2b (C : zCx Z M A xK xV ad0 p s m args meth c) (hf : zfetch M pc = some (.i2b, len, ns, z)) (hs : zstep M (pc, lo, st, h, ce, sl) = some (true, .inl (bs, S'))) (hk : zAW M D A ad0 p l e s m args below meth c Q (zsel bs S')) : zAW M D A ad0 p l e s m args below meth c Q (pc, lo, st, h, ce, sl) := by
  obtain ⟨hx, hb, hml, hown, hts, hA, hr, hlk, hnm, hok, hX, hx0, hx1⟩ := C
  obtain ⟨hd, hle, hrr⟩ := zok_dec Z hok hf
  have hle : len = 1 := hle.resolve_left (by simp [zsw_in])
  subst hle
  simp only [zstep, hf] at hs
  simp only [zi1, zk] at hs
  split at hs
  · rename_i x r
    cases hs
    intro ad ws tys H locs ls cst hR hF
    obtain ⟨r1, rfl, hF1⟩ := zF2_int hF
    exact lv_i2b hx hb hd rfl (hk ad ws tys H locs ls (_ :: r1) hR ⟨rfl, hF1⟩)
  · cases hs
theorem zs_i2c (C : zCx Z M A xK xV ad0 p s m args meth c) (hf : zfetch M pc = some (.i2c, len, ns, z)) (hs : zstep M (pc, lo, st, h, ce, sl) = some (true, .inl (bs, S'))) (hk : zAW M D A ad0 p l e s m args below meth c Q (zsel bs S')) : zAW M D A ad0 p l e s m args below meth c Q (pc, lo, st, h, ce, sl) := by
  obtain ⟨hx, hb, hml, hown, hts, hA, hr, hlk, hnm, hok, hX, hx0, hx1⟩ := C
  obtain ⟨hd, hle, hrr⟩ := zok_dec Z hok hf
  have hle : len = 1 := hle.resolve_left (by simp [zsw_in])
  subst hle
  simp only [zstep, hf] at hs
  simp only [zi1, zk] at hs
  split at hs
  · rename_i x r
    cases hs
    intro ad ws tys H locs ls cst hR hF
    obtain ⟨r1, rfl, hF1⟩ := zF2_int hF
    exact lv_i2c hx hb hd rfl (hk ad ws tys H locs ls (_ :: r1) hR ⟨rfl, hF1⟩)
  · cases hs
theorem zs_l2i (C : zCx Z M A xK xV ad0 p s m args meth c) (hf : zfetch M pc = some (.l2i, len, ns, z)) (hs : zstep M (pc, lo, st, h, ce, sl) = some (true, .inl (bs, S'))) (hk : zAW M D A ad0 p l e s m args below meth c Q (zsel bs S')) : zAW M D A ad0 p l e s m args below meth c Q (pc, lo, st, h, ce, sl) := by
  obtain ⟨hx, hb, hml, hown, hts, hA, hr, hlk, hnm, hok, hX, hx0, hx1⟩ := C
  obtain ⟨hd, hle, hrr⟩ := zok_dec Z hok hf
  have hle : len = 1 := hle.resolve_left (by simp [zsw_in])
  subst hle
  simp only [zstep, hf] at hs
  simp only [zk] at hs
  split at hs
  · rename_i x r
    cases hs
    intro ad ws tys H locs ls cst hR hF
    obtain ⟨r1, rfl, hF1⟩ := zF2_long hF
    exact lv_l2i hx hb hd rfl (hk ad ws tys H locs ls (_ :: r1) hR ⟨rfl, hF1⟩)
  · cases hs
theorem zs_ladd (C : zCx Z M A xK xV ad0 p s m args meth c) (hf : zfetch M pc = some (.ladd, len, ns, z)) (hs : zstep M (pc, lo, st, h, ce, sl) = some (true, .inl (bs, S'))) (hk : zAW M D A ad0 p l e s m args below meth c Q (zsel bs S')) : zAW M D A ad0 p l e s m args below meth c Q (pc, lo, st, h, ce, sl) := by
  obtain ⟨hx, hb, hml, hown, hts, hA, hr, hlk, hnm, hok, hX, hx0, hx1⟩ := C
  obtain ⟨hd, hle, hrr⟩ := zok_dec Z hok hf
  have hle : len = 1 := hle.resolve_left (by simp [zsw_in])
  subst hle
  simp only [zstep, hf] at hs
  simp only [zl2, zk] at hs
  split at hs
  · rename_i y x r
    cases hs
    intro ad ws tys H locs ls cst hR hF
    obtain ⟨r1, rfl, hF1⟩ := zF2_long hF
    obtain ⟨r2, rfl, hF2⟩ := zF2_long hF1
    exact lv_ladd hx hb hd (hk ad ws tys H locs ls (_ :: r2) hR ⟨rfl, hF2⟩)
  · cases hs
theorem zs_lmul (C : zCx Z M A xK xV ad0 p s m args meth c) (hf : zfetch M pc = some (.lmul, len, ns, z)) (hs : zstep M (pc, lo, st, h, ce, sl) = some (true, .inl (bs, S'))) (hk : zAW M D A ad0 p l e s m args below meth c Q (zsel bs S')) : zAW M D A ad0 p l e s m args below meth c Q (pc, lo, st, h, ce, sl) := by
  obtain ⟨hx, hb, hml, hown, hts, hA, hr, hlk, hnm, hok, hX, hx0, hx1⟩ := C
  obtain ⟨hd, hle, hrr⟩ := zok_dec Z hok hf
  have hle : len = 1 := hle.resolve_left (by simp [zsw_in])
  subst hle
  simp only [zstep, hf] at hs
  simp only [zl2, zk] at hs
  split at hs
  · rename_i y x r
    cases hs
    intro ad ws tys H locs ls cst hR hF
    obtain ⟨r1, rfl, hF1⟩ := zF2_long hF
    obtain ⟨r2, rfl, hF2⟩ := zF2_long hF1
    exact lv_lmul hx hb hd (hk ad ws tys H locs ls (_ :: r2) hR ⟨rfl, hF2⟩)
  · cases hs
theorem zs_land (C : zCx Z M A xK xV ad0 p s m args meth c) (hf : zfetch M pc = some (.land, len, ns, z)) (hs : zstep M (pc, lo, st, h, ce, sl) = some (true, .inl (bs, S'))) (hk : zAW M D A ad0 p l e s m args below meth c Q (zsel bs S')) : zAW M D A ad0 p l e s m args below meth c Q (pc, lo, st, h, ce, sl) := by
  obtain ⟨hx, hb, hml, hown, hts, hA, hr, hlk, hnm, hok, hX, hx0, hx1⟩ := C
  obtain ⟨hd, hle, hrr⟩ := zok_dec Z hok hf
  have hle : len = 1 := hle.resolve_left (by simp [zsw_in])
  subst hle
  simp only [zstep, hf] at hs
  simp only [zl2, zk] at hs
  split at hs
  · rename_i y x r
    cases hs
    intro ad ws tys H locs ls cst hR hF
    obtain ⟨r1, rfl, hF1⟩ := zF2_long hF
    obtain ⟨r2, rfl, hF2⟩ := zF2_long hF1
    exact lv_land hx hb hd (hk ad ws tys H locs ls (_ :: r2) hR ⟨rfl, hF2⟩)
  · cases hs
theorem zs_lor (C : zCx Z M A xK xV ad0 p s m args meth c) (hf : zfetch M pc = some (.lor, len, ns, z)) (hs : zstep M (pc, lo, st, h, ce, sl) = some (true, .inl (bs, S'))) (hk : zAW M D A ad0 p l e s m args below meth c Q (zsel bs S')) : zAW M D A ad0 p l e s m args below meth c Q (pc, lo, st, h, ce, sl) := by
  obtain ⟨hx, hb, hml, hown, hts, hA, hr, hlk, hnm, hok, hX, hx0, hx1⟩ := C
  obtain ⟨hd, hle, hrr⟩ := zok_dec Z hok hf
  have hle : len = 1 := hle.resolve_left (by simp [zsw_in])
  subst hle
  simp only [zstep, hf] at hs
  simp only [zl2, zk] at hs
  split at hs
  · rename_i y x r
    cases hs
    intro ad ws tys H locs ls cst hR hF
    obtain ⟨r1, rfl, hF1⟩ := zF2_long hF
    obtain ⟨r2, rfl, hF2⟩ := zF2_long hF1
    exact lv_lor hx hb hd (hk ad ws tys H locs ls (_ :: r2) hR ⟨rfl, hF2⟩)
  · cases hs
theorem zs_lshl (C : zCx Z M A xK xV ad0 p s m args meth c) (hf : zfetch M pc = some (.lshl, len, ns, z)) (hs : zstep M (pc, lo, st, h, ce, sl) = some (true, .inl (bs, S'))) (hk : zAW M D A ad0 p l e s m args below meth c Q (zsel bs S')) : zAW M D A ad0 p l e s m args below meth c Q (pc, lo, st, h, ce, sl) := by
  obtain ⟨hx, hb, hml, hown, hts, hA, hr, hlk, hnm, hok, hX, hx0, hx1⟩ := C
  obtain ⟨hd, hle, hrr⟩ := zok_dec Z hok hf
  have hle : len = 1 := hle.resolve_left (by simp [zsw_in])
  subst hle
  simp only [zstep, hf] at hs
  simp only [zk] at hs
  split at hs
  · rename_i y x r
    cases hs
    intro ad ws tys H locs ls cst hR hF
    obtain ⟨r1, rfl, hF1⟩ := zF2_int hF
    obtain ⟨r2, rfl, hF2⟩ := zF2_long hF1
    exact lv_lshl hx hb hd rfl (hk ad ws tys H locs ls (_ :: r2) hR ⟨rfl, hF2⟩)
  · cases hs
theorem zs_lshr (C : zCx Z M A xK xV ad0 p s m args meth c) (hf : zfetch M pc = some (.lshr, len, ns, z)) (hs : zstep M (pc, lo, st, h, ce, sl) = some (true, .inl (bs, S'))) (hk : zAW M D A ad0 p l e s m args below meth c Q (zsel bs S')) : zAW M D A ad0 p l e s m args below meth c Q (pc, lo, st, h, ce, sl) := by
  obtain ⟨hx, hb, hml, hown, hts, hA, hr, hlk, hnm, hok, hX, hx0, hx1⟩ := C
  obtain ⟨hd, hle, hrr⟩ := zok_dec Z hok hf
  have hle : len = 1 := hle.resolve_left (by simp [zsw_in])
  subst hle
  simp only [zstep, hf] at hs
  simp only [zk] at hs
  split at hs
  · rename_i y x r
    cases hs
    intro ad ws tys H locs ls cst hR hF
    obtain ⟨r1, rfl, hF1⟩ := zF2_int hF
    obtain ⟨r2, rfl, hF2⟩ := zF2_long hF1
    exact lv_lshr hx hb hd rfl (hk ad ws tys H locs ls (_ :: r2) hR ⟨rfl, hF2⟩)
  · cases hs
theorem zs_lcmp (C : zCx Z M A xK xV ad0 p s m args meth c) (hf : zfetch M pc = some (.lcmp, len, ns, z)) (hs : zstep M (pc, lo, st, h, ce, sl) = some (true, .inl (bs, S'))) (hk : zAW M D A ad0 p l e s m args below meth c Q (zsel bs S')) : zAW M D A ad0 p l e s m args below meth c Q (pc, lo, st, h, ce, sl) := by
  obtain ⟨hx, hb, hml, hown, hts, hA, hr, hlk, hnm, hok, hX, hx0, hx1⟩ := C
  obtain ⟨hd, hle, hrr⟩ := zok_dec Z hok hf
  have hle : len = 1 := hle.resolve_left (by simp [zsw_in])
  subst hle
  simp only [zstep, hf] at hs
  simp only [zk] at hs
  split at hs
  · rename_i y x r
    cases hs
    intro ad ws tys H locs ls cst hR hF
    obtain ⟨r1, rfl, hF1⟩ := zF2_long hF
    obtain ⟨r2, rfl, hF2⟩ := zF2_long hF1
    exact W.lcmp hx hb hd (hk ad ws tys H locs ls (_ :: r2) hR ⟨rfl, hF2⟩)
  · cases hs
theorem zs_dup (C : zCx Z M A xK xV ad0 p s m args meth c) (hf : zfetch M pc = some (.dup, len, ns, z)) (hs : zstep M (pc, lo, st, h, ce, sl) = some (true, .inl (bs, S'))) (hk : zAW M D A ad0 p l e s m args below meth c Q (zsel bs S')) : zAW M D A ad0 p l e s m args below meth c Q (pc, lo, st, h, ce, sl) := by
  obtain ⟨hx, hb, hml, hown, hts, hA, hr, hlk, hnm, hok, hX, hx0, hx1⟩ := C
  obtain ⟨hd, hle, hrr⟩ := zok_dec Z hok hf
  have hle : len = 1 := hle.resolve_left (by simp [zsw_in])
  subst hle
  simp only [zstep, hf] at hs
  simp only [zg] at hs
  split at hs
  · rename_i v r
    injection hs with hs; injection hs with hg hs; injection hs with hs; injection hs with hb1 hb2; subst hb1; subst hb2
    intro ad ws tys H locs ls cst hR hF
    obtain ⟨w, r1, rfl, hv, hF1⟩ := zF2_cons hF
    exact lv_dup hx hb hd (by rw [zv_cat hv]; exact Nat.eq_of_beq_eq_true hg) (hk ad ws tys H locs ls (_ :: _ :: r1) hR ⟨hv, hv, hF1⟩)
  · cases hs
theorem zs_pop (C : zCx Z M A xK xV ad0 p s m args meth c) (hf : zfetch M pc = some (.pop, len, ns, z)) (hs : zstep M (pc, lo, st, h, ce, sl) = some (true, .inl (bs, S'))) (hk : zAW M D A ad0 p l e s m args below meth c Q (zsel bs S')) : zAW M D A ad0 p l e s m args below meth c Q (pc, lo, st, h, ce, sl) := by
  obtain ⟨hx, hb, hml, hown, hts, hA, hr, hlk, hnm, hok, hX, hx0, hx1⟩ := C
  obtain ⟨hd, hle, hrr⟩ := zok_dec Z hok hf
  have hle : len = 1 := hle.resolve_left (by simp [zsw_in])
  subst hle
  simp only [zstep, hf] at hs
  simp only [zg] at hs
  split at hs
  · rename_i v r
    injection hs with hs; injection hs with hg hs; injection hs with hs; injection hs with hb1 hb2; subst hb1; subst hb2
    intro ad ws tys H locs ls cst hR hF
    obtain ⟨w, r1, rfl, hv, hF1⟩ := zF2_cons hF
    exact lv_pop hx hb hd (by rw [zv_cat hv]; exact Nat.eq_of_beq_eq_true hg) (hk ad ws tys H locs ls r1 hR hF1)
  · cases hs
theorem zs_dup2 (C : zCx Z M A xK xV ad0 p s m args meth c) (hf : zfetch M pc = some (.dup2, len, ns, z)) (hs : zstep M (pc, lo, st, h, ce, sl) = some (true, .inl (bs, S'))) (hk : zAW M D A ad0 p l e s m args below meth c Q (zsel bs S')) : zAW M D A ad0 p l e s m args below meth c Q (pc, lo, st, h, ce, sl) := by
  obtain ⟨hx, hb, hml, hown, hts, hA, hr, hlk, hnm, hok, hX, hx0, hx1⟩ := C
  obtain ⟨hd, hle, hrr⟩ := zok_dec Z hok hf
  have hle : len = 1 := hle.resolve_left (by simp [zsw_in])
  subst hle
  simp only [zstep, hf] at hs
  simp only [zg] at hs
  split at hs
  · rename_i v w r
    injection hs with hs; injection hs with hg hs; injection hs with hs; injection hs with hb1 hb2; subst hb1; subst hb2
    rw [Bool.and_eq_true] at hg
    intro ad ws tys H locs ls cst hR hF
    obtain ⟨w1, r1, rfl, hv1, hF1⟩ := zF2_cons hF
    obtain ⟨w2, r2, rfl, hv2, hF2⟩ := zF2_cons hF1
    exact lv_dup2_11 hx hb hd (by rw [zv_cat hv1]; exact Nat.eq_of_beq_eq_true hg.1) (by rw [zv_cat hv2]; exact Nat.eq_of_beq_eq_true hg.2) (hk ad ws tys H locs ls (_ :: _ :: _ :: _ :: r2) hR ⟨hv1, hv2, hv1, hv2, hF2⟩)
  · cases hs
theorem zs_goto {o : Int} (C : zCx Z M A xK xV ad0 p s m args meth c) (hf : zfetch M pc = some (.goto o, len, ns, z)) (hs : zstep M (pc, lo, st, h, ce, sl) = some (true, .inl (bs, S'))) (hk : zAW M D A ad0 p l e s m args below meth c Q (zsel bs S')) : zAW M D A ad0 p l e s m args below meth c Q (pc, lo, st, h, ce, sl) := by
  obtain ⟨hx, hb, hml, hown, hts, hA, hr, hlk, hnm, hok, hX, hx0, hx1⟩ := C
  obtain ⟨hd, hle, hrr⟩ := zok_dec Z hok hf
  have hle : len = 3 := hle.resolve_left (by simp [zsw_in])
  subst hle
  simp only [zstep, hf] at hs
  cases hs
  intro ad ws tys H locs ls cst hR hF
  exact lv_goto hx hb hd (zoff_eq (of_decide_eq_true hrr)) (hk ad ws tys H locs ls cst hR hF)
theorem zs_if_eq {o : Int} (C : zCx Z M A xK xV ad0 p s m args meth c) (hf : zfetch M pc = some (.ifCond .eq o, len, ns, z)) (hs : zstep M (pc, lo, st, h, ce, sl) = some (true, .inl (bs, S'))) (hk : zAW M D A ad0 p l e s m args below meth c Q (zsel bs S')) : zAW M D A ad0 p l e s m args below meth c Q (pc, lo, st, h, ce, sl) := by
  obtain ⟨hx, hb, hml, hown, hts, hA, hr, hlk, hnm, hok, hX, hx0, hx1⟩ := C
  obtain ⟨hd, hle, hrr⟩ := zok_dec Z hok hf
  have hle : len = 3 := hle.resolve_left (by simp [zsw_in])
  subst hle
  simp only [zstep, hf] at hs
  simp only [zbr, zcmp] at hs
  split at hs
  · rename_i x r
    cases hs
    intro ad ws tys H locs ls cst hR hF
    obtain ⟨r1, rfl, hF1⟩ := zF2_int hF
    refine lv_if_eq hx hb hd (zoff_eq (of_decide_eq_true hrr)) (fun h9 => ?_) (fun h9 => ?_)
    · have hz : (decide (x = 0)) = true := by simpa using h9
      simp only [zsel, zsw, hz] at hk
      exact hk ad ws tys H locs ls r1 hR hF1
    · have hz : (decide (x = 0)) = false := by simpa using h9
      simp only [zsel, zsw, hz] at hk
      exact hk ad ws tys H locs ls r1 hR hF1
  · cases hs
theorem zs_if_ne {o : Int} (C : zCx Z M A xK xV ad0 p s m args meth c) (hf : zfetch M pc = some (.ifCond .ne o, len, ns, z)) (hs : zstep M (pc, lo, st, h, ce, sl) = some (true, .inl (bs, S'))) (hk : zAW M D A ad0 p l e s m args below meth c Q (zsel bs S')) : zAW M D A ad0 p l e s m args below meth c Q (pc, lo, st, h, ce, sl) := by
  obtain ⟨hx, hb, hml, hown, hts, hA, hr, hlk, hnm, hok, hX, hx0, hx1⟩ := C
  obtain ⟨hd, hle, hrr⟩ := zok_dec Z hok hf
  have hle : len = 3 := hle.resolve_left (by simp [zsw_in])
  subst hle
  simp only [zstep, hf] at hs
  simp only [zbr, zcmp] at hs
  split at hs
  · rename_i x r
    cases hs
    intro ad ws tys H locs ls cst hR hF
    obtain ⟨r1, rfl, hF1⟩ := zF2_int hF
    refine lv_if_ne hx hb hd (zoff_eq (of_decide_eq_true hrr)) (fun h9 => ?_) (fun h9 => ?_)
    · have hz : (!decide (x = 0)) = true := by simpa using h9
      simp only [zsel, zsw, hz] at hk
      exact hk ad ws tys H locs ls r1 hR hF1
    · have hz : (!decide (x = 0)) = false := by simpa using h9
      simp only [zsel, zsw, hz] at hk
      exact hk ad ws tys H locs ls r1 hR hF1
  · cases hs
theorem zs_if_lt {o : Int} (C : zCx Z M A xK xV ad0 p s m args meth c) (hf : zfetch M pc = some (.ifCond .lt o, len, ns, z)) (hs : zstep M (pc, lo, st, h, ce, sl) = some (true, .inl (bs, S'))) (hk : zAW M D A ad0 p l e s m args below meth c Q (zsel bs S')) : zAW M D A ad0 p l e s m args below meth c Q (pc, lo, st, h, ce, sl) := by
  obtain ⟨hx, hb, hml, hown, hts, hA, hr, hlk, hnm, hok, hX, hx0, hx1⟩ := C
  obtain ⟨hd, hle, hrr⟩ := zok_dec Z hok hf
  have hle : len = 3 := hle.resolve_left (by simp [zsw_in])
  subst hle
  simp only [zstep, hf] at hs
  simp only [zbr, zcmp] at hs
  split at hs
  · rename_i x r
    cases hs
    intro ad ws tys H locs ls cst hR hF
    obtain ⟨r1, rfl, hF1⟩ := zF2_int hF
    refine lv_if_lt hx hb hd (zoff_eq (of_decide_eq_true hrr)) (fun h9 => ?_) (fun h9 => ?_)
    · have hz : (decide (x < 0)) = true := by simpa using h9
      simp only [zsel, zsw, hz] at hk
      exact hk ad ws tys H locs ls r1 hR hF1
    · have hz : (decide (x < 0)) = false := by simpa using h9
      simp only [zsel, zsw, hz] at hk
      exact hk ad ws tys H locs ls r1 hR hF1
  · cases hs
theorem zs_if_ge {o : Int} (C : zCx Z M A xK xV ad0 p s m args meth c) (hf : zfetch M pc = some (.ifCond .ge o, len, ns, z)) (hs : zstep M (pc, lo, st, h, ce, sl) = some (true, .inl (bs, S'))) (hk : zAW M D A ad0 p l e s m args below meth c Q (zsel bs S')) : zAW M D A ad0 p l e s m args below meth c Q (pc, lo, st, h, ce, sl) := by
  obtain ⟨hx, hb, hml, hown, hts, hA, hr, hlk, hnm, hok, hX, hx0, hx1⟩ := C
  obtain ⟨hd, hle, hrr⟩ := zok_dec Z hok hf
  have hle : len = 3 := hle.resolve_left (by simp [zsw_in])
  subst hle
  simp only [zstep, hf] at hs
  simp only [zbr, zcmp] at hs
  split at hs
  · rename_i x r
    cases hs
    intro ad ws tys H locs ls cst hR hF
    obtain ⟨r1, rfl, hF1⟩ := zF2_int hF
    refine lv_if_ge hx hb hd (zoff_eq (of_decide_eq_true hrr)) (fun h9 => ?_) (fun h9 => ?_)
    · have hz : (!decide (x < 0)) = true := by simpa [Int32.not_lt] using h9
      simp only [zsel, zsw, hz] at hk
      exact hk ad ws tys H locs ls r1 hR hF1
    · have hz : (!decide (x < 0)) = false := by simpa [Int32.not_le] using h9
      simp only [zsel, zsw, hz] at hk
      exact hk ad ws tys H locs ls r1 hR hF1
  · cases hs
theorem zs_if_gt {o : Int} (C : zCx Z M A xK xV ad0 p s m args meth c) (hf : zfetch M pc = some (.ifCond .gt o, len, ns, z)) (hs : zstep M (pc, lo, st, h, ce, sl) = some (true, .inl (bs, S'))) (hk : zAW M D A ad0 p l e s m args below meth c Q (zsel bs S')) : zAW M D A ad0 p l e s m args below meth c Q (pc, lo, st, h, ce, sl) := by
  obtain ⟨hx, hb, hml, hown, hts, hA, hr, hlk, hnm, hok, hX, hx0, hx1⟩ := C
  obtain ⟨hd, hle, hrr⟩ := zok_dec Z hok hf
  have hle : len = 3 := hle.resolve_left (by simp [zsw_in])
  subst hle
  simp only [zstep, hf] at hs
  simp only [zbr, zcmp] at hs
  split at hs
  · rename_i x r
    cases hs
    intro ad ws tys H locs ls cst hR hF
    obtain ⟨r1, rfl, hF1⟩ := zF2_int hF
    refine lv_if_gt hx hb hd (zoff_eq (of_decide_eq_true hrr)) (fun h9 => ?_) (fun h9 => ?_)
    · have hz : (decide (0 < x)) = true := by simpa using h9
      simp only [zsel, zsw, hz] at hk
      exact hk ad ws tys H locs ls r1 hR hF1
    · have hz : (decide (0 < x)) = false := by simpa using h9
      simp only [zsel, zsw, hz] at hk
      exact hk ad ws tys H locs ls r1 hR hF1
  · cases hs
theorem zs_if_le {o : Int} (C : zCx Z M A xK xV ad0 p s m args meth c) (hf : zfetch M pc = some (.ifCond .le o, len, ns, z)) (hs : zstep M (pc, lo, st, h, ce, sl) = some (true, .inl (bs, S'))) (hk : zAW M D A ad0 p l e s m args below meth c Q (zsel bs S')) : zAW M D A ad0 p l e s m args below meth c Q (pc, lo, st, h, ce, sl) := by
  obtain ⟨hx, hb, hml, hown, hts, hA, hr, hlk, hnm, hok, hX, hx0, hx1⟩ := C
  obtain ⟨hd, hle, hrr⟩ := zok_dec Z hok hf
  have hle : len = 3 := hle.resolve_left (by simp [zsw_in])
  subst hle
  simp only [zstep, hf] at hs
  simp only [zbr, zcmp] at hs
  split at hs
  · rename_i x r
    cases hs
    intro ad ws tys H locs ls cst hR hF
    obtain ⟨r1, rfl, hF1⟩ := zF2_int hF
    refine lv_if_le hx hb hd (zoff_eq (of_decide_eq_true hrr)) (fun h9 => ?_) (fun h9 => ?_)
    · have hz : (!decide (0 < x)) = true := by simpa [Int32.not_lt] using h9
      simp only [zsel, zsw, hz] at hk
      exact hk ad ws tys H locs ls r1 hR hF1
    · have hz : (!decide (0 < x)) = false := by simpa [Int32.not_le] using h9
      simp only [zsel, zsw, hz] at hk
      exact hk ad ws tys H locs ls r1 hR hF1
  · cases hs
theorem zs_icmp_eq {o : Int} (C : zCx Z M A xK xV ad0 p s m args meth c) (hf : zfetch M pc = some (.if_icmp .eq o, len, ns, z)) (hs : zstep M (pc, lo, st, h, ce, sl) = some (true, .inl (bs, S'))) (hk : zAW M D A ad0 p l e s m args below meth c Q (zsel bs S')) : zAW M D A ad0 p l e s m args below meth c Q (pc, lo, st, h, ce, sl) := by
  obtain ⟨hx, hb, hml, hown, hts, hA, hr, hlk, hnm, hok, hX, hx0, hx1⟩ := C
  obtain ⟨hd, hle, hrr⟩ := zok_dec Z hok hf
  have hle : len = 3 := hle.resolve_left (by simp [zsw_in])
  subst hle
  simp only [zstep, hf] at hs
  simp only [zbr, zcmp] at hs
  split at hs
  · rename_i y x r
    cases hs
    intro ad ws tys H locs ls cst hR hF
    obtain ⟨r1, rfl, hF1⟩ := zF2_int hF
    obtain ⟨r2, rfl, hF2⟩ := zF2_int hF1
    refine lv_icmp_eq hx hb hd (zoff_eq (of_decide_eq_true hrr)) (fun h9 => ?_) (fun h9 => ?_)
    · have hz : (decide (x = y)) = true := by simpa using h9
      simp only [zsel, zsw, hz] at hk
      exact hk ad ws tys H locs ls r2 hR hF2
    · have hz : (decide (x = y)) = false := by simpa using h9
      simp only [zsel, zsw, hz] at hk
      exact hk ad ws tys H locs ls r2 hR hF2
  · cases hs
theorem zs_icmp_ne {o : Int} (C : zCx Z M A xK xV ad0 p s m args meth c) (hf : zfetch M pc = some (.if_icmp .ne o, len, ns, z)) (hs : zstep M (pc, lo, st, h, ce, sl) = some (true, .inl (bs, S'))) (hk : zAW M D A ad0 p l e s m args below meth c Q (zsel bs S')) : zAW M D A ad0 p l e s m args below meth c Q (pc, lo, st, h, ce, sl) := by
  obtain ⟨hx, hb, hml, hown, hts, hA, hr, hlk, hnm, hok, hX, hx0, hx1⟩ := C
  obtain ⟨hd, hle, hrr⟩ := zok_dec Z hok hf
  have hle : len = 3 := hle.resolve_left (by simp [zsw_in])
  subst hle
  simp only [zstep, hf] at hs
  simp only [zbr, zcmp] at hs
  split at hs
  · rename_i y x r
    cases hs
    intro ad ws tys H locs ls cst hR hF
    obtain ⟨r1, rfl, hF1⟩ := zF2_int hF
    obtain ⟨r2, rfl, hF2⟩ := zF2_int hF1
    refine lv_icmp_ne hx hb hd (zoff_eq (of_decide_eq_true hrr)) (fun h9 => ?_) (fun h9 => ?_)
    · have hz : (!decide (x = y)) = true := by simpa using h9
      simp only [zsel, zsw, hz] at hk
      exact hk ad ws tys H locs ls r2 hR hF2
    · have hz : (!decide (x = y)) = false := by simpa using h9
      simp only [zsel, zsw, hz] at hk
      exact hk ad ws tys H locs ls r2 hR hF2
  · cases hs
theorem zs_icmp_lt {o : Int} (C : zCx Z M A xK xV ad0 p s m args meth c) (hf : zfetch M pc = some (.if_icmp .lt o, len, ns, z)) (hs : zstep M (pc, lo, st, h, ce, sl) = some (true, .inl (bs, S'))) (hk : zAW M D A ad0 p l e s m args below meth c Q (zsel bs S')) : zAW M D A ad0 p l e s m args below meth c Q (pc, lo, st, h, ce, sl) := by
  obtain ⟨hx, hb, hml, hown, hts, hA, hr, hlk, hnm, hok, hX, hx0, hx1⟩ := C
  obtain ⟨hd, hle, hrr⟩ := zok_dec Z hok hf
  have hle : len = 3 := hle.resolve_left (by simp [zsw_in])
  subst hle
  simp only [zstep, hf] at hs
  simp only [zbr, zcmp] at hs
  split at hs
  · rename_i y x r
    cases hs
    intro ad ws tys H locs ls cst hR hF
    obtain ⟨r1, rfl, hF1⟩ := zF2_int hF
    obtain ⟨r2, rfl, hF2⟩ := zF2_int hF1
    refine lv_icmp_lt hx hb hd (zoff_eq (of_decide_eq_true hrr)) (fun h9 => ?_) (fun h9 => ?_)
    · have hz : (decide (x < y)) = true := by simpa using h9
      simp only [zsel, zsw, hz] at hk
      exact hk ad ws tys H locs ls r2 hR hF2
    · have hz : (decide (x < y)) = false := by simpa using h9
      simp only [zsel, zsw, hz] at hk
      exact hk ad ws tys H locs ls r2 hR hF2
  · cases hs
theorem zs_icmp_ge {o : Int} (C : zCx Z M A xK xV ad0 p s m args meth c) (hf : zfetch M pc = some (.if_icmp .ge o, len, ns, z)) (hs : zstep M (pc, lo, st, h, ce, sl) = some (true, .inl (bs, S'))) (hk : zAW M D A ad0 p l e s m args below meth c Q (zsel bs S')) : zAW M D A ad0 p l e s m args below meth c Q (pc, lo, st, h, ce, sl) := by
  obtain ⟨hx, hb, hml, hown, hts, hA, hr, hlk, hnm, hok, hX, hx0, hx1⟩ := C
  obtain ⟨hd, hle, hrr⟩ := zok_dec Z hok hf
  have hle : len = 3 := hle.resolve_left (by simp [zsw_in])
  subst hle
  simp only [zstep, hf] at hs
  simp only [zbr, zcmp] at hs
  split at hs
  · rename_i y x r
    cases hs
    intro ad ws tys H locs ls cst hR hF
    obtain ⟨r1, rfl, hF1⟩ := zF2_int hF
    obtain ⟨r2, rfl, hF2⟩ := zF2_int hF1
    refine lv_icmp_ge hx hb hd (zoff_eq (of_decide_eq_true hrr)) (fun h9 => ?_) (fun h9 => ?_)
    · have hz : (!decide (x < y)) = true := by simpa [Int32.not_lt] using h9
      simp only [zsel, zsw, hz] at hk
      exact hk ad ws tys H locs ls r2 hR hF2
    · have hz : (!decide (x < y)) = false := by simpa [Int32.not_le] using h9
      simp only [zsel, zsw, hz] at hk
      exact hk ad ws tys H locs ls r2 hR hF2
  · cases hs
theorem zs_icmp_gt {o : Int} (C : zCx Z M A xK xV ad0 p s m args meth c) (hf : zfetch M pc = some (.if_icmp .gt o, len, ns, z)) (hs : zstep M (pc, lo, st, h, ce, sl) = some (true, .inl (bs, S'))) (hk : zAW M D A ad0 p l e s m args below meth c Q (zsel bs S')) : zAW M D A ad0 p l e s m args below meth c Q (pc, lo, st, h, ce, sl) := by
  obtain ⟨hx, hb, hml, hown, hts, hA, hr, hlk, hnm, hok, hX, hx0, hx1⟩ := C
  obtain ⟨hd, hle, hrr⟩ := zok_dec Z hok hf
  have hle : len = 3 := hle.resolve_left (by simp [zsw_in])
  subst hle
  simp only [zstep, hf] at hs
  simp only [zbr, zcmp] at hs
  split at hs
  · rename_i y x r
    cases hs
    intro ad ws tys H locs ls cst hR hF
    obtain ⟨r1, rfl, hF1⟩ := zF2_int hF
    obtain ⟨r2, rfl, hF2⟩ := zF2_int hF1
    refine lv_icmp_gt hx hb hd (zoff_eq (of_decide_eq_true hrr)) (fun h9 => ?_) (fun h9 => ?_)
    · have hz : (decide (y < x)) = true := by simpa using h9
      simp only [zsel, zsw, hz] at hk
      exact hk ad ws tys H locs ls r2 hR hF2
    · have hz : (decide (y < x)) = false := by simpa using h9
      simp only [zsel, zsw, hz] at hk
      exact hk ad ws tys H locs ls r2 hR hF2
  · cases hs
theorem zs_icmp_le {o : Int} (C : zCx Z M A xK xV ad0 p s m args meth c) (hf : zfetch M pc = some (.if_icmp .le o, len, ns, z)) (hs : zstep M (pc, lo, st, h, ce, sl) = some (true, .inl (bs, S'))) (hk : zAW M D A ad0 p l e s m args below meth c Q (zsel bs S')) : zAW M D A ad0 p l e s m args below meth c Q (pc, lo, st, h, ce, sl) := by
  obtain ⟨hx, hb, hml, hown, hts, hA, hr, hlk, hnm, hok, hX, hx0, hx1⟩ := C
  obtain ⟨hd, hle, hrr⟩ := zok_dec Z hok hf
  have hle : len = 3 := hle.resolve_left (by simp [zsw_in])
  subst hle
  simp only [zstep, hf] at hs
  simp only [zbr, zcmp] at hs
  split at hs
  · rename_i y x r
    cases hs
    intro ad ws tys H locs ls cst hR hF
    obtain ⟨r1, rfl, hF1⟩ := zF2_int hF
    obtain ⟨r2, rfl, hF2⟩ := zF2_int hF1
    refine lv_icmp_le hx hb hd (zoff_eq (of_decide_eq_true hrr)) (fun h9 => ?_) (fun h9 => ?_)
    · have hz : (!decide (y < x)) = true := by simpa [Int32.not_lt] using h9
      simp only [zsel, zsw, hz] at hk
      exact hk ad ws tys H locs ls r2 hR hF2
    · have hz : (!decide (y < x)) = false := by simpa [Int32.not_le] using h9
      simp only [zsel, zsw, hz] at hk
      exact hk ad ws tys H locs ls r2 hR hF2
  · cases hs
theorem zs_ifnull {o : Int} (C : zCx Z M A xK xV ad0 p s m args meth c) (hf : zfetch M pc = some (.ifnull o, len, ns, z)) (hs : zstep M (pc, lo, st, h, ce, sl) = some (true, .inl (bs, S'))) (hk : zAW M D A ad0 p l e s m args below meth c Q (zsel bs S')) : zAW M D A ad0 p l e s m args below meth c Q (pc, lo, st, h, ce, sl) := by
  obtain ⟨hx, hb, hml, hown, hts, hA, hr, hlk, hnm, hok, hX, hx0, hx1⟩ := C
  obtain ⟨hd, hle, hrr⟩ := zok_dec Z hok hf
  have hle : len = 3 := hle.resolve_left (by simp [zsw_in])
  subst hle
  simp only [zstep, hf] at hs
  simp only [zk] at hs
  split at hs
  · rename_i r
    cases hs
    intro ad ws tys H locs ls cst hR hF
    obtain ⟨r1, rfl, hF1⟩ := zF2_null hF
    exact lv_ifnullN hx hb hd (zoff_eq (of_decide_eq_true hrr)) (hk ad ws tys H locs ls r1 hR hF1)
  · rename_i k r
    cases hs
    intro ad ws tys H locs ls cst hR hF
    obtain ⟨a, r1, rfl, ha, hF1⟩ := zF2_ref hF
    exact lv_ifnull hx hb hd (hk ad ws tys H locs ls r1 hR hF1)
  · cases hs
end ZS
