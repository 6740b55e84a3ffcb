/-! what a method answers; calls by runs; cells change their names -/
set_option maxRecDepth 20000 in
theorem zstep_int {M : zMeth} (hr : zret M = some .int ∨ zret M = some .boolean) {S : zS} {v : Value} {h' : zH} {ce' sl' : Nat} (hs : zstep M S = some (true, .inr (.inl (some v, h', ce', sl')))) : ∃ x, v = .int x := by
  obtain ⟨pc, lo, st, h, ce, sl⟩ := S
  cases hf : zfetch M pc with
  | none => simp only [zstep, hf] at hs; cases hs
  | some en =>
  obtain ⟨ins, len, ns, z⟩ := en
  cases ins
  case ireturn =>
    simp only [zstep, hf] at hs
    split at hs
    · injection hs with hs; injection hs with hg hs; injection hs with hs; injection hs with hs; cases hs
      exact ⟨_, rfl⟩
    · cases hs
  case lreturn =>
    simp only [zstep, hf] at hs
    split at hs
    · rename_i x hrt
      rw [hrt] at hr
      simp at hr
    · cases hs
  case areturn =>
    simp only [zstep, hf] at hs
    split at hs
    · rename_i x C hrt
      rw [hrt] at hr
      simp at hr
    · cases hs
  case return_ =>
    simp only [zstep, hf] at hs
    split at hs
    · injection hs with hs; injection hs with hg hs; injection hs with hs; injection hs with hs; cases hs
    · cases hs
  case invokevirtual i =>
    simp only [zstep, hf] at hs
    exact absurd hs zinv_no
  case invokespecial i =>
    simp only [zstep, hf] at hs
    exact absurd hs zinv_no
  case invokestatic i =>
    simp only [zstep, hf] at hs
    exact absurd hs zinv_no
  all_goals
    exfalso
    simp only [zstep, hf, zk, zg, zbr, zldi, zldl, zlda, zis, zls, zas, zi1, zi2, zl2] at hs
    repeat' split at hs
    all_goals first | (cases hs; done) | (simp at hs; done)
set_option maxRecDepth 20000 in
theorem zstep_long {M : zMeth} (hr : zret M = some .long) {S : zS} {v : Value} {h' : zH} {ce' sl' : Nat} (hs : zstep M S = some (true, .inr (.inl (some v, h', ce', sl')))) : ∃ x, v = .long x := by
  obtain ⟨pc, lo, st, h, ce, sl⟩ := S
  cases hf : zfetch M pc with
  | none => simp only [zstep, hf] at hs; cases hs
  | some en =>
  obtain ⟨ins, len, ns, z⟩ := en
  cases ins
  case ireturn =>
    simp only [zstep, hf] at hs
    split at hs
    · rename_i x ty hrt
      rw [hr] at hrt
      injection hrt with hrt
      subst hrt
      injection hs with hs; injection hs with hg hs
      simp [znar] at hg
    · cases hs
  case lreturn =>
    simp only [zstep, hf] at hs
    split at hs
    · injection hs with hs; injection hs with hg hs; injection hs with hs; injection hs with hs; cases hs
      exact ⟨_, rfl⟩
    · cases hs
  case areturn =>
    simp only [zstep, hf] at hs
    split at hs
    · rename_i x C hrt
      rw [hrt] at hr
      simp at hr
    · cases hs
  case return_ =>
    simp only [zstep, hf] at hs
    split at hs
    · injection hs with hs; injection hs with hg hs; injection hs with hs; injection hs with hs; cases hs
    · cases hs
  case invokevirtual i =>
    simp only [zstep, hf] at hs
    exact absurd hs zinv_no
  case invokespecial i =>
    simp only [zstep, hf] at hs
    exact absurd hs zinv_no
  case invokestatic i =>
    simp only [zstep, hf] at hs
    exact absurd hs zinv_no
  all_goals
    exfalso
    simp only [zstep, hf, zk, zg, zbr, zldi, zldl, zlda, zis, zls, zas, zi1, zi2, zl2] at hs
    repeat' split at hs
    all_goals first | (cases hs; done) | (simp at hs; done)
theorem zsw_sel {ρ : Type} (F : zS → ρ) (bs : List (Bool × zS)) (d : zS) : zsw bs F d = F (zsel bs d) := zsel_sw F bs d
theorem zex_int (Z : Nat → zMeth) {M : zMeth} (hr : zret M = some .int ∨ zret M = some .boolean) : ∀ n S v h' ce sl, zex Z n M S = some (some v, h', ce, sl) → ∃ x, v = .int x
  | 0, S, v, h', ce, sl, h => by cases h
  | n + 1, S, v, h', ce, sl, h => by
    have h : zthen (zex Z n M) (fun y as h => (zex Z n (Z y) (zent (Z y) as h)).map (fun r => (r.1, r.2.1))) (zstep M (zclear M S)) = some (some v, h', ce, sl) := h
    match hs : zstep M (zclear M S) with
    | none => rw [hs] at h; cases h
    | some (false, _) => rw [hs] at h; cases h
    | some (true, .inl (bs, S')) =>
      rw [hs] at h
      have h : zsw bs (zex Z n M) S' = some (some v, h', ce, sl) := h
      rw [zsel_sw] at h
      exact zex_int Z hr n _ v h' ce sl h
    | some (true, .inr (.inl r')) =>
      rw [hs] at h
      have h : some r' = some (some v, h', ce, sl) := h
      cases h
      exact zstep_int hr hs
    | some (true, .inr (.inr (y, as, (pc', lo', st', hh, ce', sl')))) =>
      rw [hs] at h
      have h : ((zex Z n (Z y) (zent (Z y) as hh)).map (fun r => (r.1, r.2.1))).bind (fun q => zex Z n M (pc', lo', q.1.toList ++ st', q.2, ce', sl')) = some (some v, h', ce, sl) := h
      obtain ⟨q, h2, h3⟩ := Option.bind_eq_some_iff.mp h
      exact zex_int Z hr n _ v h' ce sl h3
theorem zcall_int {y : Nat} {as : List Value} {h h' : zH} {v : Value} (hr : zret (zZ y) = some .int ∨ zret (zZ y) = some .boolean) (hc : zcall zZ y as h = some (some v, h')) : ∃ x, v = .int x := by
  obtain ⟨n, ce, sl, hn⟩ := (zcall_some zZ).mp hc
  exact zex_int zZ hr n _ v h' ce sl hn
theorem zex_long (Z : Nat → zMeth) {M : zMeth} (hr : zret M = some .long) : ∀ n S v h' ce sl, zex Z n M S = some (some v, h', ce, sl) → ∃ x, v = .long x
  | 0, S, v, h', ce, sl, h => by cases h
  | n + 1, S, v, h', ce, sl, h => by
    have h : zthen (zex Z n M) (fun y as h => (zex Z n (Z y) (zent (Z y) as h)).map (fun r => (r.1, r.2.1))) (zstep M (zclear M S)) = some (some v, h', ce, sl) := h
    match hs : zstep M (zclear M S) with
    | none => rw [hs] at h; cases h
    | some (false, _) => rw [hs] at h; cases h
    | some (true, .inl (bs, S')) =>
      rw [hs] at h
      have h : zsw bs (zex Z n M) S' = some (some v, h', ce, sl) := h
      rw [zsel_sw] at h
      exact zex_long Z hr n _ v h' ce sl h
    | some (true, .inr (.inl r')) =>
      rw [hs] at h
      have h : some r' = some (some v, h', ce, sl) := h
      cases h
      exact zstep_long hr hs
    | some (true, .inr (.inr (y, as, (pc', lo', st', hh, ce', sl')))) =>
      rw [hs] at h
      have h : ((zex Z n (Z y) (zent (Z y) as hh)).map (fun r => (r.1, r.2.1))).bind (fun q => zex Z n M (pc', lo', q.1.toList ++ st', q.2, ce', sl')) = some (some v, h', ce, sl) := h
      obtain ⟨q, h2, h3⟩ := Option.bind_eq_some_iff.mp h
      exact zex_long Z hr n _ v h' ce sl h3
theorem zcall_long {y : Nat} {as : List Value} {h h' : zH} {v : Value} (hr : zret (zZ y) = some .long) (hc : zcall zZ y as h = some (some v, h')) : ∃ x, v = .long x := by
  obtain ⟨n, ce, sl, hn⟩ := (zcall_some zZ).mp hc
  exact zex_long zZ hr n _ v h' ce sl hn
/-- the cells of h' are cells of h, named otherwise -/
def zMv (g : Nat → Nat) (h h' : zH) : Prop := h'.1.length ≤ 900 ∧ (∀ k, k < h'.1.length → h.1[g k]? = h'.1[k]? ∧ h'.2.1 k = h.2.1 (g k) ∧ h'.2.2.1 k = h.2.2.1 (g k) ∧ ∀ f, f < 48 → (match h.2.2.2 (g k) f with
  | none => h'.2.2.2 k f = none
  | some j0 => ∃ j, j < h'.1.length ∧ h'.2.2.2 k f = some j ∧ g j = j0)) ∧ (∀ i j, i < h'.1.length → j < h'.1.length → g i = g j → i = j) ∧ (∀ (k n : Nat), h'.1[k]? = some (Sum.inr (4, n)) → n ≤ 48)
/-- a value that keeps its name -/
def zok1 (g : Nat → Nat) (len : Nat) (v : Value) : Prop := match v with
  | .ref j => (j < len ∧ g j = j) ∨ 1000 ≤ j
  | _ => True
theorem zN_le : ∀ ci, ci < 11 → zN ci ≤ 48 := by decide
theorem zRe_mv {M : zMeth} {D : va_G} {A : Nat → Prop} {ad0 ad : Nat → Option Nat} {ws : va_W} {tys : List (ClassId × FieldType)} {s : State} {H : Heap} {locs : List Loc} {ls : Array Slot} {lo : List (Option Value)} {h h' : zH} {g : Nat → Nat} (hm : zMv g h h') (h0 : ∀ k, k < 1000 → ad0 k = none) (hlo : ∀ (i : Nat) (v : Value), lo[i]? = some (some v) → zok1 g h'.1.length v) (hR : zRe M D A ad0 ad ws tys s H locs ls lo h) : ∃ ad' ws', zRe M D A ad0 ad' ws' tys s H locs ls lo h' ∧ (∀ v w, zok1 g h'.1.length v → zv ad v w → zv ad' v w) := by
  obtain ⟨q1, ⟨d1, d2, d3, d4⟩, hK, hP, hD, hS, hLo⟩ := hR
  obtain ⟨m1, m2, m3, m4⟩ := hm
  obtain ⟨ad', had⟩ : ∃ ad' : Nat → Option Nat, ad' = fun k => if k < h'.1.length then ad (g k) else if k < 1000 then none else ad k := ⟨_, rfl⟩
  have ad1 : ∀ k, k < h'.1.length → ad' k = ad (g k) := fun k hk => by rw [had]; exact if_pos hk
  have ad2 : ∀ k, h'.1.length ≤ k → k < 1000 → ad' k = none := fun k h1 h2 => by
    rw [had]
    show (if k < h'.1.length then _ else if k < 1000 then none else ad k) = none
    rw [if_neg (by omega), if_pos h2]
  have ad3 : ∀ k, 1000 ≤ k → ad' k = ad k := fun k h1 => by
    rw [had]
    show (if k < h'.1.length then _ else if k < 1000 then none else ad k) = ad k
    rw [if_neg (by omega), if_neg (by omega)]
  have zv1 : ∀ v w, zok1 g h'.1.length v → zv ad v w → zv ad' v w := fun v w hv hw => by
    cases v with
    | ref j =>
      obtain ⟨a, e1, e2⟩ := hw
      have hv : (j < h'.1.length ∧ g j = j) ∨ 1000 ≤ j := hv
      refine ⟨a, ?_, e2⟩
      rcases hv with ⟨g1, g2⟩ | g1
      · rw [ad1 j g1, g2]
        exact e1
      · rw [ad3 j g1]
        exact e1
    | _ => exact hw
  obtain ⟨ws', hws⟩ : ∃ ws' : va_W, ws' = (List.range h'.1.length).map (fun k => (ws[g k]?).getD (0, .inr (0, []))) := ⟨_, rfl⟩
  have hle : ws'.length = h'.1.length := by rw [hws, List.length_map, List.length_range]
  have hcell : ∀ k, k < h'.1.length → ∃ e a w, h'.1[k]? = some e ∧ ws[g k]? = some (a, w) ∧ ad (g k) = some a ∧ zce ad tys h (g k) e w ∧ ws'[k]? = some (a, w) := fun k hk => by
    have he : h'.1[k]? = some h'.1[k] := List.getElem?_eq_getElem hk
    have hg : h.1[g k]? = some h'.1[k] := (m2 k hk).1.trans he
    obtain ⟨a, w, e1, e2, e3⟩ := d4 (g k) _ hg
    refine ⟨_, a, w, he, e1, e2, e3, ?_⟩
    rw [hws, List.getElem?_map, List.getElem?_range hk]
    show some ((ws[g k]?).getD (0, .inr (0, []))) = _
    rw [e1]
    rfl
  have hback : ∀ (k : Nat) (q : Nat × va_E), ws'[k]? = some q → ws[g k]? = some q := fun k q hq => by
    have hk : k < h'.1.length := by
      have := (List.getElem?_eq_some_iff.mp hq).1
      omega
    obtain ⟨e, a, w, e1, e2, e3, e4, e5⟩ := hcell k hk
    rw [e5] at hq
    cases hq
    exact e2
  refine ⟨ad', ws', ⟨fun k a hk => ?_, ⟨hle, m1, ad2, fun k e he => ?_⟩, hK, hP.by g hback, hD.by g hback (fun i j hi hj => m3 i j (by omega) (by omega)), hS, ?_⟩, zv1⟩
  · rcases Nat.lt_or_ge k 1000 with q | q
    · rw [h0 k q] at hk
      cases hk
    · rw [ad3 k q]
      exact q1 k a hk
  · have hk : k < h'.1.length := (List.getElem?_eq_some_iff.mp he).1
    obtain ⟨e', a, w, e1, e2, e3, e4, e5⟩ := hcell k hk
    rw [e1] at he
    cases he
    refine ⟨a, w, e5, (ad1 k hk).trans e3, ?_⟩
    obtain ⟨-, mI, mL, mR⟩ := m2 k hk
    have hrf : ∀ f, f < 48 → ∀ x, zv ad (va_rf (h.2.2.2 (g k) f)) x → zv ad' (va_rf (h'.2.2.2 k f)) x := fun f hf x hx => by
      have := mR f hf
      match hh : h.2.2.2 (g k) f, this with
      | none, this =>
        rw [hh] at hx
        rw [this]
        exact hx
      | some j0, ⟨j, j1, j2, j3⟩ =>
        rw [hh] at hx
        rw [j2]
        obtain ⟨a', x1, x2⟩ := hx
        exact ⟨a', by rw [ad1 j j1, j3]; exact x1, x2⟩
    match e, e4, e1 with
    | .inl ci, ⟨fs, f1, f2, f3, f4⟩, _ =>
      refine ⟨fs, f1, f2, f3, fun f hf => ?_⟩
      obtain ⟨x, x1, x2⟩ := f4 f hf
      refine ⟨x, x1, ?_⟩
      have hn := zN_le ci f2
      have key : ∀ ty : FieldType, zv ad (zfv h ty (g k) f) x → zv ad' (zfv h' ty k f) x := fun ty hx => by
        unfold zfv at hx ⊢
        rw [mI, mL]
        cases ty <;> first | exact hx | exact hrf f (by omega) x hx
      exact key _ x2
    | .inr (t, n), ⟨cA, t0, t1, t2⟩, e1 =>
      refine ⟨cA, t0, t1, ?_⟩
      match t, t2, e1 with
      | 0, t2, _ =>
        show w = .inl (cA, n, .inl (h'.2.1 k))
        rw [mI]
        exact t2
      | 1, t2, _ =>
        show w = .inl (cA, n, .inr (.inl (h'.2.2.1 k)))
        rw [mL]
        exact t2
      | 2, t2, _ =>
        show w = .inl (cA, n, .inl (h'.2.1 k))
        rw [mI]
        exact t2
      | 3, t2, _ =>
        show w = .inl (cA, n, .inl (h'.2.1 k))
        rw [mI]
        exact t2
      | 4, ⟨f, f1, f2⟩, e1 =>
        refine ⟨f, f1, fun j hj => ?_⟩
        have hn := m4 k n e1
        have hz := f2 j hj
        have hmR := mR j (by omega)
        match hh : h.2.2.2 (g k) j, hmR with
        | none, this =>
          rw [hh] at hz
          rw [this]
          exact hz
        | some j0, ⟨j', j1, j2, j3⟩ =>
          rw [hh] at hz
          rw [j2]
          obtain ⟨a', x1, x2⟩ := hz
          exact ⟨a', by rw [ad1 j' j1, j3]; exact x1, x2⟩
      | _ + 5, t2, _ => exact t2.elim
  · obtain ⟨lv, l1, l2⟩ := hLo
    refine ⟨lv, l1, fun i v hi => ?_⟩
    obtain ⟨w, w1, w2⟩ := l2 i v hi
    exact ⟨w, zv1 v w (hlo i v hi) w1, w2⟩
theorem zF2_mv {ad ad' : Nat → Option Nat} {g : Nat → Nat} {len : Nat} (hz : ∀ v w, zok1 g len v → zv ad v w → zv ad' v w) : ∀ {a b : List Value}, (∀ v, v ∈ a → zok1 g len v) → zF2 ad a b → zF2 ad' a b
  | [], [], _, h => h
  | [], _ :: _, _, h => h
  | _ :: _, [], _, h => h
  | v :: a, w :: b, hv, h => ⟨hz v w (hv v List.mem_cons_self) h.1, zF2_mv hz (fun x hx => hv x (List.mem_cons_of_mem _ hx)) h.2⟩
theorem zAW_mv {M : zMeth} {D : va_G} {A : Nat → Prop} {ad0 : Nat → Option Nat} {p : Program} {l : Launch} {e : Env} {s : State} {m : MethodId} {args : Array Value} {below : List Frame} {meth : Method} {c : Code} {Q : State → Prop} {pc : Nat} {lo : List (Option Value)} {st : List Value} {h h' : zH} {ce sl : Nat} {g : Nat → Nat} (hm : zMv g h h') (h0 : ∀ k, k < 1000 → ad0 k = none) (hlo : ∀ (i : Nat) (v : Value), lo[i]? = some (some v) → zok1 g h'.1.length v) (hst : ∀ v, v ∈ st → zok1 g h'.1.length v) (hk : zAW M D A ad0 p l e s m args below meth c Q (pc, lo, st, h', ce, sl)) : zAW M D A ad0 p l e s m args below meth c Q (pc, lo, st, h, ce, sl) := by
  intro ad ws tys H locs ls cst hR hF
  obtain ⟨ad', ws', r1, r2⟩ := zRe_mv hm h0 hlo hR
  exact hk ad' ws' tys H locs ls cst r1 (zF2_mv r2 hst hF)
