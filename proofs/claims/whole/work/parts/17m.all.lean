section ZA
variable {Z : Nat → zMeth} {M : zMeth} {D : va_G} {A : Nat → Prop} {xK xV : Nat → Nat} {ad0 : Nat → Option Nat} {p : Program} {l : Launch} {e : Env} {s : State} {m : MethodId} {args : Array Value} {below : List Frame} {meth : Method} {c : Code} {Q : State → Prop}
variable {pc len : Nat} {lo : List (Option Value)} {st : List Value} {h : zH} {ce sl : Nat} {ns : List Nat} {z : Int} {bs : List (Bool × zS)} {S' : zS}
theorem zinv_c {R : Room} {k : Nat} {nr : List Nat} {q : List (Bool × zS) × zS} (hk : k < 3) : zinv R (k :: nr) lo pc st h ce sl ≠ some (true, .inl q) := by
  intro hq
  generalize hns : k :: nr = ns at hq
  unfold zinv at hq
  split at hq
  · split at hq
    · simp [zcl] at hq
    · cases hq
  · simp [zcl] at hq
  · split at hq
    · simp [zcl] at hq
    · cases hq
  · injection hns with h1 h2; omega
  · injection hns with h1 h2; omega
  · injection hns with h1 h2; omega
  · injection hns with h1 h2; omega
  · cases hq
set_option maxRecDepth 20000 in
/-- a step without a call -/
theorem zs_go (C : zCx Z M A xK xV ad0 p s m args meth c) (hs : zstep M (pc, lo, st, h, ce, sl) = some (true, .inl (bs, S'))) (hk : zAW M D A ad0 p l e s m args below meth c Q (zsel bs S')) : zAW M D A ad0 p l e s m args below meth c Q (pc, lo, st, h, ce, sl) := by
  cases hf : zfetch M pc with
  | none => simp only [zstep, hf] at hs; cases hs
  | some en =>
  obtain ⟨ins, len, ns, z⟩ := en
  cases ins
  case iconst => exact zs_iconst C hf hs hk
  case bipush => exact zs_bipush C hf hs hk
  case sipush => exact zs_sipush C hf hs hk
  case lconst => exact zs_lconst C hf hs hk
  case ldc => exact zs_ldc C hf hs hk
  case iload_n => exact zs_iload_n C hf hs hk
  case iload => exact zs_iload C hf hs hk
  case lload_n => exact zs_lload_n C hf hs hk
  case lload => exact zs_lload C hf hs hk
  case aload_n => exact zs_aload_n C hf hs hk
  case aload => exact zs_aload C hf hs hk
  case istore_n => exact zs_istore_n C hf hs hk
  case istore => exact zs_istore C hf hs hk
  case lstore_n => exact zs_lstore_n C hf hs hk
  case lstore => exact zs_lstore C hf hs hk
  case astore_n => exact zs_astore_n C hf hs hk
  case astore => exact zs_astore C hf hs hk
  case iinc => exact zs_iinc C hf hs hk
  case iadd => exact zs_iadd C hf hs hk
  case isub => exact zs_isub C hf hs hk
  case imul => exact zs_imul C hf hs hk
  case iand => exact zs_iand C hf hs hk
  case ior => exact zs_ior C hf hs hk
  case ixor => exact zs_ixor C hf hs hk
  case ishl => exact zs_ishl C hf hs hk
  case ishr => exact zs_ishr C hf hs hk
  case iushr => exact zs_iushr C hf hs hk
  case idiv => exact zs_idiv C hf hs hk
  case irem => exact zs_irem C hf hs hk
  case ineg => exact zs_ineg C hf hs hk
  case i2l => exact zs_i2l C hf hs hk
  case i2b => exact zs_i2b C hf hs hk
  case i2c => exact zs_i2c C hf hs hk
  case l2i => exact zs_l2i C hf hs hk
  case ladd => exact zs_ladd C hf hs hk
  case lmul => exact zs_lmul C hf hs hk
  case land => exact zs_land C hf hs hk
  case lor => exact zs_lor C hf hs hk
  case lshl => exact zs_lshl C hf hs hk
  case lshr => exact zs_lshr C hf hs hk
  case lcmp => exact zs_lcmp C hf hs hk
  case dup => exact zs_dup C hf hs hk
  case dup2 => exact zs_dup2 C hf hs hk
  case pop => exact zs_pop C hf hs hk
  case goto => exact zs_goto C hf hs hk
  case ifnull => exact zs_ifnull C hf hs hk
  case tableswitch => exact zs_tableswitch C hf hs hk
  case lookupswitch => exact zs_lookupswitch C hf hs hk
  case getfield => exact zs_getfield C hf hs hk
  case putfield => exact zs_putfield C hf hs hk
  case iaload => exact zs_iaload C hf hs hk
  case baload => exact zs_baload C hf hs hk
  case laload => exact zs_laload C hf hs hk
  case aaload => exact zs_aaload C hf hs hk
  case iastore => exact zs_iastore C hf hs hk
  case bastore => exact zs_bastore C hf hs hk
  case lastore => exact zs_lastore C hf hs hk
  case aastore => exact zs_aastore C hf hs hk
  case arraylength => exact zs_arraylength C hf hs hk
  case newarray => exact zs_newarray C hf hs hk
  case anewarray => exact zs_anewarray C hf hs hk
  case new => exact zs_new C hf hs hk
  case ldc_w => exact zs_ldcw C hf hs hk
  case ldc2_w => exact zs_ldc2 C hf hs hk
  case aconst_null => exact zs_null C hf hs hk
  case ifCond cd o => cases cd with
    | eq => exact zs_if_eq C hf hs hk
    | ne => exact zs_if_ne C hf hs hk
    | lt => exact zs_if_lt C hf hs hk
    | ge => exact zs_if_ge C hf hs hk
    | gt => exact zs_if_gt C hf hs hk
    | le => exact zs_if_le C hf hs hk
  case if_icmp cd o => cases cd with
    | eq => exact zs_icmp_eq C hf hs hk
    | ne => exact zs_icmp_ne C hf hs hk
    | lt => exact zs_icmp_lt C hf hs hk
    | ge => exact zs_icmp_ge C hf hs hk
    | gt => exact zs_icmp_gt C hf hs hk
    | le => exact zs_icmp_le C hf hs hk
  case invokevirtual i =>
    have hrr := (zok_dec Z C.2.2.2.2.2.2.2.2.2.1 hf).2.2
    match ns, hf, hrr with
    | 5 :: nr, hf, _ => exact zs_strlen C hf hs hk
    | 6 :: nr, hf, _ => exact zs_strchar C hf hs hk
    | 0 :: nr, hf, _ =>
      simp only [zstep, hf] at hs
      exact absurd hs (zinv_c (by decide))
    | [], hf, hrr => simp [zokr] at hrr
    | 1 :: nr, hf, hrr => simp [zokr] at hrr
    | 2 :: nr, hf, hrr => simp [zokr] at hrr
    | 3 :: nr, hf, hrr => simp [zokr] at hrr
    | 4 :: nr, hf, hrr => simp [zokr] at hrr
    | (_ + 7) :: nr, hf, hrr => simp [zokr] at hrr
  case invokespecial i =>
    have hrr := (zok_dec Z C.2.2.2.2.2.2.2.2.2.1 hf).2.2
    match ns, hf, hrr with
    | 3 :: nr, hf, _ => exact zs_objinit C hf hs hk
    | 2 :: nr, hf, _ =>
      simp only [zstep, hf] at hs
      exact absurd hs (zinv_c (by decide))
    | [], hf, hrr => simp [zokr] at hrr
    | 0 :: nr, hf, hrr => simp [zokr] at hrr
    | 1 :: nr, hf, hrr => simp [zokr] at hrr
    | (_ + 4) :: nr, hf, hrr => simp [zokr] at hrr
  case invokestatic i =>
    have hrr := (zok_dec Z C.2.2.2.2.2.2.2.2.2.1 hf).2.2
    match ns, hf, hrr with
    | 4 :: nr, hf, _ => exact zs_copy C hf hs hk
    | 1 :: nr, hf, _ =>
      simp only [zstep, hf] at hs
      exact absurd hs (zinv_c (by decide))
    | [], hf, hrr => simp [zokr] at hrr
    | 0 :: nr, hf, hrr => simp [zokr] at hrr
    | 2 :: nr, hf, hrr => simp [zokr] at hrr
    | 3 :: nr, hf, hrr => simp [zokr] at hrr
    | (_ + 5) :: nr, hf, hrr => simp [zokr] at hrr
  all_goals
    exfalso
    simp only [zstep, hf] at hs
    repeat' split at hs
    all_goals first | (cases hs; done) | (simp at hs; done)
set_option maxRecDepth 20000 in
/-- a step that calls -/
theorem zs_call {y : Nat} {as : List Value} {pc' : Nat} {lo' : List (Option Value)} {st' : List Value} {h' : zH} {ce' sl' : Nat} {r : Option Value} {h2 : zH} (C : zCx Z M A xK xV ad0 p s m args meth c) (hs : zstep M (pc, lo, st, h, ce, sl) = some (true, .inr (.inr (y, as, (pc', lo', st', h', ce', sl'))))) (hm : zMet Z y as h' r h2) (hk : zAW M D A ad0 p l e s m args below meth c Q (pc', lo', r.toList ++ st', h2, ce', sl')) : zAW M D A ad0 p l e s m args below meth c Q (pc, lo, st, h, ce, sl) := by
  cases hf : zfetch M pc with
  | none => simp only [zstep, hf] at hs; cases hs
  | some en =>
  obtain ⟨ins, len, ns, z⟩ := en
  obtain ⟨hd, hle, hrr⟩ := zok_dec Z C.2.2.2.2.2.2.2.2.2.1 hf
  cases ins
  case invokevirtual i =>
    have hle : len = 3 := hle.resolve_left (by simp [zsw_in])
    subst hle
    simp only [zstep, hf, zinv, zcl, zg] at hs
    split at hs
    · rename_i y0 n mc ms ci nr
      split at hs
      · rename_i k as0 hst
        injection hs with hs; injection hs with hg hs; injection hs with hs; injection hs with hs; cases hs
        match nr, hrr, hf with
        | w1 :: w2 :: w3 :: w4 :: w5 :: _, hrr, hf => exact zs_callV C hf hst hg hm hk
        | [], hrr, _ => simp [zokr] at hrr
        | [_], hrr, _ => simp [zokr] at hrr
        | [_, _], hrr, _ => simp [zokr] at hrr
        | [_, _, _], hrr, _ => simp [zokr] at hrr
        | [_, _, _, _], hrr, _ => simp [zokr] at hrr
      · cases hs
    · simp [zokr] at hrr
    · simp [zokr] at hrr
    · simp [zokr] at hrr
    · simp [zokr] at hrr
    · repeat' split at hs
      all_goals first | (cases hs; done) | (simp at hs; done)
    · repeat' split at hs
      all_goals first | (cases hs; done) | (simp at hs; done)
    · cases hs
  case invokespecial i =>
    have hle : len = 3 := hle.resolve_left (by simp [zsw_in])
    subst hle
    simp only [zstep, hf, zinv, zcl, zg] at hs
    split at hs
    · simp [zokr] at hrr
    · simp [zokr] at hrr
    · rename_i y0 n mc ms nr
      split at hs
      · rename_i k as0 hst
        injection hs with hs; injection hs with hg hs; injection hs with hs; injection hs with hs; cases hs
        match nr, hrr, hf with
        | w1 :: w2 :: w3 :: w4 :: nest :: _, hrr, hf => exact zs_callI C hf hst hg hm hk
        | [], hrr, _ => simp [zokr] at hrr
        | [_], hrr, _ => simp [zokr] at hrr
        | [_, _], hrr, _ => simp [zokr] at hrr
        | [_, _, _], hrr, _ => simp [zokr] at hrr
        | [_, _, _, _], hrr, _ => simp [zokr] at hrr
      · cases hs
    · repeat' split at hs
      all_goals first | (cases hs; done) | (simp at hs; done)
    · simp [zokr] at hrr
    · simp [zokr] at hrr
    · simp [zokr] at hrr
    · cases hs
  case invokestatic i =>
    have hle : len = 3 := hle.resolve_left (by simp [zsw_in])
    subst hle
    simp only [zstep, hf, zinv, zcl, zg] at hs
    split at hs
    · simp [zokr] at hrr
    · rename_i y0 n mc ms nr
      injection hs with hs; injection hs with hg hs; injection hs with hs; injection hs with hs; cases hs
      match nr, hrr, hf with
      | w1 :: w2 :: w3 :: w4 :: nest :: _, hrr, hf => exact zs_callS C hf hg hm hk
      | [], hrr, _ => simp [zokr] at hrr
      | [_], hrr, _ => simp [zokr] at hrr
      | [_, _], hrr, _ => simp [zokr] at hrr
      | [_, _, _], hrr, _ => simp [zokr] at hrr
      | [_, _, _, _], hrr, _ => simp [zokr] at hrr
    · simp [zokr] at hrr
    · simp [zokr] at hrr
    · repeat' split at hs
      all_goals first | (cases hs; done) | (simp at hs; done)
    · simp [zokr] at hrr
    · simp [zokr] at hrr
    · cases hs
  all_goals
    exfalso
    simp only [zstep, hf, zk, zg, zbr, zldi, zldl, zlda, zis, zls, zas, zi1, zi2, zl2] at hs
    repeat' split at hs
    all_goals first | (cases hs; done) | (simp at hs; done)
end ZA
theorem zsel_sw {ρ : Type} (F : zS → ρ) : ∀ (bs : List (Bool × zS)) (d : zS), zsw bs F d = F (zsel bs d)
  | [], _ => rfl
  | (true, _) :: _, _ => rfl
  | (false, _) :: bs, d => zsel_sw F bs d
theorem zclr_at : ∀ (r : List Bool) {lo : List (Option Value)} {i : Nat} {v : Value}, (zclr lo r)[i]? = some (some v) → lo[i]? = some (some v)
  | [], [], _, _, h => h
  | [], _ :: _, _, _, h => h
  | _ :: _, [], _, _, h => h
  | b :: r, x :: lo, 0, v, h => by
    cases b
    · exact h
    · cases h
  | b :: r, x :: lo, i + 1, v, h => zclr_at r (lo := lo) (i := i) h
theorem zAW_clear {M : zMeth} {D : va_G} {A : Nat → Prop} {ad0 : Nat → Option Nat} {p : Program} {l : Launch} {e : Env} {s : State} {m : MethodId} {args : Array Value} {below : List Frame} {meth : Method} {c : Code} {Q : State → Prop} {S : zS} (hk : zAW M D A ad0 p l e s m args below meth c Q (zclear M S)) : zAW M D A ad0 p l e s m args below meth c Q S := by
  obtain ⟨pc, lo, st, h, ce, sl⟩ := S
  intro ad ws tys H locs ls cst hR hF
  obtain ⟨g1, hWd, hK, hP, hD, hS, lv, h7, h8⟩ := hR
  exact hk ad ws tys H locs ls cst ⟨g1, hWd, hK, hP, hD, hS, lv, h7, fun i v hi => h8 i v (zclr_at _ hi)⟩ hF
/-- THE BIG MACHINE DOES WHAT THE SMALL ONE DOES -/
theorem zsound (Z : Nat → zMeth) (hZ : ∀ y, zokM Z (Z y) = true) : ∀ (n : Nat), (∀ (M : zMeth) (S : zS) (r : Option Value) (h' : zH) (ce sl : Nat), zex Z n M S = some (r, h', ce, sl) → ∀ (D : va_G) (A : Nat → Prop) (xK xV : Nat → Nat) (ad0 : Nat → Option Nat) (ws0 : va_W) (p : Program) (l : Launch) (e : Env) (s : State) (m : MethodId) (args : Array Value) (below : List Frame) (meth : Method) (c : Code), zCx Z M A xK xV ad0 p s m args meth c → A = va_A ws0 s.heap.size → zAW M D A ad0 p l e s m args below meth c (MQ below (zQ D ad0 ws0 s.heap.size r h') args s (zrm M).cells (zrm M).slots A) S) := by
  intro n
  induction n with
  | zero => intro M S r h' ce sl hex; cases hex
  | succ n ih =>
    have hmet : ∀ (y : Nat) (as : List Value) (h : zH) (r : Option Value) (h' : zH) (ce sl : Nat), zex Z n (Z y) (zent (Z y) as h) = some (r, h', ce, sl) → zMet Z y as h r h' := by
      intro y as h r h' ce sl hex l D xK xV ad ws tys cas sz hWd hF hx0 hx1
      have hpl : plainName (zy (Z y)).cls = true := by
        have := hZ y
        simp only [zokM, Bool.and_eq_true] at this
        exact this.2
      have hln : (zargs as).length ≤ zml (Z y) := by
        cases hb : Nat.ble (zargs as).length (zml (Z y)) with
        | true => exact Nat.le_of_ble_eq_true hb
        | false =>
          exfalso
          have hk := hZ y
          simp only [zokM, Bool.and_eq_true] at hk
          have hlt := Nat.blt_eq.mp hk.1.2
          have hnone : zfetch (Z y) 99999 = none := by
            unfold zfetch
            rw [show (99999 : Nat) / 16 = 6249 from rfl, znth_eq, List.getElem?_eq_none (by omega)]
          cases n with
          | zero => cases hex
          | succ n =>
            have he : zstep (Z y) (zclear (Z y) (zent (Z y) as h)) = none := by
              have hze : zent (Z y) as h = (99999, [], [], h, 0, 0) := by
                unfold zent
                rw [hb]
                rfl
              rw [hze]
              show zstep (Z y) (99999, zclr [] (zdead (Z y) 99999), [], h, 0, 0) = none
              simp only [zstep, hnone]
            have hex2 : zthen _ _ (zstep (Z y) (zclear (Z y) (zent (Z y) as h))) = some (r, h', ce, sl) := hex
            rw [he] at hex2
            cases hex2
      refine Met.ofW (cc := zb (Z y)) (maxL := zml (Z y)) (ret := zret (Z y)) hpl rfl ?_
      intro p e s m args below meth c s₁ B hml hv
      obtain ⟨rfl, hsz, hP, hK, hD0, hX⟩ := hv
      have hts0 := atoms_spec (ws := zws (Z y)) B.pre
      have hown : s.vm.findClass (zy (Z y)).cls = some m.cls := findClass_of_methodNamed B.named
      subst hsz
      have hC : zCx Z (Z y) (va_A ws s.heap.size) xK xV ad p s m cas.toArray meth c := ⟨B.exec, B.bytes, hml, hown, fun w h => hts0 w (List.mem_cons_of_mem _ h), fun q h => Or.inr h, B.returns, B.notSynchronized, (name_of_methodNamed B.named B.method).1, hZ y, hX, hx0, hx1⟩
      have hw := ih (Z y) (zent (Z y) as h) r h' ce sl hex D (va_A ws s.heap.size) xK xV ad ws p l e s m cas.toArray below meth c hC rfl
      rw [lg_entry_eq]
      have hze : zent (Z y) as h = (0, zpad (zargs as) (zml (Z y)), [], h, 0, 0) := by
        unfold zent
        rw [Nat.ble_eq_true_of_le hln]
        rfl
      rw [hze] at hw
      have hw2 := hw ad ws tys s.heap [] _ [] ⟨zle.rf, hWd, hK, hP, hD0.self, va_S.rf, zLo_entry hF hln⟩ trivial
      exact hw2
    intro M S r h' ce sl hex D A xK xV ad0 ws0 p l e s m args below meth c C hAe
    obtain ⟨pc, lo, st, h, ce0, sl0⟩ := S
    refine zAW_clear ?_
    have hex : zthen (zex Z n M) (fun y as h => (zex Z n (Z y) (zent (Z y) as h)).map (fun r => (r.1, r.2.1))) (zstep M (zclear M (pc, lo, st, h, ce0, sl0))) = some (r, h', ce, sl) := hex
    show zAW M D A ad0 p l e s m args below meth c _ (pc, zclr lo (zdead M pc), st, h, ce0, sl0)
    have hex : zthen (zex Z n M) (fun y as h => (zex Z n (Z y) (zent (Z y) as h)).map (fun r => (r.1, r.2.1))) (zstep M (pc, zclr lo (zdead M pc), st, h, ce0, sl0)) = some (r, h', ce, sl) := hex
    generalize zclr lo (zdead M pc) = lo at hex ⊢
    match hs : zstep M (pc, lo, st, h, ce0, sl0) with
    | none => rw [hs] at hex; cases hex
    | some (false, _) => rw [hs] at hex; cases hex
    | some (true, .inl (bs, S')) =>
      rw [hs] at hex
      have hex : zsw bs (zex Z n M) S' = some (r, h', ce, sl) := hex
      rw [zsel_sw] at hex
      exact zs_go C hs (ih M _ r h' ce sl hex D A xK xV ad0 ws0 p l e s m args below meth c C hAe)
    | some (true, .inr (.inl r')) =>
      rw [hs] at hex
      have hex : some r' = some (r, h', ce, sl) := hex
      cases hex
      exact zs_ret C hAe hs
    | some (true, .inr (.inr (y, as, (pc', lo', st', hh, ce', sl')))) =>
      rw [hs] at hex
      have hex : ((zex Z n (Z y) (zent (Z y) as hh)).map (fun r => (r.1, r.2.1))).bind (fun q => zex Z n M (pc', lo', q.1.toList ++ st', q.2, ce', sl')) = some (r, h', ce, sl) := hex
      obtain ⟨q, h2, h3⟩ := Option.bind_eq_some_iff.mp hex
      obtain ⟨r2, h4, h5⟩ := Option.map_eq_some_iff.mp h2
      subst h5
      exact zs_call C hs (hmet y as hh r2.1 r2.2.1 r2.2.2.1 r2.2.2.2 h4) (ih M _ r h' ce sl h3 D A xK xV ad0 ws0 p l e s m args below meth c C hAe)
