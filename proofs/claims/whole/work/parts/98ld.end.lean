def R_law : String := "DayWordsLaw"
def lw_P (b : Addr) (xs : List Int32) (args : Array Value) (s : State) : Prop := args = #[.ref b] ∧ s.IntsAt b xs ∧ xs.length ≤ 3072 ∧ (Jvm.Cond.and given_1 narrow_1).before args s = true
def lw_Q (_ : Array Value) (s : State) (o : Outcome) (t : State) : Prop := o = .returned (some (.int 1)) ∧ Framed s o t [] 600000 7302250
def lw_Z (below : List Frame) (a : Array Value) (s : State) : State → Prop := fun t => ∃ o, t.status = .running ∧ Ended t below o ∧ lw_Q a s o t
/-- the law's own end, with 1 on the stack, nothing written that was there before, its room as the claim has it -/
theorem lw_ret {p : Program} {l : Launch} {e : Env} {s : State} {m : MethodId} {below : List Frame} {meth : Method} {c : Code} {b : Nat} (hx : p.tables.exec = Jvm.exec) (hb : c.code = code) (hr : meth.sig.returnType = ret) (hlocks : meth.locks = false) {pc : Nat} {H : Heap} {ls : Array Slot} (hdg : decode code pc = .ok (.ireturn, 1)) : W p l e room_1 s m #[Value.ref b] below meth c H [] 600000 7302250 (lw_Z below #[Value.ref b] s) (F0 m pc ls [.int 1]) := by
  intro T hT X
  obtain ⟨fs, hret, hrun, hended, hW, hframe⟩ := X.leave (v := some (.int 1)) (hlocks := hlocks) (fun h => by rw [hr] at h; cases h)
  have hmeth' : T.vm.method? m = some meth := X.method'
  refine ⟨T.setFrames fs, ?_, .returned (some (.int 1)), hrun, hended, rfl, ⟨_, rfl⟩, hW, hframe⟩
  jvm_step X.here [X.here.top, hx, hb, hdg, hmeth', hr, ret, narrow_b1]
  (try refine ⟨rfl, ?_⟩); (try refine ⟨rfl, ?_⟩)
  first | (intro acts; rw [hret _ acts rfl rfl rfl]) | rw [hret _ _ rfl rfl rfl]
  exact Steps.refl _
/-- what holds at the law's entry: the machine, the code, the tables' words (any of lw_tbl by 'hts w (by decide +kernel)'), the script of L ints xs at the cell b, what the Statement gives of the start (any of its parts by flat_of_before) -/
def lw_At (p : Program) (s : State) (m : MethodId) (meth : Method) (c : Code) (b L : Nat) (xs : Nat → Int32) : Prop :=
  p.tables.exec = Jvm.exec ∧ c.code = code ∧ meth.sig.returnType = ret ∧ c.maxLocals = 4 ∧ s.vm.findClass R_law = some m.cls ∧ (∀ w ∈ lw_tbl, w.before #[Value.ref b] s = true) ∧ va_X b L xs s s.heap ∧ b < s.heap.size ∧ meth.locks = false ∧ (Jvm.Cond.and given_1 narrow_1).before #[Value.ref b] s = true ∧ meth.name = "law"
/-- the words of the two texts -/
def ltm (i : Nat) : Term := match i with
  | 0 => .string "DayWords$Lexicon" 15
  | _ => .string "DayWordsModel" 98
def lfl : List Cond := flatC (Jvm.Cond.and given_1 narrow_1)
theorem lf_ex : ∀ i, i < 2 → lfl[9 + 84 * i]? = some (Cond.exactly (ltm i) "java/lang/String") := by decide +kernel
theorem lf_co : ∀ i, i < 2 → lfl[10 + 84 * i]? = some (Cond.eq (.field (ltm i) "java/lang/String" "coder" "B") (.int 0)) := by decide +kernel
theorem lf_ar : ∀ i, i < 2 → lfl[11 + 84 * i]? = some (Cond.arrayOf (.field (ltm i) "java/lang/String" "value" "[B") .byte) := by decide +kernel
theorem lf_le : ∀ i, i < 2 → lfl[12 + 84 * i]? = some (Cond.eq (.length (.field (ltm i) "java/lang/String" "value" "[B")) (.int (Int32.ofNat (zlens.getD i 0)))) := by decide +kernel
theorem lf_e0 : ∀ j, j < 80 → lfl[13 + j]? = some (Cond.eq (.elem (.field (ltm 0) "java/lang/String" "value" "[B") (.int (Int32.ofNat j))) (.int ((zbyt.getD 0 []).getD j 0))) := by decide +kernel
theorem lf_e1 : ∀ j, j < 82 → lfl[97 + j]? = some (Cond.eq (.elem (.field (ltm 1) "java/lang/String" "value" "[B") (.int (Int32.ofNat j))) (.int ((zbyt.getD 1 []).getD j 0))) := by decide +kernel
theorem lf_ne : lfl[179]? = some (Cond.not (Cond.eq (ltm 0) (ltm 1))) := by decide +kernel
theorem lf_cs : lfl[4]? = some (Cond.eq (.static "java/lang/String" "COMPACT_STRINGS" "Z") (.int 1)) := by decide +kernel
theorem lf_pr : lfl[5]? = some (Cond.isRef (.static "jdk/internal/util/Preconditions" "SIOOBE_FORMATTER" "Ljava/util/function/BiFunction;")) := by decide +kernel
theorem lt_s0 : Cond.stringRef "DayWords$Lexicon" 15 (ztx.getD 0 "") ∈ lw_tbl := by decide +kernel
theorem lt_s1 : Cond.stringRef "DayWordsModel" 98 (ztx.getD 1 "") ∈ lw_tbl := by decide +kernel
theorem lt_l0 : Cond.laysStatic "java/lang/String" "COMPACT_STRINGS" "Z" ∈ lw_tbl := by decide +kernel
theorem lt_i0 : Cond.initialized "java/lang/String" ∈ lw_tbl := by decide +kernel
theorem lt_l1 : Cond.laysStatic "jdk/internal/util/Preconditions" "SIOOBE_FORMATTER" "Ljava/util/function/BiFunction;" ∈ lw_tbl := by decide +kernel
theorem lt_i1 : Cond.initialized "jdk/internal/util/Preconditions" ∈ lw_tbl := by decide +kernel
theorem lt_ao : Cond.arrayOver (.object "DayWords$Row") ∈ lw_tbl := by decide +kernel
theorem lt_ne : ∀ q ∈ zNe, Cond.methodLinkNest q.1 q.2.1 q.2.2 "DayWords" ∈ lw_tbl := by decide +kernel
theorem lt_no : ∀ q ∈ zNe, (Cond.methodLinkNest q.1 q.2.1 q.2.2 "DayWords").onTables = true := by decide +kernel
def zinst : List Nat := [7163, 7177, 8005, 7028, 7106, 8104, 7090, 8011, 8095, 7020, 10208]
theorem zinst_ok : ∀ ci, ci < 11 → zw (zinst.getD ci 0) (.instantiable (zcn ci) (zN ci)) = true := by decide +kernel
theorem d_1381 : decode code 1381 = .ok (.ireturn, 1) := by decide +kernel
theorem vwCl_len : vwCl.length = 11 := by decide +kernel
theorem l_X {s : State} {b : Nat} (hts : ∀ w ∈ lw_tbl, w.before #[Value.ref b] s = true) (hgv : (Jvm.Cond.and given_1 narrow_1).before #[Value.ref b] s = true) : ∃ xK xV, zX xK xV (fun q => s.heap.size ≤ q) s s.heap := by
  have hs : ∀ (k : Nat) (w : Cond), lfl[k]? = some w → w.before #[Value.ref b] s = true := fun k w h => flat_of_before _ hgv w (List.mem_of_getElem? h)
  have hA : ∀ a : Nat, a < s.heap.size → ¬ (fun q => s.heap.size ≤ q) a := fun a h q => Nat.lt_irrefl _ (Nat.lt_of_lt_of_le h q)
  obtain ⟨xK, xV, h1, h2⟩ := vk_Sof (args := #[Value.ref b]) (s := s) (N := 2) (tm := ltm) (len := zlens) (byt := zbyt) (A := fun q => s.heap.size ≤ q) (by decide +kernel) (fun i hi => hs _ _ (lf_ex i hi)) (fun i hi => hs _ _ (lf_co i hi)) (fun i hi => hs _ _ (lf_ar i hi)) (fun i hi => hs _ _ (lf_le i hi)) (fun i hi j hj => by
    match i, hi, hj with
    | 0, _, hj => exact hs _ _ (lf_e0 j hj)
    | 1, _, hj => exact hs _ _ (lf_e1 j hj)
    | k + 2, hi, _ => omega) (fun i j hi hj hij => by
    match i, j, hi, hj, hij with
    | 0, 0, _, _, hij => exact absurd rfl hij
    | 1, 1, _, _, hij => exact absurd rfl hij
    | 0, 1, _, _, _ => exact Or.inl (hs _ _ lf_ne)
    | 1, 0, _, _, _ => exact Or.inr (hs _ _ lf_ne)
    | k + 2, _, hi, _, _ => omega
    | _, k + 2, _, hj, _ => omega) hA
  refine ⟨xK, xV, h1, vk_R.of (hts _ lt_s0) (h2 0 (by omega)), vk_R.of (hts _ lt_s1) (h2 1 (by omega)), va_Zof (hts _ lt_l0) (hts _ lt_i0) (va_eqv (hs _ _ lf_cs) rfl) hA, va_Zqof (hts _ lt_l1) (hts _ lt_i1) (hs _ _ lf_pr) hA, va_AO.of (hts _ lt_ao), fun q hq => va_Nw.of (lt_no q hq) (hts _ (lt_ne q hq))⟩
theorem l_K {s : State} {b : Nat} (hts : ∀ w ∈ zT, w.before #[Value.ref b] s = true) : ∃ D : va_G, va_K D vwCl [] s := by
  have h : ∀ ci : Nat, ∃ q : ClassId × (Nat → Nat), ci < 11 → u_Kn s (zcn ci) (zTT ci) (zN ci) q.1 q.2 := fun ci => by
    by_cases z : ci < 11
    · obtain ⟨cC, iS, hu⟩ := u_known hts (zcl_in z) (hts _ (zw_in (zinst_ok ci z)))
      exact ⟨(cC, iS), fun _ => hu⟩
    · exact ⟨(Classical.choice inferInstance, fun _ => 0), fun q => absurd q z⟩
  obtain ⟨f, hf⟩ := Classical.axiomOfChoice h
  refine ⟨(fun ci => (f ci).1, fun ci => (f ci).2), fun ci q hq => ?_, fun k q hk => by cases hk⟩
  have z : ci < 11 := by
    have := (List.getElem?_eq_some_iff.mp hq).1
    rw [vwCl_len] at this
    exact this
  rw [zcl_at z] at hq
  cases hq
  exact hf ci z
theorem whole_start {p : Program} {e : Env} {s : State} {m : MethodId} {below : List Frame} {meth : Method} {c : Code} (l : Launch) (hflags : l.flags = flags0) {b L : Nat} {xs : Nat → Int32} (hL : L ≤ 3072) (C0 : lw_At p s m meth c b L xs) : W p l e room_1 s m #[Value.ref b] below meth c s.heap [] 0 0 (lw_Z below #[Value.ref b] s) (entryFrame m ([Value.ref b] : List Value).toArray 4) := by
  obtain ⟨hx, hb, hr, hml, hown, hts, hX, hbl, hlk, hgv, hnm⟩ := C0
  have hts2 : ∀ w ∈ zT, w.before #[Value.ref b] s = true := fun w hw => hts w (List.mem_filter.mp hw).1
  obtain ⟨xK, xV, hz⟩ := l_X hts hgv
  obtain ⟨D, hK⟩ := l_K hts2
  obtain ⟨ad0, had⟩ : ∃ ad0 : Nat → Option Nat, ad0 = fun k => if k = 1000 then some b else if k = 1001 then some (xK 0) else if k = 1002 then some (xK 1) else none := ⟨_, rfl⟩
  have a0 : ad0 1000 = some b := by rw [had]; rfl
  have a1 : ad0 1001 = some (xK 0) := by rw [had]; rfl
  have a2 : ad0 1002 = some (xK 1) := by rw [had]; rfl
  have an : ∀ k, k < 1000 → ad0 k = none := fun k hk => by
    rw [had]
    show (if k = 1000 then some b else if k = 1001 then some (xK 0) else if k = 1002 then some (xK 1) else none) = none
    rw [if_neg (by omega), if_neg (by omega), if_neg (by omega)]
  have C : zCx zZ kL_law (fun q => s.heap.size ≤ q) xK xV ad0 p s m #[Value.ref b] meth c := ⟨hx, hb, hml, hown, hts2, fun q h => h, hr, hlk, hnm, okL_law, hz, a1, a2⟩
  have W0 : LW (fun q => s.heap.size ≤ q) xK xV ad0 p s m #[Value.ref b] meth c b L xs := ⟨C, hX, hbl, fun q => Nat.lt_irrefl _ (Nat.lt_of_lt_of_le hbl q), a0, an⟩
  have hend : ∀ (I : zI) (L' : zL) i ce sl, ce ≤ 600000 → sl ≤ 7302250 → zAW kL_law D (fun q => s.heap.size ≤ q) ad0 p l e s m #[Value.ref b] below meth c (lw_Z below #[Value.ref b] s) (1381, lloc i, [.int 1], hp I L', ce, sl) := fun I L' i ce sl h1 h2 => by
    intro ad ws tys H locs ls cst hR hF
    obtain ⟨r1, rfl, hF1⟩ := zF2_int hF
    cases zF2_nil hF1
    show W p l e room_1 s m #[Value.ref b] below meth c H locs ce sl (lw_Z below #[Value.ref b] s) (F0 m 1381 ls [.int 1])
    exact W.widen h1 h2 (va_forget (fun q hq => hR.2.2.2.2.2.1.2.2 q hq) (lw_ret hx hb hr hlk d_1381))
  obtain ⟨J, M, k1, k2, k3, k4, k5, k6, k7, k8, k9, k10⟩ := boot9 (zfil (fun _ _ => 0) 0 0) (zfil (fun _ _ => 0) 0 0)
  obtain ⟨J2, M2, j1, j2⟩ := boot10 J M k2 k3 k4 k5 k6 k7 k8 k9 k10
  have hw : zAW kL_law D (fun q => s.heap.size ≤ q) ad0 p l e s m #[Value.ref b] below meth c (lw_Z below #[Value.ref b] s) (0, [some (.ref 1000), none, none, none], [], ([], fun _ _ => 0, fun _ _ => 0, bR0), 0, 0) := by
    have e1 : lgo L xs 2 (0, [some (.ref 1000), none, none, none], [], ([], fun _ _ => 0, fun _ _ => 0, bR0), 0, 0) = some ([true, true], (4, [some (.ref 1000), none, none, none], [.ref 0, .ref 0], (zSH.take 1, zfil (fun _ _ => 0) 0 0, zfil (fun _ _ => 0) 0 0, bR1), 1, 13)) := rfl
    refine lgo_ok W0 2 e1 rfl ?_
    have c1 : zstep kL_law (4, [some (.ref 1000), none, none, none], [.ref 0, .ref 0], (zSH.take 1, zfil (fun _ _ => 0) 0 0, zfil (fun _ _ => 0) 0 0, bR1), 1, 13) = some (true, .inr (.inr (nX9_init, [.ref 0], (7, [some (.ref 1000), none, none, none], [.ref 0], (zSH.take 1, zfil (fun _ _ => 0) 0 0, zfil (fun _ _ => 0) 0 0, bR1), 52, 4757)))) := rfl
    refine lcall (y := nX9_init) W0 okX9_init c1 rfl k1 ?_
    show zAW kL_law D (fun q => s.heap.size ≤ q) ad0 p l e s m #[Value.ref b] below meth c (lw_Z below #[Value.ref b] s) (7, [some (.ref 1000), none, none, none], [.ref 0], (zSH.take 52, J, M, bR105), 52, 4757)
    have e2 : lgo L xs 3 (7, [some (.ref 1000), none, none, none], [.ref 0], (zSH.take 52, J, M, bR105), 52, 4757) = some ([true, true, true], (12, [some (.ref 1000), some (.ref 0), none, none], [.ref 52, .ref 52], (zSH.take 53, zfil J 52 0, zfil M 52 0, bR106), 53, 4805)) := rfl
    refine lgo_ok W0 3 e2 rfl ?_
    have c2 : zstep kL_law (12, [some (.ref 1000), some (.ref 0), none, none], [.ref 52, .ref 52], (zSH.take 53, zfil J 52 0, zfil M 52 0, bR106), 53, 4805) = some (true, .inr (.inr (nX10_init, [.ref 52], (15, [some (.ref 1000), some (.ref 0), none, none], [.ref 52], (zSH.take 53, zfil J 52 0, zfil M 52 0, bR106), 68, 6345)))) := rfl
    refine lcall (y := nX10_init) W0 okX10_init c2 rfl j1 ?_
    show zAW kL_law D (fun q => s.heap.size ≤ q) ad0 p l e s m #[Value.ref b] below meth c (lw_Z below #[Value.ref b] s) (15, [some (.ref 1000), some (.ref 0), none, none], [.ref 52], (zSH, J2, M2, bR136), 68, 6345)
    have e3 : lgo L xs 3 (15, [some (.ref 1000), some (.ref 0), none, none], [.ref 52], (zSH, J2, M2, bR136), 68, 6345) = some ([true, true, true], (18, lloc 0, [], (zSH, J2, M2, bR136), 68, 6345)) := rfl
    refine lgo_ok W0 3 e3 rfl ?_
    refine zAW_mv (h' := hp J2 M2) (mv_boot J2 M2) an (lloc_ok rfl rfl) (fun v hv => by cases hv) ?_
    exact l_loop W0 hL hend 512 0 68 6345 J2 M2 (by omega) (by omega) (by omega) (by omega) j2
  have hP0 : va_P D vwCl [] s.heap := fun k q hk => by simp at hk
  have hD0 : va_D (fun q => s.heap.size ≤ q) [] := ⟨fun i j p' q hp => (by simp at hp), fun k q hk => (by simp at hk)⟩
  have hW0 : zWd ad0 [] [] ([], fun _ _ => 0, fun _ _ => 0, bR0) := ⟨rfl, Nat.zero_le _, fun k _ hk => an k hk, fun k e' he => (by simp at he)⟩
  have hL0 : zLo ad0 ((lg_sl [Value.ref b] ++ List.replicate (4 - (lg_sl [Value.ref b]).length) Slot.unset).toArray) 4 (zpad (zargs [.ref 1000]) 4) := zLo_entry (as := [.ref 1000]) (cas := [.ref b]) (n := 4) ⟨⟨b, a0, rfl⟩, trivial⟩ (by decide)
  rw [lg_entry_eq]
  exact hw ad0 [] [] s.heap [] _ [] ⟨zle.rf, hW0, hK, hP0, hD0, va_S.rf, hL0⟩ trivial
set_option maxHeartbeats 4000000 in
theorem lw_walk (l : Launch) (hflags : l.flags = flags0) (b : Addr) (xs : List Int32) : MetFree l x (headSpec (Jvm.Cond.code x code maxLocals ret :: tables_1) room_1) (lw_P b xs) (fun _ _ _ _ _ => True) lw_Q := by
  refine MetFree.of_bodyS (code := code) (maxLocals := maxLocals) (ret := ret) (by decide) ?_ ?_
  · intro args s m h hn
    obtain ⟨meth, c, h1, h2, h3, h4, h5, h6, -, -⟩ := Cond.code_spec hn (atoms_spec (ws := Jvm.Cond.code x code maxLocals ret :: tables_1) h _ List.mem_cons_self)
    exact ⟨meth, c, h1, h2, h3, h4, h5, h6⟩
  · intro p e s m args below meth c s₁ B hml0 hP _
    obtain ⟨rfl, hx, hbd, hgv⟩ := hP
    obtain ⟨scr, harrAt, hlist, hof, hsmall⟩ := hx
    obtain ⟨hcb, hkn, -, -⟩ := State.arrayAt?_spec harrAt
    have hown : s.vm.findClass R_law = some m.cls := findClass_of_methodNamed B.named
    have hts0 : ∀ c ∈ (Jvm.Cond.code x code maxLocals ret :: tables_1), c.before #[Value.ref b] s = true := atoms_spec (ws := Jvm.Cond.code x code maxLocals ret :: tables_1) B.pre
    have hts : ∀ w ∈ lw_tbl, w.before #[Value.ref b] s = true := k2_hts_sels lw_privs (fun w hw => hts0 w (List.mem_cons_of_mem _ hw)) lw_privs_ok
    have hml : c.maxLocals = 4 := B.maxLocals_eq (hts0 _ List.mem_cons_self)
    have X₀ : Stand p l e room_1 s m #[Value.ref b] below meth c s₁ [] 0 0 := Stand.of_body B
    have hh0 : s₁.heap = s.heap := by rw [B.state]; rfl
    have hsz : scr.slots.size = xs.length := by rw [← Array.length_toList, hlist, List.length_map]
    have hval : ∀ j : Nat, j < xs.length → scr.slots[j]? = some (.int (xs.getD j 0)) := fun j hj => by
      rw [← Array.getElem?_toList, hlist]
      simp [hj]
    have hbl : b < s.heap.size := (Array.getElem?_eq_some_iff.mp hcb).1
    have hX : va_X b xs.length (fun j => xs.getD j 0) s s.heap := ⟨scr, hcb, hof, hkn, hsz, hval⟩
    have K : W p l e room_1 s m #[Value.ref b] below meth c s₁.heap [] 0 0 (lw_Z below #[Value.ref b] s) (entryFrame m ([Value.ref b] : List Value).toArray 4) := by
      rw [hh0]
      exact whole_start l hflags hbd ⟨B.exec, B.bytes, B.returns, hml, hown, hts, hX, hbl, B.notSynchronized, hgv, (name_of_methodNamed B.named B.method).1⟩
    obtain ⟨t, a1, o, b1, b2, b3⟩ := K s₁ rfl X₀
    exact ⟨t, o, a1, b1, b2, b3⟩
theorem lw_pre_spec {args : Array Value} {s : State} (h : (Jvm.Cond.and given_1 narrow_1).before args s = true) (hr : rest_1_c.before args s = true) : ∃ (b : Addr) (xs : List Int32), lw_P b xs args s := by
  have hs := flat_of_before _ h
  have hq := flat_of_before _ hr
  have hc : (Cond.count 1).before args s = true := hs _ (by decide +kernel)
  have harr : (Cond.arrayOf (.arg 0) .int).before args s = true := hs _ (by decide +kernel)
  have hle : (Cond.le (.length (.arg 0)) (.int 3072)).before args s = true := hs _ (by decide +kernel)
  have hlen : (Cond.isInt (.length (.arg 0))).before args s = true := hq _ (by decide +kernel)
  have hall : (Cond.all (.arg 0) (.isInt (.elem (.arg 0) (.index 0)))).before args s = true := hq _ (by decide +kernel)
  obtain ⟨b, xs, hb, hx⟩ := State.ints_of_pre rfl harr hlen hall
  have hsm : xs.length < 2 ^ 31 := hx.choose_spec.2.2.2
  have hev : (Term.length (.arg 0)).eval args s none [] s = some (.int xs.length.toInt32) := hx.length_eval hb
  have hv := Cond.le_ints hev (show (Term.int 3072).eval args s none [] s = some (.int 3072) from rfl)
  have hd : xs.length.toInt32 ≤ 3072 := by
    simpa [Cond.before, Cond.holds, hv] using hle
  have hN : xs.length ≤ 3072 := (Int32.ofNat_le_ofNat hsm (by decide)).mp (show Int32.ofNat xs.length ≤ Int32.ofNat 3072 from hd)
  exact ⟨b, xs, Cond.one_arg hc (show args[0]? = some (.ref b) from hb), hx, hN, h⟩
theorem lw_comes (l : Launch) (hflags : l.flags = flags0) : Comes l x (Jvm.Cond.code x code maxLocals ret :: tables_1) room_1 (fun tb e args s => Calls_1 tb e args s ∧ rest_1 tb e args s ∧ Pre_1 tb e args s)
    (fun _ _ args s o t => lw_Q args s o t) := by
  intro p e ha hc hk s m args below hf hfit hheap happ hpre
  obtain ⟨b, xs, hP⟩ := lw_pre_spec hpre.2.2 hpre.2.1
  obtain ⟨k, o, h1, h2, h3, hQ⟩ := lw_walk l hflags b xs p e ha hc hk s m args below hf ((Spec.applies_iff_loose hf).mp happ).1 hP trivial
  exact ⟨k, o, h1, h2, h3, hQ⟩
theorem lw_frame {s t : State} {o : Outcome} {args : Array Value} (h : Framed s o t [] 600000 7302250) :
    Framed s o t (fieldLocs frame_1_writes args s ++ arrayLocs frame_1_arrays args s ++ staticLocs frame_1_statics s) 600000 7302250 := h
theorem lw_limb (L : Cond) (hL : ∀ (args : Array Value) (s t : State), L.after args s (.returned (some (.int 1))) t = true) :
    ArmFor flags0 classFile x code maxLocals ret World_1 tables_1 room_1 Calls_1 rest_1 Pre_1
      (fun tb e a s o t => postC L tb e a s o t ∧ Framed s o t (fieldLocs frame_1_writes a s ++ arrayLocs frame_1_arrays a s ++ staticLocs frame_1_statics s) 600000 7302250) := by
  intro l hflags _ _ p e ha hc hk s m args below hf hfit hheap happ hpre
  obtain ⟨k, o, h1, h2, h3, rfl, hF⟩ := lw_comes l hflags p e ha hc hk s m args below hf hfit hheap happ hpre
  exact ⟨k, _, h1, h2, h3, hL args s _, lw_frame hF⟩
theorem i_vc : Claimed_1_1 ∧ Claimed_1_2 := ⟨lw_limb limb_1_1 (fun args s t => by simp [limb_1_1, Cond.after, Cond.holds, Cond.value]), lw_limb limb_1_2 (fun args s t => Cond.after_iff.mpr (by
  first | (rw [show limb_1_2 = Cond.eq .result (.int 1) from rfl, Cond.eq_ints (x := 1) (y := 1) rfl rfl]; simp; done) | (simp [limb_1_2, Cond.value, Term.eval]; done)))⟩

