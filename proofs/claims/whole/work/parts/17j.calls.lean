/-! calls and returns -/
def zws (M : zMeth) : List Cond := .code (zy M) (zb M) (zml M) (zret M) :: zT
def zrv (ad : Nat → Option Nat) (r rv : Option Value) : Prop := match r with
  | none => rv = none
  | some v => ∃ w, zv ad v w ∧ rv = some w
def zQ (D : va_G) (ad : Nat → Option Nat) (ws : va_W) (sz : Nat) (r : Option Value) (h' : zH) : Array Value → State → Outcome → State → Prop := fun _ st oc t => (∃ (rv : Option Value) (ws' : va_W) (tys' : List (ClassId × FieldType)) (ad' : Nat → Option Nat), oc = .returned rv ∧ zrv ad' r rv ∧ zle ad ad' ∧ zWd ad' ws' tys' h' ∧ va_P D vwCl ws' t.heap ∧ va_K D vwCl tys' t ∧ va_D (va_A ws sz) ws') ∧ va_F (va_A ws sz) st t
def zPc (D : va_G) (xK xV : Nat → Nat) (ws : va_W) (tys : List (ClassId × FieldType)) (cas : List Value) (sz : Nat) : Array Value → State → Prop := va_Pc cas (fun U => U.heap.size = sz ∧ va_P D vwCl ws U.heap ∧ va_K D vwCl tys U ∧ va_D (fun _ => True) ws ∧ zX xK xV (va_A ws sz) U U.heap)
/-- the contract of a run of the small machine -/
def zMet (Z : Nat → zMeth) (y : Nat) (as : List Value) (h : zH) (r : Option Value) (h' : zH) : Prop := ∀ (l : Launch) (D : va_G) (xK xV : Nat → Nat) (ad : Nat → Option Nat) (ws : va_W) (tys : List (ClassId × FieldType)) (cas : List Value) (sz : Nat), zWd ad ws tys h → zF2 ad as cas → ad 1001 = some (xK 0) → ad 1002 = some (xK 1) → Met l (zy (Z y)) (zws (Z y)) (zrm (Z y)) (zPc D xK xV ws tys cas sz) (zQ D ad ws sz r h') (zrm (Z y)).cells (zrm (Z y)).slots (va_A ws sz)
theorem zPc_blind {D : va_G} {xK xV : Nat → Nat} {ws : va_W} {tys : List (ClassId × FieldType)} {cas : List Value} {sz : Nat} : FrameBlind (zPc D xK xV ws tys cas sz) := by
  intro a U g mk q
  obtain ⟨q0, q1, qP, qK, qD, qX⟩ := q
  exact ⟨q0, q1, qP, va_K.moved (u := U) (U := U.calling g mk a) (Vm.Alike.refl U.vm) qK, qD, zX.same (s := U) (U := U.calling g mk a) rfl qX⟩
section ZC
variable {Z : Nat → zMeth} {M : zMeth} {D : va_G} {A : Nat → Prop} {xK xV : Nat → Nat} {ad0 : Nat → Option Nat} {p : Program} {l : Launch} {e : Env} {s : State} {m : MethodId} {args : Array Value} {below : List Frame} {meth : Method} {c : Code} {Q : State → Prop}
variable {pc len : Nat} {lo : List (Option Value)} {st : List Value} {h : zH} {ce sl : Nat} {ns : List Nat} {z : Int} {bs : List (Bool × zS)} {S' : zS}
theorem zAfree {ws : va_W} {H : Heap} {locs : List Loc} (hD : va_D A ws) (hS : va_S A s.heap H locs) (hA : ∀ q, s.heap.size ≤ q → A q) : ∀ q, va_A ws H.size q → A q := by
  intro q hq
  rcases hq with ⟨k, e, hk⟩ | hq
  · exact hD.2 k _ hk
  · exact hA q (Nat.le_trans hS.1 hq)
theorem zPc_at {ad : Nat → Option Nat} {ws : va_W} {tys : List (ClassId × FieldType)} {H : Heap} {locs : List Loc} {cas : List Value} (hX : zX xK xV A s s.heap) (hA : ∀ q, s.heap.size ≤ q → A q) (hK : va_K D vwCl tys s) (hP : va_P D vwCl ws H) (hD : va_D A ws) (hS : va_S A s.heap H locs) : ∀ U : State, U.heap = H → s.WarmedH U.vm → zPc D xK xV ws tys cas H.size cas.toArray U := by
  intro U hU hW
  refine ⟨rfl, by rw [hU], by rw [hU]; exact hP, va_K.moved hW.alike hK, hD.weaken (fun _ _ _ _ => trivial), ?_⟩
  rw [hU]
  exact ((hX.kept (fun a h1 h2 => hS.2.1 a h1 h2)).warm hW).narrow (zAfree hD hS hA)
/-- behind a call -/
theorem zbehind {R : Room} {mc ms : Nat} {cells slots : Nat} {ad : Nat → Option Nat} {ws : va_W} {H : Heap} {locs : List Loc} {ls : Array Slot} {st0 rest : List Value} {a : Array Value} {r : Option Value} {h2 : zH} (hr : va_Run p l e R s m args below meth c H locs cells slots mc ms (F0 m pc ls st0) rest (zQ D ad ws H.size r h2 a) (va_A ws H.size)) (hS : va_S A s.heap H locs) (hF : ∀ q, va_A ws H.size q → A q)
    (kk : ∀ (rv : Option Value) (ws' : va_W) (tys' : List (ClassId × FieldType)) (ad' : Nat → Option Nat) (H1 : Heap) (locs1 : List Loc), zrv ad' r rv → zle ad ad' → zWd ad' ws' tys' h2 → va_P D vwCl ws' H1 → va_K D vwCl tys' s → va_D A ws' → va_S A s.heap H1 locs1 → W p l e R s m args below meth c H1 locs1 (cells + mc) (slots + ms) Q (F0 m (pc + 3) ls (rv.toList ++ rest))) : W p l e R s m args below meth c H locs cells slots Q (F0 m pc ls st0) := by
  intro T hT X
  obtain ⟨v, st₀, t, T', L, h0, X', hL, e1, e2, ⟨⟨rv, ws', tys', ad', hv, hp1, hp2, hp3, hp4, hp5, hp6⟩, hz, hk⟩, stp⟩ := hr T hT X
  cases hv
  rw [h0] at hz hk
  have hvm : s.vm.Alike t.vm := by rw [← e2]; exact X'.warmed.alike
  obtain ⟨t2, a1, b1⟩ := kk v ws' tys' ad' T'.heap (locs ++ L) hp1 hp2 hp3 (by rw [e1]; exact hp4) (va_K.moved hvm.symm hp5) (hp6.weaken (fun _ q _ z => hF q.1 z))
    ⟨Nat.le_trans hS.1 (by rw [e1]; exact hz), fun q h1 h2 => by rw [e1, hk q (Nat.lt_of_lt_of_le h1 hS.1) (fun z => h2 (hF q z))]; exact hS.2.1 q h1 h2, fun q hq => by
      rcases List.mem_append.mp hq with h | h
      · exact hS.2.2 q h
      · exact hF _ (hL q h)⟩ T' rfl X'
  exact ⟨t2, stp t2 a1, b1⟩
theorem zF2_rv {ad : Nat → Option Nat} {r rv : Option Value} {a b : List Value} (h : zrv ad r rv) (h2 : zF2 ad a b) : zF2 ad (r.toList ++ a) (rv.toList ++ b) := by
  cases r with
  | none => cases h; exact h2
  | some v => obtain ⟨w, h1, rfl⟩ := h; exact ⟨h1, h2⟩
theorem zokY_of {Y : zMeth} {mc ms wc n : Nat} (h : zokY M Y mc ms wc n = true) : Cond.code (zy Y) (zb Y) (zml Y) (zret Y) ∈ zT ∧ (zrm Y).cells = mc ∧ (zrm Y).slots = ms ∧ ((zrm Y).frames + 1 ≤ (zrm M).frames ∧ 8 + (zml Y + 11) + (zrm Y).locals ≤ (zrm M).locals) ∧ ((zy Y).cls ≠ "java/lang/invoke/MethodHandle" ∧ (zy Y).cls ≠ "java/lang/invoke/VarHandle" ∧ (parseMethodDescriptor (zy Y).desc).map (fun d => d.parameters.length) = some n) := by
  simp only [zokY, Bool.and_eq_true, decide_eq_true_eq] at h
  obtain ⟨⟨⟨⟨⟨⟨⟨h1, h2⟩, h3⟩, h4⟩, h5⟩, h6⟩, h7⟩, h8⟩ := h
  exact ⟨zw_in h1, h2, h3, ⟨h4, h5⟩, h6, h7, h8⟩
/-- a frame with its stack cut into arguments and the rest -/
theorem zcut {ad : Nat → Option Nat} {st cst : List Value} {n : Nat} (hF : zF2 ad st cst) : ∃ cas rest, cst = cas.reverse ++ rest ∧ zF2 ad (st.take n).reverse cas ∧ zF2 ad (st.drop n) rest := by
  obtain ⟨h1, h2⟩ := zF2_take n hF
  exact ⟨(cst.take n).reverse, cst.drop n, by rw [List.reverse_reverse, List.take_append_drop], zF2_rev h1, h2⟩
theorem zs_callV {i y n mc ms ci : Nat} {as : List Value} {k w1 w2 w3 w4 w5 : Nat} {nr : List Nat} {r : Option Value} {h2 : zH} (C : zCx Z M A xK xV ad0 p s m args meth c) (hf : zfetch M pc = some (.invokevirtual i, len, 0 :: y :: n :: mc :: ms :: ci :: w1 :: w2 :: w3 :: w4 :: w5 :: nr, z)) (hst : (st.take n).reverse = .ref k :: as) (hg : (zisC h k ci && Nat.beq (as.length + 1) n && Nat.ble (zcs (st.drop n)) 8 && Nat.ble (ce + mc) (zrm M).cells && Nat.ble (sl + ms) (zrm M).slots) = true) (hm : zMet Z y (.ref k :: as) h r h2) (hk : zAW M D A ad0 p l e s m args below meth c Q (pc + 3, lo, r.toList ++ st.drop n, h2, ce + mc, sl + ms)) : zAW M D A ad0 p l e s m args below meth c Q (pc, lo, st, h, ce, sl) := by
  obtain ⟨hx, hb, hml, hown, hts, hA, hr, hlk, hnm, hok, hX, hx0, hx1⟩ := C
  obtain ⟨hd, hle, hrr⟩ := zok_dec Z hok hf
  have hle : len = 3 := hle.resolve_left (by simp [zsw_in])
  subst hle
  simp only [zokr, Bool.and_eq_true, decide_eq_true_eq] at hrr
  obtain ⟨⟨⟨⟨⟨⟨hn0, hci⟩, hY⟩, hw1⟩, hw2⟩, hw3⟩, hw4⟩ := hrr
  obtain ⟨y1, y2, y3, y4, y5⟩ := zokY_of hY
  simp only [Bool.and_eq_true] at hg
  obtain ⟨⟨⟨⟨g1, g2⟩, g3⟩, g4⟩, g5⟩ := hg
  have g2 := Nat.eq_of_beq_eq_true g2
  intro ad ws tys H locs ls cst hR hF
  obtain ⟨q1, hWd, hK, hP, hD, hS, hLo⟩ := id hR
  obtain ⟨cas, rest, rfl, hF1, hF2⟩ := zcut (n := n) hF
  rw [hst] at hF1
  obtain ⟨a, cas', rfl, ha, hF3⟩ := zF2_ref hF1
  obtain ⟨w0, hv1, fs, hv2, -⟩ := hWd.at (zisC_at g1) ha
  subst hv2
  have hlen := zF2_len hF3
  refine zbehind (r := r) (h2 := h2) (ad := ad) (ws := ws) (va_runV (C := zcn ci) (b := a) (As := cas') (rest := rest) ⟨hx, hb, hml, hown, hts⟩ (hm l D xK xV ad ws tys (.ref a :: cas') H.size hWd ⟨⟨a, ha, rfl⟩, hF3⟩ (q1 _ _ hx0) (q1 _ _ hx1)) ⟨callB_of (ws' := zT) (n - 1) hts (zgood y1) rfl rfl rfl (hts _ (zw_in hw4)) (hts _ (zw_in hw1)) y5 y4, hts _ (zw_in hw2), hts _ (zw_in hw3)⟩ ⟨zPc_blind, va_recv hK hP (zcl_at hci) hv1, zPc_at (ad := ad) hX hA hK hP hD hS⟩ rfl (by omega) hLo.choose_spec.1.1 (by simp [List.reverse_cons]) (lv_room (by rw [zF2_cs hF2]; exact Nat.le_of_ble_eq_true g3)) hd (by rw [y2, y3]; exact ⟨Nat.le_of_ble_eq_true g4, Nat.le_of_ble_eq_true g5⟩)) hS (zAfree hD hS hA) (fun rv ws' tys' ad' H1 locs1 z1 z2 z3 z4 z5 z6 z7 => ?_)
  rw [y2, y3]
  exact hk ad' ws' tys' H1 locs1 ls _ ⟨q1.tr z2, z3, z5, z4, z6, z7, hLo.mono z2⟩ (zF2_rv z1 (hF2.mono z2))
theorem zs_callS {i y n mc ms : Nat} {w1 w2 w3 w4 nest : Nat} {nr : List Nat} {r : Option Value} {h2 : zH} (C : zCx Z M A xK xV ad0 p s m args meth c) (hf : zfetch M pc = some (.invokestatic i, len, 1 :: y :: n :: mc :: ms :: w1 :: w2 :: w3 :: w4 :: nest :: nr, z)) (hg : (Nat.beq (st.take n).length n && Nat.ble (zcs (st.drop n)) 8 && Nat.ble (ce + mc) (zrm M).cells && Nat.ble (sl + ms) (zrm M).slots) = true) (hm : zMet Z y (st.take n).reverse h r h2) (hk : zAW M D A ad0 p l e s m args below meth c Q (pc + 3, lo, r.toList ++ st.drop n, h2, ce + mc, sl + ms)) : zAW M D A ad0 p l e s m args below meth c Q (pc, lo, st, h, ce, sl) := by
  obtain ⟨hx, hb, hml, hown, hts, hA, hr, hlk, hnm, hok, hX, hx0, hx1⟩ := C
  obtain ⟨hd, hle, hrr⟩ := zok_dec Z hok hf
  have hle : len = 3 := hle.resolve_left (by simp [zsw_in])
  subst hle
  simp only [zokr, Bool.and_eq_true] at hrr
  obtain ⟨⟨⟨hY, hw1⟩, hw2⟩, hw3⟩ := hrr
  obtain ⟨y1, y2, y3, y4, y5⟩ := zokY_of hY
  simp only [Bool.and_eq_true] at hg
  obtain ⟨⟨⟨g2, g3⟩, g4⟩, g5⟩ := hg
  have g2 := Nat.eq_of_beq_eq_true g2
  intro ad ws tys H locs ls cst hR hF
  obtain ⟨q1, hWd, hK, hP, hD, hS, hLo⟩ := id hR
  obtain ⟨cas, rest, rfl, hF1, hF2⟩ := zcut (n := n) hF
  have hlen := zF2_len hF1
  rw [List.length_reverse] at hlen
  have kk : ∀ (rv : Option Value) (ws' : va_W) (tys' : List (ClassId × FieldType)) (ad' : Nat → Option Nat) (H1 : Heap) (locs1 : List Loc), zrv ad' r rv → zle ad ad' → zWd ad' ws' tys' h2 → va_P D vwCl ws' H1 → va_K D vwCl tys' s → va_D A ws' → va_S A s.heap H1 locs1 → W p l e (zrm M) s m args below meth c H1 locs1 (ce + (zrm (Z y)).cells) (sl + (zrm (Z y)).slots) Q (F0 m (pc + 3) ls (rv.toList ++ rest)) := by
    intro rv ws' tys' ad' H1 locs1 z1 z2 z3 z4 z5 z6 z7
    rw [y2, y3]
    exact hk ad' ws' tys' H1 locs1 ls _ ⟨q1.tr z2, z3, z5, z4, z6, z7, hLo.mono z2⟩ (zF2_rv z1 (hF2.mono z2))
  by_cases hne : nest = 0
  · rw [if_pos hne] at hw1
    exact zbehind (r := r) (h2 := h2) (ad := ad) (ws := ws) (va_runS (As := cas) (rest := rest) ⟨hx, hb, hml, hown, hts⟩ (hm l D xK xV ad ws tys cas H.size hWd hF1 (q1 _ _ hx0) (q1 _ _ hx1)) ⟨callB_of (ws' := zT) n hts (zgood y1) rfl rfl rfl (hts _ (zw_in hw3)) (hts _ (zw_in hw1)) y5 y4, hts _ (zw_in hw2)⟩ ⟨zPc_blind, zPc_at (ad := ad) hX hA hK hP hD hS⟩ rfl (hlen.trans g2) hLo.choose_spec.1.1 rfl (lv_room (by rw [zF2_cs hF2]; exact Nat.le_of_ble_eq_true g3)) hd (by rw [y2, y3]; exact ⟨Nat.le_of_ble_eq_true g4, Nat.le_of_ble_eq_true g5⟩)) hS (zAfree hD hS hA) kk
  · rw [if_neg hne] at hw1
    exact zbehind (r := r) (h2 := h2) (ad := ad) (ws := ws) (va_runSN (host := "DayWords") (As := cas) (rest := rest) ⟨hx, hb, hml, hown, hts⟩ (hm l D xK xV ad ws tys cas H.size hWd hF1 (q1 _ _ hx0) (q1 _ _ hx1)) ⟨va_cnB (ws' := zT) n hts (zgood y1) rfl rfl rfl (hX.2.2.2.2.2.2 _ (List.mem_of_getElem? (of_decide_eq_true hw1))) (hts _ (zw_in hw3)) y5 y4, hts _ (zw_in hw2), trivial⟩ ⟨zPc_blind, zPc_at (ad := ad) hX hA hK hP hD hS⟩ rfl (hlen.trans g2) hLo.choose_spec.1.1 rfl (lv_room (by rw [zF2_cs hF2]; exact Nat.le_of_ble_eq_true g3)) hd (by rw [y2, y3]; exact ⟨Nat.le_of_ble_eq_true g4, Nat.le_of_ble_eq_true g5⟩)) hS (zAfree hD hS hA) kk
theorem zs_callI {i y n mc ms : Nat} {as : List Value} {k w1 w2 w3 w4 nest : Nat} {nr : List Nat} {r : Option Value} {h2 : zH} (C : zCx Z M A xK xV ad0 p s m args meth c) (hf : zfetch M pc = some (.invokespecial i, len, 2 :: y :: n :: mc :: ms :: w1 :: w2 :: w3 :: w4 :: nest :: nr, z)) (hst : (st.take n).reverse = .ref k :: as) (hg : (Nat.beq (as.length + 1) n && Nat.ble (zcs (st.drop n)) 8 && Nat.ble (ce + mc) (zrm M).cells && Nat.ble (sl + ms) (zrm M).slots) = true) (hm : zMet Z y (.ref k :: as) h r h2) (hk : zAW M D A ad0 p l e s m args below meth c Q (pc + 3, lo, r.toList ++ st.drop n, h2, ce + mc, sl + ms)) : zAW M D A ad0 p l e s m args below meth c Q (pc, lo, st, h, ce, sl) := by
  obtain ⟨hx, hb, hml, hown, hts, hA, hr, hlk, hnm, hok, hX, hx0, hx1⟩ := C
  obtain ⟨hd, hle, hrr⟩ := zok_dec Z hok hf
  have hle : len = 3 := hle.resolve_left (by simp [zsw_in])
  subst hle
  simp only [zokr, Bool.and_eq_true, decide_eq_true_eq] at hrr
  obtain ⟨⟨⟨⟨⟨⟨hn0, hY⟩, hrt⟩, hin⟩, hw1⟩, hw2⟩, hw3⟩ := hrr
  obtain ⟨y1, y2, y3, y4, y5⟩ := zokY_of hY
  simp only [Bool.and_eq_true] at hg
  obtain ⟨⟨⟨g2, g3⟩, g4⟩, g5⟩ := hg
  have g2 := Nat.eq_of_beq_eq_true g2
  intro ad ws tys H locs ls cst hR hF
  obtain ⟨q1, hWd, hK, hP, hD, hS, hLo⟩ := id hR
  obtain ⟨cas, rest, rfl, hF1, hF2⟩ := zcut (n := n) hF
  rw [hst] at hF1
  obtain ⟨a, cas', rfl, ha, hF3⟩ := zF2_ref hF1
  have hlen := zF2_len hF3
  have hmet := hm l D xK xV ad ws tys (.ref a :: cas') H.size hWd ⟨⟨a, ha, rfl⟩, hF3⟩ (q1 _ _ hx0) (q1 _ _ hx1)
  rw [hrt] at y1
  have hws : zws (Z y) = Cond.code (zy (Z y)) (zb (Z y)) (zml (Z y)) none :: zT := by unfold zws; rw [hrt]
  rw [hws] at hmet
  have kk : ∀ (rv : Option Value) (ws' : va_W) (tys' : List (ClassId × FieldType)) (ad' : Nat → Option Nat) (H1 : Heap) (locs1 : List Loc), zrv ad' r rv → zle ad ad' → zWd ad' ws' tys' h2 → va_P D vwCl ws' H1 → va_K D vwCl tys' s → va_D A ws' → va_S A s.heap H1 locs1 → W p l e (zrm M) s m args below meth c H1 locs1 (ce + (zrm (Z y)).cells) (sl + (zrm (Z y)).slots) Q (F0 m (pc + 3) ls (rv.toList ++ rest)) := by
    intro rv ws' tys' ad' H1 locs1 z1 z2 z3 z4 z5 z6 z7
    rw [y2, y3]
    exact hk ad' ws' tys' H1 locs1 ls _ ⟨q1.tr z2, z3, z5, z4, z6, z7, hLo.mono z2⟩ (zF2_rv z1 (hF2.mono z2))
  by_cases hne : nest = 0
  · rw [if_pos hne] at hw1
    exact zbehind (r := r) (h2 := h2) (ad := ad) (ws := ws) (va_runI (b := a) (As := cas') (rest := rest) ⟨hx, hb, hml, hown, hts⟩ hmet ⟨callB_of (ws' := zT) (n - 1) hts (zgood y1) rfl rfl rfl (hts _ (zw_in hw3)) (hts _ (zw_in hw1)) y5 y4, hin, hts _ (zw_in hw2)⟩ ⟨zPc_blind, zPc_at (ad := ad) hX hA hK hP hD hS⟩ rfl (by omega) hLo.choose_spec.1.1 (by simp [List.reverse_cons]) (lv_room (by rw [zF2_cs hF2]; exact Nat.le_of_ble_eq_true g3)) hd (by rw [y2, y3]; exact ⟨Nat.le_of_ble_eq_true g4, Nat.le_of_ble_eq_true g5⟩)) hS (zAfree hD hS hA) kk
  · rw [if_neg hne] at hw1
    exact zbehind (r := r) (h2 := h2) (ad := ad) (ws := ws) (va_runIN (host := "DayWords") (b := a) (As := cas') (rest := rest) ⟨hx, hb, hml, hown, hts⟩ hmet ⟨va_cnB (ws' := zT) (n - 1) hts (zgood y1) rfl rfl rfl (hX.2.2.2.2.2.2 _ (List.mem_of_getElem? (of_decide_eq_true hw1))) (hts _ (zw_in hw3)) y5 y4, hin, hts _ (zw_in hw2)⟩ ⟨zPc_blind, zPc_at (ad := ad) hX hA hK hP hD hS⟩ rfl (by omega) hLo.choose_spec.1.1 (by simp [List.reverse_cons]) (lv_room (by rw [zF2_cs hF2]; exact Nat.le_of_ble_eq_true g3)) hd (by rw [y2, y3]; exact ⟨Nat.le_of_ble_eq_true g4, Nat.le_of_ble_eq_true g5⟩)) hS (zAfree hD hS hA) kk
end ZC
