/-! the end of a method; all steps; the whole -/
section ZE
variable {Z : Nat → zMeth} {M : zMeth} {D : va_G} {A : Nat → Prop} {xK xV : Nat → Nat} {ad0 : Nat → Option Nat} {p : Program} {l : Launch} {e : Env} {s : State} {m : MethodId} {args : Array Value} {below : List Frame} {meth : Method} {c : Code} {Q : State → Prop}
variable {pc len : Nat} {lo : List (Option Value)} {st : List Value} {h : zH} {ce sl : Nat} {ns : List Nat} {z : Int} {bs : List (Bool × zS)} {S' : zS}
theorem zinv_no {R : Room} {ns : List Nat} {r : zRes} : zinv R ns lo pc st h ce sl ≠ some (true, .inr (.inl r)) := by
  unfold zinv
  intro hq
  repeat' split at hq
  all_goals first | (simp [zcl] at hq; done) | (simp [zg] at hq; done) | (cases hq; done)
theorem zQ_at {ad : Nat → Option Nat} {ws ws0 : va_W} {tys : List (ClassId × FieldType)} {H : Heap} {locs : List Loc} {ls : Array Slot} {r rv : Option Value} {h' : zH} (hAe : A = va_A ws0 s.heap.size) (hR : zRe M D A ad0 ad ws tys s H locs ls lo h') (hrv : zrv ad r rv) : ∀ t : State, t.heap = H → s.WarmedH t.vm → zQ D ad0 ws0 s.heap.size r h' args s (.returned rv) t := by
  intro t ht hW
  obtain ⟨q1, hWd, hK, hP, hD, hS, hLo⟩ := hR
  subst hAe
  exact ⟨⟨rv, ws, tys, ad, rfl, hrv, q1, hWd, by rw [ht]; exact hP, va_K.moved hW.alike hK, hD⟩, hS.F ht⟩
set_option maxRecDepth 20000 in
theorem zs_ret {ws0 : va_W} {r : Option Value} {h' : zH} {ce' sl' : Nat} (C : zCx Z M A xK xV ad0 p s m args meth c) (hAe : A = va_A ws0 s.heap.size) (hs : zstep M (pc, lo, st, h, ce, sl) = some (true, .inr (.inl (r, h', ce', sl')))) : zAW M D A ad0 p l e s m args below meth c (MQ below (zQ D ad0 ws0 s.heap.size r h') args s (zrm M).cells (zrm M).slots A) (pc, lo, st, h, ce, sl) := by
  obtain ⟨hx, hb, hml, hown, hts, hA, hr, hlk, hnm, hok, hX, hx0, hx1⟩ := C
  cases hf : zfetch M pc with
  | none => simp only [zstep, hf] at hs; cases hs
  | some en =>
  obtain ⟨ins, len, ns, z⟩ := en
  obtain ⟨hd, hle, hrr⟩ := zok_dec Z hok hf
  cases ins
  case ireturn =>
    have hle : len = 1 := hle.resolve_left (by simp [zsw_in])
    subst hle
    simp only [zstep, hf] at hs
    split at hs
    · rename_i x ty hrt
      injection hs with hs; injection hs with hg hs; injection hs with hs; injection hs with hs; cases hs
      simp only [Bool.and_eq_true] at hg
      obtain ⟨⟨g1, g2⟩, g3⟩ := hg
      intro ad ws tys H locs ls cst hR hF
      obtain ⟨r1, rfl, hF1⟩ := zF2_int hF
      cases zF2_nil hF1
      rw [hrt] at hr
      have hn : narrow ty (.int x) = .int x := by
        unfold znar at g1
        split at g1
        · rfl
        · have : x = 0 ∨ x = 1 := by simpa using g1
          rcases this with rfl | rfl <;> rfl
        · cases g1
      refine W.widen (Nat.le_of_ble_eq_true g2) (Nat.le_of_ble_eq_true g3) ?_
      exact W.zret hx hb hr hn (zQ_at (r := some (.int x)) hAe hR ⟨.int x, rfl, rfl⟩) (fun q hq => hR.2.2.2.2.2.1.2.2 q hq) hd hlk
    · cases hs
  case lreturn =>
    have hle : len = 1 := hle.resolve_left (by simp [zsw_in])
    subst hle
    simp only [zstep, hf] at hs
    split at hs
    · rename_i x hrt
      injection hs with hs; injection hs with hg hs; injection hs with hs; injection hs with hs; cases hs
      simp only [Bool.and_eq_true] at hg
      obtain ⟨g2, g3⟩ := hg
      intro ad ws tys H locs ls cst hR hF
      obtain ⟨r1, rfl, hF1⟩ := zF2_long hF
      cases zF2_nil hF1
      rw [hrt] at hr
      refine W.widen (Nat.le_of_ble_eq_true g2) (Nat.le_of_ble_eq_true g3) ?_
      exact W.lret hx hb hr (zQ_at (r := some (.long x)) hAe hR ⟨.long x, rfl, rfl⟩) (fun q hq => hR.2.2.2.2.2.1.2.2 q hq) hd hlk
    · cases hs
  case areturn =>
    have hle : len = 1 := hle.resolve_left (by simp [zsw_in])
    subst hle
    simp only [zstep, hf] at hs
    split at hs
    · rename_i x cn hrt
      injection hs with hs; injection hs with hg hs; injection hs with hs; injection hs with hs; cases hs
      simp only [Bool.and_eq_true] at hg
      obtain ⟨g2, g3⟩ := hg
      intro ad ws tys H locs ls cst hR hF
      obtain ⟨a, r1, rfl, ha, hF1⟩ := zF2_ref hF
      cases zF2_nil hF1
      rw [hrt] at hr
      refine W.widen (Nat.le_of_ble_eq_true g2) (Nat.le_of_ble_eq_true g3) ?_
      exact W.aret hx hb hr (Or.inl ⟨_, rfl⟩) (Or.inr ⟨a, rfl⟩) (zQ_at (r := some (.ref x)) hAe hR ⟨.ref a, ⟨a, ha, rfl⟩, rfl⟩) (fun q hq => hR.2.2.2.2.2.1.2.2 q hq) hd hlk
    · cases hs
  case return_ =>
    have hle : len = 1 := hle.resolve_left (by simp [zsw_in])
    subst hle
    simp only [zstep, hf] at hs
    split at hs
    · rename_i hrt
      injection hs with hs; injection hs with hg hs; injection hs with hs; injection hs with hs; cases hs
      simp only [Bool.and_eq_true] at hg
      obtain ⟨g2, g3⟩ := hg
      intro ad ws tys H locs ls cst hR hF
      cases zF2_nil hF
      rw [hrt] at hr
      refine W.widen (Nat.le_of_ble_eq_true g2) (Nat.le_of_ble_eq_true g3) ?_
      exact W.vret hx hb hr (zQ_at (r := none) hAe hR rfl) (fun q hq => hR.2.2.2.2.2.1.2.2 q hq) hd hlk
    · cases hs
  case invokevirtual i => simp only [zstep, hf] at hs; exact absurd hs zinv_no
  case invokespecial i => simp only [zstep, hf] at hs; exact absurd hs zinv_no
  case invokestatic i => simp only [zstep, hf] at hs; exact absurd hs zinv_no
  all_goals
    exfalso
    simp only [zstep, hf, zk, zg, zbr, zldi, zldl, zlda, zis, zls, zas, zi1, zi2, zl2] at hs
    repeat' split at hs
    all_goals first | (cases hs; done) | (simp at hs; done)
end ZE
