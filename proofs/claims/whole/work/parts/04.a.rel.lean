/-! THE BIG MACHINE DOES WHAT THE SMALL ONE DOES: what holds between them -/
def zTT (ci : Nat) : u_T := match ci with
  | 0 => TX0 | 1 => TX1 | 2 => TX2 | 3 => TX3 | 4 => TX4 | 5 => TX5 | 6 => TX6 | 7 => TX7 | 8 => TX8 | 9 => TX9 | _ => TX10
def zcn (ci : Nat) : String := match ci with
  | 0 => RX0 | 1 => RX1 | 2 => RX2 | 3 => RX3 | 4 => RX4 | 5 => RX5 | 6 => RX6 | 7 => RX7 | 8 => RX8 | 9 => RX9 | _ => RX10
def ztab (i : Nat) : List Cond := match i with
  | 0 => k2_sels lw_privs_1 | 1 => k2_sels lw_privs_2 | 2 => k2_sels lw_privs_3 | 3 => k2_sels lw_privs_4 | 4 => k2_sels lw_privs_5 | 5 => k2_sels lw_privs_6 | 6 => k2_sels lw_privs_7
  | 7 => tables_1_1 | 8 => tables_1_2 | 9 => tables_1_3 | 10 => tables_1_4 | 11 => tables_1_5 | 12 => tables_1_6 | _ => tables_1_7
def zw (i : Nat) (c : Cond) : Bool := decide (znth (ztab (i / 1000)) (i % 1000) = some c) && goodWord c
theorem znth_mem {α : Type} : ∀ {l : List α} {i : Nat} {a : α}, znth l i = some a → a ∈ l
  | _ :: _, 0, _, h => by cases h; exact List.mem_cons_self
  | _ :: _, _ + 1, _, h => List.mem_cons_of_mem _ (znth_mem (by exact h))
  | [], _, _, h => by cases h
theorem ztab_in (i : Nat) : ∀ c ∈ ztab i, c ∈ lw_tbl := by
  have hT : ∀ j c, c ∈ (match j with | 0 => tables_1_1 | 1 => tables_1_2 | 2 => tables_1_3 | 3 => tables_1_4 | 4 => tables_1_5 | 5 => tables_1_6 | _ => tables_1_7 : List Cond) → c ∈ lw_tbl := by
    intro j c h
    refine List.mem_append_right _ ?_
    show c ∈ tables_1_1 ++ (tables_1_2 ++ (tables_1_3 ++ (tables_1_4 ++ (tables_1_5 ++ (tables_1_6 ++ tables_1_7)))))
    simp only [List.mem_append]
    match j, h with
    | 0, h => exact Or.inl h
    | 1, h => exact Or.inr (Or.inl h)
    | 2, h => exact Or.inr (Or.inr (Or.inl h))
    | 3, h => exact Or.inr (Or.inr (Or.inr (Or.inl h)))
    | 4, h => exact Or.inr (Or.inr (Or.inr (Or.inr (Or.inl h))))
    | 5, h => exact Or.inr (Or.inr (Or.inr (Or.inr (Or.inr (Or.inl h)))))
    | _ + 6, h => exact Or.inr (Or.inr (Or.inr (Or.inr (Or.inr (Or.inr h)))))
  have hS : ∀ j c, c ∈ k2_sels (match j with | 0 => lw_privs_1 | 1 => lw_privs_2 | 2 => lw_privs_3 | 3 => lw_privs_4 | 4 => lw_privs_5 | 5 => lw_privs_6 | _ => lw_privs_7 : List (MethodName × Nat)) → c ∈ lw_tbl := by
    intro j c h
    refine List.mem_append_left _ ?_
    obtain ⟨q, hq, rfl⟩ := List.mem_map.mp h
    refine List.mem_map.mpr ⟨q, ?_, rfl⟩
    show q ∈ lw_privs_1 ++ (lw_privs_2 ++ (lw_privs_3 ++ (lw_privs_4 ++ (lw_privs_5 ++ (lw_privs_6 ++ (lw_privs_7))))))
    simp only [List.mem_append]
    match j, hq with
    | 0, h => exact Or.inl h
    | 1, h => exact Or.inr (Or.inl h)
    | 2, h => exact Or.inr (Or.inr (Or.inl h))
    | 3, h => exact Or.inr (Or.inr (Or.inr (Or.inl h)))
    | 4, h => exact Or.inr (Or.inr (Or.inr (Or.inr (Or.inl h))))
    | 5, h => exact Or.inr (Or.inr (Or.inr (Or.inr (Or.inr (Or.inl h)))))
    | _ + 6, h => exact Or.inr (Or.inr (Or.inr (Or.inr (Or.inr (Or.inr h)))))
  intro c h
  match i, h with
  | 0, h => exact hS 0 c h
  | 1, h => exact hS 1 c h
  | 2, h => exact hS 2 c h
  | 3, h => exact hS 3 c h
  | 4, h => exact hS 4 c h
  | 5, h => exact hS 5 c h
  | 6, h => exact hS 6 c h
  | 7, h => exact hT 0 c h
  | 8, h => exact hT 1 c h
  | 9, h => exact hT 2 c h
  | 10, h => exact hT 3 c h
  | 11, h => exact hT 4 c h
  | 12, h => exact hT 5 c h
  | _ + 13, h => exact hT 6 c h
theorem zw_in {i : Nat} {c : Cond} (h : zw i c = true) : c ∈ zT := by
  simp only [zw, Bool.and_eq_true, decide_eq_true_eq] at h
  exact List.mem_filter.mpr ⟨ztab_in _ _ (znth_mem h.1), h.2⟩
/-- calls of a nest mate's private member -/
def zNe : List (String × Nat × MethodName) := [("DayWords", 12, ⟨"DayWords$Tape", "<init>", "()V"⟩), ("DayWords", 30, ⟨"DayWords$Acts", "<init>", "()V"⟩), ("DayWords", 37, ⟨"DayWords$Desk", "<init>", "()V"⟩), ("DayWords$Finder", 11, ⟨"DayWords$Words", "<init>", "()V"⟩), ("DayWords$Finder", 76, ⟨"DayWords$Row", "<init>", "()V"⟩), ("DayWords$Finder", 81, ⟨"DayWords", "rowStarts", "(I)I"⟩), ("DayWords$Finder", 84, ⟨"DayWords", "rowSize", "(II)I"⟩), ("DayWords$Writer", 63, ⟨"DayWords", "rowStarts", "(I)I"⟩), ("DayWords$Writer", 67, ⟨"DayWords", "rowSize", "(II)I"⟩)]
def ztx : List String := ["desk days first feast train at never daily from to not also mo tu we th fr sa su", " desk days first feast train at never daily from to not also mo tu we th fr sa su "]
def zilen (i : Instr) : Nat := match i with
  | .bipush _ => 2 | .sipush _ => 3 | .ldc _ => 2 | .ldc_w _ => 3 | .ldc2_w _ => 3
  | .iload _ => 2 | .lload _ => 2 | .aload _ => 2 | .istore _ => 2 | .lstore _ => 2 | .astore _ => 2
  | .iinc _ _ => 3 | .goto _ => 3 | .ifCond _ _ => 3 | .if_icmp _ _ => 3 | .ifnull _ => 3
  | .getfield _ => 3 | .putfield _ => 3 | .newarray _ => 2 | .anewarray _ => 3 | .new _ => 3
  | .invokevirtual _ => 3 | .invokespecial _ => 3 | .invokestatic _ => 3
  | _ => 1
def zsw_in (i : Instr) : Bool := match i with
  | .tableswitch _ _ _ _ => true
  | .lookupswitch _ _ => true
  | _ => false
section ZOK
variable (Z : Nat → zMeth)
/-- what holds of a callee, whatever the kind of the call -/
def zokY (M Y : zMeth) (mc ms wc n : Nat) : Bool := zw wc (.code (zy Y) (zb Y) (zml Y) (zret Y)) && decide ((zrm Y).cells = mc) && decide ((zrm Y).slots = ms) && decide ((zrm Y).frames + 1 ≤ (zrm M).frames) && decide (8 + (zml Y + 11) + (zrm Y).locals ≤ (zrm M).locals) && decide ((zy Y).cls ≠ "java/lang/invoke/MethodHandle") && decide ((zy Y).cls ≠ "java/lang/invoke/VarHandle") && decide ((parseMethodDescriptor (zy Y).desc).map (fun d => d.parameters.length) = some n)
def zokr (M : zMeth) (pc : Nat) (ins : Instr) (ns : List Nat) (z : Int) : Bool := match ins with
  | .ldc i => match ns with
    | 0 :: w :: _ => zw w (.constant (zy M).cls i (Int32.ofInt z))
    | 1 :: k :: _ => decide (k < 2) && decide ((zy M).cls = if k = 0 then "DayWords$Lexicon" else "DayWordsModel") && decide (i = if k = 0 then 15 else 98)
    | _ => false
  | .ldc_w i => match ns with
    | _ :: w :: _ => zw w (.constant (zy M).cls i (Int32.ofInt z))
    | _ => false
  | .ldc2_w i => match ns with
    | _ :: w :: _ => zw w (.constantLong (zy M).cls i (Int64.ofInt z))
    | _ => false
  | .goto o => decide (0 ≤ (pc : Int) + o)
  | .ifCond _ o => decide (0 ≤ (pc : Int) + o)
  | .if_icmp _ o => decide (0 ≤ (pc : Int) + o)
  | .ifnull o => decide (0 ≤ (pc : Int) + o)
  | .tableswitch d a b offs => decide (0 ≤ (pc : Int) + d) && decide (a = 0) && decide (b = (offs.size : Int) - 1) && decide (offs.size < 1000) && offs.toList.all (fun o => decide (0 ≤ (pc : Int) + o))
  | .lookupswitch d ps => decide (0 ≤ (pc : Int) + d) && (ps.toList.zip (ps.toList.drop 1)).all (fun (a, next) => a.1 < next.1) && ps.toList.all (fun q => decide (0 ≤ (pc : Int) + q.2) && decide ((Int32.ofInt q.1).toInt = q.1))
  | .getfield i => match ns with
    | ci :: f :: w :: _ => decide (ci < 11) && decide (f < zN ci) && zw w (.fieldLink (zy M).cls i (zTT ci f).1 (zTT ci f).2.1 (zTT ci f).2.2.1)
    | _ => false
  | .putfield i => match ns with
    | ci :: f :: w :: _ => decide (ci < 11) && decide (f < zN ci) && zw w (.fieldLink (zy M).cls i (zTT ci f).1 (zTT ci f).2.1 (zTT ci f).2.2.1) && (!(zTT ci f).2.2.2 || (decide ((zy M).name = "<init>") && decide ((zTT ci f).1 = (zy M).cls)))
    | _ => false
  | .new i => match ns with
    | ci :: w1 :: w2 :: w3 :: _ => zw w1 (.classLink (zy M).cls i (zcn ci)) && zw w2 (.instantiable (zcn ci) (zN ci)) && zw w3 (.initialized (zcn ci))
    | _ => false
  | .newarray a => match ns with
    | w :: _ => zw w (.arrayClass (newarray.typeOf a))
    | _ => false
  | .anewarray i => match ns with
    | w1 :: _ => zw w1 (.classLink (zy M).cls i "DayWords$Row")
    | _ => false
  | .invokevirtual i => match ns with
    | 0 :: y :: n :: mc :: ms :: ci :: w1 :: w2 :: w3 :: w4 :: w5 :: _ => decide (0 < n) && decide (ci < 11) && zokY M (Z y) mc ms w5 (n - 1) && zw w1 (.methodLink (zy M).cls i (zy (Z y))) && zw w2 (.instanceMethod (zy (Z y))) && zw w3 (.selects (zcn ci) (zy (Z y)) (zy (Z y))) && zw w4 (.initialized (zy (Z y)).cls)
    | 5 :: w1 :: _ => zw w1 (.methodLink (zy M).cls i yJ0_length_8abf5) && decide (4 ≤ (zrm M).frames) && decide (85 ≤ (zrm M).locals)
    | 6 :: w1 :: _ => zw w1 (.methodLink (zy M).cls i yJ0_charAt_5068e) && decide (4 ≤ (zrm M).frames) && decide (85 ≤ (zrm M).locals)
    | _ => false
  | .invokestatic i => match ns with
    | 1 :: y :: n :: mc :: ms :: w1 :: w2 :: w3 :: w4 :: nest :: _ => zokY M (Z y) mc ms w4 n && (if nest = 0 then zw w1 (.methodLink (zy M).cls i (zy (Z y))) else decide (zNe[w1]? = some ((zy M).cls, i, zy (Z y)))) && zw w2 (.static (zy (Z y))) && zw w3 (.initialized (zy (Z y)).cls)
    | 4 :: w1 :: w2 :: w3 :: w4 :: _ => zw w1 (.methodLink (zy M).cls i arraycopyName) && zw w2 (.native arraycopyName) && zw w3 (.static arraycopyName) && zw w4 (.initialized "java/lang/System") && decide (1 ≤ (zrm M).frames) && decide (50 ≤ (zrm M).locals)
    | _ => false
  | .invokespecial i => match ns with
    | 2 :: y :: n :: mc :: ms :: w1 :: w2 :: w3 :: w4 :: nest :: _ => decide (0 < n) && zokY M (Z y) mc ms w4 (n - 1) && decide (zret (Z y) = none) && decide ((zy (Z y)).name = "<init>") && (if nest = 0 then zw w1 (.methodLink (zy M).cls i (zy (Z y))) else decide (zNe[w1]? = some ((zy M).cls, i, zy (Z y)))) && zw w2 (.instanceMethod (zy (Z y))) && zw w3 (.initialized (zy (Z y)).cls)
    | 3 :: w1 :: w2 :: w3 :: _ => zw w1 (.methodLink (zy M).cls i objectInit) && zw w2 (.instanceMethod objectInit) && zw w3 (.code objectInit ⟨#[0xb1]⟩ 1 none) && decide (1 ≤ (zrm M).frames)
    | _ => false
  | _ => true
def zok (M : zMeth) (pc : Nat) (en : zEn) : Bool := decide (decode (zb M) pc = .ok (en.1, en.2.1)) && (zsw_in en.1 || Nat.beq en.2.1 (zilen en.1)) && zokr Z M pc en.1 en.2.2.1 en.2.2.2
def zokc (M : zMeth) : Nat → List (Option zPl) → Bool
  | _, [] => true
  | pc, none :: r => zokc M (pc + 1) r
  | pc, some en :: r => zok Z M pc en.1 && zokc M (pc + 1) r
def zokl (M : zMeth) : Nat → List (List (Option zPl)) → Bool
  | _, [] => true
  | pc, c :: r => Nat.ble c.length 16 && zokc Z M pc c && zokl M (pc + 16) r
def zokM (M : zMeth) : Bool := zokl Z M 0 (zcode M) && Nat.blt (zcode M).length 6000 && plainName (zy M).cls
theorem zokc_at (M : zMeth) : ∀ (r : List (Option zPl)) (pc i : Nat) (en : zPl), zokc Z M pc r = true → znth r i = some (some en) → zok Z M (pc + i) en.1 = true
  | [], _, _, _, _, h => by cases h
  | none :: r, pc, 0, en, _, h => by cases h
  | none :: r, pc, i + 1, en, hk, h => by
    have := zokc_at M r (pc + 1) i en hk h
    rwa [show pc + 1 + i = pc + (i + 1) by omega] at this
  | some e0 :: r, pc, 0, en, hk, h => by
    cases h
    simp only [zokc, Bool.and_eq_true] at hk
    exact hk.1
  | some e0 :: r, pc, i + 1, en, hk, h => by
    simp only [zokc, Bool.and_eq_true] at hk
    have := zokc_at M r (pc + 1) i en hk.2 h
    rwa [show pc + 1 + i = pc + (i + 1) by omega] at this
theorem zokl_at (M : zMeth) : ∀ (cs : List (List (Option zPl))) (pc j i : Nat) (r : List (Option zPl)) (en : zPl), zokl Z M pc cs = true → znth cs j = some r → znth r i = some (some en) → zok Z M (pc + 16 * j + i) en.1 = true
  | [], _, _, _, _, _, _, h, _ => by cases h
  | c :: cs, pc, 0, i, r, en, hk, h, h2 => by
    cases h
    simp only [zokl, Bool.and_eq_true] at hk
    exact zokc_at Z M _ pc i en hk.1.2 h2
  | c :: cs, pc, j + 1, i, r, en, hk, h, h2 => by
    simp only [zokl, Bool.and_eq_true] at hk
    have := zokl_at M cs (pc + 16) j i r en hk.2 h h2
    rwa [show pc + 16 + 16 * j + i = pc + 16 * (j + 1) + i by omega] at this
theorem zok_of {M : zMeth} {pc : Nat} {en : zEn} (hk : zokM Z M = true) (h : zfetch M pc = some en) : zok Z M pc en = true := by
  simp only [zokM, Bool.and_eq_true] at hk
  unfold zfetch at h
  cases h1 : znth (zcode M) (pc / 16) with
  | none => rw [h1] at h; cases h
  | some r =>
    rw [h1] at h
    match h2 : znth r (pc % 16) with
    | none => simp only [h2] at h; cases h
    | some none => simp only [h2] at h; cases h
    | some (some q) =>
      simp only [h2] at h
      cases h
      have := zokl_at Z M (zcode M) 0 (pc / 16) (pc % 16) r q hk.1.1 h1 h2
      rwa [show 0 + 16 * (pc / 16) + pc % 16 = pc by omega] at this
theorem zok_dec {M : zMeth} {pc len : Nat} {ins : Instr} {ns : List Nat} {z : Int} (hk : zokM Z M = true) (h : zfetch M pc = some (ins, len, ns, z)) : decode (zb M) pc = .ok (ins, len) ∧ (zsw_in ins = true ∨ len = zilen ins) ∧ zokr Z M pc ins ns z = true := by
  have := zok_of Z hk h
  simp only [zok, Bool.and_eq_true, Bool.or_eq_true, decide_eq_true_eq] at this
  exact ⟨this.1.1, this.1.2.imp id Nat.eq_of_beq_eq_true, this.2⟩
end ZOK
theorem znth_eq {α : Type} : ∀ (l : List α) (i : Nat), znth l i = l[i]?
  | [], i => by simp [znth]
  | a :: l, 0 => by simp [znth]
  | a :: l, i + 1 => by simp [znth, znth_eq l i]
/-- values: references by the map of addresses -/
def zv (ad : Nat → Option Nat) (v w : Value) : Prop := match v with
  | .ref k => ∃ a, ad k = some a ∧ w = .ref a
  | v => w = v
def zo (ad : Nat → Option Nat) (r r' : Option Nat) : Prop := match r with
  | none => r' = none
  | some k => ∃ a, ad k = some a ∧ r' = some a
def zle (ad ad' : Nat → Option Nat) : Prop := ∀ k a, ad k = some a → ad' k = some a
theorem zle.rf {ad : Nat → Option Nat} : zle ad ad := fun _ _ h => h
theorem zle.tr {a b c : Nat → Option Nat} (h : zle a b) (h2 : zle b c) : zle a c := fun k x q => h2 k x (h k x q)
theorem zv.mono {ad ad' : Nat → Option Nat} (hl : zle ad ad') {v w : Value} (h : zv ad v w) : zv ad' v w := by
  cases v with
  | ref k => obtain ⟨a, h1, h2⟩ := h; exact ⟨a, hl _ _ h1, h2⟩
  | _ => exact h
theorem zo.mono {ad ad' : Nat → Option Nat} (hl : zle ad ad') {r r' : Option Nat} (h : zo ad r r') : zo ad' r r' := by
  cases r with
  | some k => obtain ⟨a, h1, h2⟩ := h; exact ⟨a, hl _ _ h1, h2⟩
  | none => exact h
theorem zv_rf {ad : Nat → Option Nat} {r r' : Option Nat} (h : zo ad r r') : zv ad (va_rf r) (va_rf r') := by
  cases r with
  | some k => obtain ⟨a, h1, rfl⟩ := h; exact ⟨a, h1, rfl⟩
  | none => cases h; exact rfl
theorem zv_cat {ad : Nat → Option Nat} {v w : Value} (h : zv ad v w) : w.category = v.category := by
  cases v with
  | ref k => obtain ⟨a, h1, rfl⟩ := h; rfl
  | _ => cases h; rfl
def zF2 (ad : Nat → Option Nat) : List Value → List Value → Prop
  | [], [] => True
  | v :: r, w :: r' => zv ad v w ∧ zF2 ad r r'
  | _, _ => False
theorem zF2.mono {ad ad' : Nat → Option Nat} (hl : zle ad ad') : ∀ {a b : List Value}, zF2 ad a b → zF2 ad' a b
  | [], [], _ => trivial
  | _ :: _, _ :: _, h => ⟨h.1.mono hl, zF2.mono hl h.2⟩
  | [], _ :: _, h => h.elim
  | _ :: _, [], h => h.elim
theorem zF2_cons {ad : Nat → Option Nat} {v : Value} {r c : List Value} (h : zF2 ad (v :: r) c) : ∃ w r', c = w :: r' ∧ zv ad v w ∧ zF2 ad r r' := by
  cases c with
  | nil => exact h.elim
  | cons w r' => exact ⟨w, r', rfl, h.1, h.2⟩
theorem zF2_nil {ad : Nat → Option Nat} {c : List Value} (h : zF2 ad [] c) : c = [] := by
  cases c with
  | nil => rfl
  | cons w r' => exact h.elim
theorem zF2_int {ad : Nat → Option Nat} {x : Int32} {r c : List Value} (h : zF2 ad (.int x :: r) c) : ∃ r', c = .int x :: r' ∧ zF2 ad r r' := by
  obtain ⟨w, r', rfl, h1, h2⟩ := zF2_cons h
  cases h1
  exact ⟨r', rfl, h2⟩
theorem zF2_long {ad : Nat → Option Nat} {x : Int64} {r c : List Value} (h : zF2 ad (.long x :: r) c) : ∃ r', c = .long x :: r' ∧ zF2 ad r r' := by
  obtain ⟨w, r', rfl, h1, h2⟩ := zF2_cons h
  cases h1
  exact ⟨r', rfl, h2⟩
theorem zF2_null {ad : Nat → Option Nat} {r c : List Value} (h : zF2 ad (.null :: r) c) : ∃ r', c = .null :: r' ∧ zF2 ad r r' := by
  obtain ⟨w, r', rfl, h1, h2⟩ := zF2_cons h
  cases h1
  exact ⟨r', rfl, h2⟩
theorem zF2_ref {ad : Nat → Option Nat} {k : Nat} {r c : List Value} (h : zF2 ad (.ref k :: r) c) : ∃ a r', c = .ref a :: r' ∧ ad k = some a ∧ zF2 ad r r' := by
  obtain ⟨w, r', rfl, h1, h2⟩ := zF2_cons h
  obtain ⟨a, h3, rfl⟩ := h1
  exact ⟨a, r', rfl, h3, h2⟩
theorem zF2_app {ad : Nat → Option Nat} : ∀ {a b c d : List Value}, zF2 ad a b → zF2 ad c d → zF2 ad (a ++ c) (b ++ d)
  | [], [], _, _, _, h => h
  | _ :: _, _ :: _, _, _, h1, h => ⟨h1.1, zF2_app h1.2 h⟩
  | [], _ :: _, _, _, h, _ => h.elim
  | _ :: _, [], _, _, h, _ => h.elim
theorem zF2_rev {ad : Nat → Option Nat} : ∀ {a b : List Value}, zF2 ad a b → zF2 ad a.reverse b.reverse
  | [], [], _ => trivial
  | _ :: _, _ :: _, h => by
    rw [List.reverse_cons, List.reverse_cons]
    exact zF2_app (zF2_rev h.2) ⟨h.1, trivial⟩
  | [], _ :: _, h => h.elim
  | _ :: _, [], h => h.elim
theorem zF2_take {ad : Nat → Option Nat} : ∀ (n : Nat) {a b : List Value}, zF2 ad a b → zF2 ad (a.take n) (b.take n) ∧ zF2 ad (a.drop n) (b.drop n)
  | 0, _, _, h => ⟨trivial, h⟩
  | n + 1, [], [], _ => ⟨trivial, trivial⟩
  | n + 1, _ :: _, _ :: _, h => ⟨⟨h.1, (zF2_take n h.2).1⟩, (zF2_take n h.2).2⟩
  | n + 1, [], _ :: _, h => h.elim
  | n + 1, _ :: _, [], h => h.elim
theorem zF2_len {ad : Nat → Option Nat} : ∀ {a b : List Value}, zF2 ad a b → b.length = a.length
  | [], [], _ => rfl
  | _ :: _, _ :: _, h => by simp [zF2_len h.2]
  | [], _ :: _, h => h.elim
  | _ :: _, [], h => h.elim
theorem zF2_cs {ad : Nat → Option Nat} : ∀ {a b : List Value}, zF2 ad a b → (b.map fun v => v.category).sum = zcs a
  | [], [], _ => rfl
  | v :: a, w :: b, h => by
    show (w.category :: b.map fun v => v.category).sum = (v.category :: a.map fun v => v.category).sum
    rw [List.sum_cons, List.sum_cons, zF2_cs h.2, zv_cat h.1]
    rfl
  | [], _ :: _, h => h.elim
  | _ :: _, [], h => h.elim
/-- locals -/
def zLo (ad : Nat → Option Nat) (ls : Array Slot) (nL : Nat) (lo : List (Option Value)) : Prop := ∃ lv : List (Nat × Value), lv_has ls nL lv ∧ ∀ i v, lo[i]? = some (some v) → ∃ w, zv ad v w ∧ (i, w) ∈ lv
theorem zLo.mono {ad ad' : Nat → Option Nat} (hl : zle ad ad') {ls : Array Slot} {nL : Nat} {lo : List (Option Value)} (h : zLo ad ls nL lo) : zLo ad' ls nL lo := by
  obtain ⟨lv, h1, h2⟩ := h
  refine ⟨lv, h1, fun i v hi => ?_⟩
  obtain ⟨w, h3, h4⟩ := h2 i v hi
  exact ⟨w, h3.mono hl, h4⟩
theorem zLo.at {ad : Nat → Option Nat} {ls : Array Slot} {nL : Nat} {lo : List (Option Value)} (h : zLo ad ls nL lo) {i : Nat} {v : Value} (hi : znth lo i = some (some v)) : ∃ w, zv ad v w ∧ ls[i]? = some (.val w) := by
  obtain ⟨lv, h1, h2⟩ := h
  rw [znth_eq] at hi
  obtain ⟨w, h3, h4⟩ := h2 i v hi
  exact ⟨w, h3, h1.2.2 _ h4⟩
theorem zset_at {α : Type} {l : List α} {i j : Nat} {x y : α} (h : (l.set i x)[j]? = some y) : (j = i ∧ y = x) ∨ (j ≠ i ∧ l[j]? = some y) := by
  rw [List.getElem?_set] at h
  by_cases hij : i = j
  · rw [if_pos hij] at h
    by_cases hl : i < l.length
    · rw [if_pos hl] at h
      exact Or.inl ⟨hij.symm, (Option.some.inj h).symm⟩
    · rw [if_neg hl] at h; cases h
  · rw [if_neg hij] at h
    exact Or.inr ⟨fun q => hij q.symm, h⟩
theorem zst1_at {lo : List (Option Value)} {i j : Nat} {v x : Value} (h : (zst1 lo i v)[j]? = some (some x)) : (j = i ∧ x = v) ∨ (j ≠ i ∧ lo[j]? = some (some x) ∧ ¬ (j + 1 = i ∧ x.category = 2)) := by
  cases i with
  | zero =>
    rcases zset_at h with ⟨h1, h2⟩ | ⟨h1, h2⟩
    · exact Or.inl ⟨h1, Option.some.inj h2⟩
    · exact Or.inr ⟨h1, h2, fun q => by omega⟩
  | succ i =>
    have h : (cond (zlong (znth lo i)) ((lo.set i none).set (i + 1) (some v)) (lo.set (i + 1) (some v)))[j]? = some (some x) := h
    cases hz : zlong (znth lo i) with
    | true =>
      rw [hz] at h
      rcases zset_at h with ⟨h1, h2⟩ | ⟨h1, h2⟩
      · exact Or.inl ⟨h1, Option.some.inj h2⟩
      · rcases zset_at h2 with ⟨h3, h4⟩ | ⟨h3, h4⟩
        · cases h4
        · exact Or.inr ⟨h1, h4, fun q => h3 (by omega)⟩
    | false =>
      rw [hz] at h
      rcases zset_at h with ⟨h1, h2⟩ | ⟨h1, h2⟩
      · exact Or.inl ⟨h1, Option.some.inj h2⟩
      · refine Or.inr ⟨h1, h2, fun q => ?_⟩
        obtain ⟨q1, q2⟩ := q
        have hj : j = i := by omega
        subst hj
        rw [znth_eq, h2] at hz
        simp [zlong, q2] at hz
theorem zLo.st1 {ad : Nat → Option Nat} {ls' : Array Slot} {nL i : Nat} {lo : List (Option Value)} {lv : List (Nat × Value)} {v w : Value} (h2 : ∀ i v, lo[i]? = some (some v) → ∃ w, zv ad v w ∧ (i, w) ∈ lv) (hv : zv ad v w) (h : lv_has ls' nL ((i, w) :: lv.filter (fun q => !(q.1 == i) && !(q.1 + 1 == i && q.2.category == 2)))) : zLo ad ls' nL (zst1 lo i v) := by
  refine ⟨_, h, fun j x hj => ?_⟩
  rcases zst1_at hj with ⟨rfl, rfl⟩ | ⟨n1, h3, n2⟩
  · exact ⟨w, hv, List.mem_cons_self⟩
  · obtain ⟨y, h4, h5⟩ := h2 j x h3
    refine ⟨y, h4, List.mem_cons_of_mem _ (List.mem_filter.mpr ⟨h5, ?_⟩)⟩
    have hc := zv_cat h4
    simp only [Bool.and_eq_true, Bool.not_eq_true', beq_eq_false_iff_ne, ne_eq, Bool.and_eq_false_iff]
    refine ⟨n1, ?_⟩
    by_cases q : j + 1 = i
    · exact Or.inr (fun z => n2 ⟨q, by rw [← hc]; exact z⟩)
    · exact Or.inl q
theorem zLo.st2 {ad : Nat → Option Nat} {ls' : Array Slot} {nL i : Nat} {lo : List (Option Value)} {lv : List (Nat × Value)} {v w : Value} (h2 : ∀ i v, lo[i]? = some (some v) → ∃ w, zv ad v w ∧ (i, w) ∈ lv) (hv : zv ad v w) (h : lv_has ls' nL ((i, w) :: lv.filter (fun q => !(q.1 == i) && (!(q.1 == i + 1) && !(q.1 + 1 == i && q.2.category == 2))))) : zLo ad ls' nL (zst2 lo i v) := by
  refine ⟨_, h, fun j x hj => ?_⟩
  rcases zset_at hj with ⟨q1, q2⟩ | ⟨n0, hj⟩
  · cases q2
  · rcases zst1_at hj with ⟨rfl, rfl⟩ | ⟨n1, h3, n2⟩
    · exact ⟨w, hv, List.mem_cons_self⟩
    · obtain ⟨y, h4, h5⟩ := h2 j x h3
      refine ⟨y, h4, List.mem_cons_of_mem _ (List.mem_filter.mpr ⟨h5, ?_⟩)⟩
      have hc := zv_cat h4
      simp only [Bool.and_eq_true, Bool.not_eq_true', beq_eq_false_iff_ne, ne_eq, Bool.and_eq_false_iff]
      refine ⟨n1, n0, ?_⟩
      by_cases q : j + 1 = i
      · exact Or.inr (fun z => n2 ⟨q, by rw [← hc]; exact z⟩)
      · exact Or.inl q
theorem zargs_in {ad : Nat → Option Nat} : ∀ (as cas : List Value) (b : Nat), zF2 ad as cas → (∀ i v, (zargs as)[i]? = some (some v) → ∃ w, zv ad v w ∧ (b + i, w) ∈ lv_args b cas) ∧ (lg_sl cas).length = (zargs as).length
  | [], [], b, _ => ⟨fun i v h => by simp [zargs] at h, rfl⟩
  | v :: as, w :: cas, b, h => by
    obtain ⟨hv, h⟩ := h
    have hc := zv_cat hv
    have one : (∀ x, v ≠ .long x) → (∀ x, v ≠ .double x) → (∀ i x, (zargs (v :: as))[i]? = some (some x) → ∃ w', zv ad x w' ∧ (b + i, w') ∈ lv_args b (w :: cas)) ∧ (lg_sl (w :: cas)).length = (zargs (v :: as)).length := by
      intro n1 n2
      have e1 : zargs (v :: as) = some v :: zargs as := by
        cases v <;> first | rfl | exact absurd rfl (n1 _) | exact absurd rfl (n2 _)
      have e2 : w.category = 1 := by
        rw [hc]
        cases v <;> first | rfl | exact absurd rfl (n1 _) | exact absurd rfl (n2 _)
      obtain ⟨g1, g2⟩ := zargs_in as cas (b + 1) h
      have e3 : lv_args b (w :: cas) = (b, w) :: lv_args (b + 1) cas := by simp [lv_args, e2]
      rw [e1, e3]
      refine ⟨fun i x hi => ?_, ?_⟩
      · cases i with
        | zero =>
          simp at hi
          subst hi
          exact ⟨w, hv, List.mem_cons_self⟩
        | succ i =>
          simp at hi
          obtain ⟨y, h1, h2⟩ := g1 i x hi
          exact ⟨y, h1, List.mem_cons_of_mem _ (by rw [show b + (i + 1) = b + 1 + i by omega]; exact h2)⟩
      · have : lg_sl (w :: cas) = .val w :: lg_sl cas := by simp [lg_sl, e2]
        rw [this]
        simp [g2]
    cases v with
    | long x =>
      cases hv
      obtain ⟨g1, g2⟩ := zargs_in as cas (b + 2) h
      have e3 : lv_args b (.long x :: cas) = (b, .long x) :: lv_args (b + 2) cas := by simp [lv_args, Value.category]
      have e1 : zargs (.long x :: as) = some (.long x) :: none :: zargs as := rfl
      rw [e1, e3]
      refine ⟨fun i y hi => ?_, ?_⟩
      · match i, hi with
        | 0, hi =>
          simp at hi
          subst hi
          exact ⟨.long x, rfl, List.mem_cons_self⟩
        | 1, hi => simp at hi
        | i + 2, hi =>
          simp at hi
          obtain ⟨z, h1, h2⟩ := g1 i y hi
          exact ⟨z, h1, List.mem_cons_of_mem _ (by rw [show b + (i + 2) = b + 2 + i by omega]; exact h2)⟩
      · have : lg_sl (.long x :: cas) = .val (.long x) :: .second :: lg_sl cas := by simp [lg_sl, Value.category]
        rw [this]
        simp [g2]
    | double x =>
      cases hv
      obtain ⟨g1, g2⟩ := zargs_in as cas (b + 2) h
      have e3 : lv_args b (.double x :: cas) = (b, .double x) :: lv_args (b + 2) cas := by simp [lv_args, Value.category]
      have e1 : zargs (.double x :: as) = some (.double x) :: none :: zargs as := rfl
      rw [e1, e3]
      refine ⟨fun i y hi => ?_, ?_⟩
      · match i, hi with
        | 0, hi =>
          simp at hi
          subst hi
          exact ⟨.double x, rfl, List.mem_cons_self⟩
        | 1, hi => simp at hi
        | i + 2, hi =>
          simp at hi
          obtain ⟨z, h1, h2⟩ := g1 i y hi
          exact ⟨z, h1, List.mem_cons_of_mem _ (by rw [show b + (i + 2) = b + 2 + i by omega]; exact h2)⟩
      · have : lg_sl (.double x :: cas) = .val (.double x) :: .second :: lg_sl cas := by simp [lg_sl, Value.category]
        rw [this]
        simp [g2]
    | int x => exact one (fun _ q => by cases q) (fun _ q => by cases q)
    | float x => exact one (fun _ q => by cases q) (fun _ q => by cases q)
    | null => exact one (fun _ q => by cases q) (fun _ q => by cases q)
    | ref x => exact one (fun _ q => by cases q) (fun _ q => by cases q)
    | retAddr x => exact one (fun _ q => by cases q) (fun _ q => by cases q)
  | [], _ :: _, _, h => h.elim
  | _ :: _, [], _, h => h.elim
theorem zLo_entry {ad : Nat → Option Nat} {as cas : List Value} {n : Nat} (h : zF2 ad as cas) (hn : (zargs as).length ≤ n) : zLo ad ((lg_sl cas ++ List.replicate (n - (lg_sl cas).length) Slot.unset).toArray) n (zpad (zargs as) n) := by
  obtain ⟨h1, h2⟩ := zargs_in as cas 0 h
  refine ⟨lv_args 0 cas, lv_entry cas (by rw [h2]; exact hn), fun i v hi => ?_⟩
  unfold zpad at hi
  by_cases hl : i < (zargs as).length
  · rw [List.getElem?_append_left hl] at hi
    obtain ⟨w, h3, h4⟩ := h1 i v hi
    rw [Nat.zero_add] at h4
    exact ⟨w, h3, h4⟩
  · rw [List.getElem?_append_right (by omega), List.getElem?_replicate] at hi
    split at hi
    · cases hi
    · cases hi
