/-! one day more: sums by weekdays -/
def sumI (f : Nat → Int) : Nat → Int
  | 0 => 0
  | n + 1 => sumI f n + f n
def sumN (f : Nat → Nat) : Nat → Nat
  | 0 => 0
  | n + 1 => sumN f n + f n
def i7 (f : Nat → Int) : Int := f 0 + f 1 + f 2 + f 3 + f 4 + f 5 + f 6
theorem i7_upd {f g : Nat → Int} {j : Nat} (hj : j < 7) (h : ∀ i, i ≠ j → f i = g i) : i7 f + g j = i7 g + f j := by
  have h7 : j = 0 ∨ j = 1 ∨ j = 2 ∨ j = 3 ∨ j = 4 ∨ j = 5 ∨ j = 6 := by omega
  have e0 := h 0
  have e1 := h 1
  have e2 := h 2
  have e3 := h 3
  have e4 := h 4
  have e5 := h 5
  have e6 := h 6
  unfold i7
  rcases h7 with rfl | rfl | rfl | rfl | rfl | rfl | rfl <;> omega
/-- a span's days by their costs, in a mode -/
def dcF (w : Nat) (T H W : Int32) (nm am : Bool) (P x : Nat) : Nat := cond (P.testBit ((w + x) % 7)) (scF T H W nm am x) (bcF W am x)
def tcF (w : Nat) (T H W : Int32) (nm am : Bool) (d m P : Nat) : Nat := sumN (fun j => dcF w T H W nm am P (d + j)) m
def bsF (W : Int32) (am : Bool) (d m : Nat) : Nat := sumN (fun j => bcF W am (d + j)) m
/-- what weekday j changes -/
def bwF (w : Nat) (T H W : Int32) (nm am : Bool) (d m j : Nat) : Int := sumI (fun i => if (w + (d + i)) % 7 = j then (scF T H W nm am (d + i) : Int) - bcF W am (d + i) else 0) m
def chF (v : Nat → Int) (P : Nat) : Int := i7 (fun j => cond (P.testBit j) (v j) 0)
theorem bw_s (w : Nat) (T H W : Int32) (nm am : Bool) (d m j : Nat) : bwF w T H W nm am d (m + 1) j = bwF w T H W nm am d m j + (if (w + (d + m)) % 7 = j then (scF T H W nm am (d + m) : Int) - bcF W am (d + m) else 0) := rfl
theorem tc_eq (w : Nat) (T H W : Int32) (nm am : Bool) (d P : Nat) : ∀ m, (tcF w T H W nm am d m P : Int) = bsF W am d m + chF (bwF w T H W nm am d m) P
  | 0 => by
    unfold chF i7 bwF tcF bsF
    simp only [sumI, sumN, Bool.cond_self]
    rfl
  | m + 1 => by
    have ih := tc_eq w T H W nm am d P m
    have hj : (w + (d + m)) % 7 < 7 := Nat.mod_lt _ (by decide)
    have hu := i7_upd (f := fun j => cond (P.testBit j) (bwF w T H W nm am d (m + 1) j) 0) (g := fun j => cond (P.testBit j) (bwF w T H W nm am d m j) 0) hj (fun i hi => by
      show cond _ _ _ = cond _ _ _
      rw [bw_s, if_neg (fun q => hi q.symm), Int.add_zero])
    have e1 := bw_s w T H W nm am d m ((w + (d + m)) % 7)
    rw [if_pos rfl] at e1
    have a1 : tcF w T H W nm am d (m + 1) P = tcF w T H W nm am d m P + dcF w T H W nm am P (d + m) := rfl
    have a2 : bsF W am d (m + 1) = bsF W am d m + bcF W am (d + m) := rfl
    have a3 : chF (bwF w T H W nm am d (m + 1)) P = i7 (fun j => cond (P.testBit j) (bwF w T H W nm am d (m + 1) j) 0) := rfl
    have a4 : chF (bwF w T H W nm am d m) P = i7 (fun j => cond (P.testBit j) (bwF w T H W nm am d m j) 0) := rfl
    have a5 : dcF w T H W nm am P (d + m) = cond (P.testBit ((w + (d + m)) % 7)) (scF T H W nm am (d + m)) (bcF W am (d + m)) := rfl
    cases hp : P.testBit ((w + (d + m)) % 7) <;> simp only [hp, cond_true, cond_false] at hu a5 <;> omega
theorem tc_le (w : Nat) (T H W : Int32) (nm am : Bool) (d P : Nat) : ∀ m, tcF w T H W nm am d m P ≤ 1000 * m
  | 0 => Nat.le_refl 0
  | m + 1 => by
    have ih := tc_le w T H W nm am d P m
    have h : dcF w T H W nm am P (d + m) ≤ 1000 := by
      unfold dcF
      cases P.testBit ((w + (d + m)) % 7)
      · exact bcF_le W am (d + m)
      · exact scF_le T H W nm am (d + m)
    show tcF w T H W nm am d m P + dcF w T H W nm am P (d + m) ≤ _
    omega
theorem bs_le (W : Int32) (am : Bool) (d : Nat) : ∀ m, bsF W am d m ≤ 1000 * m
  | 0 => Nat.le_refl 0
  | m + 1 => by
    have ih := bs_le W am d m
    have h := bcF_le W am (d + m)
    show bsF W am d m + bcF W am (d + m) ≤ _
    omega
/-- the costs of a mode against those of the words -/
theorem tc_oc {w : Nat} {T H W : Int32} (hw : WT T W) (nm am : Bool) (d P : Nat) : ∀ m, tcF w T H W nm am d m P = cnt (fun j => outF w T H P (d + j)) m * cond nm 1 1000 + cnt (fun j => morF w H W P (d + j)) m * cond am 1 1000
  | 0 => by
    show 0 = 0 * _ + 0 * _
    rw [Nat.zero_mul, Nat.zero_mul]
  | m + 1 => by
    have ih := tc_oc (w := w) (H := H) hw nm am d P m
    have hwt := hw (d + m)
    have a1 : tcF w T H W nm am d (m + 1) P = tcF w T H W nm am d m P + dcF w T H W nm am P (d + m) := rfl
    have a3 : cnt (fun j => outF w T H P (d + j)) (m + 1) = cnt (fun j => outF w T H P (d + j)) m + (outF w T H P (d + m)).toNat := rfl
    have a4 : cnt (fun j => morF w H W P (d + j)) (m + 1) = cnt (fun j => morF w H W P (d + j)) m + (morF w H W P (d + m)).toNat := rfl
    have key : dcF w T H W nm am P (d + m) = (outF w T H P (d + m)).toNat * cond nm 1 1000 + (morF w H W P (d + m)).toNat * cond am 1 1000 := by
      unfold dcF scF bcF outF morF
      cases P.testBit ((w + (d + m)) % 7) <;> cases h1 : bt H (d + m) <;> cases h2 : bt T (d + m) <;> cases h3 : bt W (d + m) <;> first | (rw [h3, h2] at hwt; exact absurd (hwt rfl) (by decide)) | (cases nm <;> cases am <;> rfl)
    rw [a1, a3, a4, key, ih, Nat.add_mul, Nat.add_mul]
    omega
/-- the lowest weekday of a set -/
def lwb (s : Nat) : Nat := if s.testBit 0 then 0 else if s.testBit 1 then 1 else if s.testBit 2 then 2 else if s.testBit 3 then 3 else if s.testBit 4 then 4 else if s.testBit 5 then 5 else 6
theorem lwb_ok : ∀ s, s < 128 → s ≠ 0 → lwb s < 7 ∧ s.testBit (lwb s) = true ∧ s &&& (s - 1) < s ∧ (s &&& (s - 1)).testBit (lwb s) = false := by decide +kernel
theorem lwb_low : ∀ s, s < 128 → s ≠ 0 → ∀ i, i < 7 → (i < lwb s → s.testBit i = false) ∧ (i ≠ lwb s → (s &&& (s - 1)).testBit i = s.testBit i) := by decide +kernel
theorem ch_low (v : Nat → Int) {s : Nat} (hs : s < 128) (h0 : s ≠ 0) : chF v s = chF v (s &&& (s - 1)) + v (lwb s) := by
  obtain ⟨h1, h2, h3, h4⟩ := lwb_ok s hs h0
  have hu := i7_upd (f := fun j => cond (s.testBit j) (v j) 0) (g := fun j => cond ((s &&& (s - 1)).testBit j) (v j) 0) h1 (fun i hi => by
    by_cases hi7 : i < 7
    · show cond _ _ _ = cond _ _ _
      rw [(lwb_low s hs h0 i hi7).2 hi]
    · show cond _ _ _ = cond _ _ _
      have hp : 2 ^ 7 ≤ 2 ^ i := Nat.pow_le_pow_right (by decide) (by omega)
      rw [Nat.testBit_lt_two_pow (show s < 2 ^ i by omega), Nat.testBit_lt_two_pow (show s &&& (s - 1) < 2 ^ i by omega)])
  simp only [h2, h4, cond_true, cond_false] at hu
  unfold chF
  omega
theorem j_ntz7 (h : zH) {s : Nat} (hs : s < 128) (h0 : s ≠ 0) : zcall zZ nJ6_numberOfTrailingZeros_0f7a4 [.int (nI s)] h = some (some (.int (nI (lwb s))), h) := by
  obtain ⟨h1, h2, h3, h4⟩ := lwb_ok s hs h0
  refine j_ntz h (by omega) (by rw [bt_nI (by omega)]; exact h2) (fun i hi => ?_)
  rw [bt_nI (by omega)]
  exact (lwb_low s hs h0 i (by omega)).1 hi
theorem change_loop {x1 x2 x3 x4 : Int32} {L : zL} {v : Nat → Int} (hv : ∀ j, j < 7 → -30000 ≤ v j ∧ v j ≤ 30000) : ∀ r s (I : zI), s + r = 128 → 1 ≤ s → (∀ j, j < 7 → I 61 j = iz (v j)) → (∀ P, P < s → I 60 P = iz (chF v P)) → ∃ J, zrun zZ kX10_goesOn (65, [some (.ref 52), some (.int x1), some (.int x2), some (.int x3), some (.int x4), some (.int (nI s)), none], [], hp I L, 0, 0) = zrun zZ kX10_goesOn (65, [some (.ref 52), some (.int x1), some (.int x2), some (.int x3), some (.int x4), some (.int (nI 128)), none], [], hp J L, 0, 0) ∧ (∀ P, P < 128 → J 60 P = iz (chF v P)) ∧ (∀ x y, x ≠ 60 → J x y = I x y)
  | 0, s, I, h, _, _, h0 => by
    obtain rfl : s = 128 := h
    exact ⟨I, rfl, h0, fun _ _ _ => rfl⟩
  | r + 1, s, I, h, h1, h61, h0 => by
    have hs : s < 128 := by omega
    obtain ⟨l1, l2, l3, l4⟩ := lwb_ok s hs (by omega)
    obtain ⟨J, g1, g2, g3⟩ := change_loop (x1 := x1) (x2 := x2) (x3 := x3) (x4 := x4) (L := L) hv r (s + 1) (zup I 60 s (iz (chF v s))) (by omega) (by omega) (fun j hj => by rw [zu_cell (by omega)]; exact h61 j hj) (fun P hP => by
      by_cases q : P = s
      · rw [q, zu_same]
      · rw [zu_at q]
        exact h0 P (by omega))
    refine ⟨J, ?_, g2, fun x y hx => by rw [g3 x y hx, zu_cell hx]⟩
    refine Eq.trans ?_ g1
    rw [e_X10_goesOn_65]
    simp (disch := omega) only [e_X10_goesOn_78, j_ntz7, q_sub, nx_and, h61 _ l1, h0 _ l3, iz_add, ← ch_low v hs (show s ≠ 0 by omega), Option.bind_some, Option.toList_some, Option.toList_none, List.cons_append, List.nil_append, Option.map_some, cond_true, cond_false, Bool.not_true, Bool.not_false, Bool.true_and, Bool.and_true, Bool.false_and, Bool.and_false, Bool.true_or, Bool.or_true, Bool.false_or, Bool.or_false, Bool.not_not, decide_true, decide_false, Bool.decide_eq_true, Bool.decide_eq_false, qz_0, qz_1, qz_n, qz_n0, qz_n1, qz_t, qz_f, Nat.reduceAdd, q1000000, q0, q1, q2, q3, q4, q5, q6, q7, q8, q9, q10, q11, q12, q13, q14, q15, q16, q18, q19, q20, q21, q22, q23, q24, q25, q26, q27, q28, q29, q30, q31, q32, q38, q44, q45, q48, q57, q58, q59, q60, q63, q64, q97, q122, q126, q127, q128, q255, q256, q300, q580, q600, q1000, nI_add, q_lt_t, q_lt_f, q_eq_t, q_eq_f, q_clamp, q_in_t, q_in_f]
theorem zero7_loop {x1 x2 x4 : Int32} {L : zL} : ∀ r s (I : zI), s + r = 7 → (∀ j, j < s → I 61 j = nI 0) → ∃ J, zrun zZ kX10_goesOn (3, [some (.ref 52), some (.int x1), some (.int x2), some (.int x2), some (.int x4), some (.int (nI s)), none], [], hp I L, 0, 0) = zrun zZ kX10_goesOn (29, [some (.ref 52), some (.int x1), some (.int x2), some (.int x2), some (.int x4), none, none], [], hp J L, 0, 0) ∧ (∀ j, j < 7 → J 61 j = nI 0) ∧ (∀ x y, x ≠ 61 → J x y = I x y)
  | 0, s, I, h, h0 => by
    obtain rfl : s = 7 := h
    refine ⟨I, ?_, h0, fun _ _ _ => rfl⟩
    rw [e_X10_goesOn_3]
    simp (disch := omega) only [Option.bind_some, Option.toList_some, Option.toList_none, List.cons_append, List.nil_append, Option.map_some, cond_true, cond_false, Bool.not_true, Bool.not_false, Bool.true_and, Bool.and_true, Bool.false_and, Bool.and_false, Bool.true_or, Bool.or_true, Bool.false_or, Bool.or_false, Bool.not_not, decide_true, decide_false, Bool.decide_eq_true, Bool.decide_eq_false, qz_0, qz_1, qz_n, qz_n0, qz_n1, qz_t, qz_f, Nat.reduceAdd, q1000000, q0, q1, q2, q3, q4, q5, q6, q7, q8, q9, q10, q11, q12, q13, q14, q15, q16, q18, q19, q20, q21, q22, q23, q24, q25, q26, q27, q28, q29, q30, q31, q32, q38, q44, q45, q48, q57, q58, q59, q60, q63, q64, q97, q122, q126, q127, q128, q255, q256, q300, q580, q600, q1000, nI_add, q_lt_t, q_lt_f, q_eq_t, q_eq_f, q_clamp, q_in_t, q_in_f]
  | r + 1, s, I, h, h0 => by
    obtain ⟨J, g1, g2, g3⟩ := zero7_loop (x1 := x1) (x2 := x2) (x4 := x4) (L := L) r (s + 1) (zup I 61 s (nI 0)) (by omega) (fun j hj => by
      by_cases q : j = s
      · rw [q, zu_same]
      · rw [zu_at q]
        exact h0 j (by omega))
    refine ⟨J, ?_, g2, fun x y hx => by rw [g3 x y hx, zu_cell hx]⟩
    refine Eq.trans ?_ g1
    rw [e_X10_goesOn_3]
    simp (disch := omega) only [Option.bind_some, Option.toList_some, Option.toList_none, List.cons_append, List.nil_append, Option.map_some, cond_true, cond_false, Bool.not_true, Bool.not_false, Bool.true_and, Bool.and_true, Bool.false_and, Bool.and_false, Bool.true_or, Bool.or_true, Bool.false_or, Bool.or_false, Bool.not_not, decide_true, decide_false, Bool.decide_eq_true, Bool.decide_eq_false, qz_0, qz_1, qz_n, qz_n0, qz_n1, qz_t, qz_f, Nat.reduceAdd, q1000000, q0, q1, q2, q3, q4, q5, q6, q7, q8, q9, q10, q11, q12, q13, q14, q15, q16, q18, q19, q20, q21, q22, q23, q24, q25, q26, q27, q28, q29, q30, q31, q32, q38, q44, q45, q48, q57, q58, q59, q60, q63, q64, q97, q122, q126, q127, q128, q255, q256, q300, q580, q600, q1000, nI_add, q_lt_t, q_lt_f, q_eq_t, q_eq_f, q_clamp, q_in_t, q_in_f]
/-- cell 61 bears what the weekdays change -/
def BW (I : zI) (w : Nat) (T H W : Int32) (nm am : Bool) (d m : Nat) : Prop := ∀ j, j < 7 → I 61 j = iz (bwF w T H W nm am d m j)
theorem bw_le (w : Nat) (T H W : Int32) (nm am : Bool) (d j : Nat) : ∀ m : Nat, -(1000 * (m : Int)) ≤ bwF w T H W nm am d m j ∧ bwF w T H W nm am d m j ≤ 1000 * (m : Int)
  | 0 => by
    show -(1000 * ((0 : Nat) : Int)) ≤ 0 ∧ (0 : Int) ≤ 1000 * ((0 : Nat) : Int)
    omega
  | m + 1 => by
    have ih := bw_le w T H W nm am d j m
    have h1 := scF_le T H W nm am (d + m)
    have h2 := bcF_le W am (d + m)
    rw [bw_s]
    split <;> omega
theorem s_goesOn {I : zI} {L : zL} {N w F : Nat} {T : Int32} {fd : Nat → Int32} {nf af : Nat} (hM : MS I N w F T fd nf af) {mo d m : Nat} (hmo : mo < 4) (hd : d + m < N) {x4 : Int32} (hx : x4 = nI (bsF (waS fd F T af) (mo.testBit 1) d m) ∨ m = 0) (hB : m = 0 ∨ BW I w T (fdF fd nf F) (waS fd F T af) (mo.testBit 0) (mo.testBit 1) d m) : ∃ J, zcall zZ nX10_goesOn [.ref 52, .int (nI mo), .int (nI d), .int (nI (d + m)), .int x4] (hp I L) = some (some (.int (nI (bsF (waS fd F T af) (mo.testBit 1) d (m + 1)))), hp J L) ∧ BW J w T (fdF fd nf F) (waS fd F T af) (mo.testBit 0) (mo.testBit 1) d (m + 1) ∧ (∀ P, P < 128 → J 60 P = iz (chF (bwF w T (fdF fd nf F) (waS fd F T af) (mo.testBit 0) (mo.testBit 1) d (m + 1)) P)) ∧ (∀ x y, x ≠ 60 → x ≠ 61 → J x y = I x y) := by
  obtain ⟨⟨hN, hw, hF, hnf, haf⟩, ⟨h0, h1, h2, hfd⟩, -, -⟩ := id hM
  have hj : (w + (d + m)) % 7 < 7 := Nat.mod_lt _ (by decide)
  -- the start
  have start : ∃ J0, zrun zZ kX10_goesOn (3, [some (.ref 52), some (.int (nI mo)), some (.int (nI d)), some (.int (nI (d + m))), some (.int x4), some (.int (nI 0)), none], [], hp I L, 0, 0) = zrun zZ kX10_goesOn (29, [some (.ref 52), some (.int (nI mo)), some (.int (nI d)), some (.int (nI (d + m))), some (.int x4), none, none], [], hp J0 L, 0, 0) ∧ BW J0 w T (fdF fd nf F) (waS fd F T af) (mo.testBit 0) (mo.testBit 1) d m ∧ (∀ x y, x ≠ 61 → J0 x y = I x y) := by
    by_cases q : m = 0
    · subst q
      obtain ⟨J0, g1, g2, g3⟩ := zero7_loop (x1 := nI mo) (x2 := nI d) (x4 := x4) (L := L) 7 0 I (by omega) (fun j hj => by omega)
      refine ⟨J0, g1, fun j hj => ?_, g3⟩
      rw [g2 j hj]
      rfl
    · refine ⟨I, ?_, hB.resolve_left q, fun _ _ _ => rfl⟩
      rw [e_X10_goesOn_3]
      simp (disch := omega) only [Option.bind_some, Option.toList_some, Option.toList_none, List.cons_append, List.nil_append, Option.map_some, cond_true, cond_false, Bool.not_true, Bool.not_false, Bool.true_and, Bool.and_true, Bool.false_and, Bool.and_false, Bool.true_or, Bool.or_true, Bool.false_or, Bool.or_false, Bool.not_not, decide_true, decide_false, Bool.decide_eq_true, Bool.decide_eq_false, qz_0, qz_1, qz_n, qz_n0, qz_n1, qz_t, qz_f, Nat.reduceAdd, q1000000, q0, q1, q2, q3, q4, q5, q6, q7, q8, q9, q10, q11, q12, q13, q14, q15, q16, q18, q19, q20, q21, q22, q23, q24, q25, q26, q27, q28, q29, q30, q31, q32, q38, q44, q45, q48, q57, q58, q59, q60, q63, q64, q97, q122, q126, q127, q128, q255, q256, q300, q580, q600, q1000, nI_add, q_lt_t, q_lt_f, q_eq_t, q_eq_f, q_clamp, q_in_t, q_in_f]
  obtain ⟨J0, k1, k2, k3⟩ := start
  have hM0 : MS J0 N w F T fd nf af := hM.cg (fun y => k3 _ _ (by omega)) (fun y _ => k3 _ _ (by omega)) (fun y => k3 _ _ (by omega))
  have hwk : zcall zZ nX10_weekdayOf [.ref 52, .int (nI (d + m))] (hp J0 L) = some (some (.int (nI ((w + (d + m)) % 7))), hp J0 L) := s_MweekdayOf hM0.2.1.2.1 (by omega)
  have hsc := s_spanC (L := L) hM0 hmo (show d + m < 32 by omega)
  have hbc := s_bare (L := L) hM0 hmo (show d + m < 32 by omega)
  have l1 := scF_le T (fdF fd nf F) (waS fd F T af) (mo.testBit 0) (mo.testBit 1) (d + m)
  have l2 := bcF_le (waS fd F T af) (mo.testBit 1) (d + m)
  have lb := fun j mm => bw_le w T (fdF fd nf F) (waS fd F T af) (mo.testBit 0) (mo.testBit 1) d j mm
  have hBW1 : BW (zup (zup J0 61 ((w + (d + m)) % 7) (iz (bwF w T (fdF fd nf F) (waS fd F T af) (mo.testBit 0) (mo.testBit 1) d (m + 1) ((w + (d + m)) % 7)))) 60 0 (nI 0)) w T (fdF fd nf F) (waS fd F T af) (mo.testBit 0) (mo.testBit 1) d (m + 1) := fun j hj7 => by
    rw [zu_cell (by omega)]
    by_cases q : j = (w + (d + m)) % 7
    · rw [q, zu_same]
    · rw [zu_at q, k2 j hj7, bw_s, if_neg (fun z => q z.symm), Int.add_zero]
  obtain ⟨J, c1, c2, c3⟩ := change_loop (x1 := nI mo) (x2 := nI d) (x3 := nI (d + m)) (x4 := x4) (L := L) (v := bwF w T (fdF fd nf F) (waS fd F T af) (mo.testBit 0) (mo.testBit 1) d (m + 1)) (fun j _ => by have := lb j (m + 1); omega) 127 1 _ (by omega) (by omega) hBW1 (fun P hP => by
    obtain rfl : P = 0 := by omega
    rw [zu_same]
    rfl)
  have cg : ∀ x y, x ≠ 60 → x ≠ 61 → J x y = I x y := fun x y p1 p2 => by rw [c3 x y p1, zu_cell p1, zu_cell p2, k3 x y p2]
  have hMJ : MS J N w F T fd nf af := hM.cg (fun y => cg _ _ (by omega) (by omega)) (fun y _ => cg _ _ (by omega) (by omega)) (fun y => cg _ _ (by omega) (by omega))
  have hbcJ := s_bare (L := L) hMJ hmo (show d + m < 32 by omega)
  have hbs : bsF (waS fd F T af) (mo.testBit 1) d (m + 1) = bsF (waS fd F T af) (mo.testBit 1) d m + bcF (waS fd F T af) (mo.testBit 1) (d + m) := rfl
  have hlb := bs_le (waS fd F T af) (mo.testBit 1) d m
  refine ⟨J, ?_, fun j hj7 => by rw [c3 61 j (by omega)]; exact hBW1 j hj7, c2, cg⟩
  have ev : iz (bwF w T (fdF fd nf F) (waS fd F T af) (mo.testBit 0) (mo.testBit 1) d m ((w + (d + m)) % 7)) + (nI (scF T (fdF fd nf F) (waS fd F T af) (mo.testBit 0) (mo.testBit 1) (d + m)) - nI (bcF (waS fd F T af) (mo.testBit 1) (d + m))) = iz (bwF w T (fdF fd nf F) (waS fd F T af) (mo.testBit 0) (mo.testBit 1) d (m + 1) ((w + (d + m)) % 7)) := by
    rw [nI_subz, iz_add, bw_s, if_pos rfl]
  have hstart : zcall zZ nX10_goesOn [.ref 52, .int (nI mo), .int (nI d), .int (nI (d + m)), .int x4] (hp I L) = (zrun zZ kX10_goesOn (65, [some (.ref 52), some (.int (nI mo)), some (.int (nI d)), some (.int (nI (d + m))), some (.int x4), some (.int (nI 128)), none], [], hp J L, 0, 0)).map (fun r => (r.1, r.2.1)) := by
    rw [c_X10_goesOn, e_X10_goesOn_0, q0, k1, e_X10_goesOn_29]
    simp (disch := omega) only [e_X10_goesOn_38, e_X10_goesOn_46, e_X10_goesOn_52, hwk, hsc, hbc, k2 _ hj, ev, Option.bind_some, Option.toList_some, Option.toList_none, List.cons_append, List.nil_append, Option.map_some, cond_true, cond_false, Bool.not_true, Bool.not_false, Bool.true_and, Bool.and_true, Bool.false_and, Bool.and_false, Bool.true_or, Bool.or_true, Bool.false_or, Bool.or_false, Bool.not_not, decide_true, decide_false, Bool.decide_eq_true, Bool.decide_eq_false, qz_0, qz_1, qz_n, qz_n0, qz_n1, qz_t, qz_f, Nat.reduceAdd, q1000000, q0, q1, q2, q3, q4, q5, q6, q7, q8, q9, q10, q11, q12, q13, q14, q15, q16, q18, q19, q20, q21, q22, q23, q24, q25, q26, q27, q28, q29, q30, q31, q32, q38, q44, q45, q48, q57, q58, q59, q60, q63, q64, q97, q122, q126, q127, q128, q255, q256, q300, q580, q600, q1000, nI_add, q_lt_t, q_lt_f, q_eq_t, q_eq_f, q_clamp, q_in_t, q_in_f]
    rw [c1]
  rw [hstart, e_X10_goesOn_65]
  by_cases q : m = 0
  · subst q
    simp (disch := omega) only [e_X10_goesOn_124, e_X10_goesOn_130, hbcJ, hbs, Option.bind_some, Option.toList_some, Option.toList_none, List.cons_append, List.nil_append, Option.map_some, cond_true, cond_false, Bool.not_true, Bool.not_false, Bool.true_and, Bool.and_true, Bool.false_and, Bool.and_false, Bool.true_or, Bool.or_true, Bool.false_or, Bool.or_false, Bool.not_not, decide_true, decide_false, Bool.decide_eq_true, Bool.decide_eq_false, qz_0, qz_1, qz_n, qz_n0, qz_n1, qz_t, qz_f, Nat.reduceAdd, q1000000, q0, q1, q2, q3, q4, q5, q6, q7, q8, q9, q10, q11, q12, q13, q14, q15, q16, q18, q19, q20, q21, q22, q23, q24, q25, q26, q27, q28, q29, q30, q31, q32, q38, q44, q45, q48, q57, q58, q59, q60, q63, q64, q97, q122, q126, q127, q128, q255, q256, q300, q580, q600, q1000, nI_add, q_lt_t, q_lt_f, q_eq_t, q_eq_f, q_clamp, q_in_t, q_in_f, show bsF (waS fd F T af) (mo.testBit 1) d 0 = 0 from rfl]
  · have hx4 := hx.resolve_right q
    rw [hx4]
    simp (disch := omega) only [e_X10_goesOn_124, e_X10_goesOn_130, hbcJ, hbs, Option.bind_some, Option.toList_some, Option.toList_none, List.cons_append, List.nil_append, Option.map_some, cond_true, cond_false, Bool.not_true, Bool.not_false, Bool.true_and, Bool.and_true, Bool.false_and, Bool.and_false, Bool.true_or, Bool.or_true, Bool.false_or, Bool.or_false, Bool.not_not, decide_true, decide_false, Bool.decide_eq_true, Bool.decide_eq_false, qz_0, qz_1, qz_n, qz_n0, qz_n1, qz_t, qz_f, Nat.reduceAdd, q1000000, q0, q1, q2, q3, q4, q5, q6, q7, q8, q9, q10, q11, q12, q13, q14, q15, q16, q18, q19, q20, q21, q22, q23, q24, q25, q26, q27, q28, q29, q30, q31, q32, q38, q44, q45, q48, q57, q58, q59, q60, q63, q64, q97, q122, q126, q127, q128, q255, q256, q300, q580, q600, q1000, nI_add, q_lt_t, q_lt_f, q_eq_t, q_eq_f, q_clamp, q_in_t, q_in_f]
