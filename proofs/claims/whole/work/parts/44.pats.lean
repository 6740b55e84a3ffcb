/-! numbers with a sign -/
def iz (z : Int) : Int32 := Int32.ofInt z
theorem iz_nI (n : Nat) : nI n = iz (n : Int) := Int32.ofInt_eq_ofNat.symm
theorem iz_toInt {z : Int} (h1 : -1000000 ≤ z) (h2 : z ≤ 1000000) : (iz z).toInt = z := Int32.toInt_ofInt_of_le (by omega) (by omega)
theorem iz_add (a b : Int) : iz a + iz b = iz (a + b) := (Int32.ofInt_add a b).symm
theorem iz_sub (a b : Int) : iz a - iz b = iz (a - b) := (Int32.ofInt_sub a b).symm
theorem iz_lt {a b : Int} (h1 : -1000000 ≤ a) (h2 : a ≤ 1000000) (h3 : -1000000 ≤ b) (h4 : b ≤ 1000000) : (iz a < iz b) = (a < b) := by
  rw [Int32.lt_iff_toInt_lt, iz_toInt h1 h2, iz_toInt h3 h4]
theorem iz_eq {a b : Int} (h1 : -1000000 ≤ a) (h2 : a ≤ 1000000) (h3 : -1000000 ≤ b) (h4 : b ≤ 1000000) : (iz a = iz b) = (a = b) := by
  apply propext
  constructor
  · intro h
    rw [← iz_toInt h1 h2, ← iz_toInt h3 h4, h]
  · intro h
    rw [h]
/-- an iz against an nI -/
theorem iz_ltn {a : Int} {n : Nat} (h1 : -1000000 ≤ a) (h2 : a ≤ 1000000) (h3 : n ≤ 1000000) : (iz a < nI n) = (a < (n : Int)) := by
  rw [iz_nI, iz_lt h1 h2 (by omega) (by omega)]
theorem iz_nlt {a : Int} {n : Nat} (h1 : -1000000 ≤ a) (h2 : a ≤ 1000000) (h3 : n ≤ 1000000) : (nI n < iz a) = ((n : Int) < a) := by
  rw [iz_nI, iz_lt (by omega) (by omega) h1 h2]
/-! sums one by one -/
def gq (h : Nat → GF) : Nat → GF
  | 0 => g0
  | n + 1 => gadd (gq h n) (h n)
theorem gq_shift (h : Nat → GF) : ∀ n, gadd (h 0) (gq (fun i => h (i + 1)) n) = gq h (n + 1)
  | 0 => by
    show gadd (h 0) g0 = gadd g0 (h 0)
    rw [gadd_0, g0_add]
  | n + 1 => by
    show gadd (h 0) (gadd (gq (fun i => h (i + 1)) n) (h (n + 1))) = gadd (gq h (n + 1)) (h (n + 1))
    rw [← gadd_assoc, gq_shift h n]
theorem gsum_gq (F : Nat → GF) : ∀ l : List Nat, gsum F l = gq (fun i => F (l.getD i 0)) l.length
  | [] => rfl
  | a :: l => by
    show gadd (F a) (gsum F l) = gq (fun i => F ((a :: l).getD i 0)) (l.length + 1)
    rw [gsum_gq F l, ← gq_shift]
    rfl
theorem gq_congr {h k : Nat → GF} : ∀ n, (∀ i, i < n → h i = k i) → gq h n = gq k n
  | 0, _ => rfl
  | n + 1, q => by
    show gadd (gq h n) (h n) = gadd (gq k n) (k n)
    rw [gq_congr n (fun i hi => q i (by omega)), q n (by omega)]
theorem gsum_range (F : Nat → GF) (n : Nat) : gsum F (List.range n) = gq F n := by
  rw [gsum_gq, List.length_range]
  refine gq_congr n (fun i hi => ?_)
  rw [List.getD_eq_getElem?_getD, List.getElem?_range hi]
  rfl
theorem gq_ordl (F : Nat → GF) : gq (fun i => F (odP i)) 127 = gsum F pats := by
  rw [← gsum_perm F ordl_perm, gsum_gq, ordl_len]
  rfl
theorem DOM_gq {F G : Nat → GF} : ∀ n, (∀ a, a < n → DOM (F a) (G a)) → DOM (gq F n) (gq G n)
  | 0, _ => DOM_refl _
  | n + 1, h => DOM_gadd (DOM_gq n (fun a ha => h a (by omega))) (h n (by omega))
theorem CL_skip {I : zI} {L : zL} {a j K : Nat} {g h : GF} (c : CL I L a j g K) (hh : ∀ c, c ≤ K → h c = 0) : CL I L a j (gadd g h) K := by
  obtain ⟨k, n, c1, c2, c3, c4⟩ := c
  exact ⟨k, n, c1, c2, c3, MW_no c4 (fun c hc => hh c (by omega))⟩
theorem CL_cg {I : zI} {L : zL} {a j K : Nat} {g h : GF} (c : CL I L a j g K) (e : g = h) : CL I L a j h K := e ▸ c
/-! the finder as it is prepared -/
def KC (I : zI) : Prop := (∀ P, 1 ≤ P → P < 128 → I 31 P = nI (pT P)) ∧ (∀ i, i < 127 → I 32 i = nI (odP i)) ∧ (∀ t, 1 ≤ t → t < 7 → I 33 t = nI (chp t))
def FS (I : zI) (N w : Nat) (T H W : Int32) (st : Nat) : Prop := (N ≤ 28 ∧ w < 7 ∧ st < 4 ∧ WT T W) ∧ (I 11 6 = nI N ∧ I 11 7 = nI w ∧ (∀ P, P < 128 → I 12 P = pds N w P) ∧ KC I) ∧ (I 25 8 = T ∧ I 25 9 = H ∧ I 25 10 = W ∧ I 25 11 = nI st)
theorem KC.cg {I J : zI} (h : KC I) (h1 : ∀ b, J 31 b = I 31 b) (h2 : ∀ b, J 32 b = I 32 b) (h3 : ∀ b, J 33 b = I 33 b) : KC J := ⟨fun P p q => (h1 P).trans (h.1 P p q), fun i p => (h2 i).trans (h.2.1 i p), fun t p q => (h3 t).trans (h.2.2 t p q)⟩
theorem FS.cg {I J : zI} {N w : Nat} {T H W : Int32} {st : Nat} (h : FS I N w T H W st) (hc : ∀ a b, a < 35 → J a b = I a b) : FS J N w T H W st := by
  obtain ⟨h1, ⟨h2, h3, h4, h5⟩, h6, h7, h8, h9⟩ := h
  exact ⟨h1, ⟨(hc _ _ (by omega)).trans h2, (hc _ _ (by omega)).trans h3, fun P hP => (hc _ _ (by omega)).trans (h4 P hP), h5.cg (fun b => hc _ _ (by omega)) (fun b => hc _ _ (by omega)) (fun b => hc _ _ (by omega))⟩, (hc _ _ (by omega)).trans h6, (hc _ _ (by omega)).trans h7, (hc _ _ (by omega)).trans h8, (hc _ _ (by omega)).trans h9⟩
theorem s_bounds {I : zI} {L : zL} {N : Nat} (hN : N ≤ 28) (h6 : I 11 6 = nI N) {f i : Nat} (hf : f + i < N) : zcall zZ nX2_tokensOfBounds [.ref 25, .int (nI f), .int (nI (f + i))] (hp I L) = some (some (.int (nI (enF N f i))), hp I L) := by
  unfold enF
  by_cases q1' : 0 < f
  · by_cases q2' : f + i + 1 < N
    · rw [if_pos q1', if_pos q2']
      simp (disch := omega) only [c_X2_tokensOfBounds, e_X2_tokensOfBounds_0, e_X2_tokensOfBounds_9, e_X2_tokensOfBounds_27, h6, q_sub, Option.bind_some, Option.toList_some, Option.toList_none, List.cons_append, List.nil_append, Option.map_some, cond_true, cond_false, Bool.not_true, Bool.not_false, Bool.true_and, Bool.and_true, Bool.false_and, Bool.and_false, Bool.true_or, Bool.or_true, Bool.false_or, Bool.or_false, Bool.not_not, decide_true, decide_false, Bool.decide_eq_true, Bool.decide_eq_false, qz_0, qz_1, qz_n, qz_n0, qz_n1, qz_t, qz_f, Nat.reduceAdd, q0, q1, q2, q3, q4, q5, q6, q7, q8, q9, q10, q11, q12, q13, q14, q15, q16, q18, q19, q20, q21, q22, q23, q24, q25, q26, q27, q28, q29, q30, q31, q32, q38, q44, q45, q48, q57, q58, q59, q60, q63, q64, q97, q122, q126, q127, q128, q255, q256, q300, q580, q600, q1000, nI_add, q_lt_t, q_lt_f, q_eq_t, q_eq_f, q_clamp, q_in_t, q_in_f]
    · rw [if_pos q1', if_neg q2']
      simp (disch := omega) only [c_X2_tokensOfBounds, e_X2_tokensOfBounds_0, e_X2_tokensOfBounds_9, e_X2_tokensOfBounds_27, h6, q_sub, Option.bind_some, Option.toList_some, Option.toList_none, List.cons_append, List.nil_append, Option.map_some, cond_true, cond_false, Bool.not_true, Bool.not_false, Bool.true_and, Bool.and_true, Bool.false_and, Bool.and_false, Bool.true_or, Bool.or_true, Bool.false_or, Bool.or_false, Bool.not_not, decide_true, decide_false, Bool.decide_eq_true, Bool.decide_eq_false, qz_0, qz_1, qz_n, qz_n0, qz_n1, qz_t, qz_f, Nat.reduceAdd, q0, q1, q2, q3, q4, q5, q6, q7, q8, q9, q10, q11, q12, q13, q14, q15, q16, q18, q19, q20, q21, q22, q23, q24, q25, q26, q27, q28, q29, q30, q31, q32, q38, q44, q45, q48, q57, q58, q59, q60, q63, q64, q97, q122, q126, q127, q128, q255, q256, q300, q580, q600, q1000, nI_add, q_lt_t, q_lt_f, q_eq_t, q_eq_f, q_clamp, q_in_t, q_in_f]
  · obtain rfl : f = 0 := by omega
    by_cases q2' : 0 + i + 1 < N
    · rw [if_neg q1', if_pos q2']
      simp (disch := omega) only [c_X2_tokensOfBounds, e_X2_tokensOfBounds_0, e_X2_tokensOfBounds_9, e_X2_tokensOfBounds_27, h6, q_sub, Option.bind_some, Option.toList_some, Option.toList_none, List.cons_append, List.nil_append, Option.map_some, cond_true, cond_false, Bool.not_true, Bool.not_false, Bool.true_and, Bool.and_true, Bool.false_and, Bool.and_false, Bool.true_or, Bool.or_true, Bool.false_or, Bool.or_false, Bool.not_not, decide_true, decide_false, Bool.decide_eq_true, Bool.decide_eq_false, qz_0, qz_1, qz_n, qz_n0, qz_n1, qz_t, qz_f, Nat.reduceAdd, q0, q1, q2, q3, q4, q5, q6, q7, q8, q9, q10, q11, q12, q13, q14, q15, q16, q18, q19, q20, q21, q22, q23, q24, q25, q26, q27, q28, q29, q30, q31, q32, q38, q44, q45, q48, q57, q58, q59, q60, q63, q64, q97, q122, q126, q127, q128, q255, q256, q300, q580, q600, q1000, nI_add, q_lt_t, q_lt_f, q_eq_t, q_eq_f, q_clamp, q_in_t, q_in_f]
    · rw [if_neg q1', if_neg q2']
      simp (disch := omega) only [c_X2_tokensOfBounds, e_X2_tokensOfBounds_0, e_X2_tokensOfBounds_9, e_X2_tokensOfBounds_27, h6, q_sub, Option.bind_some, Option.toList_some, Option.toList_none, List.cons_append, List.nil_append, Option.map_some, cond_true, cond_false, Bool.not_true, Bool.not_false, Bool.true_and, Bool.and_true, Bool.false_and, Bool.and_false, Bool.true_or, Bool.or_true, Bool.false_or, Bool.or_false, Bool.not_not, decide_true, decide_false, Bool.decide_eq_true, Bool.decide_eq_false, qz_0, qz_1, qz_n, qz_n0, qz_n1, qz_t, qz_f, Nat.reduceAdd, q0, q1, q2, q3, q4, q5, q6, q7, q8, q9, q10, q11, q12, q13, q14, q15, q16, q18, q19, q20, q21, q22, q23, q24, q25, q26, q27, q28, q29, q30, q31, q32, q38, q44, q45, q48, q57, q58, q59, q60, q63, q64, q97, q122, q126, q127, q128, q255, q256, q300, q580, q600, q1000, nI_add, q_lt_t, q_lt_f, q_eq_t, q_eq_f, q_clamp, q_in_t, q_in_f]
theorem enF_le (N d i : Nat) : enF N d i ≤ 4 := by
  unfold enF
  split <;> split <;> omega
/-! the sets of a span -/
theorem b_out {N w : Nat} (hN : N ≤ 28) {f i P : Nat} (hf : f + i < N) (T H : Int32) {x : Nat} (hx : x < 32) : bt (((nI (2 ^ (f + i + 1) - 2 ^ f) &&& pds N w P) &&& (H ^^^ -nI 1)) &&& (T ^^^ -nI 1)) x = (decide (f ≤ x) && decide (x < f + (i + 1)) && outF w T H P x) := by
  rw [b_and, b_and, b_and, b_cpl hx, b_cpl hx, b_rng (by omega) (by omega), b_pds hN]
  unfold outF
  by_cases h1 : f ≤ x
  · by_cases h2 : x < f + i + 1
    · rw [decide_eq_true h1, decide_eq_true h2, decide_eq_true (show x < N by omega), decide_eq_true (show x < f + (i + 1) by omega)]
      simp only [Bool.true_and, Bool.and_assoc]
    · rw [decide_eq_false h2, decide_eq_false (show ¬ x < f + (i + 1) by omega)]
      simp only [Bool.and_false, Bool.false_and]
  · rw [decide_eq_false h1]
    simp only [Bool.false_and]
theorem b_mor {N w : Nat} (hN : N ≤ 28) {f i P : Nat} (hf : f + i < N) (H W : Int32) {x : Nat} (hx : x < 32) : bt ((nI (2 ^ (f + i + 1) - 2 ^ f) &&& W) &&& (((nI (2 ^ (f + i + 1) - 2 ^ f) &&& pds N w P) &&& (H ^^^ -nI 1)) ^^^ -nI 1)) x = (decide (f ≤ x) && decide (x < f + (i + 1)) && morF w H W P x) := by
  rw [b_and, b_and, b_cpl hx, b_and, b_and, b_cpl hx, b_rng (by omega) (by omega), b_pds hN]
  unfold morF
  by_cases h1 : f ≤ x
  · by_cases h2 : x < f + i + 1
    · rw [decide_eq_true h1, decide_eq_true h2, decide_eq_true (show x < N by omega), decide_eq_true (show x < f + (i + 1) by omega)]
      simp only [Bool.true_and]
    · rw [decide_eq_false h2, decide_eq_false (show ¬ x < f + (i + 1) by omega)]
      simp only [Bool.and_false, Bool.false_and]
  · rw [decide_eq_false h1]
    simp only [Bool.false_and]
/-- what is told by a span -/
def tdF (w : Nat) (T H W : Int32) (d i P : Nat) : Nat := (foF w T H d i P).toNat + 2 * (fmF w H W d i P).toNat
theorem tdF_lt (w : Nat) (T H W : Int32) (d i P : Nat) : tdF w T H W d i P < 4 := by
  unfold tdF
  cases foF w T H d i P <;> cases fmF w H W d i P <;> decide
/-- one option, for a state -/
def opF (N w : Nat) (T H W : Int32) (d i : Nat) (G : Nat → GF) (s P : Nat) : GF := gs (csF N w T H W d i P + pcx (tdF w T H W d i P) s) (G (s ||| tdF w T H W d i P))
theorem opF_dear {N w : Nat} {T H W : Int32} {d i K k3 : Nat} {G : Nat → GF} {s P : Nat} (hG : ∀ c, c < k3 → G (s ||| tdF w T H W d i P) c = 0) (h : K < csF N w T H W d i P + k3) : ∀ c, c ≤ K → opF N w T H W d i G s P c = 0 := by
  intro c hc
  unfold opF gs
  split
  · exact hG _ (by omega)
  · rfl
theorem pats_loop {a b f i dr st K k3 : Nat} {B : Int} (hab : hAB a b) {N w : Nat} {T H W : Int32} (hN : f + i < N) (hdr : 1 ≤ dr) (hdr2 : dr < 7) (hK : K ≤ 500) (hk3 : k3 ≤ 500) (hB : B = (K : Int) - k3 - enF N f i) {g G : Nat → GF} (hG : ∀ s, s < 4 → s &&& st = st → ∀ c, c < k3 → G s c = 0) : ∀ m j (I : zI) (L : zL), j + m = chp dr → FS I N w T H W st → (∀ s, s < 4 → s &&& st = st → CL I L a (f * 4 + s) (gadd (g s) (gq (fun q => opF N w T H W f i G s (odP q)) j)) K) → (∀ s, s < 4 → s &&& st = st → CL I L b ((f + i + 1) * 4 + s) (G s) 1000) → ∃ I' L', zrun zZ kX2_offerPatterns (24, [some (.ref 25), some (.ref a), some (.ref b), some (.int (nI f)), some (.int (nI (f + i))), some (.int (iz B)), some (.int (nI dr)), some (.int (nI (2 ^ (f + i + 1) - 2 ^ f))), some (.int (nI (enF N f i))), some (.int (nI j)), none, none, none, none, none], [], hp I L, 0, 0) = some (none, hp I' L', 0, 0) ∧ (∀ s, s < 4 → s &&& st = st → CL I' L' a (f * 4 + s) (gadd (g s) (gq (fun q => opF N w T H W f i G s (odP q)) (chp dr))) K) ∧ (∀ x y, (x ≠ a + 1 ∨ y < f * 4 ∨ f * 4 + 4 ≤ y) → I' x y = I x y) ∧ (∀ x y, (x ≠ a + 2 ∨ y < f * 4 ∨ f * 4 + 4 ≤ y) → L' x y = L x y)
  | 0, j, I, L, h, hFS, hown, hbeh => by
    obtain rfl : j = chp dr := h
    obtain ⟨-, ⟨-, -, -, -, -, h33⟩, -⟩ := hFS
    have hc := chp_b dr hdr2
    refine ⟨I, L, ?_, hown, fun _ _ _ => rfl, fun _ _ _ => rfl⟩
    rw [e_X2_offerPatterns_24 hab]
    simp (disch := omega) only [h33 dr hdr hdr2, Option.bind_some, Option.toList_some, Option.toList_none, List.cons_append, List.nil_append, Option.map_some, cond_true, cond_false, Bool.not_true, Bool.not_false, Bool.true_and, Bool.and_true, Bool.false_and, Bool.and_false, Bool.true_or, Bool.or_true, Bool.false_or, Bool.or_false, Bool.not_not, decide_true, decide_false, Bool.decide_eq_true, Bool.decide_eq_false, qz_0, qz_1, qz_n, qz_n0, qz_n1, qz_t, qz_f, Nat.reduceAdd, q0, q1, q2, q3, q4, q5, q6, q7, q8, q9, q10, q11, q12, q13, q14, q15, q16, q18, q19, q20, q21, q22, q23, q24, q25, q26, q27, q28, q29, q30, q31, q32, q38, q44, q45, q48, q57, q58, q59, q60, q63, q64, q97, q122, q126, q127, q128, q255, q256, q300, q580, q600, q1000, nI_add, q_lt_t, q_lt_f, q_eq_t, q_eq_f, q_clamp, q_in_t, q_in_f]
  | m + 1, j, I, L, h, hFS, hown, hbeh => by
    have hFS' := hFS
    obtain ⟨⟨hN28, hw7, hst4, hWT⟩, ⟨-, -, h12, h31, h32, h33⟩, h8, h9, h10, h11⟩ := hFS'
    have hc := chp_b dr hdr2
    obtain ⟨hp1, hp2⟩ := odP_b j (by omega)
    have hpT := pT_b (odP j) hp2
    have hen := enF_le N f i
    have hcs := ocmc_le (w := w) (H := H) hWT f i (odP j)
    have eo : pop (((nI (2 ^ (f + i + 1) - 2 ^ f) &&& pds N w (odP j)) &&& (H ^^^ -nI 1)) &&& (T ^^^ -nI 1)) = ocF w T H f i (odP j) := pop_range (by omega) (fun x hx => b_out hN28 hN T H hx)
    have em : pop ((nI (2 ^ (f + i + 1) - 2 ^ f) &&& W) &&& (((nI (2 ^ (f + i + 1) - 2 ^ f) &&& pds N w (odP j)) &&& (H ^^^ -nI 1)) ^^^ -nI 1)) = mcF w H W f i (odP j) := pop_range (by omega) (fun x hx => b_mor hN28 hN H W hx)
    have hcsv : csF N w T H W f i (odP j) = pT (odP j) + enF N f i + ocF w T H f i (odP j) + mcF w H W f i (odP j) := rfl
    have hlt : (iz B < nI (pT (odP j) + ocF w T H f i (odP j) + mcF w H W f i (odP j))) = (B < ((pT (odP j) + ocF w T H f i (odP j) + mcF w H W f i (odP j) : Nat) : Int)) := iz_ltn (by omega) (by omega) (by omega)
    by_cases q : B < ((pT (odP j) + ocF w T H f i (odP j) + mcF w H W f i (odP j) : Nat) : Int)
    · have hT : (B < ((pT (odP j) + ocF w T H f i (odP j) + mcF w H W f i (odP j) : Nat) : Int)) = True := eq_true q
      obtain ⟨I', L', g1, g2, g3, g4⟩ := pats_loop hab hN hdr hdr2 hK hk3 hB hG (g := g) m (j + 1) I L (by omega) hFS (fun s p1 p2 => by
        show CL I L a (f * 4 + s) (gadd (g s) (gadd (gq (fun q => opF N w T H W f i G s (odP q)) j) (opF N w T H W f i G s (odP j)))) K
        rw [← gadd_assoc]
        exact CL_skip (hown s p1 p2) (opF_dear (k3 := k3) (hG _ (or_lt4 s p1 _ (tdF_lt ..)) (ok_or s p1 _ (tdF_lt ..) st hst4 p2)) (by omega))) hbeh
      refine ⟨I', L', ?_, g2, g3, g4⟩
      rw [e_X2_offerPatterns_24 hab]
      simp (disch := omega) only [e_X2_offerPatterns_74 hab, e_X2_offerPatterns_105 hab, e_X2_offerPatterns_111 hab, e_X2_offerPatterns_160 hab, h33 dr hdr hdr2, h32 j (by omega), h12 (odP j) hp2, h31 (odP j) hp1 hp2, h8, h9, h10, j_bitCount, eo, em, hlt, hT, Option.bind_some, Option.toList_some, Option.toList_none, List.cons_append, List.nil_append, Option.map_some, cond_true, cond_false, Bool.not_true, Bool.not_false, Bool.true_and, Bool.and_true, Bool.false_and, Bool.and_false, Bool.true_or, Bool.or_true, Bool.false_or, Bool.or_false, Bool.not_not, decide_true, decide_false, Bool.decide_eq_true, Bool.decide_eq_false, qz_0, qz_1, qz_n, qz_n0, qz_n1, qz_t, qz_f, Nat.reduceAdd, q0, q1, q2, q3, q4, q5, q6, q7, q8, q9, q10, q11, q12, q13, q14, q15, q16, q18, q19, q20, q21, q22, q23, q24, q25, q26, q27, q28, q29, q30, q31, q32, q38, q44, q45, q48, q57, q58, q59, q60, q63, q64, q97, q122, q126, q127, q128, q255, q256, q300, q580, q600, q1000, nI_add, q_lt_t, q_lt_f, q_eq_t, q_eq_f, q_clamp, q_in_t, q_in_f]
      exact g1
    · have hF : (B < ((pT (odP j) + ocF w T H f i (odP j) + mcF w H W f i (odP j) : Nat) : Int)) = False := eq_false q
      obtain ⟨J, M, o1, o2, o3, o4⟩ := s_offer (told := tdF w T H W f i (odP j)) (t := pT (odP j) + ocF w T H f i (odP j) + mcF w H W f i (odP j) + enF N f i) (K := K) hab (Nat.le_add_right f i) (by omega) (tdF_lt ..) hst4 (by omega) (by omega) (g := fun s => gadd (g s) (gq (fun q => opF N w T H W f i G s (odP q)) j)) (G := G) (L := L) h11 hown hbeh
      obtain ⟨I', L', g1, g2, g3, g4⟩ := pats_loop hab hN hdr hdr2 hK hk3 hB hG (g := g) m (j + 1) J M (by omega) (hFS.cg (fun x y hx => o3 x y (by omega))) (fun s p1 p2 => by
        show CL J M a (f * 4 + s) (gadd (g s) (gadd (gq (fun q => opF N w T H W f i G s (odP q)) j) (opF N w T H W f i G s (odP j)))) K
        rw [← gadd_assoc]
        refine CL_cg (o2 s p1 p2) ?_
        congr 2
        rw [hcsv]
        omega) (fun s p1 p2 => (hbeh s p1 p2).cg (o3 _ _ (by omega)) (o4 _ _ (by omega)))
      refine ⟨I', L', ?_, g2, fun x y p => (g3 x y p).trans (o3 x y p), fun x y p => (g4 x y p).trans (o4 x y p)⟩
      rw [e_X2_offerPatterns_24 hab]
      have ez0 : ((((nI (2 ^ (f + i + 1) - 2 ^ f) &&& pds N w (odP j)) &&& (H ^^^ -nI 1)) &&& (T ^^^ -nI 1)) = nI 0) = (ocF w T H f i (odP j) = 0) := by rw [pop_zero, eo]
      have ez1 : (((nI (2 ^ (f + i + 1) - 2 ^ f) &&& W) &&& (((nI (2 ^ (f + i + 1) - 2 ^ f) &&& pds N w (odP j)) &&& (H ^^^ -nI 1)) ^^^ -nI 1)) = nI 0) = (mcF w H W f i (odP j) = 0) := by rw [pop_zero, em]
      by_cases z1 : ocF w T H f i (odP j) = 0
      · have y1 : (ocF w T H f i (odP j) = 0) = True := eq_true z1
        have x1 : foF w T H f i (odP j) = false := decide_eq_false (by omega)
        by_cases z2 : mcF w H W f i (odP j) = 0
        · have y2 : (mcF w H W f i (odP j) = 0) = True := eq_true z2
          have x2 : fmF w H W f i (odP j) = false := decide_eq_false (by omega)
          have et : tdF w T H W f i (odP j) = 0 ||| 0 := by unfold tdF; rw [x1, x2]; rfl
          rw [et] at o1
          simp (disch := omega) only [e_X2_offerPatterns_74 hab, e_X2_offerPatterns_105 hab, e_X2_offerPatterns_111 hab, e_X2_offerPatterns_160 hab, e_X2_offerPatterns_131 hab, e_X2_offerPatterns_141 hab, h33 dr hdr hdr2, h32 j (by omega), h12 (odP j) hp2, h31 (odP j) hp1 hp2, h8, h9, h10, j_bitCount, eo, em, hlt, hF, ez0, ez1, y1, y2, nx_or, o1, Option.bind_some, Option.toList_some, Option.toList_none, List.cons_append, List.nil_append, Option.map_some, cond_true, cond_false, Bool.not_true, Bool.not_false, Bool.true_and, Bool.and_true, Bool.false_and, Bool.and_false, Bool.true_or, Bool.or_true, Bool.false_or, Bool.or_false, Bool.not_not, decide_true, decide_false, Bool.decide_eq_true, Bool.decide_eq_false, qz_0, qz_1, qz_n, qz_n0, qz_n1, qz_t, qz_f, Nat.reduceAdd, q0, q1, q2, q3, q4, q5, q6, q7, q8, q9, q10, q11, q12, q13, q14, q15, q16, q18, q19, q20, q21, q22, q23, q24, q25, q26, q27, q28, q29, q30, q31, q32, q38, q44, q45, q48, q57, q58, q59, q60, q63, q64, q97, q122, q126, q127, q128, q255, q256, q300, q580, q600, q1000, nI_add, q_lt_t, q_lt_f, q_eq_t, q_eq_f, q_clamp, q_in_t, q_in_f]
          exact g1
        · have y2 : (mcF w H W f i (odP j) = 0) = False := eq_false z2
          have x2 : fmF w H W f i (odP j) = true := decide_eq_true (by omega)
          have et : tdF w T H W f i (odP j) = 0 ||| 2 := by unfold tdF; rw [x1, x2]; rfl
          rw [et] at o1
          simp (disch := omega) only [e_X2_offerPatterns_74 hab, e_X2_offerPatterns_105 hab, e_X2_offerPatterns_111 hab, e_X2_offerPatterns_160 hab, e_X2_offerPatterns_131 hab, e_X2_offerPatterns_141 hab, h33 dr hdr hdr2, h32 j (by omega), h12 (odP j) hp2, h31 (odP j) hp1 hp2, h8, h9, h10, j_bitCount, eo, em, hlt, hF, ez0, ez1, y1, y2, nx_or, o1, Option.bind_some, Option.toList_some, Option.toList_none, List.cons_append, List.nil_append, Option.map_some, cond_true, cond_false, Bool.not_true, Bool.not_false, Bool.true_and, Bool.and_true, Bool.false_and, Bool.and_false, Bool.true_or, Bool.or_true, Bool.false_or, Bool.or_false, Bool.not_not, decide_true, decide_false, Bool.decide_eq_true, Bool.decide_eq_false, qz_0, qz_1, qz_n, qz_n0, qz_n1, qz_t, qz_f, Nat.reduceAdd, q0, q1, q2, q3, q4, q5, q6, q7, q8, q9, q10, q11, q12, q13, q14, q15, q16, q18, q19, q20, q21, q22, q23, q24, q25, q26, q27, q28, q29, q30, q31, q32, q38, q44, q45, q48, q57, q58, q59, q60, q63, q64, q97, q122, q126, q127, q128, q255, q256, q300, q580, q600, q1000, nI_add, q_lt_t, q_lt_f, q_eq_t, q_eq_f, q_clamp, q_in_t, q_in_f]
          exact g1
      · have y1 : (ocF w T H f i (odP j) = 0) = False := eq_false z1
        have x1 : foF w T H f i (odP j) = true := decide_eq_true (by omega)
        by_cases z2 : mcF w H W f i (odP j) = 0
        · have y2 : (mcF w H W f i (odP j) = 0) = True := eq_true z2
          have x2 : fmF w H W f i (odP j) = false := decide_eq_false (by omega)
          have et : tdF w T H W f i (odP j) = 1 ||| 0 := by unfold tdF; rw [x1, x2]; rfl
          rw [et] at o1
          simp (disch := omega) only [e_X2_offerPatterns_74 hab, e_X2_offerPatterns_105 hab, e_X2_offerPatterns_111 hab, e_X2_offerPatterns_160 hab, e_X2_offerPatterns_131 hab, e_X2_offerPatterns_141 hab, h33 dr hdr hdr2, h32 j (by omega), h12 (odP j) hp2, h31 (odP j) hp1 hp2, h8, h9, h10, j_bitCount, eo, em, hlt, hF, ez0, ez1, y1, y2, nx_or, o1, Option.bind_some, Option.toList_some, Option.toList_none, List.cons_append, List.nil_append, Option.map_some, cond_true, cond_false, Bool.not_true, Bool.not_false, Bool.true_and, Bool.and_true, Bool.false_and, Bool.and_false, Bool.true_or, Bool.or_true, Bool.false_or, Bool.or_false, Bool.not_not, decide_true, decide_false, Bool.decide_eq_true, Bool.decide_eq_false, qz_0, qz_1, qz_n, qz_n0, qz_n1, qz_t, qz_f, Nat.reduceAdd, q0, q1, q2, q3, q4, q5, q6, q7, q8, q9, q10, q11, q12, q13, q14, q15, q16, q18, q19, q20, q21, q22, q23, q24, q25, q26, q27, q28, q29, q30, q31, q32, q38, q44, q45, q48, q57, q58, q59, q60, q63, q64, q97, q122, q126, q127, q128, q255, q256, q300, q580, q600, q1000, nI_add, q_lt_t, q_lt_f, q_eq_t, q_eq_f, q_clamp, q_in_t, q_in_f]
          exact g1
        · have y2 : (mcF w H W f i (odP j) = 0) = False := eq_false z2
          have x2 : fmF w H W f i (odP j) = true := decide_eq_true (by omega)
          have et : tdF w T H W f i (odP j) = 1 ||| 2 := by unfold tdF; rw [x1, x2]; rfl
          rw [et] at o1
          simp (disch := omega) only [e_X2_offerPatterns_74 hab, e_X2_offerPatterns_105 hab, e_X2_offerPatterns_111 hab, e_X2_offerPatterns_160 hab, e_X2_offerPatterns_131 hab, e_X2_offerPatterns_141 hab, h33 dr hdr hdr2, h32 j (by omega), h12 (odP j) hp2, h31 (odP j) hp1 hp2, h8, h9, h10, j_bitCount, eo, em, hlt, hF, ez0, ez1, y1, y2, nx_or, o1, Option.bind_some, Option.toList_some, Option.toList_none, List.cons_append, List.nil_append, Option.map_some, cond_true, cond_false, Bool.not_true, Bool.not_false, Bool.true_and, Bool.and_true, Bool.false_and, Bool.and_false, Bool.true_or, Bool.or_true, Bool.false_or, Bool.or_false, Bool.not_not, decide_true, decide_false, Bool.decide_eq_true, Bool.decide_eq_false, qz_0, qz_1, qz_n, qz_n0, qz_n1, qz_t, qz_f, Nat.reduceAdd, q0, q1, q2, q3, q4, q5, q6, q7, q8, q9, q10, q11, q12, q13, q14, q15, q16, q18, q19, q20, q21, q22, q23, q24, q25, q26, q27, q28, q29, q30, q31, q32, q38, q44, q45, q48, q57, q58, q59, q60, q63, q64, q97, q122, q126, q127, q128, q255, q256, q300, q580, q600, q1000, nI_add, q_lt_t, q_lt_f, q_eq_t, q_eq_f, q_clamp, q_in_t, q_in_f]
          exact g1
