/-! a wording is read -/
def noR (K v : Nat → Nat) (fi : Nat → Option Nat) (N : Nat) (fd : Nat → Int32) (j : Nat) (M : Int32) : (Nat × Nat) ⊕ (Nat × Int32) := if K j = 10 then (match enF' K v fi N fd 31 (j + 1) 0 (nI 0) (nI 0) false with
  | .inl e => .inl e
  | .inr (j', R) => .inr (j', M &&& (R ^^^ -nI 1))) else .inr (j, M)
def alR (K v : Nat → Nat) (fi : Nat → Option Nat) (N : Nat) (fd : Nat → Int32) (j : Nat) (M : Int32) : (Nat × Nat) ⊕ (Nat × Int32) := if K j = 11 then (match enF' K v fi N fd 31 (j + 1) 0 (nI 0) (nI 0) false with
  | .inl e => .inl e
  | .inr (j', R) => .inr (j', M ||| R)) else .inr (j, M)
def exR (K v : Nat → Nat) (fi : Nat → Option Nat) (N : Nat) (fd : Nat → Int32) (j : Nat) (M : Int32) : (Nat × Nat) ⊕ (Nat × Int32) := match noR K v fi N fd j M with
  | .inl e => .inl e
  | .inr (j2, M2) => alR K v fi N fd j2 M2
def woB (K : Nat → Nat) (j : Nat) : Bool := (isW (K j) || decide (K j = 7)) || (decide (K j = 10) || decide (K j = 11))
def woR (K v : Nat → Nat) (fi : Nat → Option Nat) (N w : Nat) (fd : Nat → Int32) (j : Nat) : (Nat × Nat) ⊕ (Nat × Int32) := if K j = 6 then .inr (j + 1, nI 0) else if woB K j = true then (match spF K v N w (N + 1) j 0 true (nI 0) with
  | .inl e => .inl e
  | .inr (j1, M) => exR K v fi N fd j1 M) else .inl (1, j)
-- the pure readers go forward
theorem patF_ge {K : Nat → Nat} : ∀ m j x P j' P', patF K m j x P = .inr (j', P') → j ≤ j'
  | 0, j, x, P, j', P', h => by
    cases h
    exact Nat.le_refl _
  | m + 1, j, x, P, j', P', h => by
    unfold patF at h
    by_cases z : isW (K j) = true
    · rw [if_pos z] at h
      by_cases y : K j - 12 < x
      · rw [if_pos y] at h
        cases h
      · rw [if_neg y] at h
        by_cases q : K (j + 1) = 23
        · rw [if_pos q] at h
          by_cases r : isW (K (j + 2)) = true
          · rw [if_pos r] at h
            by_cases s : K j - 12 < K (j + 2) - 12
            · rw [if_pos s] at h
              have := patF_ge m _ _ _ _ _ h
              omega
            · rw [if_neg s] at h
              cases h
          · rw [if_neg r] at h
            cases h
        · rw [if_neg q] at h
          have := patF_ge m _ _ _ _ _ h
          omega
    · rw [if_neg z] at h
      cases h
      exact Nat.le_refl _
theorem patR_gt {K : Nat → Nat} {j j' P : Nat} (hw : (isW (K j) || decide (K j = 7)) = true) (h : patR K j = .inr (j', P)) : j < j' := by
  unfold patR at h
  by_cases z7 : K j = 7
  · rw [if_pos z7] at h
    cases h
    omega
  · rw [if_neg z7] at h
    have z : isW (K j) = true := by
      rw [decide_eq_false z7, Bool.or_false] at hw
      exact hw
    unfold patF at h
    rw [if_pos z] at h
    rw [if_neg (show ¬ K j - 12 < 0 by omega)] at h
    by_cases q : K (j + 1) = 23
    · rw [if_pos q] at h
      by_cases r : isW (K (j + 2)) = true
      · rw [if_pos r] at h
        by_cases s : K j - 12 < K (j + 2) - 12
        · rw [if_pos s] at h
          have := patF_ge _ _ _ _ _ _ h
          omega
        · rw [if_neg s] at h
          cases h
      · rw [if_neg r] at h
        cases h
    · rw [if_neg q] at h
      have := patF_ge _ _ _ _ _ _ h
      omega
theorem nuR_j {K v : Nat → Nat} {a b j j' t : Nat} (h : nuR K v a b j = .inr (j', t)) : j' = j + 1 := by
  unfold nuR at h
  by_cases z : K j = 20
  · rw [if_pos z] at h
    by_cases y : v j < a ∨ b < v j
    · rw [if_pos y] at h
      cases h
    · rw [if_neg y] at h
      cases h
      rfl
  · rw [if_neg z] at h
    cases h
theorem toR_j {K v : Nat → Nat} {N fr j j2 fr' to : Nat} {mo : Bool} (h : toR K v N fr j = .inr (j2, fr', to, mo)) : j ≤ j2 := by
  unfold toR at h
  by_cases z : K j = 9
  · rw [if_pos z] at h
    match hn : nuR K v fr (N - 1) (j + 1) with
    | .inl f =>
      rw [hn] at h
      cases h
    | .inr (j1, t) =>
      have := nuR_j hn
      rw [hn] at h
      cases h
      omega
  · rw [if_neg z] at h
    cases h
    exact Nat.le_refl _
theorem boR_j {K v : Nat → Nat} {N a j j2 fr to : Nat} {mo : Bool} (h : boR K v N a j = .inr (j2, fr, to, mo)) : j ≤ j2 := by
  unfold boR at h
  by_cases z : K j = 8
  · rw [if_pos z] at h
    match hn : nuR K v a (N - 1) (j + 1) with
    | .inl f =>
      rw [hn] at h
      cases h
    | .inr (j1, t) =>
      have := nuR_j hn
      rw [hn] at h
      have := toR_j h
      omega
  · rw [if_neg z] at h
    by_cases y : 0 < a
    · rw [if_pos y] at h
      cases h
    · rw [if_neg y] at h
      exact toR_j h
theorem spF_ge {K v : Nat → Nat} {N w : Nat} : ∀ m j a mo M j' M', spF K v N w m j a mo M = .inr (j', M') → j ≤ j' ∧ (0 < m → mo = true → (isW (K j) || decide (K j = 7)) = true → j < j')
  | 0, j, a, mo, M, j', M', h => by
    cases h
    exact ⟨Nat.le_refl _, fun q => absurd q (by omega)⟩
  | m + 1, j, a, mo, M, j', M', h => by
    unfold spF at h
    by_cases z : (mo && (isW (K j) || decide (K j = 7))) = true
    · rw [if_pos z] at h
      rw [Bool.and_eq_true] at z
      match hp : patR K j with
      | .inl f =>
        rw [hp] at h
        cases h
      | .inr (j1, P) =>
        have g1 := patR_gt z.2 hp
        rw [hp] at h
        have h : (match boR K v N a j1 with
          | .inl f => Sum.inl f
          | .inr (j2, fr, to, mo') => spF K v N w m j2 (to + 1) mo' (M ||| (nI (2 ^ (to + 1) - 2 ^ fr) &&& pds N w P))) = .inr (j', M') := h
        match hb : boR K v N a j1 with
        | .inl f =>
          rw [hb] at h
          cases h
        | .inr (j2, fr, to, mo') =>
          have g2 := boR_j hb
          rw [hb] at h
          have g3 := (spF_ge m j2 (to + 1) mo' _ j' M' h).1
          exact ⟨by omega, fun _ _ _ => by omega⟩
    · rw [if_neg z] at h
      cases h
      refine ⟨Nat.le_refl _, fun _ q r => absurd ?_ z⟩
      rw [q, r]
      rfl
theorem enF_ge {K v : Nat → Nat} {fi : Nat → Option Nat} {N : Nat} {fd : Nat → Int32} : ∀ m j fs ds M st j' M', enF' K v fi N fd m j fs ds M st = .inr (j', M') → j ≤ j'
  | 0, j, fs, ds, M, st, j', M', h => by
    cases h
    exact Nat.le_refl _
  | m + 1, j, fs, ds, M, st, j', M', h => by
    unfold enF' at h
    match hf : fi j with
    | some f =>
      rw [hf] at h
      have h : (if fs.testBit f = true then .inl (2, j) else enF' K v fi N fd m (j + 1) (fs ||| 2 ^ f) ds (M ||| fd f) true) = .inr (j', M') := h
      by_cases z : fs.testBit f = true
      · rw [if_pos z] at h
        cases h
      · rw [if_neg z] at h
        have := enF_ge m _ _ _ _ _ _ _ h
        omega
    | none =>
      rw [hf] at h
      have h : (if K j = 20 then (match nuR K v 0 (N - 1) j with
        | .inl e => Sum.inl e
        | .inr (_, t) => if bt ds t = true then Sum.inl (2, j) else enF' K v fi N fd m (j + 1) fs (ds ||| (nI 1 <<< (nI t &&& nI 31))) (M ||| (nI 1 <<< (nI t &&& nI 31))) true) else if st = true then Sum.inr (j, M) else Sum.inl (1, j)) = Sum.inr (j', M') := h
      by_cases z : K j = 20
      · rw [if_pos z] at h
        match hn : nuR K v 0 (N - 1) j with
        | .inl f =>
          rw [hn] at h
          cases h
        | .inr (j1, t) =>
          rw [hn] at h
          have h : (if bt ds t = true then .inl (2, j) else enF' K v fi N fd m (j + 1) fs (ds ||| (nI 1 <<< (nI t &&& nI 31))) (M ||| (nI 1 <<< (nI t &&& nI 31))) true) = .inr (j', M') := h
          by_cases y : bt ds t = true
          · rw [if_pos y] at h
            cases h
          · rw [if_neg y] at h
            have := enF_ge m _ _ _ _ _ _ _ h
            omega
      · rw [if_neg z] at h
        by_cases y : st = true
        · rw [if_pos y] at h
          cases h
          exact Nat.le_refl _
        · rw [if_neg y] at h
          cases h
theorem noR_ge {K v : Nat → Nat} {fi : Nat → Option Nat} {N : Nat} {fd : Nat → Int32} {j j' : Nat} {M M' : Int32} (h : noR K v fi N fd j M = .inr (j', M')) : j ≤ j' ∧ (K j = 10 → j < j') := by
  unfold noR at h
  by_cases z : K j = 10
  · rw [if_pos z] at h
    match he : enF' K v fi N fd 31 (j + 1) 0 (nI 0) (nI 0) false with
    | .inl f =>
      rw [he] at h
      cases h
    | .inr (j1, R) =>
      have := enF_ge _ _ _ _ _ _ _ _ he
      rw [he] at h
      cases h
      exact ⟨by omega, fun _ => by omega⟩
  · rw [if_neg z] at h
    cases h
    exact ⟨Nat.le_refl _, fun q => absurd q z⟩
theorem alR_ge {K v : Nat → Nat} {fi : Nat → Option Nat} {N : Nat} {fd : Nat → Int32} {j j' : Nat} {M M' : Int32} (h : alR K v fi N fd j M = .inr (j', M')) : j ≤ j' ∧ (K j = 11 → j < j') := by
  unfold alR at h
  by_cases z : K j = 11
  · rw [if_pos z] at h
    match he : enF' K v fi N fd 31 (j + 1) 0 (nI 0) (nI 0) false with
    | .inl f =>
      rw [he] at h
      cases h
    | .inr (j1, R) =>
      have := enF_ge _ _ _ _ _ _ _ _ he
      rw [he] at h
      cases h
      exact ⟨by omega, fun _ => by omega⟩
  · rw [if_neg z] at h
    cases h
    exact ⟨Nat.le_refl _, fun q => absurd q z⟩
theorem exR_ge {K v : Nat → Nat} {fi : Nat → Option Nat} {N : Nat} {fd : Nat → Int32} {j j' : Nat} {M M' : Int32} (h : exR K v fi N fd j M = .inr (j', M')) : j ≤ j' ∧ (K j = 10 ∨ K j = 11 → j < j') := by
  unfold exR at h
  match hn : noR K v fi N fd j M with
  | .inl f =>
    rw [hn] at h
    cases h
  | .inr (j1, M1) =>
    have g1 := noR_ge hn
    rw [hn] at h
    have g2 := alR_ge h
    refine ⟨by omega, fun q => ?_⟩
    rcases q with q | q
    · have := g1.2 q
      omega
    · by_cases y : j1 = j
      · have := g2.2 (by rw [y]; exact q)
        omega
      · omega
theorem woR_gt {K v : Nat → Nat} {fi : Nat → Option Nat} {N w : Nat} {fd : Nat → Int32} {j j1 j' : Nat} {M M' : Int32} (hb : woB K j = true) (h1 : spF K v N w (N + 1) j 0 true (nI 0) = .inr (j1, M)) (h : exR K v fi N fd j1 M = .inr (j', M')) : j < j' := by
  have g1 := spF_ge _ _ _ _ _ _ _ h1
  have g2 := exR_ge h
  unfold woB at hb
  rw [Bool.or_eq_true, Bool.or_eq_true (decide (K j = 10)), decide_eq_true_iff, decide_eq_true_iff] at hb
  rcases hb with q | q
  · have := g1.2 (by omega) rfl q
    omega
  · by_cases y : j1 = j
    · have := g2.2 (by rw [y]; exact q)
      omega
    · omega
