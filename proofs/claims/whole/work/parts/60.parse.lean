/-! the text, read sign by sign: what is wanted (0 Z, 1 LAW, 2 TOWNS, 3 a PART, 4 HOME, 5 NAME, 6 YEARS, 7 who asks, 8 after whom), who asks, LAW, TOWNS, PEOPLE, pairs, homes, names, years, whom they ask after -/
abbrev zpS : Type := Nat × Nat × Nat × Nat × Nat × Nat × (Nat → Nat) × (Nat → Nat) × (Nat → Nat) × (Nat → Nat)
def zp0 : zpS := (0, 0, 0, 1, 0, 0, fun _ => 0, fun _ => 0, fun _ => 0, fun _ => 0)
def zpst : zpS → Nat → Option zpS
  | (w, ak, l, T, N, M, H, A, K, S), b =>
    if w = 0 then (if b = 90 then some (1, ak, l, T, N, M, H, A, K, S) else none)
    else if w = 1 then (if 48 ≤ b ∧ b < 51 then some (2, ak, b - 48, T, N, M, H, A, K, S) else none)
    else if w = 2 then (if 49 ≤ b ∧ b < 53 then some (3, ak, l, b - 48, N, M, H, A, K, S) else none)
    else if w = 3 then (if b = 80 then (if N < 8 then some (4, ak, l, T, N, M, H, A, K, S) else none) else if b = 65 ∧ M < 12 ∧ M < N * (N - 1) then some (7, ak, l, T, N, M, H, A, K, S) else none)
    else if w = 4 then (if 48 ≤ b ∧ b < 48 + T then some (5, ak, l, T, N, M, zup H N (b - 48), A, K, S) else none)
    else if w = 5 then (if 97 ≤ b ∧ b < 103 then some (6, ak, l, T, N, M, H, zup A N (b - 97), K, S) else none)
    else if w = 6 then (if 48 ≤ b ∧ b < 58 then some (3, ak, l, T, N + 1, M, H, A, zup K N (b - 48), zup S N 0) else none)
    else if w = 7 then (if 48 ≤ b ∧ b < 48 + N ∧ zpc (S (b - 48)) < N - 1 then some (8, b - 48, l, T, N, M, H, A, K, S) else none)
    else (if 48 ≤ b ∧ b < 48 + N ∧ b - 48 ≠ ak ∧ (S ak).testBit (b - 48) = false then some (3, ak, l, T, N, M + 1, H, A, K, zup S ak (S ak ||| 2 ^ (b - 48))) else none)
def zpR (b : Nat → Nat) : Nat → Option zpS
  | 0 => some zp0
  | k + 1 => (zpR b k).bind (fun s => zpst s (b k))
/-- the first place refused -/
def zpK (b : Nat → Nat) : Nat → Nat
  | 0 => 0
  | k + 1 => if (zpR b k).isSome = true then k else zpK b k
/-- FAULT -/
def zpF (b : Nat → Nat) (n : Nat) : Int32 := match zpR b n with
  | some s => if s.1 = 3 then -9 else nI n
  | none => nI (zpK b n)
theorem zpR_s {b : Nat → Nat} {k : Nat} {s : zpS} (h : zpR b k = some s) : zpR b (k + 1) = zpst s (b k) := by rw [zpR, h]; rfl
theorem zpR_no {b : Nat → Nat} {k n : Nat} {s : zpS} (h : zpR b k = some s) (h2 : zpst s (b k) = none) (hn : k < n) : zpR b n = none ∧ zpK b n = k := by
  have h3 : ∀ j, zpR b (k + 1 + j) = none ∧ zpK b (k + 1 + j) = k := by
    intro j
    induction j with
    | zero => exact ⟨by rw [Nat.add_zero, zpR_s h, h2], by rw [Nat.add_zero, zpK, h]; rfl⟩
    | succ j ih =>
      refine ⟨?_, ?_⟩
      · rw [← Nat.add_assoc, zpR, ih.1]; rfl
      · rw [← Nat.add_assoc, zpK, ih.1]; exact ih.2
  obtain ⟨h4, h5⟩ := h3 (n - (k + 1))
  rw [show k + 1 + (n - (k + 1)) = n by omega] at h4 h5
  exact ⟨h4, h5⟩
theorem zpF_no {b : Nat → Nat} {k n : Nat} {s : zpS} (h : zpR b k = some s) (h2 : zpst s (b k) = none) (hn : k < n) : zpF b n = nI k := by
  obtain ⟨h4, h5⟩ := zpR_no h h2 hn
  unfold zpF
  rw [h4]
  simp only [h5]
theorem zpF_at {b : Nat → Nat} {n : Nat} {s : zpS} (h : zpR b n = some s) : zpF b n = if s.1 = 3 then -9 else nI n := by unfold zpF; rw [h]
theorem zpF_3 {b : Nat → Nat} {n : Nat} (hn : n < 2 ^ 30) (h : zpF b n = -9) : ∃ s, zpR b n = some s ∧ s.1 = 3 := by
  have hK : ∀ n, zpK b n ≤ n := by
    intro n
    induction n with
    | zero => exact Nat.le_refl _
    | succ n ih => rw [zpK]; split <;> omega
  unfold zpF at h
  split at h
  · rename_i s hs
    split at h
    · rename_i h3; exact ⟨s, hs, h3⟩
    · exact absurd h (nI_n9 (by omega))
  · have := hK n
    exact absurd h (nI_n9 (by omega))
/-- what always holds of a state -/
def zpOK : zpS → Prop
  | (w, ak, l, T, N, M, H, A, K, S) => w ≤ 8 ∧ l ≤ 2 ∧ 1 ≤ T ∧ T ≤ 4 ∧ N ≤ 8 ∧ M ≤ 12 ∧ (w = 4 ∨ w = 5 ∨ w = 6 → N < 8) ∧ (w = 7 → M < 12) ∧ (w = 8 → M < 12 ∧ ak < N) ∧ (w < 3 → N = 0) ∧ (w = 5 ∨ w = 6 → H N < T) ∧ (w = 6 → A N < 6) ∧ M = zsu (fun p => zpc (S p)) N ∧ ∀ p, p < N → H p < T ∧ A p < 6 ∧ K p ≤ 9 ∧ S p < 2 ^ N ∧ (S p).testBit p = false
theorem zpOK_0 : zpOK zp0 := ⟨by omega, by omega, by omega, by omega, by omega, by omega, by omega, by omega, by omega, by omega, by omega, by omega, rfl, fun p hp => absurd hp (by omega)⟩
theorem zup_eq (f : Nat → Nat) (p v : Nat) : zup f p v p = v := if_pos rfl
theorem zup_ne {f : Nat → Nat} {p v q : Nat} (h : q ≠ p) : zup f p v q = f q := if_neg h
theorem zpc_bit : ∀ a, a < 256 → ∀ j, j < 8 → a.testBit j = false → zpc (a ||| 2 ^ j) = zpc a + 1 := by decide +kernel
theorem zsu_upd {f g : Nat → Nat} {k : Nat} : ∀ n, k < n → (∀ i, i < n → i ≠ k → g i = f i) → g k = f k + 1 → zsu g n = zsu f n + 1 := by
  intro n
  induction n with
  | zero => intro h; omega
  | succ n ih =>
    intro hk h1 h2
    rw [zsu, zsu]
    by_cases hkn : k = n
    · subst hkn
      rw [h2, zsu_congr (f := g) (f' := f) (fun i hi => h1 i (by omega) (by omega))]; omega
    · rw [ih (by omega) (fun i hi => h1 i (by omega)) h2, h1 n (by omega) (fun q => hkn q.symm)]; omega
theorem zpst_ok {s s' : zpS} {b : Nat} (hs : zpOK s) (h : zpst s b = some s') : zpOK s' := by
  obtain ⟨w, ak, l, T, N, M, H, A, K, S⟩ := s
  obtain ⟨c1, c2, c3, c4, c5, c6, c7, c8, c9, c10, c11, c12, c13, c14⟩ := hs
  unfold zpst at h
  simp only at h
  split at h
  · split at h
    · cases h
      exact ⟨by omega, c2, c3, c4, c5, c6, by omega, by omega, by omega, fun _ => c10 (by omega), by omega, by omega, c13, c14⟩
    · cases h
  split at h
  · split at h
    · cases h
      exact ⟨by omega, by omega, c3, c4, c5, c6, by omega, by omega, by omega, fun _ => c10 (by omega), by omega, by omega, c13, c14⟩
    · cases h
  split at h
  · split at h
    · cases h
      have := c10 (by omega)
      exact ⟨by omega, c2, by omega, by omega, c5, c6, by omega, by omega, by omega, by omega, by omega, by omega, c13, fun p hp => absurd hp (by omega)⟩
    · cases h
  split at h
  · split at h
    · split at h
      · cases h
        exact ⟨by omega, c2, c3, c4, c5, c6, by omega, by omega, by omega, by omega, by omega, by omega, c13, c14⟩
      · cases h
    · split at h
      · cases h
        exact ⟨by omega, c2, c3, c4, c5, c6, by omega, by omega, by omega, by omega, by omega, by omega, c13, c14⟩
      · cases h
  split at h
  · split at h
    · cases h
      have := c7 (by omega)
      refine ⟨by omega, c2, c3, c4, c5, c6, by omega, by omega, by omega, by omega, fun _ => by rw [zup_eq]; omega, by omega, c13, fun p hp => ?_⟩
      obtain ⟨d1, d2⟩ := c14 p hp
      rw [zup_ne (by omega)]
      exact ⟨d1, d2⟩
    · cases h
  split at h
  · split at h
    · cases h
      have := c7 (by omega)
      have := c11 (by omega)
      refine ⟨by omega, c2, c3, c4, c5, c6, by omega, by omega, by omega, by omega, fun _ => by omega, fun _ => by rw [zup_eq]; omega, c13, fun p hp => ?_⟩
      obtain ⟨d1, d2, d3⟩ := c14 p hp
      rw [zup_ne (by omega)]
      exact ⟨d1, d2, d3⟩
    · cases h
  split at h
  · split at h
    · cases h
      have e1 := c7 (by omega)
      have e2 := c11 (by omega)
      have e3 := c12 (by omega)
      refine ⟨by omega, c2, c3, c4, by omega, c6, by omega, by omega, by omega, by omega, by omega, by omega, ?_, fun p hp => ?_⟩
      · rw [zsu, zup_eq, c13]
        exact zsu_congr (fun i hi => by rw [zup_ne (by omega)])
      · by_cases hpN : p = N
        · subst hpN
          rw [zup_eq, zup_eq]
          exact ⟨e2, e3, by omega, Nat.pow_pos (by omega), Nat.zero_testBit _⟩
        · obtain ⟨d1, d2, d3, d4, d5⟩ := c14 p (by omega)
          rw [zup_ne hpN, zup_ne hpN]
          exact ⟨d1, d2, d3, Nat.lt_trans d4 (Nat.pow_lt_pow_right (by omega) (by omega)), d5⟩
    · cases h
  split at h
  · split at h
    · cases h
      have := c8 (by omega)
      exact ⟨by omega, c2, c3, c4, c5, c6, by omega, by omega, by omega, by omega, by omega, by omega, c13, c14⟩
    · cases h
  · split at h
    · rename_i g
      cases h
      obtain ⟨g1, g2, g3, g4⟩ := g
      obtain ⟨e1, e2⟩ := c9 (by omega)
      obtain ⟨-, -, -, d4, d5⟩ := c14 ak e2
      have hp2 := zp2_le c5
      refine ⟨by omega, c2, c3, c4, c5, by omega, by omega, by omega, by omega, by omega, by omega, by omega, ?_, fun p hp => ?_⟩
      · rw [c13]
        exact (zsu_upd N e2 (fun i _ hi => by show zpc (zup S ak _ i) = _; rw [zup_ne hi]) (by show zpc (zup S ak _ ak) = _; rw [zup_eq, zpc_bit _ (by omega) _ (by omega) g4])).symm
      · obtain ⟨f1, f2, f3, f4, f5⟩ := c14 p hp
        refine ⟨f1, f2, f3, ?_⟩
        by_cases hpa : p = ak
        · subst hpa
          rw [zup_eq]
          refine ⟨Nat.or_lt_two_pow d4 (Nat.pow_lt_pow_right (by omega) (by omega)), ?_⟩
          rw [Nat.testBit_or, d5, Nat.testBit_two_pow, decide_eq_false g3]; rfl
        · rw [zup_ne hpa]; exact ⟨f4, f5⟩
    · cases h
theorem zpR_ok {b : Nat → Nat} : ∀ (k : Nat) (s : zpS), zpR b k = some s → zpOK s := by
  intro k
  induction k with
  | zero => intro s h; cases h; exact zpOK_0
  | succ k ih =>
    intro s h
    rw [zpR] at h
    cases hk : zpR b k with
    | none => rw [hk] at h; cases h
    | some s0 => rw [hk] at h; exact zpst_ok (ih s0 hk) h
/-! signs as numbers -/
theorem zin48 {b N c : Nat} (hb : b < 256) (hN : N ≤ 1000) (hc : c ≤ 128) : zin (nI b - nI c) (nI N) = decide (c ≤ b ∧ b < c + N) := by
  by_cases h : c ≤ b
  · rw [pk_sub h]
    unfold zin
    rw [decide_eq_false (nI_pos (by omega)), Bool.eq_iff_iff]
    simp only [Bool.not_false, Bool.true_and, Bool.not_eq_true', decide_eq_true_eq, decide_eq_false_iff_not, nI_leI (show N < 2 ^ 31 by omega) (show b - c < 2 ^ 31 by omega)]
    constructor <;> intro h2 <;> omega
  · unfold zin
    rw [decide_eq_true (pk_sneg (by omega) (by omega)), Bool.not_true, Bool.false_and]
    exact (decide_eq_false (fun q => h q.1)).symm
theorem znn1 : ∀ N, N < 9 → nI N * (nI N - 1) = nI (N * (N - 1)) := by decide +kernel
def zleft (N i a : Nat) : Int32 := (((1 : Int32) <<< (nI N &&& 31)) - 1) &&& (((1 : Int32) <<< (nI i &&& 31)) ^^^ (-1)) &&& (nI a ^^^ (-1))
theorem zleft_0d : ∀ N, N < 9 → ∀ i, i < N → ∀ a, a < 2 ^ N → (a.testBit i || ((decide (zleft N i a = 0) == decide (N - 1 ≤ zpc a)) && decide (zpc a ≤ N - 1))) = true := by decide +kernel
theorem zleft_0 {N i a : Nat} (hN : N < 9) (hi : i < N) (ha : a < 2 ^ N) (hb : a.testBit i = false) : (zleft N i a = 0 ↔ ¬ zpc a < N - 1) ∧ zpc a ≤ N - 1 := by
  have h := zleft_0d N hN i hi a ha
  rw [hb, Bool.false_or, Bool.and_eq_true, beq_iff_eq, decide_eq_decide, decide_eq_true_eq] at h
  refine ⟨h.1.trans ⟨fun q => by omega, fun q => by omega⟩, h.2⟩
theorem zleft_b : ∀ N, N < 9 → ∀ i, i < N → ∀ a, a < 2 ^ N → ∀ j, j < N → zhas (zleft N i a) j = (decide (j ≠ i) && !a.testBit j) := by decide +kernel
theorem zsu_any {f : Nat → Nat} {c : Nat} : ∀ n, (∀ i, i < n → f i ≤ c) → (zsu f n < n * c ↔ zany (fun i => decide (f i < c)) n = true) := by
  intro n
  induction n with
  | zero => intro _; simp [zsu, zany]
  | succ n ih =>
    intro h
    have h1 := ih (fun i hi => h i (by omega))
    have h2 := h n (by omega)
    have h3 := zsu_le (f := f) (b := c) n (fun i hi => h i (by omega))
    rw [Nat.mul_comm] at h3
    rw [zsu, zany, Nat.succ_mul, Bool.or_eq_true, ← h1, decide_eq_true_eq]
    omega
