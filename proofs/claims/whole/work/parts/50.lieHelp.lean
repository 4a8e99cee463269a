/-- how many of those below n -/
def zcn (c : Nat → Bool) : Nat → Nat
  | 0 => 0
  | n + 1 => if c n = true then zcn c n + 1 else zcn c n
theorem zcn_le (c : Nat → Bool) : ∀ n, zcn c n ≤ n := by
  intro n
  induction n with
  | zero => exact Nat.le_refl _
  | succ n ih => rw [zcn]; split <;> omega
theorem zcn_congr {c c' : Nat → Bool} {n : Nat} (h : ∀ i, i < n → c i = c' i) : zcn c n = zcn c' n := by
  induction n with
  | zero => rfl
  | succ n ih => rw [zcn, zcn, ih (fun i hi => h i (by omega)), h n (by omega)]
theorem zcn_f {c : Nat → Bool} {n : Nat} (h : ∀ i, i < n → c i = false) : zcn c n = 0 := by
  induction n with
  | zero => rfl
  | succ n ih => rw [zcn, ih (fun i hi => h i (by omega)), h n (by omega)]; rfl
theorem zcn_add {c c' : Nat → Bool} : ∀ n, zcn (fun i => c i || c' i) n = zcn c n + zcn (fun i => c' i && !c i) n := by
  intro n
  induction n with
  | zero => rfl
  | succ n ih =>
    rw [zcn, zcn, zcn, ih]
    rcases Bool.eq_false_or_eq_true (c n) with h1 | h1 <;> rcases Bool.eq_false_or_eq_true (c' n) with h2 | h2 <;> simp [h1, h2] <;> omega
theorem zcn_pos {c : Nat → Bool} : ∀ n, (0 < zcn c n) ↔ zany c n = true := by
  intro n
  induction n with
  | zero => simp [zcn, zany]
  | succ n ih =>
    rw [zcn, zany]
    cases h : c n
    · simp only [Bool.false_eq_true, if_false, Bool.or_false]; exact ih
    · simp
theorem zcn_ext {c : Nat → Bool} {N : Nat} : ∀ n, N ≤ n → zcn (fun k => decide (k < N) && c k) n = zcn c N := by
  intro n
  induction n with
  | zero => intro h; rw [show N = 0 by omega]; rfl
  | succ n ih =>
    intro h
    by_cases h2 : N = n + 1
    · subst h2
      exact zcn_congr (fun i hi => by rw [decide_eq_true hi]; rfl)
    · rw [zcn, ih (by omega), decide_eq_false (by omega)]; rfl
/-- sums over those below n -/
def zsu (f : Nat → Nat) : Nat → Nat
  | 0 => 0
  | n + 1 => zsu f n + f n
theorem zsu_congr {f f' : Nat → Nat} {n : Nat} (h : ∀ i, i < n → f i = f' i) : zsu f n = zsu f' n := by
  induction n with
  | zero => rfl
  | succ n ih => rw [zsu, zsu, ih (fun i hi => h i (by omega)), h n (by omega)]
theorem zsu_add {f g : Nat → Nat} : ∀ n, zsu (fun i => f i + g i) n = zsu f n + zsu g n := by
  intro n
  induction n with
  | zero => rfl
  | succ n ih => simp only [zsu]; rw [ih]; omega
theorem zsu_0 : ∀ n, zsu (fun _ => 0) n = 0 := by
  intro n
  induction n with
  | zero => rfl
  | succ n ih => rw [zsu, ih]
theorem zsu_le {f : Nat → Nat} {b : Nat} : ∀ n, (∀ i, i < n → f i ≤ b) → zsu f n ≤ b * n := by
  intro n
  induction n with
  | zero => intro _; exact Nat.le_refl _
  | succ n ih => intro h; rw [zsu, Nat.mul_succ]; have := ih (fun i hi => h i (by omega)); have := h n (by omega); omega
theorem zsu_swap (c : Nat → Nat → Bool) (m : Nat) : ∀ n, zsu (fun i => zcn (fun j => c i j) m) n = zsu (fun j => zcn (fun i => c i j) n) m := by
  intro n
  induction n with
  | zero => rw [zsu]; exact (zsu_0 m).symm
  | succ n ih =>
    rw [zsu, ih]
    have h : ∀ m, zsu (fun j => zcn (fun i => c i j) (n + 1)) m = zsu (fun j => zcn (fun i => c i j) n) m + zcn (fun j => c n j) m := by
      intro m
      induction m with
      | zero => rfl
      | succ m ih2 =>
        rw [zsu, ih2, zsu, zcn, zcn]
        rcases Bool.eq_false_or_eq_true (c n m) with h1 | h1 <;> simp [h1] <;> omega
    rw [h]
theorem zpop_zcn : ∀ a, a < 256 → zpop (nI a) = nI (zcn (fun k => a.testBit k) 8) := by decide +kernel
theorem zpop_bits {c : Nat → Bool} {N : Nat} (hN : N ≤ 8) : zpop (zbits c N) = nI (zcn c N) := by
  have h1 := zbn_lt c N
  have h2 := zp2_le hN
  rw [zbits_N c N (by omega), zpop_zcn _ (by omega), ← zcn_ext 8 hN]
  congr 1
  exact zcn_congr (fun i _ => zbn_bit c N i)
theorem zor_bits {f : Nat → Int32} {c : Nat → Bool} {n : Nat} (h : ∀ i, i < n → ∃ a, a < 2 ^ 8 ∧ f i = nI a) : ∃ a, a < 256 ∧ zor f c n = nI a ∧ ∀ k, k < 8 → a.testBit k = zany (fun i => c i && zhas (f i) k) n := by
  induction n with
  | zero => exact ⟨0, by omega, rfl, fun k _ => Nat.zero_testBit k⟩
  | succ n ih =>
    obtain ⟨a, ha, ea, ba⟩ := ih (fun i hi => h i (by omega))
    obtain ⟨b, hb, eb⟩ := h n (by omega)
    rw [zor, ea]
    cases hc : c n with
    | false =>
      rw [if_neg (by decide)]
      refine ⟨a, ha, rfl, fun k hk => ?_⟩
      rw [zany, hc, ba k hk, Bool.false_and, Bool.or_false]
    | true =>
      rw [if_pos rfl, eb, nI_or]
      refine ⟨a ||| b, Nat.or_lt_two_pow ha hb, rfl, fun k hk => ?_⟩
      rw [Nat.testBit_or, zany, hc, ba k hk, eb, zhas_N (by omega) (by omega), Bool.true_and]
theorem zany_congr {c c' : Nat → Bool} {n : Nat} (h : ∀ i, i < n → c i = c' i) : zany c n = zany c' n := by
  induction n with
  | zero => rfl
  | succ n ih => rw [zany, zany, ih (fun i hi => h i (by omega)), h n (by omega)]
theorem zany_or {c c' : Nat → Bool} : ∀ n, zany (fun i => c i || c' i) n = (zany c n || zany c' n) := by
  intro n
  induction n with
  | zero => rfl
  | succ n ih => rw [zany, zany, zany, ih]; cases zany c n <;> cases zany c' n <;> cases c n <;> cases c' n <;> rfl
theorem zany_i {c : Nat → Bool} : ∀ n, zany c n = true ↔ ∃ i, i < n ∧ c i = true := by
  intro n
  induction n with
  | zero => simp [zany]
  | succ n ih =>
    rw [zany, Bool.or_eq_true, ih]
    constructor
    · rintro (⟨i, h1, h2⟩ | h)
      · exact ⟨i, by omega, h2⟩
      · exact ⟨n, by omega, h⟩
    · rintro ⟨i, h1, h2⟩
      by_cases h3 : i = n
      · subst h3; exact Or.inr h2
      · exact Or.inl ⟨i, by omega, h2⟩
/-- may i begin to ask after j -/
def zmay (V : zq_V) (t y : Int32) (i j : Nat) : Bool := (vH V i == t) && (vH V j == t) && zTh V i && zMi V j y && zRe V i j y && !zhas (vA V i) j
def zmby (V : zq_V) (N : Nat) (t y : Int32) (j : Nat) : Nat := zcn (fun i => zmay V t y i j) N
def zism (V : zq_V) (N : Nat) (t y : Int32) (j : Nat) : Bool := zhas (zor (fun i => zMs V N i y) (fun _ => true) N) j && (vH V j == t)
def zfre (V : zq_V) (N : Nat) (t y : Int32) (j : Nat) : Bool := decide (0 < zmby V N t y j) && !zism V N t y j
def znm (V : zq_V) (i : Nat) : Int32 := (1 : Int32) <<< (vN V i &&& 31)
def zcan (l : Int32) (V : zq_V) (N : Nat) (t y : Int32) : Int32 := if l = 0 then nI (zsu (zmby V N t y) N) else if l = 1 then nI (zcn (zfre V N t y) N) else zmany (zor (znm V) (zfre V N t y) N &&& (zor (znm V) (zism V N t y) N ^^^ (-1)))
