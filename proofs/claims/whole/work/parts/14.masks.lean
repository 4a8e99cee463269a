/-! masks as numbers -/
theorem nI_or (a b : Nat) : nI a ||| nI b = nI (a ||| b) := by
  apply Int32.toBitVec_inj.mp
  simp [nI, Int32.toBitVec_or, Int32.toBitVec_ofNat, BitVec.ofNat_or]
theorem nI_and (a b : Nat) : nI a &&& nI b = nI (a &&& b) := by
  apply Int32.toBitVec_inj.mp
  simp [nI, Int32.toBitVec_and, Int32.toBitVec_ofNat, BitVec.ofNat_and]
theorem zsh_N : ∀ k, k < 16 → zsh k = nI (2 ^ k) := by decide +kernel
theorem zhas_N {a k : Nat} (ha : a < 2 ^ 31) (hk : k < 16) : zhas (nI a) k = a.testBit k := by
  have hs : ((nI k &&& 31).toBitVec.smod 32).toNat = k := (by decide +kernel : ∀ k, k < 16 → ((nI k &&& 31).toBitVec.smod 32).toNat = k) k hk
  unfold zhas
  rw [pk_shrN ha _ k hs, pk_andN (m := 1) (Nat.lt_of_le_of_lt (Nat.div_le_self _ _) (by omega)) 1 (by decide)]
  rw [Nat.testBit_eq_decide_div_mod_eq]
  have h2 : a / 2 ^ k % 2 = 0 ∨ a / 2 ^ k % 2 = 1 := by omega
  rcases h2 with h2 | h2 <;> simp [h2] <;> decide
/-- bits below n -/
def zbn (c : Nat → Bool) : Nat → Nat
  | 0 => 0
  | n + 1 => if c n = true then zbn c n ||| 2 ^ n else zbn c n
theorem zbn_lt (c : Nat → Bool) (n : Nat) : zbn c n < 2 ^ n := by
  induction n with
  | zero => show (0 : Nat) < 1; omega
  | succ n ih =>
    have h1 : 2 ^ n < 2 ^ (n + 1) := Nat.pow_lt_pow_right (by omega) (by omega)
    unfold zbn
    split
    · exact Nat.or_lt_two_pow (by omega) h1
    · omega
theorem zbn_bit (c : Nat → Bool) (n k : Nat) : (zbn c n).testBit k = (decide (k < n) && c k) := by
  induction n with
  | zero => simp [zbn]
  | succ n ih =>
    unfold zbn
    split
    · rename_i h
      rw [Nat.testBit_or, ih, Nat.testBit_two_pow]
      by_cases hk : k = n
      · subst hk; simp [h]
      · have h1 : ¬ n = k := fun e => hk e.symm
        simp [h1]
        by_cases h2 : k < n
        · simp [h2, show k < n + 1 by omega]
        · simp [h2, show ¬ k < n + 1 by omega]
    · rename_i h
      rw [ih]
      by_cases hk : k = n
      · subst hk; simp [h]
      · by_cases h2 : k < n
        · simp [h2, show k < n + 1 by omega]
        · simp [h2, show ¬ k < n + 1 by omega]
theorem zbits_N (c : Nat → Bool) : ∀ n, n ≤ 16 → zbits c n = nI (zbn c n) := by
  intro n
  induction n with
  | zero => intro _; rfl
  | succ n ih =>
    intro hn
    have h1 := ih (by omega)
    unfold zbits at h1 ⊢
    simp only [zor, zbn, h1]
    split
    · rw [zsh_N n (by omega), nI_or]
    · rfl
theorem zhas_bits {c : Nat → Bool} {n k : Nat} (hn : n ≤ 8) (hk : k < 8) : zhas (zbits c n) k = (decide (k < n) && c k) := by
  have h1 := zbn_lt c n
  have h2 : 2 ^ n ≤ 2 ^ 8 := Nat.pow_le_pow_right (by omega) hn
  rw [zbits_N c n (by omega), zhas_N (by omega) (by omega), zbn_bit]
/-- two numbers below 2 ^ n with like bits below n are one -/
theorem zbit_ext {n a b : Nat} (ha : a < 2 ^ n) (hb : b < 2 ^ n) (h : ∀ k, k < n → a.testBit k = b.testBit k) : a = b := by
  apply Nat.eq_of_testBit_eq
  intro k
  by_cases hk : k < n
  · exact h k hk
  · have h1 : 2 ^ n ≤ 2 ^ k := Nat.pow_le_pow_right (by omega) (by omega)
    rw [Nat.testBit_lt_two_pow (by omega), Nat.testBit_lt_two_pow (by omega)]
/-- a without b -/
theorem nI_not {a b : Nat} (ha : a < 2 ^ 31) : nI a &&& (nI b ^^^ -1) = nI (a &&& (a ^^^ (a &&& b))) := by
  apply Int32.toBitVec_inj.mp
  apply BitVec.eq_of_getLsbD_eq
  intro i hi
  simp [nI, Int32.toBitVec_and, Int32.toBitVec_xor, Int32.toBitVec_ofNat, Int32.toBitVec_neg, BitVec.getLsbD_ofNat, hi]
  generalize (BitVec.ofNat 32 a)[i] = x
  generalize (BitVec.ofNat 32 b)[i] = y
  cases x <;> cases y <;> rfl
