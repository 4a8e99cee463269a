/-! sets as bits, as the programs make and read them -/
def zsh (k : Nat) : Int32 := (1 : Int32) <<< (nI k &&& 31)
def zhas (m : Int32) (k : Nat) : Bool := !((m >>> (nI k &&& 31)) &&& 1 == 0)
def zbits (c : Nat → Bool) : Nat → Int32
  | 0 => 0
  | n + 1 => if c n = true then zbits c n ||| zsh n else zbits c n
def zus (x y : Int32) : Int32 := (x.toUInt32 >>> (y.toUInt32 &&& Int32.toUInt32 31)).toInt32
def zpop1 (x : Int32) : Int32 := x - (zus x 1 &&& 1431655765)
def zpop2 (x : Int32) : Int32 := (x &&& 858993459) + (zus x 2 &&& 858993459)
def zpop3 (x : Int32) : Int32 := (x + zus x 4) &&& 252645135
def zpop4 (x : Int32) : Int32 := x + zus x 8
def zpop5 (x : Int32) : Int32 := x + zus x 16
/-- Integer.bitCount -/
def zpop (x : Int32) : Int32 := zpop5 (zpop4 (zpop3 (zpop2 (zpop1 x)))) &&& 63
def zin (x m : Int32) : Bool := !decide (x < 0) && !decide (m ≤ x)
def zq_isT (t : Nat) : Prop := t = 4 ∨ t = 8
theorem zt_kd {t : Nat} (h : zq_isT t) : zq_kd t = some (.inl 5) := by rcases h with rfl | rfl <;> rfl
theorem zt_lt {t : Nat} (h : zq_isT t) : t < 138 := by rcases h with rfl | rfl <;> decide
/-- so many people, so many towns; the Folk f and the model's census agree -/
def zRL (f N T : Nat) (I : zq_I) : Prop := N ≤ 8 ∧ 1 ≤ T ∧ T ≤ 4 ∧ I 119 6 = nI N ∧ I 119 5 = nI T ∧ I f 2 = nI N ∧ I f 1 = nI T ∧ I f 0 = I 119 4 ∧ ∀ p, p < N → I (f + 1) p = I 121 p ∧ I (f + 2) p = I 122 p ∧ I (f + 3) p = I 123 p ∧ I (f + 4) p = I 124 p
/-- a World w and the model's people agree -/
def zRW (w N : Nat) (I : zq_I) : Prop := I w 0 = I 119 15 ∧ (∀ p, p < N → I (w + 1) p = I 125 p ∧ I (w + 2) p = I 126 p ∧ I (w + 3) p = I 127 p) ∧ ∀ t, t < 4 → I (w + 4) t = I 128 t
