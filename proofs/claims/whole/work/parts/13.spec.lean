/-! sets as bits, as the programs make and read them -/
def zsh (k : Nat) : Int32 := (1 : Int32) <<< (nI k &&& 31)
def zhas (m : Int32) (k : Nat) : Bool := !((m >>> (nI k &&& 31)) &&& 1 == 0)
/-- the parts f i of those i below n that c chooses, one into the other -/
def zor (f : Nat → Int32) (c : Nat → Bool) : Nat → Int32
  | 0 => 0
  | n + 1 => if c n = true then zor f c n ||| f n else zor f c n
def zsum (f : Nat → Int32) (c : Nat → Bool) : Nat → Int32
  | 0 => 0
  | n + 1 => if c n = true then zsum f c n + f n else zsum f c n
abbrev zbits (c : Nat → Bool) : Nat → Int32 := zor zsh c
def zus (x y : Int32) : Int32 := (x.toUInt32 >>> (y.toUInt32 &&& Int32.toUInt32 31)).toInt32
def zpop1 (x : Int32) : Int32 := x - (zus x 1 &&& 1431655765)
def zpop2 (x : Int32) : Int32 := (x &&& 858993459) + (zus x 2 &&& 858993459)
def zpop3 (x : Int32) : Int32 := (x + zus x 4) &&& 252645135
def zpop4 (x : Int32) : Int32 := x + zus x 8
def zpop5 (x : Int32) : Int32 := x + zus x 16
/-- Integer.bitCount -/
def zpop (x : Int32) : Int32 := zpop5 (zpop4 (zpop3 (zpop2 (zpop1 x)))) &&& 63
def zin (x m : Int32) : Bool := !decide (x < 0) && !decide (m ≤ x)
def zq_isT (t : Nat) : Prop := t = 4 ∨ t = 8
theorem zt_kd {t : Nat} (h : zq_isT t) : zq_kd t = some (.inl 5) := by rcases h with rfl | rfl <;> rfl
theorem zt_lt {t : Nat} (h : zq_isT t) : t < 138 := by rcases h with rfl | rfl <;> decide
/-- home, name, years remembered, asks, where, since, died -/
abbrev zq_V : Type := (Nat → Int32) × (Nat → Int32) × (Nat → Int32) × (Nat → Int32) × (Nat → Int32) × (Nat → Int32) × (Nat → Int32)
def zV (I : zq_I) : zq_V := (I 121, I 122, I 123, I 124, I 125, I 126, I 127)
def vH (V : zq_V) : Nat → Int32 := V.1
def vN (V : zq_V) : Nat → Int32 := V.2.1
def vK (V : zq_V) : Nat → Int32 := V.2.2.1
def vA (V : zq_V) : Nat → Int32 := V.2.2.2.1
def vW (V : zq_V) : Nat → Int32 := V.2.2.2.2.1
def vS (V : zq_V) : Nat → Int32 := V.2.2.2.2.2.1
def vD (V : zq_V) : Nat → Int32 := V.2.2.2.2.2.2
/-- alive; at home; away from home; missing; remembered; missed by -/
def zAl (V : zq_V) (p : Nat) : Bool := vD V p == -9
def zTh (V : zq_V) (p : Nat) : Bool := zAl V p && (vW V p == vH V p)
def zAw (V : zq_V) (p : Nat) : Int32 := if vW V p < vH V p then vH V p - vW V p else vW V p - vH V p
def zMi (V : zq_V) (p : Nat) (y : Int32) : Bool := if zAl V p = true then !(vW V p == vH V p) else decide (y < vD V p + zAw V p)
def zRe (V : zq_V) (i j : Nat) (y : Int32) : Bool := decide (y - vS V j ≤ vK V i)
def zRb (V : zq_V) (N i : Nat) (y : Int32) : Int32 := zbits (fun j => (vH V j == vH V i) && zMi V j y && zRe V i j y) N
def zMs (V : zq_V) (N i : Nat) (y : Int32) : Int32 := zbits (fun j => zhas (vA V i) j && (vH V i == vH V j) && zTh V i && zMi V j y && zRe V i j y) N
def zOH (V : zq_V) (N : Nat) (t : Int32) : Int32 := zbits (fun i => vH V i == t) N
def zNm (V : zq_V) (N : Nat) (m : Int32) : Int32 := zor (fun i => (1 : Int32) <<< (vN V i &&& 31)) (fun i => zhas m i) N
def zCt (l : Int32) (V : zq_V) (N : Nat) (pairs missed : Int32) : Int32 := if l = 0 then pairs else zpop (if l = 1 then missed else zNm V N missed)
def zCnt (l : Int32) (V : zq_V) (N : Nat) (g : Nat → Int32) (c : Nat → Bool) : Int32 := zCt l V N (zsum (fun i => zpop (g i)) c N) (zor g c N)
/-- so many people, so many towns; the Folk f and the model's census agree -/
def zRL (f N T : Nat) (I : zq_I) : Prop := N ≤ 8 ∧ 1 ≤ T ∧ T ≤ 4 ∧ I 119 6 = nI N ∧ I 119 5 = nI T ∧ I f 2 = nI N ∧ I f 1 = nI T ∧ I f 0 = I 119 4 ∧ ∀ p, p < N → I (f + 1) p = I 121 p ∧ I (f + 2) p = I 122 p ∧ I (f + 3) p = I 123 p ∧ I (f + 4) p = I 124 p
/-- a World w and the model's people agree -/
def zRW (w N : Nat) (I : zq_I) : Prop := I w 0 = I 119 15 ∧ (∀ p, p < N → I (w + 1) p = I 125 p ∧ I (w + 2) p = I 126 p ∧ I (w + 3) p = I 127 p) ∧ ∀ t, t < 4 → I (w + 4) t = I 128 t
/-- what the model's numbers are -/
def zRR (N T Y : Nat) (I : zq_I) : Prop := Y ≤ 1000 ∧ I 119 15 = nI Y ∧ (I 119 4 = 0 ∨ I 119 4 = 1 ∨ I 119 4 = 2) ∧ (∀ p, p < N → (∃ h, h < T ∧ I 121 p = nI h) ∧ (∃ a, a < 6 ∧ I 122 p = nI a) ∧ (∃ m, m ≤ 9 ∧ I 123 p = nI m) ∧ (∃ a, a < 2 ^ N ∧ a.testBit p = false ∧ I 124 p = nI a) ∧ (∃ w, w < T ∧ I 125 p = nI w) ∧ (∃ s, s ≤ Y ∧ I 126 p = nI s) ∧ (I 127 p = -9 ∨ ∃ d, d ≤ Y ∧ I 127 p = nI d)) ∧ ∀ t, t < 4 → ∃ r, r ≤ 99 ∧ I 128 t = nI r
def zS (fo : Bool) (N T Y : Nat) (I : zq_I) : Prop := zRL (zF fo) N T I ∧ zRW 91 N I ∧ zRR N T Y I
/-- what the class's questions may write: the cells that it reckons in -/
def zsc (fo : Bool) (c : Nat) : Bool := c == 3 || c == 4 || c == 5 || c == 6 || c == 7 || c == 8 || c == 108 || (decide (zD fo ≤ c) && decide (c ≤ zD fo + 4))
def zFC (fo : Bool) (I I' : zq_I) : Prop := ∀ c, zsc fo c = false → I' c = I c
def zsm (c : Nat) : Bool := c == 119 || c == 129 || c == 130 || c == 131 || c == 132 || c == 136 || c == 137
def zsk (k : Nat) : Bool := k == 0 || k == 3 || k == 16 || k == 17 || k == 18 || k == 19 || k == 28 || k == 30 || k == 31
/-- what the model's questions may write -/
def zFM (I I' : zq_I) : Prop := (∀ c, zsm c = false → I' c = I c) ∧ ∀ k, zsk k = false → I' 119 k = I 119 k
theorem zFC.rf {fo : Bool} {I : zq_I} : zFC fo I I := fun _ _ => rfl
theorem zFC.tr {fo : Bool} {I I1 I2 : zq_I} (h : zFC fo I I1) (h2 : zFC fo I1 I2) : zFC fo I I2 := fun c hc => (h2 c hc).trans (h c hc)
theorem zFM.rf {I : zq_I} : zFM I I := ⟨fun _ _ => rfl, fun _ _ => rfl⟩
theorem zFM.tr {I I1 I2 : zq_I} (h : zFM I I1) (h2 : zFM I1 I2) : zFM I I2 := ⟨fun c hc => (h2.1 c hc).trans (h.1 c hc), fun c hc => (h2.2 c hc).trans (h.2 c hc)⟩
theorem zFC.zu {fo : Bool} {I I1 : zq_I} (h : zFC fo I I1) (c k : Nat) (v : Int32) (hc : zsc fo c = true) : zFC fo I (zu I1 c k v) := fun b hb => by
  have hbc : b ≠ c := fun e => by rw [e, hc] at hb; cases hb
  rw [zu_other hbc]
  exact h b hb
theorem zFM.zu {I I1 : zq_I} (h : zFM I I1) (c k : Nat) (v : Int32) (hc : (zsm c && (!(c == 119) || zsk k)) = true) : zFM I (zu I1 c k v) := by
  simp only [Bool.and_eq_true, Bool.or_eq_true, Bool.not_eq_true', beq_eq_false_iff_ne] at hc
  refine ⟨fun b hb => ?_, fun j hj => ?_⟩
  · have hbc : b ≠ c := fun e => by rw [e, hc.1] at hb; cases hb
    rw [zu_other hbc]
    exact h.1 b hb
  · rcases hc.2 with h1 | h1
    · rw [zu_other (Ne.symm h1)]; exact h.2 j hj
    · have hjk : j ≠ k := fun e => by rw [e, h1] at hj; cases hj
      show (if 119 = c ∧ j = k then v else I1 119 j) = _
      rw [if_neg (fun q => hjk q.2)]
      exact h.2 j hj
theorem zFC.V {fo : Bool} {I I' : zq_I} (h : zFC fo I I') : zV I' = zV I := by
  unfold zV
  rw [h 121 (by cases fo <;> rfl), h 122 (by cases fo <;> rfl), h 123 (by cases fo <;> rfl), h 124 (by cases fo <;> rfl), h 125 (by cases fo <;> rfl), h 126 (by cases fo <;> rfl), h 127 (by cases fo <;> rfl)]
theorem zFM.V {I I' : zq_I} (h : zFM I I') : zV I' = zV I := by
  unfold zV
  rw [h.1 121 rfl, h.1 122 rfl, h.1 123 rfl, h.1 124 rfl, h.1 125 rfl, h.1 126 rfl, h.1 127 rfl]
theorem zsc_F (fo : Bool) (j : Nat) (hj : j ≤ 4) : zsc fo (zF fo + j) = false := by
  rcases (by omega : j = 0 ∨ j = 1 ∨ j = 2 ∨ j = 3 ∨ j = 4) with rfl | rfl | rfl | rfl | rfl <;> cases fo <;> rfl
theorem zFC.S {fo : Bool} {N T Y : Nat} {I I' : zq_I} (h : zFC fo I I') (hs : zS fo N T Y I) : zS fo N T Y I' := by
  have e0 := h (zF fo) (zsc_F fo 0 (by omega))
  have e1 := h (zF fo + 1) (zsc_F fo 1 (by omega))
  have e2 := h (zF fo + 2) (zsc_F fo 2 (by omega))
  have e3 := h (zF fo + 3) (zsc_F fo 3 (by omega))
  have e4 := h (zF fo + 4) (zsc_F fo 4 (by omega))
  have a : ∀ c, c = 91 ∨ c = 92 ∨ c = 93 ∨ c = 94 ∨ c = 95 ∨ c = 119 ∨ c = 121 ∨ c = 122 ∨ c = 123 ∨ c = 124 ∨ c = 125 ∨ c = 126 ∨ c = 127 ∨ c = 128 → I' c = I c := by
    intro c hc
    rcases hc with rfl | rfl | rfl | rfl | rfl | rfl | rfl | rfl | rfl | rfl | rfl | rfl | rfl | rfl <;> exact h _ (by cases fo <;> rfl)
  obtain ⟨h1, h2, h3⟩ := hs
  refine ⟨?_, ?_, ?_⟩
  · unfold zRL at h1 ⊢
    rw [e0, e1, e2, e3, e4, a 119 (by simp), a 121 (by simp), a 122 (by simp), a 123 (by simp), a 124 (by simp)]
    exact h1
  · unfold zRW at h2 ⊢
    rw [a 91 (by simp), a (91 + 1) (by simp), a (91 + 2) (by simp), a (91 + 3) (by simp), a (91 + 4) (by simp), a 119 (by simp), a 125 (by simp), a 126 (by simp), a 127 (by simp), a 128 (by simp)]
    exact h2
  · unfold zRR at h3 ⊢
    rw [a 119 (by simp), a 121 (by simp), a 122 (by simp), a 123 (by simp), a 124 (by simp), a 125 (by simp), a 126 (by simp), a 127 (by simp), a 128 (by simp)]
    exact h3
section SACC
variable {fo : Bool} {N T Y p : Nat} {I : zq_I}
theorem zS.n8 (h : zS fo N T Y I) : N ≤ 8 := h.1.1
theorem zS.ppl (h : zS fo N T Y I) : I (zF fo) 2 = nI N := h.1.2.2.2.2.2.1
theorem zS.twn (h : zS fo N T Y I) : I (zF fo) 1 = nI T := h.1.2.2.2.2.2.2.1
theorem zS.law (h : zS fo N T Y I) : I (zF fo) 0 = I 119 4 := h.1.2.2.2.2.2.2.2.1
theorem zS.mppl (h : zS fo N T Y I) : I 119 6 = nI N := h.1.2.2.2.1
theorem zS.mtwn (h : zS fo N T Y I) : I 119 5 = nI T := h.1.2.2.2.2.1
theorem zS.t4 (h : zS fo N T Y I) : T ≤ 4 := h.1.2.2.1
theorem zS.hom (h : zS fo N T Y I) (hp : p < N) : I (zF fo + 1) p = vH (zV I) p := (h.1.2.2.2.2.2.2.2.2 p hp).1
theorem zS.nam (h : zS fo N T Y I) (hp : p < N) : I (zF fo + 2) p = vN (zV I) p := (h.1.2.2.2.2.2.2.2.2 p hp).2.1
theorem zS.kee (h : zS fo N T Y I) (hp : p < N) : I (zF fo + 3) p = vK (zV I) p := (h.1.2.2.2.2.2.2.2.2 p hp).2.2.1
theorem zS.ask (h : zS fo N T Y I) (hp : p < N) : I (zF fo + 4) p = vA (zV I) p := (h.1.2.2.2.2.2.2.2.2 p hp).2.2.2
theorem zS.yea (h : zS fo N T Y I) : I 91 0 = I 119 15 := h.2.1.1
theorem zS.whe (h : zS fo N T Y I) (hp : p < N) : I 92 p = vW (zV I) p := (h.2.1.2.1 p hp).1
theorem zS.sin (h : zS fo N T Y I) (hp : p < N) : I 93 p = vS (zV I) p := (h.2.1.2.1 p hp).2.1
theorem zS.die (h : zS fo N T Y I) (hp : p < N) : I 94 p = vD (zV I) p := (h.2.1.2.1 p hp).2.2
theorem zS.rum (h : zS fo N T Y I) {t : Nat} (ht : t < 4) : I 95 t = I 128 t := h.2.1.2.2 t ht
end SACC
/-- the answer v, the class's reckoning cells aside nothing changed -/
def zq_fr (v : Option Value) (fo : Bool) (I : zq_I) : zq_R := fun v' n' I' P' => v' = v ∧ n' = 138 ∧ P' = zPs fo ∧ zFC fo I I'
def zq_fm (v : Option Value) (fo : Bool) (I : zq_I) : zq_R := fun v' n' I' P' => v' = v ∧ n' = 138 ∧ P' = zPs fo ∧ zFM I I'
