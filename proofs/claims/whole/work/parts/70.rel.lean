/-! the law's relation: World w agrees with the page at off of row b, within the ranges -/
def zPW (w b off N T B : Nat) (I : zq_I) : Prop := ∃ Y, Y ≤ B ∧ I w 0 = nI Y ∧ I b (off + 28) = nI Y ∧ (∀ p, p < N → (I (w + 1) p = I b (off + p) ∧ I (w + 2) p = I b (off + 8 + p) ∧ I (w + 3) p = I b (off + 16 + p)) ∧ (∃ x, x < T ∧ I b (off + p) = nI x) ∧ (∃ s, s ≤ Y ∧ I b (off + 8 + p) = nI s) ∧ (I b (off + 16 + p) = -9 ∨ ∃ d, d ≤ Y ∧ I b (off + 16 + p) = nI d)) ∧ ∀ t, t < 4 → I (w + 4) t = I b (off + 24 + t) ∧ ∃ r, r ≤ 99 ∧ I b (off + 24 + t) = nI r
theorem zPW.of {w b off off' N T B B' : Nat} {I I' : zq_I} (h : zPW w b off N T B I) (hB : B ≤ B') (hN : N ≤ 8) (hw : ∀ c, w ≤ c → c ≤ w + 4 → I' c = I c) (hb : ∀ j, j < 29 → I' b (off' + j) = I b (off + j)) : zPW w b off' N T B' I' := by
  obtain ⟨Y, hY, h1, h2, h3, h4⟩ := h
  have e0 := hw w (by omega) (by omega)
  have e1 := hw (w + 1) (by omega) (by omega)
  have e2 := hw (w + 2) (by omega) (by omega)
  have e3 := hw (w + 3) (by omega) (by omega)
  have e4 := hw (w + 4) (by omega) (by omega)
  refine ⟨Y, by omega, by rw [e0]; exact h1, by rw [hb 28 (by omega)]; exact h2, fun p hp => ?_, fun t ht => ?_⟩
  · have q := h3 p hp
    rw [Nat.add_assoc off 8 p, Nat.add_assoc off 16 p] at q
    rw [Nat.add_assoc off' 8 p, Nat.add_assoc off' 16 p, e1, e2, e3, hb p (by omega), hb (8 + p) (by omega), hb (16 + p) (by omega)]
    exact q
  · have q := h4 t ht
    rw [Nat.add_assoc off 24 t] at q
    rw [Nat.add_assoc off' 24 t, e4, hb (24 + t) (by omega)]
    exact q
def zHIS (fs cn N T B : Nat) (I : zq_I) : Prop := fs < 16 ∧ cn ≤ 16 ∧ I 9 1 = nI fs ∧ I 9 2 = nI cn ∧ I 119 25 = nI cn ∧ ∀ k, k < cn → zPW (11 + 5 * ((fs + k) % 16)) 133 (29 * k) N T B I
theorem zHIS.of {fs cn N T B B' : Nat} {I I' : zq_I} (h : zHIS fs cn N T B I) (hN : N ≤ 8) (hB : B ≤ B') (hc : ∀ c, c = 9 ∨ (11 ≤ c ∧ c ≤ 90) → I' c = I c) (h133 : I' 133 = I 133) (h25 : I' 119 25 = I 119 25) : zHIS fs cn N T B' I' := by
  obtain ⟨h1, h2, h3, h4, h5, h6⟩ := h
  refine ⟨h1, h2, by rw [hc 9 (Or.inl rfl)]; exact h3, by rw [hc 9 (Or.inl rfl)]; exact h4, by rw [h25]; exact h5, fun k hk => ?_⟩
  have hm := Nat.mod_lt (fs + k) (show 0 < 16 by omega)
  exact (h6 k hk).of hB hN (fun c q1 q2 => hc c (Or.inr (by omega))) (fun j _ => by rw [h133])
def zSLO (N T B : Nat) (I : zq_I) : Prop := ∀ s, s < 2 → I 107 s = I 135 s ∧ (¬ I 135 s = 0 → zPW (97 + 5 * s) 134 (29 * s) N T B I)
theorem zSLO.of {N T B B' : Nat} {I I' : zq_I} (h : zSLO N T B I) (hN : N ≤ 8) (hB : B ≤ B') (hc : ∀ c, 97 ≤ c → c ≤ 107 → I' c = I c) (h134 : I' 134 = I 134) (h135 : I' 135 = I 135) : zSLO N T B' I' := by
  intro s hs
  obtain ⟨h1, h2⟩ := h s hs
  rw [hc 107 (by omega) (by omega), h135]
  exact ⟨h1, fun q => (h2 q).of hB hN (fun c q1 q2 => hc c (by omega) (by omega)) (fun j _ => by rw [h134])⟩
def zTXT (len : Nat) (I : zq_I) : Prop := len ≤ 80 ∧ I 1 1 = nI len ∧ I 119 2 = nI len ∧ ∀ j, j < len → I 120 j = I 2 j &&& 255
theorem zTXT.of {len : Nat} {I I' : zq_I} (h : zTXT len I) (h1 : I' 1 = I 1) (h2 : I' 2 = I 2) (h3 : I' 120 = I 120) (h4 : I' 119 2 = I 119 2) : zTXT len I' := by
  unfold zTXT
  rw [h1, h2, h3, h4]
  exact h
def zPRS (fo : Bool) (N : Nat) (I : zq_I) : Prop := I (zF fo) 3 = zsum (fun i => zpop (vA (zV I) i)) (fun _ => true) N
theorem zPRS.of {fo : Bool} {N : Nat} {I I' : zq_I} (h : zPRS fo N I) (h1 : I' (zF fo) 3 = I (zF fo) 3) (h2 : I' 124 = I 124) : zPRS fo N I' := by
  show I' (zF fo) 3 = zsum (fun i => zpop (I' 124 i)) (fun _ => true) N
  rw [h1, h2]
  exact h
theorem zS.of {fo : Bool} {N T Y : Nat} {I I' : zq_I} (hs : zS fo N T Y I) (hF : ∀ j, j ≤ 4 → I' (zF fo + j) = I (zF fo + j)) (hW : ∀ c, 91 ≤ c → c ≤ 95 → I' c = I c) (hM : ∀ c, 121 ≤ c → c ≤ 128 → I' c = I c) (h4 : I' 119 4 = I 119 4) (h5 : I' 119 5 = I 119 5) (h6 : I' 119 6 = I 119 6) (h15 : I' 119 15 = I 119 15) : zS fo N T Y I' := by
  have e0 := hF 0 (by omega)
  rw [Nat.add_zero] at e0
  have e1 := hF 1 (by omega)
  have e2 := hF 2 (by omega)
  have e3 := hF 3 (by omega)
  have e4 := hF 4 (by omega)
  have w0 := hW 91 (by omega) (by omega)
  have w1 := hW 92 (by omega) (by omega)
  have w2 := hW 93 (by omega) (by omega)
  have w3 := hW 94 (by omega) (by omega)
  have w4 := hW 95 (by omega) (by omega)
  have m1 := hM 121 (by omega) (by omega)
  have m2 := hM 122 (by omega) (by omega)
  have m3 := hM 123 (by omega) (by omega)
  have m4 := hM 124 (by omega) (by omega)
  have m5 := hM 125 (by omega) (by omega)
  have m6 := hM 126 (by omega) (by omega)
  have m7 := hM 127 (by omega) (by omega)
  have m8 := hM 128 (by omega) (by omega)
  obtain ⟨h1, h2, h3⟩ := hs
  refine ⟨?_, ?_, ?_⟩
  · unfold zRL at h1 ⊢
    rw [e0, e1, e2, e3, e4, h4, h5, h6, m1, m2, m3, m4]
    exact h1
  · unfold zRW at h2 ⊢
    rw [w0, w1, w2, w3, w4, h15, m5, m6, m7, m8]
    exact h2
  · unfold zRR at h3 ⊢
    rw [h15, h4, m1, m2, m3, m4, m5, m6, m7, m8]
    exact h3
/-- all that the relation speaks of -/
def zR6 (B : Nat) (fo : Bool) (N T Y fs cn len : Nat) (I : zq_I) : Prop := zS fo N T Y I ∧ Y ≤ B ∧ zPRS fo N I ∧ zTXT len I ∧ zHIS fs cn N T B I ∧ zSLO N T B I
def zREL (B : Nat) (fo : Bool) (I : zq_I) : Prop := ∃ N T Y fs cn len, zR6 B fo N T Y fs cn len I
def zAg (fo : Bool) (I I' : zq_I) : Prop := (∀ c, (c = 1 ∨ c = 2 ∨ c = 9 ∨ (11 ≤ c ∧ c ≤ 95) ∨ (97 ≤ c ∧ c ≤ 107) ∨ (zF fo ≤ c ∧ c ≤ zF fo + 4) ∨ (120 ≤ c ∧ c ≤ 128) ∨ c = 133 ∨ c = 134 ∨ c = 135) → I' c = I c) ∧ ∀ k, zsk k = false → I' 119 k = I 119 k
theorem zAg.tr {fo : Bool} {I I1 I2 : zq_I} (h : zAg fo I I1) (h2 : zAg fo I1 I2) : zAg fo I I2 := ⟨fun c hc => (h2.1 c hc).trans (h.1 c hc), fun k hk => (h2.2 k hk).trans (h.2 k hk)⟩
theorem zsc_ag {fo : Bool} {c : Nat} (hc : c = 1 ∨ c = 2 ∨ c = 9 ∨ (11 ≤ c ∧ c ≤ 95) ∨ (97 ≤ c ∧ c ≤ 107) ∨ (zF fo ≤ c ∧ c ≤ zF fo + 4) ∨ (120 ≤ c ∧ c ≤ 128) ∨ c = 133 ∨ c = 134 ∨ c = 135) : zsc fo c = false := by
  refine Bool.eq_false_iff.mpr (fun q => ?_)
  simp only [zsc, Bool.or_eq_true, Bool.and_eq_true, beq_iff_eq, decide_eq_true_eq] at q
  cases fo
  · have e1 : zF false = 109 := rfl
    have e2 : zD false = 114 := rfl
    omega
  · have e1 : zF true = 114 := rfl
    have e2 : zD true = 109 := rfl
    omega
theorem zFC.ag {fo : Bool} {I I' : zq_I} (h : zFC fo I I') : zAg fo I I' := ⟨fun c hc => h c (zsc_ag hc), fun k _ => by rw [h 119 (by cases fo <;> rfl)]⟩
theorem zFM.ag {fo : Bool} {I I' : zq_I} (h : zFM I I') : zAg fo I I' := by
  refine ⟨fun c hc => h.1 c (Bool.eq_false_iff.mpr (fun q => ?_)), h.2⟩
  simp only [zsm, Bool.or_eq_true, beq_iff_eq] at q
  cases fo
  · have e1 : zF false = 109 := rfl
    omega
  · have e1 : zF true = 114 := rfl
    omega
theorem zR6.ag {B B' : Nat} {fo : Bool} {N T Y fs cn len : Nat} {I I' : zq_I} (h : zR6 B fo N T Y fs cn len I) (hB : B ≤ B') (ha : zAg fo I I') : zR6 B' fo N T Y fs cn len I' := by
  obtain ⟨h1, h2, h3, h4, h5, h6⟩ := h
  have hF : zF fo = 109 ∨ zF fo = 114 := zF_is fo
  refine ⟨h1.of (fun j hj => ha.1 _ (by omega)) (fun c q1 q2 => ha.1 c (by omega)) (fun c q1 q2 => ha.1 c (by omega)) (ha.2 4 rfl) (ha.2 5 rfl) (ha.2 6 rfl) (ha.2 15 rfl), by omega, ?_, ?_, ?_, ?_⟩
  · exact h3.of (by rw [ha.1 (zF fo) (by omega)]) (ha.1 124 (by omega))
  · exact h4.of (ha.1 1 (by omega)) (ha.1 2 (by omega)) (ha.1 120 (by omega)) (ha.2 2 rfl)
  · exact h5.of h1.n8 hB (fun c q => ha.1 c (by omega)) (ha.1 133 (by omega)) (ha.2 25 rfl)
  · exact h6.of h1.n8 hB (fun c q1 q2 => ha.1 c (by omega)) (ha.1 134 (by omega)) (ha.1 135 (by omega))
/-- a World and a page that become the current ones -/
theorem zS.ret {fo : Bool} {N T Y Y' w b off B : Nat} {I I' : zq_I} (hs : zS fo N T Y I) (hp : zPW w b off N T B I) (hB : B ≤ 1000) (hF : ∀ j, j ≤ 4 → I' (zF fo + j) = I (zF fo + j)) (hM : ∀ c, 121 ≤ c → c ≤ 124 → I' c = I c) (h4 : I' 119 4 = I 119 4) (h5 : I' 119 5 = I 119 5) (h6 : I' 119 6 = I 119 6)
    (hcp : I' 91 0 = I w 0 ∧ (∀ p, p < 8 → I' 92 p = I (w + 1) p ∧ I' 93 p = I (w + 2) p ∧ I' 94 p = I (w + 3) p) ∧ ∀ t, t < 4 → I' 95 t = I (w + 4) t)
    (hpg : (∀ p, p < 8 → I b (off + p) = I' 125 p ∧ I b (off + 8 + p) = I' 126 p ∧ I b (off + 16 + p) = I' 127 p) ∧ (∀ t, t < 4 → I b (off + 24 + t) = I' 128 t) ∧ I b (off + 28) = I' 119 15) (hY : I w 0 = nI Y') (hY2 : Y' ≤ B) : zS fo N T Y' I' := by
  obtain ⟨Y1, hY1, g1, g2, g3, g4⟩ := hp
  have hN := hs.n8
  have hT := hs.t4
  have eY : Y1 = Y' := (nI_eq (by omega) (by omega)).mp (g1.symm.trans hY)
  subst eY
  have e0 := hF 0 (by omega)
  rw [Nat.add_zero] at e0
  have e1 := hF 1 (by omega)
  have e2 := hF 2 (by omega)
  have e3 := hF 3 (by omega)
  have e4 := hF 4 (by omega)
  have m1 := hM 121 (by omega) (by omega)
  have m2 := hM 122 (by omega) (by omega)
  have m3 := hM 123 (by omega) (by omega)
  have m4 := hM 124 (by omega) (by omega)
  obtain ⟨h1, h2, h3⟩ := hs
  refine ⟨?_, ⟨?_, fun p hp => ?_, fun t ht => ?_⟩, ⟨by omega, by rw [← hpg.2.2]; exact g2, by rw [h4]; exact h3.2.2.1, fun p hp => ?_, fun t ht => ?_⟩⟩
  · unfold zRL at h1 ⊢
    rw [e0, e1, e2, e3, e4, h4, h5, h6, m1, m2, m3, m4]
    exact h1
  · rw [hcp.1, ← hpg.2.2, g1, g2]
  · obtain ⟨q1, q2, q3⟩ := hcp.2.1 p (by omega)
    obtain ⟨r1, r2, r3⟩ := hpg.1 p (by omega)
    obtain ⟨⟨s1, s2, s3⟩, -⟩ := g3 p hp
    exact ⟨by rw [← r1, ← s1]; exact q1, by rw [← r2, ← s2]; exact q2, by rw [← r3, ← s3]; exact q3⟩
  · rw [← hpg.2.1 t ht, ← (g4 t ht).1]; exact hcp.2.2 t ht
  · obtain ⟨r1, r2, r3⟩ := hpg.1 p (by omega)
    obtain ⟨-, s1, s2, s3⟩ := g3 p hp
    obtain ⟨a1, a2, a3, a4, -⟩ := h3.2.2.2.1 p hp
    rw [m1, m2, m3, m4, ← r1, ← r2, ← r3]
    exact ⟨a1, a2, a3, a4, s1, s2, s3⟩
  · rw [← hpg.2.1 t ht]; exact (g4 t ht).2
/-- the current World and the model's people, laid down as a World and a page -/
theorem zPW.lay {fo : Bool} {N T Y w b off B : Nat} {I I' : zq_I} (hs : zS fo N T Y I) (hB : Y ≤ B)
    (hcp : I' w 0 = I 91 0 ∧ (∀ p, p < 8 → I' (w + 1) p = I 92 p ∧ I' (w + 2) p = I 93 p ∧ I' (w + 3) p = I 94 p) ∧ ∀ t, t < 4 → I' (w + 4) t = I 95 t)
    (hpg : (∀ p, p < 8 → I' b (off + p) = I 125 p ∧ I' b (off + 8 + p) = I 126 p ∧ I' b (off + 16 + p) = I 127 p) ∧ (∀ t, t < 4 → I' b (off + 24 + t) = I 128 t) ∧ I' b (off + 28) = I 119 15) : zPW w b off N T B I' := by
  have hN := hs.n8
  refine ⟨Y, hB, by rw [hcp.1, hs.yea]; exact hs.2.2.2.1, by rw [hpg.2.2]; exact hs.2.2.2.1, fun p hp => ?_, fun t ht => ?_⟩
  · obtain ⟨q1, q2, q3⟩ := hcp.2.1 p (by omega)
    obtain ⟨r1, r2, r3⟩ := hpg.1 p (by omega)
    obtain ⟨-, -, -, -, s1, s2, s3⟩ := hs.2.2.2.2.2.1 p hp
    refine ⟨⟨?_, ?_, ?_⟩, by rw [r1]; exact s1, by rw [r2]; exact s2, by rw [r3]; exact s3⟩
    · rw [q1, r1]; exact hs.whe hp
    · rw [q2, r2]; exact hs.sin hp
    · rw [q3, r3]; exact hs.die hp
  · rw [hcp.2.2 t ht, hpg.2.1 t ht]
    exact ⟨hs.rum ht, hs.2.2.2.2.2.2 t ht⟩
/-- an act is noted by both -/
theorem zHIS.note {fo : Bool} {N T Y fs cn B : Nat} {I Ic I1 I2 I3 : zq_I} (h : zHIS fs cn N T B I) (hs : zS fo N T Y I) (hY : Y ≤ B) (hr : zrem I Ic fs cn) (hc : ∀ c, c = 9 ∨ (11 ≤ c ∧ c ≤ 90) ∨ (119 ≤ c ∧ c ≤ 137) → I1 c = Ic c) (hn : znote cn (zu I1 119 0 0) I2) (h3 : ∀ c, c = 9 ∨ (11 ≤ c ∧ c ≤ 90) ∨ c = 133 → I3 c = I2 c) (h25 : I3 119 25 = I2 119 25) : zHIS (zhf fs cn) (zhc cn + 1) N T B I3 := by
  obtain ⟨h1, h2, g1, g2, g5, g6⟩ := h
  obtain ⟨r1, r2, r3, r4⟩ := hr
  obtain ⟨n1, n2, n3, n4, n5⟩ := hn
  have hN := hs.n8
  have hf16 : zhf fs cn < 16 := by unfold zhf; split <;> omega
  have hc16 : zhc cn < 16 := by unfold zhc; split <;> omega
  have hzs : zhs fs cn = 11 + 5 * ((zhf fs cn + zhc cn) % 16) := rfl
  have hm := Nat.mod_lt (zhf fs cn + zhc cn) (show 0 < 16 by omega)
  have hU : ∀ c, c = 9 ∨ (11 ≤ c ∧ c ≤ 90) → I3 c = Ic c := fun c q => by rw [h3 c (by omega), n1 c (by omega) (by omega), zu_other (by omega), hc c (by omega)]
  refine ⟨hf16, by omega, by rw [hU 9 (Or.inl rfl)]; exact r2, by rw [hU 9 (Or.inl rfl)]; exact r3, by rw [h25]; exact n3, fun k hk => ?_⟩
  by_cases hkc : k = zhc cn
  · subst hkc
    rw [← hzs]
    refine zPW.lay (I := I) hs hY ?_ ?_
    · rw [hU (zhs fs cn) (by omega), hU (zhs fs cn + 1) (by omega), hU (zhs fs cn + 2) (by omega), hU (zhs fs cn + 3) (by omega), hU (zhs fs cn + 4) (by omega)]
      exact r4
    · have e : ∀ c, 125 ≤ c → c ≤ 128 → zu I1 119 0 0 c = I c := fun c q1 q2 => by rw [zu_other (by omega), hc c (by omega), r1 c (by omega) (by omega)]
      have e15 : zu I1 119 0 0 119 15 = I 119 15 := by rw [zu_ne (by omega), hc 119 (by omega), r1 119 (by omega) (by omega)]
      unfold zpag at n5
      rw [e 125 (by omega) (by omega), e 126 (by omega) (by omega), e 127 (by omega) (by omega), e 128 (by omega) (by omega), e15] at n5
      rw [h3 133 (by omega)]
      exact n5
  · have hk2 : k < zhc cn := by omega
    have hm2 := Nat.mod_lt (zhf fs cn + k) (show 0 < 16 by omega)
    have hne : (zhf fs cn + k) % 16 ≠ (zhf fs cn + zhc cn) % 16 := by omega
    have hU2 : ∀ c, 11 + 5 * ((zhf fs cn + k) % 16) ≤ c → c ≤ 11 + 5 * ((zhf fs cn + k) % 16) + 4 → I3 c = I c := fun c q1 q2 => by
      rw [hU c (by omega)]
      refine r1 c (by omega) ?_
      rw [hzs]
      rcases Nat.lt_or_gt_of_ne hne with q | q
      · left; omega
      · right; omega
    have h133 : zu I1 119 0 0 133 = I 133 := by rw [zu_other (by omega), hc 133 (by omega), r1 133 (by omega) (by omega)]
    have hbk : ∀ j, j < 29 → I3 133 (29 * k + j) = if cn = 16 then I 133 (29 * k + j + 29) else I 133 (29 * k + j) := fun j hj => by
      rw [h3 133 (by omega), n4 (29 * k + j) (by omega), h133]
    by_cases h16 : cn = 16
    · have hf : zhf fs cn = (fs + 1) % 16 := by unfold zhf; rw [if_pos h16]
      have hcc : zhc cn = 15 := by unfold zhc; rw [if_pos h16]
      have hix : (zhf fs cn + k) % 16 = (fs + (k + 1)) % 16 := by rw [hf]; omega
      have hold := g6 (k + 1) (by omega)
      rw [← hix] at hold
      exact hold.of (Nat.le_refl _) hN hU2 (fun j hj => by rw [hbk j hj, if_pos h16]; congr 1; omega)
    · have hf : zhf fs cn = fs := by unfold zhf; rw [if_neg h16]
      have hcc : zhc cn = cn := by unfold zhc; rw [if_neg h16]
      have hold := g6 k (by omega)
      rw [← hf] at hold
      exact hold.of (Nat.le_refl _) hN hU2 (fun j hj => by rw [hbk j hj, if_neg h16])
theorem zHIS.mono {fs cn N T B B' : Nat} {I : zq_I} (h : zHIS fs cn N T B I) (hN : N ≤ 8) (hB : B ≤ B') : zHIS fs cn N T B' I := h.of hN hB (fun _ _ => rfl) rfl rfl
/-- the last acts, one less -/
theorem zHIS.less {fs cn k N T B : Nat} {I I' : zq_I} (h : zHIS fs cn N T B I) (hN : N ≤ 8) (hk : k ≤ cn) (hc : ∀ c, 11 ≤ c ∧ c ≤ 90 → I' c = I c) (h91 : I' 9 1 = nI fs) (h92 : I' 9 2 = nI k) (h133 : I' 133 = I 133) (h25 : I' 119 25 = nI k) : zHIS fs k N T B I' := by
  obtain ⟨h1, h2, h3, h4, h5, h6⟩ := h
  refine ⟨h1, by omega, h91, h92, h25, fun j hj => ?_⟩
  have hm := Nat.mod_lt (fs + j) (show 0 < 16 by omega)
  exact (h6 j (by omega)).of (Nat.le_refl _) hN (fun c q1 q2 => hc c (by omega)) (fun i _ => by rw [h133])
