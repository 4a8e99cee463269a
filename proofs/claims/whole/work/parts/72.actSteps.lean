/-! the acts' steps -/
theorem zS.mk {fo : Bool} {N T Y Y' : Nat} {I I' : zq_I} (hs : zS fo N T Y I) (hF : ∀ j, j ≤ 4 → I' (zF fo + j) = I (zF fo + j)) (hM : ∀ c, 121 ≤ c → c ≤ 124 → I' c = I c) (h4 : I' 119 4 = I 119 4) (h5 : I' 119 5 = I 119 5) (h6 : I' 119 6 = I 119 6) (hY : Y' ≤ 1000) (h91 : I' 91 0 = I' 119 15) (h15 : I' 119 15 = nI Y')
    (hw : ∀ p, p < N → (I' 92 p = I' 125 p ∧ I' 93 p = I' 126 p ∧ I' 94 p = I' 127 p) ∧ (∃ w, w < T ∧ I' 125 p = nI w) ∧ (∃ s, s ≤ Y' ∧ I' 126 p = nI s) ∧ (I' 127 p = -9 ∨ ∃ d, d ≤ Y' ∧ I' 127 p = nI d)) (ht : ∀ t, t < 4 → I' 95 t = I' 128 t ∧ ∃ r, r ≤ 99 ∧ I' 128 t = nI r) : zS fo N T Y' I' := by
  have e0 := hF 0 (by omega)
  rw [Nat.add_zero] at e0
  have e1 := hF 1 (by omega)
  have e2 := hF 2 (by omega)
  have e3 := hF 3 (by omega)
  have e4 := hF 4 (by omega)
  have m1 := hM 121 (by omega) (by omega)
  have m2 := hM 122 (by omega) (by omega)
  have m3 := hM 123 (by omega) (by omega)
  have m4 := hM 124 (by omega) (by omega)
  obtain ⟨h1, h2, h3⟩ := hs
  refine ⟨?_, ⟨h91, fun p hp => (hw p hp).1, fun t q => (ht t q).1⟩, ⟨hY, h15, by rw [h4]; exact h3.2.2.1, fun p hp => ?_, fun t q => (ht t q).2⟩⟩
  · unfold zRL at h1 ⊢
    rw [e0, e1, e2, e3, e4, h4, h5, h6, m1, m2, m3, m4]
    exact h1
  · obtain ⟨a1, a2, a3, a4, -⟩ := h3.2.2.2.1 p hp
    rw [m1, m2, m3, m4]
    exact ⟨a1, a2, a3, a4, (hw p hp).2⟩
/-- what class and model leave as it was, when an act is noted -/
theorem zR6.act {B : Nat} {fo : Bool} {N T Y Y' fs cn len : Nat} {I Ic I1 Im I2 : zq_I} (h : zR6 B fo N T Y fs cn len I) (hr : zrem I Ic fs cn) (hc : ∀ c, (c < 91 ∨ 95 < c) → I1 c = Ic c) (hn : znote cn (zu I1 119 0 0) Im) (h2 : ∀ c, c ≠ 119 → (c < 125 ∨ 128 < c) → I2 c = Im c) (hk : ∀ k, k ≠ 15 → I2 119 k = Im 119 k) (hY' : Y' ≤ B + 1) (hs : zS fo N T Y' I2) : zREL (B + 1) fo I2 := by
  obtain ⟨q1, q2, q3, q4, q5, q6⟩ := h
  have hF : zF fo = 109 ∨ zF fo = 114 := zF_is fo
  have hzs : zhs fs cn = 11 + 5 * ((zhf fs cn + zhc cn) % 16) := rfl
  have hm := Nat.mod_lt (zhf fs cn + zhc cn) (show 0 < 16 by omega)
  have hIc : ∀ c, c ≠ 9 → (c < 11 ∨ 90 < c) → Ic c = I c := fun c a1 a2 => hr.1 c a1 (by omega)
  have hU : ∀ c, c ≠ 9 → (c < 11 ∨ 95 < c) → c ≠ 119 → (c < 125 ∨ 128 < c) → c ≠ 133 → I2 c = I c := fun c a1 a2 a3 a4 a5 => by
    rw [h2 c a3 a4, hn.1 c a3 a5, zu_other a3, hc c (by omega), hIc c a1 (by omega)]
  have hK : ∀ k, k ≠ 0 → k ≠ 15 → k ≠ 25 → I2 119 k = I 119 k := fun k a1 a2 a3 => by
    rw [hk k a2, hn.2.1 k a3, zu_ne a1, hc 119 (by omega), hIc 119 (by omega) (by omega)]
  refine ⟨N, T, Y', zhf fs cn, zhc cn + 1, len, hs, hY', ?_, ?_, ?_, ?_⟩
  · exact q3.of (by rw [hU (zF fo) (by omega) (by omega) (by omega) (by omega) (by omega)]) (hU 124 (by omega) (by omega) (by omega) (by omega) (by omega))
  · exact q4.of (hU 1 (by omega) (by omega) (by omega) (by omega) (by omega)) (hU 2 (by omega) (by omega) (by omega) (by omega) (by omega)) (hU 120 (by omega) (by omega) (by omega) (by omega) (by omega)) (hK 2 (by omega) (by omega) (by omega))
  · exact (q5.note q1 q2 hr (fun c q => hc c (by omega)) hn (fun c q => h2 c (by omega) (by omega)) (hk 25 (by omega))).mono q1.n8 (by omega)
  · exact q6.of q1.n8 (by omega) (fun c a1 a2 => hU c (by omega) (by omega) (by omega) (by omega) (by omega)) (hU 134 (by omega) (by omega) (by omega) (by omega) (by omega)) (hU 135 (by omega) (by omega) (by omega) (by omega) (by omega))
/-- the cells ahead of an act's own stores -/
theorem zact_c {fs cn : Nat} {I Ic I1 Im : zq_I} (hr : zrem I Ic fs cn) (hc : ∀ c, (c < 91 ∨ 95 < c) → I1 c = Ic c) (hn : znote cn (zu I1 119 0 0) Im) : (∀ c, c = 91 ∨ c = 92 ∨ c = 93 ∨ c = 94 ∨ c = 95 → Ic c = I c ∧ Im c = I1 c) ∧ (∀ c, (97 ≤ c ∧ c ≤ 118) ∨ (120 ≤ c ∧ c ≤ 128) → Im c = I c) ∧ ∀ k, k ≠ 0 → k ≠ 25 → Im 119 k = I 119 k := by
  have hzs : zhs fs cn = 11 + 5 * ((zhf fs cn + zhc cn) % 16) := rfl
  have hm := Nat.mod_lt (zhf fs cn + zhc cn) (show 0 < 16 by omega)
  have hIc : ∀ c, c ≠ 9 → (c < 11 ∨ 90 < c) → Ic c = I c := fun c a1 a2 => hr.1 c a1 (by omega)
  refine ⟨fun c q => ⟨hIc c (by omega) (by omega), by rw [hn.1 c (by omega) (by omega), zu_other (by omega)]⟩, fun c q => ?_, fun k a1 a2 => ?_⟩
  · rw [hn.1 c (by omega) (by omega), zu_other (by omega), hc c (by omega), hIc c (by omega) (by omega)]
  · rw [hn.2.1 k a2, zu_ne a1, hc 119 (by omega), hIc 119 (by omega) (by omega)]
theorem zV_th (I : zq_I) : zV (zu I 119 0 0) = zV I := (zFM.rf.zu 119 0 0 rfl : zFM I (zu I 119 0 0)).V
theorem zV_of {I I' : zq_I} (h : ∀ c, 121 ≤ c → c ≤ 127 → I' c = I c) : zV I' = zV I := by
  unfold zV
  rw [h 121 (by omega) (by omega), h 122 (by omega) (by omega), h 123 (by omega) (by omega), h 124 (by omega) (by omega), h 125 (by omega) (by omega), h 126 (by omega) (by omega), h 127 (by omega) (by omega)]
theorem zSm.of {N T : Nat} {I I' : zq_I} (h : zSm N T I) (h5 : I' 119 5 = I 119 5) (h6 : I' 119 6 = I 119 6) : zSm N T I' := ⟨h.1, h.2.1, h.2.2.1, by rw [h6]; exact h.2.2.2.1, by rw [h5]; exact h.2.2.2.2⟩
/-- where the class has acted, the model's cells stand -/
theorem zact_m {B : Nat} {fo : Bool} {N T Y fs cn len : Nat} {I I1 : zq_I} (h : zR6 B fo N T Y fs cn len I) (h1 : ∀ c, 119 ≤ c → I1 c = I c) : zSm N T I1 ∧ I1 119 25 = nI cn ∧ zV I1 = zV I := by
  have e := h1 119 (by omega)
  exact ⟨h.1.m.of (by rw [e]) (by rw [e]), by rw [e]; exact h.2.2.2.2.1.2.2.2.2.1, zV_of (fun c a1 a2 => h1 c (by omega))⟩
theorem zrem_h {I I' : zq_I} {fs cn : Nat} (h : zrem I I' fs cn) : ∀ c, 119 ≤ c → I' c = I c := fun c hc => zrem_o h (by omega)
theorem z18_n {n : Int32} (h1 : ¬ n < 1) (h2 : n ≤ 9) : ∃ m, 1 ≤ m ∧ m ≤ 9 ∧ n = nI m := by
  have h0 : ¬ n < 0 := fun q => h1 (Int32.lt_trans q (by decide))
  obtain ⟨m, hm, rfl⟩ := nI_of2 (n := 9) (by decide) h0 h2
  refine ⟨m, ?_, hm, rfl⟩
  rcases Nat.eq_zero_or_pos m with q | q
  · subst q; exact absurd (by decide) h1
  · exact q
section ACTS
variable {B : Nat} {fo : Bool} {N T Y fs cn len : Nat} {I I1 I2 : zq_I}
theorem m_go {x y : Int32} (h : zR6 B fo N T Y fs cn len I) (h1 : (zGoB (zV I) N T x y = false → I1 = I) ∧ (zGoB (zV I) N T x y = true → ∃ Ic, zrem I Ic fs cn ∧ I1 = zu (zu Ic 92 x.toNatClampNeg y) 93 x.toNatClampNeg (I 119 15))) : zSm N T I1 ∧ I1 119 25 = nI cn ∧ zV I1 = zV I := by
  refine zact_m h (fun c hc => ?_)
  cases hb : zGoB (zV I) N T x y with
  | false => rw [h1.1 hb]
  | true =>
    obtain ⟨Ic, hr, rfl⟩ := h1.2 hb
    rw [zu_other (by omega), zu_other (by omega)]
    exact zrem_h hr c hc
theorem s_go {x y : Int32} (h : zR6 B fo N T Y fs cn len I) (hB : B < 600) (h1 : (zGoB (zV I) N T x y = false → I1 = I) ∧ (zGoB (zV I) N T x y = true → ∃ Ic, zrem I Ic fs cn ∧ I1 = zu (zu Ic 92 x.toNatClampNeg y) 93 x.toNatClampNeg (I 119 15)))
    (h2 : (zGoB (zV (zu I1 119 0 0)) N T x y = false → I2 = zu I1 119 0 0) ∧ (zGoB (zV (zu I1 119 0 0)) N T x y = true → ∃ Im, znote cn (zu I1 119 0 0) Im ∧ I2 = zu (zu Im 125 x.toNatClampNeg y) 126 x.toNatClampNeg (zu I1 119 0 0 119 15))) : zREL (B + 1) fo I2 := by
  have hm := m_go h h1
  rw [zV_th, hm.2.2] at h2
  cases hb : zGoB (zV I) N T x y with
  | false =>
    rw [h2.1 hb, h1.1 hb]
    exact h.th.rel
  | true =>
    obtain ⟨Ic, hr, e1⟩ := h1.2 hb
    obtain ⟨Im, hn, e2⟩ := h2.2 hb
    unfold zGoB at hb
    simp only [Bool.and_eq_true] at hb
    obtain ⟨⟨⟨b1, b2⟩, -⟩, -⟩ := hb
    obtain ⟨p0, hp0, rfl⟩ := zin_t h.1.n31 b1
    obtain ⟨t0, ht0, rfl⟩ := zin_t h.1.t4' b2
    rw [nI_clamp (by have := h.1.n8; omega)] at e1 e2
    have hc : ∀ c, (c < 91 ∨ 95 < c) → I1 c = Ic c := fun c q => by rw [e1, zu_other (by omega), zu_other (by omega)]
    obtain ⟨z1, z2, z3⟩ := zact_c hr hc hn
    have e15 : zu I1 119 0 0 119 15 = I 119 15 := by rw [zu_ne (by omega), e1, zu_other (by omega), zu_other (by omega), zrem_h hr 119 (by omega)]
    rw [e15] at e2
    have hF : zF fo = 109 ∨ zF fo = 114 := zF_is fo
    have hY := h.2.1
    have hs := h.1
    have g15 := hs.2.2.2.1
    refine h.act (Y' := Y) hr hc hn (fun c a1 a2 => by rw [e2, zu_other (by omega), zu_other (by omega)]) (fun k hk => by rw [e2, zu_other (by omega), zu_other (by omega)]) (by omega) (hs.mk (fun j hj => ?_) (fun c a1 a2 => ?_) ?_ ?_ ?_ (by omega) ?_ ?_ (fun p hp => ?_) (fun t ht => ?_))
    · rw [e2, zu_other (by omega), zu_other (by omega)]; exact z2 _ (by omega)
    · rw [e2, zu_other (by omega), zu_other (by omega)]; exact z2 _ (by omega)
    · rw [e2, zu_other (by omega), zu_other (by omega)]; exact z3 4 (by omega) (by omega)
    · rw [e2, zu_other (by omega), zu_other (by omega)]; exact z3 5 (by omega) (by omega)
    · rw [e2, zu_other (by omega), zu_other (by omega)]; exact z3 6 (by omega) (by omega)
    · rw [e2, zu_other (by omega), zu_other (by omega), zu_other (by omega), zu_other (by omega), (z1 91 (by omega)).2, e1, zu_other (by omega), zu_other (by omega), (z1 91 (by omega)).1, z3 15 (by omega) (by omega)]; exact hs.yea
    · rw [e2, zu_other (by omega), zu_other (by omega), z3 15 (by omega) (by omega)]; exact g15
    · have x92 : I2 92 p = if p = p0 then nI t0 else I 92 p := by
        rw [e2, zu_other (by omega), zu_other (by omega), (z1 92 (by omega)).2, e1, zu_other (by omega)]
        by_cases q : p = p0
        · rw [if_pos q, q, zu_eq]
        · rw [if_neg q, zu_ne q, (z1 92 (by omega)).1]
      have x93 : I2 93 p = if p = p0 then I 119 15 else I 93 p := by
        rw [e2, zu_other (by omega), zu_other (by omega), (z1 93 (by omega)).2, e1]
        by_cases q : p = p0
        · rw [if_pos q, q, zu_eq]
        · rw [if_neg q, zu_ne q, zu_other (by omega), (z1 93 (by omega)).1]
      have x94 : I2 94 p = I 94 p := by rw [e2, zu_other (by omega), zu_other (by omega), (z1 94 (by omega)).2, e1, zu_other (by omega), zu_other (by omega), (z1 94 (by omega)).1]
      have x125 : I2 125 p = if p = p0 then nI t0 else I 125 p := by
        rw [e2, zu_other (by omega)]
        by_cases q : p = p0
        · rw [if_pos q, q, zu_eq]
        · rw [if_neg q, zu_ne q, z2 125 (by omega)]
      have x126 : I2 126 p = if p = p0 then I 119 15 else I 126 p := by
        rw [e2]
        by_cases q : p = p0
        · rw [if_pos q, q, zu_eq]
        · rw [if_neg q, zu_ne q, zu_other (by omega), z2 126 (by omega)]
      have x127 : I2 127 p = I 127 p := by rw [e2, zu_other (by omega), zu_other (by omega), z2 127 (by omega)]
      obtain ⟨-, -, -, -, s1, s2, s3⟩ := hs.2.2.2.2.2.1 p hp
      have d1 : I 92 p = I 125 p := hs.whe hp
      have d2 : I 93 p = I 126 p := hs.sin hp
      have d3 : I 94 p = I 127 p := hs.die hp
      rw [x92, x93, x94, x125, x126, x127, d1, d2, d3]
      refine ⟨⟨rfl, rfl, rfl⟩, ?_, ?_, s3⟩
      · split
        · exact ⟨t0, ht0, rfl⟩
        · exact s1
      · split
        · exact ⟨Y, Nat.le_refl _, g15⟩
        · exact s2
    · rw [e2, zu_other (by omega), zu_other (by omega), zu_other (by omega), zu_other (by omega), (z1 95 (by omega)).2, e1, zu_other (by omega), zu_other (by omega), (z1 95 (by omega)).1, z2 128 (by omega)]
      exact ⟨hs.rum ht, hs.2.2.2.2.2.2 t ht⟩
theorem m_die {x : Int32} (h : zR6 B fo N T Y fs cn len I) (h1 : (zDiB (zV I) N x = false → I1 = I) ∧ (zDiB (zV I) N x = true → ∃ Ic, zrem I Ic fs cn ∧ I1 = zu Ic 94 x.toNatClampNeg (I 119 15))) : zSm N T I1 ∧ I1 119 25 = nI cn ∧ zV I1 = zV I := by
  refine zact_m h (fun c hc => ?_)
  cases hb : zDiB (zV I) N x with
  | false => rw [h1.1 hb]
  | true =>
    obtain ⟨Ic, hr, rfl⟩ := h1.2 hb
    rw [zu_other (by omega)]
    exact zrem_h hr c hc
theorem s_die {x : Int32} (h : zR6 B fo N T Y fs cn len I) (hB : B < 600) (h1 : (zDiB (zV I) N x = false → I1 = I) ∧ (zDiB (zV I) N x = true → ∃ Ic, zrem I Ic fs cn ∧ I1 = zu Ic 94 x.toNatClampNeg (I 119 15)))
    (h2 : (zDiB (zV (zu I1 119 0 0)) N x = false → I2 = zu I1 119 0 0) ∧ (zDiB (zV (zu I1 119 0 0)) N x = true → ∃ Im, znote cn (zu I1 119 0 0) Im ∧ I2 = zu Im 127 x.toNatClampNeg (zu I1 119 0 0 119 15))) : zREL (B + 1) fo I2 := by
  have hm := m_die h h1
  rw [zV_th, hm.2.2] at h2
  cases hb : zDiB (zV I) N x with
  | false =>
    rw [h2.1 hb, h1.1 hb]
    exact h.th.rel
  | true =>
    obtain ⟨Ic, hr, e1⟩ := h1.2 hb
    obtain ⟨Im, hn, e2⟩ := h2.2 hb
    have hc : ∀ c, (c < 91 ∨ 95 < c) → I1 c = Ic c := fun c q => by rw [e1, zu_other (by omega)]
    obtain ⟨z1, z2, z3⟩ := zact_c hr hc hn
    have e15 : zu I1 119 0 0 119 15 = I 119 15 := by rw [zu_ne (by omega), e1, zu_other (by omega), zrem_h hr 119 (by omega)]
    rw [e15] at e2
    have hF : zF fo = 109 ∨ zF fo = 114 := zF_is fo
    have hY := h.2.1
    have hs := h.1
    have g15 := hs.2.2.2.1
    generalize x.toNatClampNeg = p0 at e1 e2
    refine h.act (Y' := Y) hr hc hn (fun c a1 a2 => by rw [e2, zu_other (by omega)]) (fun k hk => by rw [e2, zu_other (by omega)]) (by omega) (hs.mk (fun j hj => ?_) (fun c a1 a2 => ?_) ?_ ?_ ?_ (by omega) ?_ ?_ (fun p hp => ?_) (fun t ht => ?_))
    · rw [e2, zu_other (by omega)]; exact z2 _ (by omega)
    · rw [e2, zu_other (by omega)]; exact z2 _ (by omega)
    · rw [e2, zu_other (by omega)]; exact z3 4 (by omega) (by omega)
    · rw [e2, zu_other (by omega)]; exact z3 5 (by omega) (by omega)
    · rw [e2, zu_other (by omega)]; exact z3 6 (by omega) (by omega)
    · rw [e2, zu_other (by omega), zu_other (by omega), (z1 91 (by omega)).2, e1, zu_other (by omega), (z1 91 (by omega)).1, z3 15 (by omega) (by omega)]; exact hs.yea
    · rw [e2, zu_other (by omega), z3 15 (by omega) (by omega)]; exact g15
    · have x92 : I2 92 p = I 92 p := by rw [e2, zu_other (by omega), (z1 92 (by omega)).2, e1, zu_other (by omega), (z1 92 (by omega)).1]
      have x93 : I2 93 p = I 93 p := by rw [e2, zu_other (by omega), (z1 93 (by omega)).2, e1, zu_other (by omega), (z1 93 (by omega)).1]
      have x94 : I2 94 p = if p = p0 then I 119 15 else I 94 p := by
        rw [e2, zu_other (by omega), (z1 94 (by omega)).2, e1]
        by_cases q : p = p0
        · rw [if_pos q, q, zu_eq]
        · rw [if_neg q, zu_ne q, (z1 94 (by omega)).1]
      have x125 : I2 125 p = I 125 p := by rw [e2, zu_other (by omega), z2 125 (by omega)]
      have x126 : I2 126 p = I 126 p := by rw [e2, zu_other (by omega), z2 126 (by omega)]
      have x127 : I2 127 p = if p = p0 then I 119 15 else I 127 p := by
        rw [e2]
        by_cases q : p = p0
        · rw [if_pos q, q, zu_eq]
        · rw [if_neg q, zu_ne q, z2 127 (by omega)]
      obtain ⟨-, -, -, -, s1, s2, s3⟩ := hs.2.2.2.2.2.1 p hp
      have d1 : I 92 p = I 125 p := hs.whe hp
      have d2 : I 93 p = I 126 p := hs.sin hp
      have d3 : I 94 p = I 127 p := hs.die hp
      rw [x92, x93, x94, x125, x126, x127, d1, d2, d3]
      refine ⟨⟨rfl, rfl, rfl⟩, s1, s2, ?_⟩
      split
      · exact Or.inr ⟨Y, Nat.le_refl _, g15⟩
      · exact s3
    · rw [e2, zu_other (by omega), zu_other (by omega), (z1 95 (by omega)).2, e1, zu_other (by omega), (z1 95 (by omega)).1, z2 128 (by omega)]
      exact ⟨hs.rum ht, hs.2.2.2.2.2.2 t ht⟩
theorem m_year (h : zR6 B fo N T Y fs cn len I) (h1 : ∃ Ic, zrem I Ic fs cn ∧ (∀ c, c ≠ 91 → c ≠ 95 → I1 c = Ic c) ∧ I1 91 0 = I 119 15 + 1 ∧ ∀ t, t < 4 → I1 95 t = 0) : zSm N T I1 ∧ I1 119 25 = nI cn ∧ zu I1 119 0 0 119 15 = I 119 15 := by
  obtain ⟨Ic, hr, h2, -⟩ := h1
  have e : ∀ c, 119 ≤ c → I1 c = I c := fun c hc => by rw [h2 c (by omega) (by omega)]; exact zrem_h hr c hc
  obtain ⟨a1, a2, -⟩ := zact_m h e
  exact ⟨a1, a2, by rw [zu_ne (by omega), e 119 (by omega)]⟩
theorem s_year (h : zR6 B fo N T Y fs cn len I) (hB : B < 600) (h1 : ∃ Ic, zrem I Ic fs cn ∧ (∀ c, c ≠ 91 → c ≠ 95 → I1 c = Ic c) ∧ I1 91 0 = I 119 15 + 1 ∧ ∀ t, t < 4 → I1 95 t = 0)
    (h2 : ∃ Im, znote cn (zu I1 119 0 0) Im ∧ (∀ c, c ≠ 119 → c ≠ 128 → I2 c = Im c) ∧ (∀ k, k ≠ 15 → I2 119 k = Im 119 k) ∧ I2 119 15 = zu I1 119 0 0 119 15 + 1 ∧ ∀ t, t < 4 → I2 128 t = 0) : zREL (B + 1) fo I2 := by
  have hm := m_year h h1
  obtain ⟨Ic, hr, c1, c2, c3⟩ := h1
  obtain ⟨Im, hn, d1, d2, d3, d4⟩ := h2
  rw [hm.2.2] at d3
  have hc : ∀ c, (c < 91 ∨ 95 < c) → I1 c = Ic c := fun c q => c1 c (by omega) (by omega)
  obtain ⟨z1, z2, z3⟩ := zact_c hr hc hn
  have hF : zF fo = 109 ∨ zF fo = 114 := zF_is fo
  have hY := h.2.1
  have hs := h.1
  have g15 := hs.2.2.2.1
  refine h.act (Y' := Y + 1) hr hc hn (fun c a1 a2 => d1 c (by omega) (by omega)) d2 (by omega) (hs.mk (fun j hj => ?_) (fun c a1 a2 => ?_) ?_ ?_ ?_ (by omega) ?_ ?_ (fun p hp => ?_) (fun t ht => ?_))
  · rw [d1 _ (by omega) (by omega)]; exact z2 _ (by omega)
  · rw [d1 _ (by omega) (by omega)]; exact z2 _ (by omega)
  · rw [d2 4 (by omega)]; exact z3 4 (by omega) (by omega)
  · rw [d2 5 (by omega)]; exact z3 5 (by omega) (by omega)
  · rw [d2 6 (by omega)]; exact z3 6 (by omega) (by omega)
  · rw [d1 91 (by omega) (by omega), (z1 91 (by omega)).2, c2, d3]
  · rw [d3, g15, nI_1]
  · rw [d1 92 (by omega) (by omega), d1 93 (by omega) (by omega), d1 94 (by omega) (by omega), d1 125 (by omega) (by omega), d1 126 (by omega) (by omega), d1 127 (by omega) (by omega), (z1 92 (by omega)).2, (z1 93 (by omega)).2, (z1 94 (by omega)).2, c1 92 (by omega) (by omega), c1 93 (by omega) (by omega), c1 94 (by omega) (by omega), (z1 92 (by omega)).1, (z1 93 (by omega)).1, (z1 94 (by omega)).1, z2 125 (by omega), z2 126 (by omega), z2 127 (by omega)]
    obtain ⟨-, -, -, -, s1, ⟨s, s2, s3⟩, s4⟩ := hs.2.2.2.2.2.1 p hp
    refine ⟨⟨hs.whe hp, hs.sin hp, hs.die hp⟩, s1, ⟨s, by omega, s3⟩, ?_⟩
    rcases s4 with q | ⟨d, q1, q2⟩
    · exact Or.inl q
    · exact Or.inr ⟨d, by omega, q2⟩
  · rw [d1 95 (by omega) (by omega), (z1 95 (by omega)).2, c3 t ht, d4 t ht]
    exact ⟨rfl, 0, by omega, rfl⟩
theorem m_rumour {x n : Int32} (h : zR6 B fo N T Y fs cn len I) (h1 : (zRuB I T x n = false → I1 = I) ∧ (zRuB I T x n = true → ∃ Ic, zrem I Ic fs cn ∧ I1 = zu Ic 95 x.toNatClampNeg (I 128 x.toNatClampNeg + n))) : zSm N T I1 ∧ I1 119 25 = nI cn ∧ zu I1 119 0 0 128 = I 128 := by
  have e : ∀ c, 119 ≤ c → I1 c = I c := fun c hc => by
    cases hb : zRuB I T x n with
    | false => rw [h1.1 hb]
    | true =>
      obtain ⟨Ic, hr, rfl⟩ := h1.2 hb
      rw [zu_other (by omega)]
      exact zrem_h hr c hc
  obtain ⟨a1, a2, -⟩ := zact_m h e
  exact ⟨a1, a2, by rw [zu_other (by omega), e 128 (by omega)]⟩
theorem zRu_cg {I I' : zq_I} (h : I' 128 = I 128) (T : Nat) (x n : Int32) : zRuB I' T x n = zRuB I T x n ∧ zRuR I' T x n = zRuR I T x n := by
  unfold zRuR zRuB
  rw [h]
  exact ⟨rfl, rfl⟩
theorem s_rumour {x n : Int32} (h : zR6 B fo N T Y fs cn len I) (hB : B < 600) (h1 : (zRuB I T x n = false → I1 = I) ∧ (zRuB I T x n = true → ∃ Ic, zrem I Ic fs cn ∧ I1 = zu Ic 95 x.toNatClampNeg (I 128 x.toNatClampNeg + n)))
    (h2 : (zRuB (zu I1 119 0 0) T x n = false → I2 = zu I1 119 0 0) ∧ (zRuB (zu I1 119 0 0) T x n = true → ∃ Im, znote cn (zu I1 119 0 0) Im ∧ I2 = zu Im 128 x.toNatClampNeg (zu I1 119 0 0 128 x.toNatClampNeg + n))) : zREL (B + 1) fo I2 := by
  have hm := m_rumour h h1
  rw [(zRu_cg hm.2.2 T x n).1] at h2
  cases hb : zRuB I T x n with
  | false =>
    rw [h2.1 hb, h1.1 hb]
    exact h.th.rel
  | true =>
    obtain ⟨Ic, hr, e1⟩ := h1.2 hb
    obtain ⟨Im, hn, e2⟩ := h2.2 hb
    rw [hm.2.2] at e2
    unfold zRuB at hb
    simp only [Bool.and_eq_true, Bool.not_eq_true', decide_eq_true_eq, decide_eq_false_iff_not] at hb
    obtain ⟨⟨⟨b1, b2⟩, b3⟩, b4⟩ := hb
    obtain ⟨t0, ht0, rfl⟩ := zin_t h.1.t4' b1
    have hT := h.1.t4
    rw [nI_clamp (by omega)] at e1 e2 b4
    obtain ⟨n0, -, hn9, rfl⟩ := z18_n b2 b3
    have hc : ∀ c, (c < 91 ∨ 95 < c) → I1 c = Ic c := fun c q => by rw [e1, zu_other (by omega)]
    obtain ⟨z1, z2, z3⟩ := zact_c hr hc hn
    have hF : zF fo = 109 ∨ zF fo = 114 := zF_is fo
    have hY := h.2.1
    have hs := h.1
    have g15 := hs.2.2.2.1
    obtain ⟨r0, hr0, er0⟩ := hs.2.2.2.2.2.2 t0 (by omega)
    have hle : r0 + n0 ≤ 99 := by rw [er0, nI_add] at b4; exact (nI_leI (b := 99) (by omega) (by omega)).mp b4
    refine h.act (Y' := Y) hr hc hn (fun c a1 a2 => by rw [e2, zu_other (by omega)]) (fun k hk => by rw [e2, zu_other (by omega)]) (by omega) (hs.mk (fun j hj => ?_) (fun c a1 a2 => ?_) ?_ ?_ ?_ (by omega) ?_ ?_ (fun p hp => ?_) (fun t ht => ?_))
    · rw [e2, zu_other (by omega)]; exact z2 _ (by omega)
    · rw [e2, zu_other (by omega)]; exact z2 _ (by omega)
    · rw [e2, zu_other (by omega)]; exact z3 4 (by omega) (by omega)
    · rw [e2, zu_other (by omega)]; exact z3 5 (by omega) (by omega)
    · rw [e2, zu_other (by omega)]; exact z3 6 (by omega) (by omega)
    · rw [e2, zu_other (by omega), zu_other (by omega), (z1 91 (by omega)).2, e1, zu_other (by omega), (z1 91 (by omega)).1, z3 15 (by omega) (by omega)]; exact hs.yea
    · rw [e2, zu_other (by omega), z3 15 (by omega) (by omega)]; exact g15
    · have x92 : I2 92 p = I 92 p := by rw [e2, zu_other (by omega), (z1 92 (by omega)).2, e1, zu_other (by omega), (z1 92 (by omega)).1]
      have x93 : I2 93 p = I 93 p := by rw [e2, zu_other (by omega), (z1 93 (by omega)).2, e1, zu_other (by omega), (z1 93 (by omega)).1]
      have x94 : I2 94 p = I 94 p := by rw [e2, zu_other (by omega), (z1 94 (by omega)).2, e1, zu_other (by omega), (z1 94 (by omega)).1]
      have x125 : I2 125 p = I 125 p := by rw [e2, zu_other (by omega), z2 125 (by omega)]
      have x126 : I2 126 p = I 126 p := by rw [e2, zu_other (by omega), z2 126 (by omega)]
      have x127 : I2 127 p = I 127 p := by rw [e2, zu_other (by omega), z2 127 (by omega)]
      rw [x92, x93, x94, x125, x126, x127]
      obtain ⟨-, -, -, -, s⟩ := hs.2.2.2.2.2.1 p hp
      exact ⟨⟨hs.whe hp, hs.sin hp, hs.die hp⟩, s⟩
    · have x95 : I2 95 t = if t = t0 then nI (r0 + n0) else I 95 t := by
        rw [e2, zu_other (by omega), (z1 95 (by omega)).2, e1]
        by_cases q : t = t0
        · rw [if_pos q, q, zu_eq, er0, nI_add]
        · rw [if_neg q, zu_ne q, (z1 95 (by omega)).1]
      have x128 : I2 128 t = if t = t0 then nI (r0 + n0) else I 128 t := by
        rw [e2]
        by_cases q : t = t0
        · rw [if_pos q, q, zu_eq, er0, nI_add]
        · rw [if_neg q, zu_ne q, z2 128 (by omega)]
      rw [x95, x128, hs.rum ht]
      refine ⟨rfl, ?_⟩
      split
      · exact ⟨_, hle, rfl⟩
      · exact hs.2.2.2.2.2.2 t ht
theorem v_undo {cn : Nat} {v1 : Option Value} {A : Prop} {C : Nat → Prop} (h : (cn = 0 → v1 = some (.int (-3)) ∧ A) ∧ ∀ k, cn = k + 1 → v1 = some (.int (nI k)) ∧ C k) : ∃ a, v1 = some (.int a) := by
  cases cn with
  | zero => exact ⟨_, (h.1 rfl).1⟩
  | succ k => exact ⟨_, (h.2 k rfl).1⟩
theorem m_undo {v1 : Option Value} (h : zR6 B fo N T Y fs cn len I) (h1 : (cn = 0 → v1 = some (.int (-3)) ∧ I1 = I) ∧ ∀ k, cn = k + 1 → v1 = some (.int (nI k)) ∧ (∀ c, c ≠ 9 → (c < 91 ∨ 95 < c) → I1 c = I c) ∧ I1 9 1 = nI fs ∧ I1 9 2 = nI k ∧ zcop 91 (11 + 5 * ((fs + k) % 16)) I I1) : zSm N T I1 ∧ I1 119 25 = nI cn := by
  have e : ∀ c, 119 ≤ c → I1 c = I c := fun c hc => by
    cases cn with
    | zero => rw [(h1.1 rfl).2]
    | succ k => exact (h1.2 k rfl).2.1 c (by omega) (by omega)
  obtain ⟨a1, a2, -⟩ := zact_m h e
  exact ⟨a1, a2⟩
theorem s_undo {v1 v2 : Option Value} (h : zR6 B fo N T Y fs cn len I) (hB : B < 600) (h1 : (cn = 0 → v1 = some (.int (-3)) ∧ I1 = I) ∧ ∀ k, cn = k + 1 → v1 = some (.int (nI k)) ∧ (∀ c, c ≠ 9 → (c < 91 ∨ 95 < c) → I1 c = I c) ∧ I1 9 1 = nI fs ∧ I1 9 2 = nI k ∧ zcop 91 (11 + 5 * ((fs + k) % 16)) I I1)
    (h2 : (cn = 0 → v2 = some (.int (-3)) ∧ I2 = zu I1 119 0 0) ∧ ∀ k, cn = k + 1 → v2 = some (.int (nI k)) ∧ (∀ c, c ≠ 119 → c ≠ 125 → c ≠ 126 → c ≠ 127 → c ≠ 128 → I2 c = zu I1 119 0 0 c) ∧ (∀ j, j ≠ 15 → j ≠ 25 → I2 119 j = zu I1 119 0 0 119 j) ∧ I2 119 25 = nI k ∧ zpag 133 (29 * k) I2 (zu I1 119 0 0)) : v2 = v1 ∧ zREL (B + 1) fo I2 := by
  rcases Nat.eq_zero_or_pos cn with h0 | h0
  · obtain ⟨a1, a2⟩ := h1.1 h0
    obtain ⟨b1, b2⟩ := h2.1 h0
    refine ⟨b1.trans a1.symm, ?_⟩
    rw [b2, a2]
    exact h.th.rel
  · obtain ⟨k, hk⟩ : ∃ k, cn = k + 1 := ⟨cn - 1, by omega⟩
    obtain ⟨a1, a2, a3, a4, a5⟩ := h1.2 k hk
    obtain ⟨b1, b2, b3, b4, b5⟩ := h2.2 k hk
    refine ⟨b1.trans a1.symm, ?_⟩
    obtain ⟨q1, q2, q3, q4, q5, q6⟩ := h
    have hF : zF fo = 109 ∨ zF fo = 114 := zF_is fo
    have hU : ∀ c, c ≠ 9 → (c < 91 ∨ 95 < c) → c ≠ 119 → (c < 125 ∨ 128 < c) → I2 c = I c := fun c d1 d2 d3 d4 => by
      rw [b2 c d3 (by omega) (by omega) (by omega) (by omega), zu_other d3, a2 c d1 d2]
    have hK : ∀ j, j ≠ 0 → j ≠ 15 → j ≠ 25 → I2 119 j = I 119 j := fun j d1 d2 d3 => by
      rw [b3 j d2 d3, zu_ne d1, a2 119 (by omega) (by omega)]
    have hW : ∀ c, (91 ≤ c ∧ c ≤ 95) ∨ c = 9 → I2 c = I1 c := fun c d => by
      rw [b2 c (by omega) (by omega) (by omega) (by omega) (by omega), zu_other (by omega)]
    have hpw := q5.2.2.2.2.2 k (by omega)
    obtain ⟨Y', hY', g1, -⟩ := hpw
    have hN := q1.n8
    have e133 : zu I1 119 0 0 133 = I 133 := by rw [zu_other (by omega), a2 133 (by omega) (by omega)]
    have hs' : zS fo N T Y' I2 := by
      refine q1.ret (q5.2.2.2.2.2 k (by omega)) (show B ≤ 1000 by omega) (fun j hj => hU _ (by omega) (by omega) (by omega) (by omega)) (fun c d1 d2 => hU c (by omega) (by omega) (by omega) (by omega)) (hK 4 (by omega) (by omega) (by omega)) (hK 5 (by omega) (by omega) (by omega)) (hK 6 (by omega) (by omega) (by omega)) ?_ ?_ g1 hY'
      · rw [hW 91 (by omega), hW 92 (by omega), hW 93 (by omega), hW 94 (by omega), hW 95 (by omega)]
        exact a5
      · unfold zpag at b5
        rw [e133] at b5
        exact b5
    refine ⟨N, T, Y', fs, k, len, hs', by omega, ?_, ?_, ?_, ?_⟩
    · exact q3.of (by rw [hU (zF fo) (by omega) (by omega) (by omega) (by omega)]) (hU 124 (by omega) (by omega) (by omega) (by omega))
    · exact q4.of (hU 1 (by omega) (by omega) (by omega) (by omega)) (hU 2 (by omega) (by omega) (by omega) (by omega)) (hU 120 (by omega) (by omega) (by omega) (by omega)) (hK 2 (by omega) (by omega) (by omega))
    · exact (q5.less hN (by omega) (fun c d => hU c (by omega) (by omega) (by omega) (by omega)) (by rw [hW 9 (by omega)]; exact a3) (by rw [hW 9 (by omega)]; exact a4) (hU 133 (by omega) (by omega) (by omega) (by omega)) b4).mono hN (by omega)
    · exact q6.of hN (by omega) (fun c d1 d2 => hU c (by omega) (by omega) (by omega) (by omega)) (hU 134 (by omega) (by omega) (by omega) (by omega)) (hU 135 (by omega) (by omega) (by omega) (by omega))
end ACTS
