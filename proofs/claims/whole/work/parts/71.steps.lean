/-! what each call does to the relation -/
theorem zR6.th {B : Nat} {fo : Bool} {N T Y fs cn len : Nat} {I : zq_I} (h : zR6 B fo N T Y fs cn len I) : zR6 (B + 1) fo N T Y fs cn len (zu I 119 0 0) := h.ag (by omega) (zFM.rf.zu 119 0 0 rfl).ag
theorem zR6.rel {B : Nat} {fo : Bool} {N T Y fs cn len : Nat} {I : zq_I} (h : zR6 B fo N T Y fs cn len I) : zREL B fo I := ⟨N, T, Y, fs, cn, len, h⟩
theorem zR6.q {B : Nat} {fo : Bool} {N T Y fs cn len : Nat} {I I1 I2 : zq_I} (h : zR6 B fo N T Y fs cn len I) (h1 : zFC fo I I1) (h2 : zFM I1 I2) : zREL (B + 1) fo I2 := (h.ag (by omega) (h1.ag.tr h2.ag)).rel
theorem zR6.txt {B : Nat} {fo : Bool} {N T Y fs cn len len' : Nat} {I I' : zq_I} (h : zR6 B fo N T Y fs cn len I) (hc : ∀ c, (c = 9 ∨ (11 ≤ c ∧ c ≤ 95) ∨ (97 ≤ c ∧ c ≤ 107) ∨ (zF fo ≤ c ∧ c ≤ zF fo + 4) ∨ (121 ≤ c ∧ c ≤ 128) ∨ c = 133 ∨ c = 134 ∨ c = 135) → I' c = I c) (hk : ∀ k, zsk k = false → k ≠ 2 → I' 119 k = I 119 k) (ht : zTXT len' I') : zR6 (B + 1) fo N T Y fs cn len' I' := by
  obtain ⟨h1, h2, h3, h4, h5, h6⟩ := h
  have hF : zF fo = 109 ∨ zF fo = 114 := zF_is fo
  refine ⟨h1.of (fun j hj => hc _ (by omega)) (fun c q1 q2 => hc c (by omega)) (fun c q1 q2 => hc c (by omega)) (hk 4 rfl (by decide)) (hk 5 rfl (by decide)) (hk 6 rfl (by decide)) (hk 15 rfl (by decide)), by omega, ?_, ht, ?_, ?_⟩
  · exact h3.of (by rw [hc (zF fo) (by omega)]) (hc 124 (by omega))
  · exact h5.of h1.n8 (by omega) (fun c q => hc c (by omega)) (hc 133 (by omega)) (hk 25 rfl (by decide))
  · exact h6.of h1.n8 (by omega) (fun c q1 q2 => hc c (by omega)) (hc 134 (by omega)) (hc 135 (by omega))
/-! write, wipe -/
theorem v_write {len : Nat} {x : Int32} {v1 : Option Value} {A B' : Prop} {C D : Nat → Prop} (h : (z18 x = false → v1 = some (.int (-2)) ∧ A) ∧ ∀ m, 1 ≤ m → m ≤ 8 → x = nI m → (80 < len + m → v1 = some (.int (-4)) ∧ C m) ∧ (len + m ≤ 80 → v1 = some (.int (nI (len + m))) ∧ D m)) : ∃ a, v1 = some (.int a) := by
  cases hz : z18 x with
  | false => exact ⟨_, (h.1 hz).1⟩
  | true =>
    have q := hz
    unfold z18 at q
    simp only [Bool.and_eq_true, Bool.not_eq_true', decide_eq_true_eq, decide_eq_false_iff_not] at q
    obtain ⟨m, hm1, hm8, e⟩ := z18_t q.1 q.2
    obtain ⟨g1, g2⟩ := h.2 m hm1 hm8 e
    rcases Nat.lt_or_ge 80 (len + m) with hf | hf
    · exact ⟨_, (g1 hf).1⟩
    · exact ⟨_, (g2 hf).1⟩
theorem s_write {B : Nat} {fo : Bool} {N T Y fs cn len : Nat} {I I1 I2 : zq_I} {x : Int32} {v : Int64} {v1 v2 : Option Value} (h : zR6 B fo N T Y fs cn len I)
    (h1 : (z18 x = false → v1 = some (.int (-2)) ∧ I1 = I) ∧ ∀ m, 1 ≤ m → m ≤ 8 → x = nI m → (80 < len + m → v1 = some (.int (-4)) ∧ I1 = I) ∧ (len + m ≤ 80 → v1 = some (.int (nI (len + m))) ∧ zwrC len m v I I1))
    (h2 : (z18 x = false → v2 = some (.int (-2)) ∧ I2 = zu I1 119 0 0) ∧ ∀ m, 1 ≤ m → m ≤ 8 → x = nI m → (80 < len + m → v2 = some (.int (-4)) ∧ I2 = zu I1 119 0 0) ∧ (len + m ≤ 80 → v2 = some (.int (nI (len + m))) ∧ zwrM len m v (zu I1 119 0 0) I2)) : v2 = v1 ∧ zREL (B + 1) fo I2 := by
  cases hz : z18 x with
  | false =>
    obtain ⟨a1, a2⟩ := h1.1 hz
    obtain ⟨b1, b2⟩ := h2.1 hz
    subst a2 b2
    exact ⟨b1.trans a1.symm, h.th.rel⟩
  | true =>
    have q := hz
    unfold z18 at q
    simp only [Bool.and_eq_true, Bool.not_eq_true', decide_eq_true_eq, decide_eq_false_iff_not] at q
    obtain ⟨m, hm1, hm8, e⟩ := z18_t q.1 q.2
    obtain ⟨g1, g2⟩ := h1.2 m hm1 hm8 e
    obtain ⟨f1, f2⟩ := h2.2 m hm1 hm8 e
    rcases Nat.lt_or_ge 80 (len + m) with hf | hf
    · obtain ⟨a1, a2⟩ := g1 hf
      obtain ⟨b1, b2⟩ := f1 hf
      subst a2 b2
      exact ⟨b1.trans a1.symm, h.th.rel⟩
    · obtain ⟨a1, w1, w2, w3, w4⟩ := g2 hf
      obtain ⟨b1, u1, u2, u3, u4, u5⟩ := f2 hf
      have hU : ∀ c, c ≠ 1 → c ≠ 2 → c ≠ 119 → c ≠ 120 → I2 c = I c := fun c q1 q2 q3 q4 => by rw [u1 c q3 q4, zu_other q3, w1 c q1 q2]
      have hF : zF fo = 109 ∨ zF fo = 114 := zF_is fo
      refine ⟨b1.trans a1.symm, (h.txt (len' := len + m) (fun c hc => hU c (by omega) (by omega) (by omega) (by omega)) (fun k hk hk2 => ?_) ⟨hf, ?_, u3, fun j hj => ?_⟩).rel⟩
      · have hk0 : k ≠ 0 := fun q => by subst q; cases hk
        rw [u2 k hk2, zu_ne hk0, w1 119 (by omega) (by omega)]
      · rw [u1 1 (by omega) (by omega), zu_other (by omega)]; exact w2
      · have e2 : I2 2 = I1 2 := by rw [u1 2 (by omega) (by omega), zu_other (by omega)]
        rw [e2]
        rcases Nat.lt_or_ge j len with q | q
        · rw [u4 j q, zu_other (by omega), w1 120 (by omega) (by omega), w3 j q]
          exact h.2.2.2.1.2.2.2 j q
        · obtain ⟨r, rfl⟩ : ∃ r, j = len + r := ⟨j - len, by omega⟩
          rw [u5 r (by omega), w4 r (by omega)]
theorem s_wipe {B : Nat} {fo : Bool} {N T Y fs cn len : Nat} {I I2 : zq_I} (h : zR6 B fo N T Y fs cn len I) (h2 : zFM (zu (zu I 1 1 0) 119 2 0) I2) : zu I 1 1 0 119 2 = I 1 1 ∧ zREL (B + 1) fo I2 := by
  have hF : zF fo = 109 ∨ zF fo = 114 := zF_is fo
  obtain ⟨t1, t2, t3, t4⟩ := h.2.2.2.1
  refine ⟨by rw [zu_other (by omega), t2, t3], (h.txt (len' := 0) (fun c hc => ?_) (fun k hk hk2 => ?_) ⟨by omega, ?_, ?_, fun j hj => absurd hj (by omega)⟩).rel⟩
  · rw [h2.1 c (Bool.eq_false_iff.mpr (fun q => by simp only [zsm, Bool.or_eq_true, beq_iff_eq] at q; omega)), zu_other (by omega), zu_other (by omega)]
  · rw [h2.2 k hk, zu_ne hk2, zu_other (by omega)]
  · rw [h2.1 1 rfl, zu_other (by omega), zu_eq]; rfl
  · rw [h2.2 2 rfl, zu_eq]; rfl
/-! fault, census -/
theorem zTXT.pub {len : Nat} {I : zq_I} (h : zTXT len I) : ∃ b : Nat → Nat, zpub I b len ∧ zpuM I b len := by
  obtain ⟨t1, t2, t3, t4⟩ := h
  have hx : ∀ x : Int32, x &&& 255 = nI (x.toBitVec.toNat % 2 ^ 8) := fun x => pk_and x 8 (by decide)
  refine ⟨fun j => (I 2 j).toBitVec.toNat % 2 ^ 8, ⟨t1, t2, fun j hj => ⟨hx _, Nat.mod_lt _ (by decide)⟩⟩, ⟨t1, t3, fun j hj => ⟨by rw [t4 j hj]; exact hx _, Nat.mod_lt _ (by decide)⟩⟩⟩
theorem zof3.FC {fo : Bool} {I I' : zq_I} (h : zof3 (zD fo) I I') : zFC fo I I' := by
  intro c hc
  simp only [zsc, Bool.or_eq_false_iff, Bool.and_eq_false_iff, beq_eq_false_iff_ne, decide_eq_false_iff_not] at hc
  exact h c (by omega) (by omega)
theorem zpuM.fc {fo : Bool} {I I' : zq_I} {b : Nat → Nat} {n : Nat} (h : zpuM I b n) (hf : zFC fo I I') : zpuM I' b n := by
  have e1 := hf 119 (by cases fo <;> rfl)
  have e2 := hf 120 (by cases fo <;> rfl)
  exact ⟨h.1, by rw [e1]; exact h.2.1, by rw [e2]; exact h.2.2⟩
theorem zpuM.th {I : zq_I} {b : Nat → Nat} {n : Nat} (h : zpuM I b n) : zpuM (zu I 119 0 0) b n := h.of (zFM.rf.zu 119 0 0 rfl)
theorem zsum_zpc {g : Nat → Int32} {S : Nat → Nat} : ∀ n, (∀ i, i < n → g i = nI (S i) ∧ S i < 256) → zsum (fun i => zpop (g i)) (fun _ => true) n = nI (zsu (fun i => zpc (S i)) n) := by
  intro n
  induction n with
  | zero => intro _; rfl
  | succ n ih =>
    intro h
    obtain ⟨h1, h2⟩ := h n (by omega)
    rw [zsum, if_pos rfl, ih (fun i hi => h i (by omega)), h1, zpop_n _ h2, nI_add]
    rfl
theorem v_census {b : Nat → Nat} {n : Nat} {v1 : Option Value} {A : Prop} {C : zpS → Prop} {X D : zpS → Prop} (hn : n < 2 ^ 30) (h : (¬ zpF b n = -9 → A ∧ v1 = some (.int (-3)) ∧ X zp0) ∧ ∀ s, zpR b n = some s → s.1 = 3 → C s ∧ v1 = some (.int (nI s.2.2.2.2.1)) ∧ D s) : ∃ a, v1 = some (.int a) := by
  by_cases hF : zpF b n = -9
  · obtain ⟨s, hs, h3⟩ := zpF_3 hn hF
    exact ⟨_, (h.2 s hs h3).2.1⟩
  · exact ⟨_, (h.1 hF).2.1⟩
theorem s_census {B : Nat} {fo : Bool} {N T Y fs cn len : Nat} {I I1 I2 : zq_I} {b : Nat → Nat} {s : zpS} (h : zR6 B fo N T Y fs cn len I) (hs3 : s.1 = 3) (hok : zpOK s) (h1 : zcenC fo I I1 s) (h2 : zcenM (zu I1 119 0 0) I2 s) : zREL (B + 1) (!fo) I2 := by
  obtain ⟨w, ak, l, T', N', M, H, A, K, S⟩ := s
  obtain rfl : w = 3 := hs3
  obtain ⟨c1, c2, c3, c4, c5, c6, c7, c8, c9, c10, c11, c12, c13, c14⟩ := hok
  obtain ⟨⟨r1, r2, r3, r4, r5, r6, r7, r8, r9⟩, p1, p2, p3, p4, p5, p6, p7⟩ := h1
  obtain ⟨m1, m2, m3, m4, m5, m6, m7, m8, m9, m10⟩ := h2
  obtain ⟨q1, q2, q3, ⟨t1, t2, t3, t4⟩, ⟨s1, s2, s3, s4, s5, s6⟩, q6⟩ := h
  have hD : zD fo = 109 ∨ zD fo = 114 := zD_is fo
  have hp2 := zp2_le c5
  have hU : ∀ c, c ≠ 119 → (c < 121 ∨ 132 < c) → c ≠ 135 → c ≠ 136 → c ≠ 137 → I2 c = I1 c := fun c a1 a2 a3 a4 a5 => by rw [m10 c a1 a2 a3 a4 a5, zu_other a1]
  have eF : zF (!fo) = zD fo := (zF_not fo).1
  have e0 := hU (zD fo) (by omega) (by omega) (by omega) (by omega) (by omega)
  have e1 := hU (zD fo + 1) (by omega) (by omega) (by omega) (by omega) (by omega)
  have e2 := hU (zD fo + 2) (by omega) (by omega) (by omega) (by omega) (by omega)
  have e3 := hU (zD fo + 3) (by omega) (by omega) (by omega) (by omega) (by omega)
  have e4 := hU (zD fo + 4) (by omega) (by omega) (by omega) (by omega) (by omega)
  have hw : ∀ c, 91 ≤ c → c ≤ 95 → I2 c = I1 c := fun c a1 a2 => hU c (by omega) (by omega) (by omega) (by omega) (by omega)
  refine ⟨N', T', 0, fs, 0, len, ⟨?_, ⟨?_, fun p hp => ?_, fun t ht => ?_⟩, ⟨by omega, m6, ?_, fun p hp => ?_, fun t ht => ⟨0, by omega, m5 t ht⟩⟩⟩, by omega, ?_, ⟨t1, ?_, ?_, fun j hj => ?_⟩, ⟨s1, by omega, ?_, ?_, m7, fun k hk => absurd hk (by omega)⟩, fun s hs => ?_⟩
  · unfold zRL
    rw [eF, e0, e1, e2, e3, e4]
    refine ⟨c5, c3, c4, m3, m2, r5, r4, by rw [r3, m1], fun p hp => ?_⟩
    obtain ⟨⟨a1, a2, a3, a4⟩, -⟩ := m4 p hp
    obtain ⟨b1, b2, b3, b4⟩ := r9 p hp
    rw [a1, a2, a3, a4]
    exact ⟨b1, b2, b3, b4⟩
  · rw [hw 91 (by omega) (by omega), p1, m6]
  · obtain ⟨⟨a1, a2, a3, a4⟩, a5, a6, a7⟩ := m4 p hp
    obtain ⟨b1, b2, b3⟩ := p2 p (by omega)
    rw [hw (91 + 1) (by omega) (by omega), hw (91 + 2) (by omega) (by omega), hw (91 + 3) (by omega) (by omega), a5, a6, a7]
    exact ⟨b1.trans (r9 p hp).1, b2, b3⟩
  · rw [hw (91 + 4) (by omega) (by omega), m5 t ht]; exact p3 t ht
  · rw [m1]
    rcases (by omega : l = 0 ∨ l = 1 ∨ l = 2) with rfl | rfl | rfl
    · exact Or.inl rfl
    · exact Or.inr (Or.inl rfl)
    · exact Or.inr (Or.inr rfl)
  · obtain ⟨⟨a1, a2, a3, a4⟩, a5, a6, a7⟩ := m4 p hp
    obtain ⟨d1, d2, d3, d4, d5⟩ := c14 p hp
    exact ⟨⟨H p, d1, a1⟩, ⟨A p, d2, a2⟩, ⟨K p, d3, a3⟩, ⟨S p, d4, d5, a4⟩, ⟨H p, d1, a5⟩, ⟨0, by omega, a6⟩, Or.inl a7⟩
  · show I2 (zF (!fo)) 3 = zsum (fun i => zpop (I2 124 i)) (fun _ => true) N'
    rw [eF, e0, r6, zsum_zpc (S := S) N' (fun i hi => ⟨(m4 i hi).1.2.2.2, by have := (c14 i hi).2.2.2.1; omega⟩), ← c13]
  · rw [hU 1 (by omega) (by omega) (by omega) (by omega) (by omega), p7 1 (by omega) (by omega) (by omega) (by omega) (by omega)]; exact t2
  · rw [m9, zu_ne (by omega), p7 119 (by omega) (by omega) (by omega) (by omega) (by omega)]; exact t3
  · rw [hU 120 (by omega) (by omega) (by omega) (by omega) (by omega), hU 2 (by omega) (by omega) (by omega) (by omega) (by omega), p7 120 (by omega) (by omega) (by omega) (by omega) (by omega), p7 2 (by omega) (by omega) (by omega) (by omega) (by omega)]
    exact t4 j hj
  · rw [hU 9 (by omega) (by omega) (by omega) (by omega) (by omega), p4]; exact s3
  · rw [hU 9 (by omega) (by omega) (by omega) (by omega) (by omega), p5]; rfl
  · rw [hU 107 (by omega) (by omega) (by omega) (by omega) (by omega), p6 s hs, m8 s hs]
    exact ⟨rfl, fun q => absurd rfl q⟩
/-! law -/
theorem v_law {x : Int32} {v1 : Option Value} {y : Int32} {A C : Prop} (h : (zin x 3 = false → v1 = some (.int (-2)) ∧ A) ∧ (zin x 3 = true → v1 = some (.int y) ∧ C)) : ∃ a, v1 = some (.int a) := by
  cases hz : zin x 3 with
  | false => exact ⟨_, (h.1 hz).1⟩
  | true => exact ⟨_, (h.2 hz).1⟩
theorem s_law {B : Nat} {fo : Bool} {N T Y fs cn len : Nat} {I I1 I2 : zq_I} {x : Int32} {v1 v2 : Option Value} (h : zR6 B fo N T Y fs cn len I)
    (h1 : (zin x 3 = false → v1 = some (.int (-2)) ∧ I1 = I) ∧ (zin x 3 = true → v1 = some (.int (I (zF fo) 0)) ∧ I1 = zu I (zF fo) 0 x))
    (h2 : (zin x 3 = false → v2 = some (.int (-2)) ∧ zFM I1 I2) ∧ (zin x 3 = true → v2 = some (.int (I1 119 4)) ∧ zFM (zu I1 119 4 x) I2)) : v2 = v1 ∧ zREL (B + 1) fo I2 := by
  cases hz : zin x 3 with
  | false =>
    obtain ⟨a1, a2⟩ := h1.1 hz
    obtain ⟨b1, b2⟩ := h2.1 hz
    subst a2
    exact ⟨b1.trans a1.symm, h.q zFC.rf b2⟩
  | true =>
    obtain ⟨a1, a2⟩ := h1.2 hz
    obtain ⟨b1, b2⟩ := h2.2 hz
    subst a2
    have hF : zF fo = 109 ∨ zF fo = 114 := zF_is fo
    have hF2 : zF fo ≠ 119 := by omega
    refine ⟨?_, ?_⟩
    · rw [b1, a1, zu_other (by omega), h.1.law]
    · obtain ⟨l, hl, rfl⟩ := zin_t (N := 3) (by omega) hz
      obtain ⟨⟨⟨k1, k2, k3, k4, k5, k6, k7, k8, k9⟩, q2, ⟨u1, u2, u3, u4, u5⟩⟩, h2, h3, h4, h5, h6⟩ := h
      have hU : ∀ c, c ≠ zF fo → c ≠ 119 → zu (zu I (zF fo) 0 (nI l)) 119 4 (nI l) c = I c := fun c a1 a2 => by rw [zu_other a2, zu_other a1]
      have hK : ∀ k, k ≠ 4 → zu (zu I (zF fo) 0 (nI l)) 119 4 (nI l) 119 k = I 119 k := fun k hk => by rw [zu_ne hk, zu_other (by omega)]
      have hFk : ∀ k, k ≠ 0 → zu (zu I (zF fo) 0 (nI l)) 119 4 (nI l) (zF fo) k = I (zF fo) k := fun k hk => by rw [zu_other hF2, zu_ne hk]
      have hF0 : zu (zu I (zF fo) 0 (nI l)) 119 4 (nI l) (zF fo) 0 = nI l := by rw [zu_other hF2, zu_eq]
      have h194 : zu (zu I (zF fo) 0 (nI l)) 119 4 (nI l) 119 4 = nI l := zu_eq
      have m : ∀ c, 121 ≤ c → c ≤ 128 → zu (zu I (zF fo) 0 (nI l)) 119 4 (nI l) c = I c := fun c a1 a2 => hU c (by omega) (by omega)
      have hs : zS fo N T Y (zu (zu I (zF fo) 0 (nI l)) 119 4 (nI l)) := by
        refine ⟨⟨k1, k2, k3, by rw [hK 6 (by omega)]; exact k4, by rw [hK 5 (by omega)]; exact k5, by rw [hFk 2 (by omega)]; exact k6, by rw [hFk 1 (by omega)]; exact k7, by rw [hF0, h194], ?_⟩, ?_, ⟨u1, by rw [hK 15 (by omega)]; exact u2, ?_, ?_, ?_⟩⟩
        · rw [hU (zF fo + 1) (by omega) (by omega), hU (zF fo + 2) (by omega) (by omega), hU (zF fo + 3) (by omega) (by omega), hU (zF fo + 4) (by omega) (by omega), m 121 (by omega) (by omega), m 122 (by omega) (by omega), m 123 (by omega) (by omega), m 124 (by omega) (by omega)]
          exact k9
        · unfold zRW at q2 ⊢
          rw [hU 91 (by omega) (by omega), hU (91 + 1) (by omega) (by omega), hU (91 + 2) (by omega) (by omega), hU (91 + 3) (by omega) (by omega), hU (91 + 4) (by omega) (by omega), hK 15 (by omega), m 125 (by omega) (by omega), m 126 (by omega) (by omega), m 127 (by omega) (by omega), m 128 (by omega) (by omega)]
          exact q2
        · rw [h194]
          rcases (by omega : l = 0 ∨ l = 1 ∨ l = 2) with rfl | rfl | rfl
          · exact Or.inl rfl
          · exact Or.inr (Or.inl rfl)
          · exact Or.inr (Or.inr rfl)
        · rw [m 121 (by omega) (by omega), m 122 (by omega) (by omega), m 123 (by omega) (by omega), m 124 (by omega) (by omega), m 125 (by omega) (by omega), m 126 (by omega) (by omega), m 127 (by omega) (by omega)]
          exact u4
        · rw [m 128 (by omega) (by omega)]; exact u5
      have hR : zR6 B fo N T Y fs cn len (zu (zu I (zF fo) 0 (nI l)) 119 4 (nI l)) := ⟨hs, h2, h3.of (hFk 3 (by omega)) (m 124 (by omega) (by omega)), h4.of (hU 1 (by omega) (by omega)) (hU 2 (by omega) (by omega)) (hU 120 (by omega) (by omega)) (hK 2 (by omega)), h5.of k1 (Nat.le_refl _) (fun c q => hU c (by omega) (by omega)) (hU 133 (by omega) (by omega)) (hK 25 (by omega)), h6.of k1 (Nat.le_refl _) (fun c a1 a2 => hU c (by omega) (by omega)) (hU 134 (by omega) (by omega)) (hU 135 (by omega) (by omega))⟩
      exact (hR.ag (by omega) b2.ag).rel
