/-! keep, again; what is asked -/
theorem zin2_t {x : Int32} (h : zin x 2 = true) : ∃ s, s < 2 ∧ x = nI s := zin_t (N := 2) (by omega) h
section SLOTS
variable {B : Nat} {fo : Bool} {N T Y fs cn len : Nat} {I I1 I2 : zq_I}
theorem v_keep {x : Int32} {v1 : Option Value} {A : Prop} {y : Int32} {C : Nat → Prop} (h : (zin x 2 = false → v1 = some (.int (-1)) ∧ A) ∧ ∀ s, s < 2 → x = nI s → v1 = some (.int y) ∧ C s) : ∃ a, v1 = some (.int a) := by
  cases hz : zin x 2 with
  | false => exact ⟨_, (h.1 hz).1⟩
  | true =>
    obtain ⟨s, hs, e⟩ := zin2_t hz
    exact ⟨_, (h.2 s hs e).1⟩
theorem m_keep {x : Int32} {v1 : Option Value} (h : zR6 B fo N T Y fs cn len I) (h1 : (zin x 2 = false → v1 = some (.int (-1)) ∧ I1 = I) ∧ ∀ s, s < 2 → x = nI s → v1 = some (.int (I 91 0)) ∧ (∀ c, c ≠ 107 → (c < 97 + 5 * s ∨ 97 + 5 * s + 4 < c) → I1 c = I c) ∧ I1 107 s = 1 ∧ (∀ j, j ≠ s → I1 107 j = I 107 j) ∧ zcop (97 + 5 * s) 91 I I1) : zS fo N T Y I1 := by
  have hF : zF fo = 109 ∨ zF fo = 114 := zF_is fo
  have e : ∀ c, c < 97 ∨ 107 < c → I1 c = I c := fun c hc => by
    cases hz : zin x 2 with
    | false => rw [(h1.1 hz).2]
    | true =>
      obtain ⟨s, hs, e⟩ := zin2_t hz
      exact (h1.2 s hs e).2.1 c (by omega) (by omega)
  exact h.1.of (fun j hj => e _ (by omega)) (fun c a1 a2 => e c (by omega)) (fun c a1 a2 => e c (by omega)) (by rw [e 119 (by omega)]) (by rw [e 119 (by omega)]) (by rw [e 119 (by omega)]) (by rw [e 119 (by omega)])
theorem s_keep {x : Int32} {v1 v2 : Option Value} (h : zR6 B fo N T Y fs cn len I) (h1 : (zin x 2 = false → v1 = some (.int (-1)) ∧ I1 = I) ∧ ∀ s, s < 2 → x = nI s → v1 = some (.int (I 91 0)) ∧ (∀ c, c ≠ 107 → (c < 97 + 5 * s ∨ 97 + 5 * s + 4 < c) → I1 c = I c) ∧ I1 107 s = 1 ∧ (∀ j, j ≠ s → I1 107 j = I 107 j) ∧ zcop (97 + 5 * s) 91 I I1)
    (h2 : (zin x 2 = false → v2 = some (.int (-1)) ∧ I2 = zu I1 119 0 0) ∧ ∀ s, s < 2 → x = nI s → v2 = some (.int (zu I1 119 0 0 119 15)) ∧ (∀ c, c ≠ 134 → c ≠ 135 → I2 c = zu I1 119 0 0 c) ∧ I2 135 s = 1 ∧ (∀ j, j ≠ s → I2 135 j = zu I1 119 0 0 135 j) ∧ zpag 134 (29 * s) (zu I1 119 0 0) I2 ∧ ∀ k, (k < 29 * s ∨ 29 * s + 29 ≤ k) → I2 134 k = zu I1 119 0 0 134 k) : v2 = v1 ∧ zREL (B + 1) fo I2 := by
  cases hz : zin x 2 with
  | false =>
    obtain ⟨a1, a2⟩ := h1.1 hz
    obtain ⟨b1, b2⟩ := h2.1 hz
    refine ⟨b1.trans a1.symm, ?_⟩
    rw [b2, a2]
    exact h.th.rel
  | true =>
    obtain ⟨s, hs, rfl⟩ := zin2_t hz
    obtain ⟨a1, a2, a3, a4, a5⟩ := h1.2 s hs rfl
    obtain ⟨b1, b2, b3, b4, b5, b6⟩ := h2.2 s hs rfl
    obtain ⟨q1, q2, q3, q4, q5, q6⟩ := h
    have hF : zF fo = 109 ∨ zF fo = 114 := zF_is fo
    have hN := q1.n8
    have hU : ∀ c, (c < 97 ∨ 107 < c) → c ≠ 119 → c ≠ 134 → c ≠ 135 → I2 c = I c := fun c d1 d2 d3 d4 => by
      rw [b2 c d3 d4, zu_other d2, a2 c (by omega) (by omega)]
    have hK : ∀ k, k ≠ 0 → I2 119 k = I 119 k := fun k hk => by
      rw [b2 119 (by omega) (by omega), zu_ne hk, a2 119 (by omega) (by omega)]
    have hC : ∀ c, 97 ≤ c → c ≤ 107 → I2 c = I1 c := fun c d1 d2 => by rw [b2 c (by omega) (by omega), zu_other (by omega)]
    refine ⟨?_, N, T, Y, fs, cn, len, ?_, by omega, ?_, ?_, ?_, ?_⟩
    · rw [b1, a1, zu_ne (by omega), a2 119 (by omega) (by omega), q1.yea]
    · exact q1.of (fun j hj => hU _ (by omega) (by omega) (by omega) (by omega)) (fun c d1 d2 => hU c (by omega) (by omega) (by omega) (by omega)) (fun c d1 d2 => hU c (by omega) (by omega) (by omega) (by omega)) (hK 4 (by omega)) (hK 5 (by omega)) (hK 6 (by omega)) (hK 15 (by omega))
    · exact q3.of (by rw [hU (zF fo) (by omega) (by omega) (by omega) (by omega)]) (hU 124 (by omega) (by omega) (by omega) (by omega))
    · exact q4.of (hU 1 (by omega) (by omega) (by omega) (by omega)) (hU 2 (by omega) (by omega) (by omega) (by omega)) (hU 120 (by omega) (by omega) (by omega) (by omega)) (hK 2 (by omega))
    · exact q5.of hN (by omega) (fun c d => hU c (by omega) (by omega) (by omega) (by omega)) (hU 133 (by omega) (by omega) (by omega) (by omega)) (hK 25 (by omega))
    · intro r hr
      rw [hC 107 (by omega) (by omega)]
      by_cases hrs : r = s
      · subst hrs
        rw [a3, b3]
        refine ⟨rfl, fun _ => ?_⟩
        refine zPW.lay (I := I) q1 (by omega) ?_ ?_
        · rw [hC (97 + 5 * r) (by omega) (by omega), hC (97 + 5 * r + 1) (by omega) (by omega), hC (97 + 5 * r + 2) (by omega) (by omega), hC (97 + 5 * r + 3) (by omega) (by omega), hC (97 + 5 * r + 4) (by omega) (by omega)]
          exact a5
        · have e : ∀ c, 125 ≤ c → c ≤ 128 → zu I1 119 0 0 c = I c := fun c d1 d2 => by rw [zu_other (by omega), a2 c (by omega) (by omega)]
          have e15 : zu I1 119 0 0 119 15 = I 119 15 := by rw [zu_ne (by omega), a2 119 (by omega) (by omega)]
          unfold zpag at b5
          rw [e 125 (by omega) (by omega), e 126 (by omega) (by omega), e 127 (by omega) (by omega), e 128 (by omega) (by omega), e15] at b5
          exact b5
      · obtain ⟨g1, g2⟩ := q6 r hr
        rw [a4 r hrs, b4 r hrs, zu_other (by omega), a2 135 (by omega) (by omega)]
        refine ⟨g1, fun q => (g2 q).of (by omega) hN (fun c d1 d2 => ?_) (fun j hj => ?_)⟩
        · rw [hC c (by omega) (by omega), a2 c (by omega) (by omega)]
        · rw [b6 _ (by omega), zu_other (by omega), a2 134 (by omega) (by omega)]
theorem v_again {x : Int32} {v1 : Option Value} {A A2 : Prop} {Q : Nat → Prop} {y : Nat → Int32} {C : Nat → Prop} (h : (zin x 2 = false → v1 = some (.int (-1)) ∧ A) ∧ ∀ s, s < 2 → x = nI s → (Q s → v1 = some (.int (-3)) ∧ A2) ∧ (¬ Q s → v1 = some (.int (y s)) ∧ C s)) : ∃ a, v1 = some (.int a) := by
  cases hz : zin x 2 with
  | false => exact ⟨_, (h.1 hz).1⟩
  | true =>
    obtain ⟨s, hs, e⟩ := zin2_t hz
    by_cases q : Q s
    · exact ⟨_, ((h.2 s hs e).1 q).1⟩
    · exact ⟨_, ((h.2 s hs e).2 q).1⟩
theorem m_again {x : Int32} {v1 : Option Value} (h : zR6 B fo N T Y fs cn len I) (h1 : (zin x 2 = false → v1 = some (.int (-1)) ∧ I1 = I) ∧ ∀ s, s < 2 → x = nI s → (I 107 s = 0 → v1 = some (.int (-3)) ∧ I1 = I) ∧ (¬ I 107 s = 0 → v1 = some (.int (I (97 + 5 * s) 0)) ∧ (∀ c, c ≠ 9 → (c < 91 ∨ 95 < c) → I1 c = I c) ∧ I1 9 1 = I 9 1 ∧ I1 9 2 = 0 ∧ zcop 91 (97 + 5 * s) I I1)) : zSm N T I1 := by
  have e : ∀ c, 119 ≤ c → I1 c = I c := fun c hc => by
    cases hz : zin x 2 with
    | false => rw [(h1.1 hz).2]
    | true =>
      obtain ⟨s, hs, e⟩ := zin2_t hz
      by_cases q : I 107 s = 0
      · rw [((h1.2 s hs e).1 q).2]
      · exact ((h1.2 s hs e).2 q).2.1 c (by omega) (by omega)
  exact (zact_m h e).1
theorem s_again {x : Int32} {v1 v2 : Option Value} (h : zR6 B fo N T Y fs cn len I) (hB : B < 600) (h1 : (zin x 2 = false → v1 = some (.int (-1)) ∧ I1 = I) ∧ ∀ s, s < 2 → x = nI s → (I 107 s = 0 → v1 = some (.int (-3)) ∧ I1 = I) ∧ (¬ I 107 s = 0 → v1 = some (.int (I (97 + 5 * s) 0)) ∧ (∀ c, c ≠ 9 → (c < 91 ∨ 95 < c) → I1 c = I c) ∧ I1 9 1 = I 9 1 ∧ I1 9 2 = 0 ∧ zcop 91 (97 + 5 * s) I I1))
    (h2 : (zin x 2 = false → v2 = some (.int (-1)) ∧ I2 = zu I1 119 0 0) ∧ ∀ s, s < 2 → x = nI s → (zu I1 119 0 0 135 s = 0 → v2 = some (.int (-3)) ∧ I2 = zu I1 119 0 0) ∧ (¬ zu I1 119 0 0 135 s = 0 → v2 = some (.int (zu I1 119 0 0 134 (29 * s + 28))) ∧ (∀ c, c ≠ 119 → c ≠ 125 → c ≠ 126 → c ≠ 127 → c ≠ 128 → I2 c = zu I1 119 0 0 c) ∧ (∀ j, j ≠ 15 → j ≠ 25 → I2 119 j = zu I1 119 0 0 119 j) ∧ I2 119 25 = 0 ∧ zpag 134 (29 * s) I2 (zu I1 119 0 0))) : v2 = v1 ∧ zREL (B + 1) fo I2 := by
  cases hz : zin x 2 with
  | false =>
    obtain ⟨a1, a2⟩ := h1.1 hz
    obtain ⟨b1, b2⟩ := h2.1 hz
    refine ⟨b1.trans a1.symm, ?_⟩
    rw [b2, a2]
    exact h.th.rel
  | true =>
    obtain ⟨s, hs, rfl⟩ := zin2_t hz
    obtain ⟨f1, f2⟩ := h1.2 s hs rfl
    obtain ⟨g1, g2⟩ := h2.2 s hs rfl
    obtain ⟨u1, u2⟩ := h.2.2.2.2.2 s hs
    by_cases hk : I 107 s = 0
    · obtain ⟨a1, a2⟩ := f1 hk
      obtain ⟨b1, b2⟩ := g1 (by rw [zu_other (by omega), a2, ← u1]; exact hk)
      refine ⟨b1.trans a1.symm, ?_⟩
      rw [b2, a2]
      exact h.th.rel
    · obtain ⟨a1, a2, a3, a4, a5⟩ := f2 hk
      have e135 : zu I1 119 0 0 135 = I 135 := by rw [zu_other (by omega), a2 135 (by omega) (by omega)]
      have e134 : zu I1 119 0 0 134 = I 134 := by rw [zu_other (by omega), a2 134 (by omega) (by omega)]
      have hk2 : ¬ I 135 s = 0 := by rw [← u1]; exact hk
      obtain ⟨b1, b2, b3, b4, b5⟩ := g2 (by rw [e135]; exact hk2)
      have hpw := u2 hk2
      obtain ⟨q1, q2, q3, q4, q5, q6⟩ := h
      have hF : zF fo = 109 ∨ zF fo = 114 := zF_is fo
      have hN := q1.n8
      have hU : ∀ c, c ≠ 9 → (c < 91 ∨ 95 < c) → c ≠ 119 → (c < 125 ∨ 128 < c) → I2 c = I c := fun c d1 d2 d3 d4 => by
        rw [b2 c d3 (by omega) (by omega) (by omega) (by omega), zu_other d3, a2 c d1 d2]
      have hK : ∀ j, j ≠ 0 → j ≠ 15 → j ≠ 25 → I2 119 j = I 119 j := fun j d1 d2 d3 => by
        rw [b3 j d2 d3, zu_ne d1, a2 119 (by omega) (by omega)]
      have hW : ∀ c, (91 ≤ c ∧ c ≤ 95) ∨ c = 9 → I2 c = I1 c := fun c d => by
        rw [b2 c (by omega) (by omega) (by omega) (by omega) (by omega), zu_other (by omega)]
      have hpw2 := hpw
      obtain ⟨Y', hY', y1, y2, -⟩ := hpw2
      have hs' : zS fo N T Y' I2 := by
        refine q1.ret hpw (show B ≤ 1000 by omega) (fun j hj => hU _ (by omega) (by omega) (by omega) (by omega)) (fun c d1 d2 => hU c (by omega) (by omega) (by omega) (by omega)) (hK 4 (by omega) (by omega) (by omega)) (hK 5 (by omega) (by omega) (by omega)) (hK 6 (by omega) (by omega) (by omega)) ?_ ?_ y1 hY'
        · rw [hW 91 (by omega), hW 92 (by omega), hW 93 (by omega), hW 94 (by omega), hW 95 (by omega)]
          exact a5
        · unfold zpag at b5
          rw [e134] at b5
          exact b5
      refine ⟨?_, N, T, Y', fs, 0, len, hs', by omega, ?_, ?_, ?_, ?_⟩
      · rw [b1, a1, e134, y1, y2]
      · exact q3.of (by rw [hU (zF fo) (by omega) (by omega) (by omega) (by omega)]) (hU 124 (by omega) (by omega) (by omega) (by omega))
      · exact q4.of (hU 1 (by omega) (by omega) (by omega) (by omega)) (hU 2 (by omega) (by omega) (by omega) (by omega)) (hU 120 (by omega) (by omega) (by omega) (by omega)) (hK 2 (by omega) (by omega) (by omega))
      · exact (q5.less hN (Nat.zero_le _) (fun c d => hU c (by omega) (by omega) (by omega) (by omega)) (by rw [hW 9 (by omega), a3]; exact q5.2.2.1) (by rw [hW 9 (by omega), a4]; rfl) (hU 133 (by omega) (by omega) (by omega) (by omega)) (b4.trans rfl)).mono hN (by omega)
      · exact q6.of hN (by omega) (fun c d1 d2 => hU c (by omega) (by omega) (by omega) (by omega)) (hU 134 (by omega) (by omega) (by omega) (by omega)) (hU 135 (by omega) (by omega) (by omega) (by omega))
/-! what about and person answer -/
theorem zmiss_all (h : zS fo N T Y I) (y : Int32) : zor (fun i => zMs (zV I) N i y) (fun _ => true) N &&& (((1 : Int32) <<< (nI N &&& 31)) - 1) = zor (fun i => zMs (zV I) N i y) (fun _ => true) N := by
  have hN := h.n8
  obtain ⟨a, ha, ea⟩ : ∃ a, a < 2 ^ N ∧ zor (fun i => zMs (zV I) N i y) (fun _ => true) N = nI a := zor_mask (fun i _ => ⟨_, zbn_lt _ N, zbits_N _ N (by omega)⟩)
  have hp : 1 ≤ 2 ^ N := Nat.pow_pos (by omega)
  rw [ea, zall_N hN, show (1 : Int32) = nI 1 from rfl, pk_sub hp, nI_and, Nat.and_two_pow_sub_one_eq_mod, Nat.mod_eq_of_lt ha]
theorem s_about {w : Int32} (h : zR6 B fo N T Y fs cn len I) : zsel w [I (zF fo) 1, I (zF fo) 2, I (zF fo) 0, I 91 0, zbits (fun i => zAl (zV I) i) N, zor (fun i => zMs (zV I) N i (I 119 15)) (fun _ => true) N &&& (((1 : Int32) <<< (nI N &&& 31)) - 1), I (zF fo) 3, I 9 2, I 1 1] (-2) = zsel w [I 119 5, I 119 6, I 119 4, I 119 15, zbits (fun i => zAl (zV I) i) N, zor (fun i => zMs (zV I) N i (I 119 15)) (fun _ => true) N, zsum (fun i => zpop (vA (zV I) i)) (fun _ => true) N, I 119 25, I 119 2] (-2) := by
  obtain ⟨q1, q2, q3, q4, q5, q6⟩ := h
  rw [zmiss_all q1, q1.twn, q1.mtwn, q1.ppl, q1.mppl, q1.law, q1.yea, show I (zF fo) 3 = _ from q3, q5.2.2.2.1, q5.2.2.2.2.1, q4.2.1, q4.2.2.1]
theorem zpick_cg {x : Int32} {n : Nat} {bad : Int32} {F F' : Nat → Int32} (hn : n < 2 ^ 31) (h : ∀ p, p < n → F p = F' p) : zpick x n bad F = zpick x n bad F' := by
  cases hz : zin x (nI n) with
  | false => rw [zpick_f hz, zpick_f hz]
  | true =>
    obtain ⟨p, hp, rfl⟩ := zin_t hn hz
    rw [zpick_t hp hn, zpick_t hp hn, h p hp]
theorem s_person {x w : Int32} (h : zR6 B fo N T Y fs cn len I) : zpick x N (-1) (fun p => zsel w [I (zF fo + 1) p, I (zF fo + 2) p, I (zF fo + 3) p, I 92 p, I 93 p, I 94 p, I (zF fo + 4) p, zMs (zV I) N p (I 119 15)] (-2)) = zpick x N (-1) (fun p => zsel w [vH (zV I) p, vN (zV I) p, vK (zV I) p, vW (zV I) p, vS (zV I) p, vD (zV I) p, vA (zV I) p, zMs (zV I) N p (I 119 15)] (-2)) := by
  have q1 := h.1
  refine zpick_cg q1.n31 (fun p hp => ?_)
  rw [q1.hom hp, q1.nam hp, q1.kee hp, q1.whe hp, q1.sin hp, q1.die hp, q1.ask hp]
/-- what the model's questions read stands, where the class has but reckoned -/
theorem zFC.facts {fo : Bool} {I I1 : zq_I} (h : zFC fo I I1) : zV I1 = zV I ∧ I1 119 = I 119 ∧ I1 128 = I 128 := ⟨h.V, h 119 (by cases fo <;> rfl), h 128 (by cases fo <;> rfl)⟩
end SLOTS
