theorem zwg_bit (h g p : Nat) : (zwg h g).testBit p = (h.testBit p && !g.testBit p) := by
  unfold zwg
  rw [Nat.testBit_and, Nat.testBit_xor, Nat.testBit_and]
  cases h.testBit p <;> cases g.testBit p <;> rfl
theorem zth_le : ∀ (c : List Nat) (h : Nat), zth h c ≤ h := by
  intro c
  induction c with
  | nil => intro h; exact Nat.le_refl _
  | cons g t ih => intro h; exact Nat.le_trans (ih (zwg h g)) (zwg_le h g)
theorem zgl_c (g : Nat) (c : List Nat) (p : Nat) : zgl (g :: c) p = if g.testBit p = true then 1 else if zgl c p = 0 then 0 else zgl c p + 1 := rfl
theorem zcfg_bits : ∀ (k h : Nat) (c : List Nat), c ∈ zcfg k h → (∀ y p, (c.getD y 0).testBit p = decide (zgl c p = y + 1)) ∧ (∀ m p, (zth h (c.take m)).testBit p = (h.testBit p && ((zgl c p == 0) || decide (m < zgl c p)))) ∧ (∀ p, zgl c p ≠ 0 → h.testBit p = true) ∧ ∀ p, zgl c p ≤ k := by
  intro k
  induction k with
  | zero =>
    intro h c hc
    rw [zcfg, List.mem_singleton] at hc
    subst hc
    refine ⟨fun y p => ?_, fun m p => ?_, fun p hp => absurd rfl hp, fun p => Nat.le_refl _⟩
    · rw [List.getD_nil, Nat.zero_testBit]; rfl
    · rw [List.take_nil]; show h.testBit p = (h.testBit p && true); rw [Bool.and_true]
  | succ k ih =>
    intro h c hc
    rw [zcfg, List.mem_flatMap] at hc
    obtain ⟨g, hg, hc⟩ := hc
    rw [List.mem_map] at hc
    obtain ⟨c', hc', rfl⟩ := hc
    obtain ⟨i1, i2, i3, i4⟩ := ih _ _ hc'
    have hg0 : ∀ p, g.testBit p = true → zgl c' p = 0 := by
      intro p hp
      rcases Nat.eq_zero_or_pos (zgl c' p) with q | q
      · exact q
      · have h1 := i3 p (by omega)
        rw [zwg_bit, hp] at h1
        simp at h1
    have hgh : ∀ p, g.testBit p = true → h.testBit p = true := by
      intro p hp
      have h1 := (zsub_mem hg).2
      rw [← h1, Nat.testBit_and, Bool.and_eq_true] at hp
      exact hp.2
    refine ⟨fun y p => ?_, fun m p => ?_, fun p hp => ?_, fun p => ?_⟩
    · rw [zgl_c]
      cases y with
      | zero =>
        rw [List.getD_cons_zero]
        by_cases hb : g.testBit p = true
        · rw [if_pos hb, hb]; rfl
        · rw [if_neg hb, Bool.eq_false_iff.mpr hb]
          symm
          apply decide_eq_false
          split <;> omega
      | succ y =>
        rw [List.getD_cons_succ, i1]
        by_cases hb : g.testBit p = true
        · rw [if_pos hb, hg0 p hb, decide_eq_decide]; omega
        · rw [if_neg hb, decide_eq_decide]; split <;> omega
    · cases m with
      | zero => rw [List.take_zero]; show h.testBit p = _; rw [zgl_c]; by_cases h0 : g.testBit p = true
                · rw [if_pos h0]; simp
                · rw [if_neg h0]; by_cases h1 : zgl c' p = 0
                  · rw [if_pos h1]; simp
                  · rw [if_neg h1]; simp
      | succ m =>
        rw [List.take_succ_cons]
        show (zth (zwg h g) (c'.take m)).testBit p = _
        rw [i2, zwg_bit, zgl_c]
        by_cases hb : g.testBit p = true
        · rw [if_pos hb, hb]; simp
        · rw [if_neg hb, Bool.eq_false_iff.mpr hb]
          by_cases h1 : zgl c' p = 0
          · rw [if_pos h1, h1]; simp
          · rw [if_neg h1]
            have e1 : (zgl c' p == 0) = false := beq_eq_false_iff_ne.mpr h1
            have e2 : (zgl c' p + 1 == 0) = false := beq_eq_false_iff_ne.mpr (by omega)
            have e3 : decide (m + 1 < zgl c' p + 1) = decide (m < zgl c' p) := by rw [decide_eq_decide]; omega
            rw [e1, e2, e3]
            simp
    · rw [zgl_c] at hp
      by_cases hb : g.testBit p = true
      · exact hgh p hb
      · rw [if_neg hb] at hp
        have h1 : zgl c' p ≠ 0 := fun q => hp (by rw [if_pos q])
        have h2 := i3 p h1
        rw [zwg_bit, Bool.and_eq_true] at h2
        exact h2.1
    · rw [zgl_c]
      have := i4 p
      split
      · omega
      · split <;> omega
theorem zCI_CMg {fo : Bool} {N T Y nn h y : Nat} {I : zq_I} {c : List Nat} (hs : zS fo N T Y I) (hh : h < 256) (hc : c ∈ zcfg nn h) (hnn : nn ≤ 3) (hy : y < nn) : zCI (I 119 4) (zV I) N (zlc c) y (nI (zth h (c.take (y + 1)))) = zCMg (I 119 4) (zV I) N h (fun p => nI (zgl c p)) (nI (y + 1)) := by
  obtain ⟨b1, b2, b3, b4⟩ := zcfg_bits nn h c hc
  obtain ⟨hlen, hlt⟩ := zcfg_lt (P := 8) nn h c hc hh
  have hN8 := hs.n8
  have hp2 := zp2_le hN8
  have hcd : ∀ y', c.getD y' 0 < 2 ^ 8 := by
    intro y'
    rw [List.getD_eq_getElem?_getD]
    cases e : c[y']? with
    | none => decide
    | some v => exact hlt v (List.mem_of_getElem? e)
  unfold zCI zCMg
  refine zCnt_congr (fun i hi => ?_) (fun i hi _ => ?_)
  · have h1 := zth_le (c.take (y + 1)) h
    have h2 := b4 i
    rw [zhas_N (by omega) (by omega), b2]
    unfold zthr
    rw [zhas_N (by omega) (by omega)]
    have e1 : (nI (zgl c i) == 0) = (zgl c i == 0) := by
      rw [Bool.eq_iff_iff, beq_iff_eq, beq_iff_eq]
      exact nI_eq (b := 0) (by omega) (by omega)
    have e2 : decide (nI (y + 1) < nI (zgl c i)) = decide (y + 1 < zgl c i) := by
      rw [decide_eq_decide]
      exact nI_ltI (by omega) (by omega)
    rw [e1, e2]
  · obtain ⟨-, -, -, ⟨A, hA, -, eA⟩, -⟩ := hs.2.2.2.2.2.1 i hi
    obtain ⟨K, hK, eK⟩ := hs.kR hi
    replace eA : vA (zV I) i = nI A := eA
    unfold zLS
    rw [eK, nI_clamp (by omega)]
    obtain ⟨a, ha, ea, ba⟩ := zor_bits (f := zlc c) (c := fun y' => decide (y - K ≤ y')) (n := y + 1) (fun y' _ => ⟨c.getD y' 0, hcd y', rfl⟩)
    rw [ea, eA, nI_and, zbits_N _ N (by omega)]
    congr 1
    have hb1 := zbn_lt (zIs (zV I) h (fun p => nI (zgl c p)) (nI (y + 1)) i) N
    refine zbit_ext (n := 8) (Nat.lt_of_le_of_lt Nat.and_le_right ha) (by omega) (fun k hk => ?_)
    rw [Nat.testBit_and, ba k hk, zbn_bit, Bool.eq_iff_iff]
    simp only [Bool.and_eq_true, zany_i, decide_eq_true_eq]
    have hz4 := b4 k
    constructor
    · rintro ⟨hAk, y', hy', hc1, hc2⟩
      have hz : zgl c k = y' + 1 := by
        have h3 : zhas (nI (c.getD y' 0)) k = true := hc2
        have h4 := hcd y'
        rw [zhas_N (by omega) (by omega), b1] at h3
        exact of_decide_eq_true h3
      have hkN : k < N := by
        rcases Nat.lt_or_ge k N with q | q
        · exact q
        · have h1 : 2 ^ N ≤ 2 ^ k := Nat.pow_le_pow_right (by omega) q
          rw [Nat.testBit_lt_two_pow (by omega)] at hAk
          cases hAk
      refine ⟨hkN, ?_⟩
      have hhk := b3 k (by omega)
      unfold zIs
      simp only [eA, eK, hz]
      rw [nI_and, zhas_N (Nat.lt_of_le_of_lt Nat.and_le_left (by omega)) (by omega), Nat.testBit_and, hhk, hAk, pk_sub (by omega), decide_eq_true (show (0 : Int32) < nI (y' + 1) from nI_lt (a := 0) (by omega) (by omega)), decide_eq_true (show nI (y' + 1) ≤ nI (y + 1) from nI_le (by omega) (by omega)), decide_eq_true (show nI (y + 1 - (y' + 1)) ≤ nI K from nI_le (by omega) (by omega))]
      rfl
    · rintro ⟨hkN, hI⟩
      unfold zIs at hI
      simp only [Bool.and_eq_true, decide_eq_true_eq, eA, eK] at hI
      obtain ⟨⟨⟨h1, h2⟩, h3⟩, h4⟩ := hI
      rw [nI_and, zhas_N (Nat.lt_of_le_of_lt Nat.and_le_left (by omega)) (by omega), Nat.testBit_and, Bool.and_eq_true] at h1
      have h2' := (nI_ltI (a := 0) (by omega) (by omega)).mp h2
      have h3' := (nI_leI (by omega) (by omega)).mp h3
      rw [pk_sub h3', nI_leI (by omega) (by omega)] at h4
      refine ⟨h1.2, zgl c k - 1, by omega, by omega, ?_⟩
      show zhas (nI (c.getD (zgl c k - 1) 0)) k = true
      have h5 := hcd (zgl c k - 1)
      rw [zhas_N (by omega) (by omega), b1]
      exact decide_eq_true (by omega)
theorem zwent {nn h N : Nat} {c : List Nat} (hN : N ≤ 8) (hh : h < 2 ^ N) (hc : c ∈ zcfg nn h) : z2o (0, nI h) (1, nI (zth h c) ^^^ (-1)) = z2o (0, nI h) (1, zbits (fun p => decide (0 < zgl c p)) N) := by
  obtain ⟨b1, b2, b3, b4⟩ := zcfg_bits nn h c hc
  have hp2 := zp2_le hN
  obtain ⟨hlen, -⟩ := zcfg_lt (P := 8) nn h c hc (by omega)
  unfold z2o
  congr 1
  show nI h &&& (nI (zth h c) ^^^ (-1)) = nI h &&& zbits (fun p => decide (0 < zgl c p)) N
  rw [zwg_eq (by omega), zbits_N _ N (by omega), nI_and]
  congr 1
  have h0 := zwg_le h (zth h c)
  refine zbit_ext (n := 8) (by omega) (Nat.lt_of_le_of_lt Nat.and_le_left (by omega)) (fun k hk => ?_)
  have e1 := b2 nn k
  rw [show c.take nn = c from by rw [← hlen]; exact List.take_length] at e1
  have h4 := b4 k
  rw [zwg_bit, Nat.testBit_and, zbn_bit, e1]
  cases hb : h.testBit k with
  | false => rfl
  | true =>
    have hkN : k < N := by
      rcases Nat.lt_or_ge k N with q | q
      · exact q
      · have h1 : 2 ^ N ≤ 2 ^ k := Nat.pow_le_pow_right (by omega) q
        rw [Nat.testBit_lt_two_pow (by omega)] at hb
        cases hb
    rw [decide_eq_true hkN, decide_eq_false (show ¬ nn < zgl c k by omega)]
    by_cases hz : zgl c k = 0
    · rw [hz]; rfl
    · rw [decide_eq_true (show 0 < zgl c k by omega), beq_eq_false_iff_ne.mpr hz]; rfl
theorem zal_i {F : Nat → Bool} : ∀ n, zal F n = true ↔ ∀ i, i < n → F i = true := by
  intro n
  induction n with
  | zero => simp [zal]
  | succ n ih =>
    rw [zal, Bool.and_eq_true, ih]
    constructor
    · rintro ⟨h1, h2⟩ i hi
      by_cases q : i = n
      · subst q; exact h2
      · exact h1 i (by omega)
    · intro h
      exact ⟨fun i hi => h i (by omega), h n (by omega)⟩
def zFy (l : Int32) (V : zq_V) (N h nn td : Nat) (go : Nat → Nat) (y : Nat) : Bool := zCMg l V N h (fun p => nI (go p)) (nI (y + 1)) == zdig td nn y
def zFg (l : Int32) (V : zq_V) (N h nn td : Nat) (go : Nat → Nat) : zM2 := if zal (zFy l V N h nn td go) nn = true then (1, zbits (fun p => decide (0 < go p)) N) else z2u
theorem zRW2_ms {fo : Bool} {N T Y nn h td : Nat} {I : zq_I} (hs : zS fo N T Y I) (hh : h < 2 ^ N) (hnn : nn ≤ 3) : zRW2 (I 119 4) (zV I) N h nn td = z2o (0, nI h) (zms (fun row => zFg (I 119 4) (zV I) N h nn td (zgo (nn + 1) h row)) (List.range ((nn + 1) ^ zpc h))) := by
  have hN8 := hs.n8
  have hp2 := zp2_le hN8
  have he : z2o (0, nI h) (0, nI h) = (0, nI h) := by unfold z2o; rw [i32_and_self]; rfl
  unfold zRW2
  rw [zTF_ms, ← zway nn N hN8 h (zFg (I 119 4) (zV I) N h nn td) hh]
  refine zms_hom he (fun c hc => ?_)
  obtain ⟨hlen, -⟩ := zcfg_lt (P := 8) nn h c hc (by omega)
  have hQ : ∀ y, y < nn → (zQ (I 119 4) (zV I) N (zdig td nn) h c y ↔ zFy (I 119 4) (zV I) N h nn td (zgl c) y = true) := by
    intro y hy
    unfold zQ zFy
    rw [zCI_CMg hs (by omega) hc hnn hy, beq_iff_eq]
  unfold zFg
  split
  · rename_i h1
    rw [zal_i] at h1
    have h2 := zgd2_t (l := I 119 4) (V := zV I) (N := N) (ct := zdig td nn) (h := h) (full := c) c [] (fun _ => 0) h rfl rfl (fun y hy => absurd hy (by simp)) (fun y _ hy => (hQ y (by omega)).mpr (h1 y (by omega)))
    rw [show ([] : List Nat).length = 0 from rfl] at h2
    rw [h2]
    exact zwent hN8 hh hc
  · rename_i h1
    have h3 : ∃ y, y < nn ∧ ¬ zFy (I 119 4) (zV I) N h nn td (zgl c) y = true := by
      refine Classical.byContradiction (fun q => h1 ((zal_i nn).mpr (fun i hi => ?_)))
      refine Classical.byContradiction (fun q2 => q ⟨i, hi, q2⟩)
    obtain ⟨y, hy, hy2⟩ := h3
    have h2 := zgd2_f (l := I 119 4) (V := zV I) (N := N) (ct := zdig td nn) (h := h) (full := c) c [] (fun _ => 0) h rfl rfl (fun y hy => absurd hy (by simp)) ⟨y, Nat.zero_le _, by omega, fun q => hy2 ((hQ y hy).mp q)⟩
    rw [show ([] : List Nat).length = 0 from rfl] at h2
    rw [h2]
theorem zrL_ms {F : Nat → Bool} {Wt : Nat → Int32} {h : Nat} (hW : ∀ row, (∃ a, a < 2 ^ 8 ∧ Wt row = nI a) ∧ nI h &&& Wt row = Wt row) : ∀ n, n ≤ 5000 → ∃ k, k ≤ n ∧ (zms (fun row => if F row = true then ((1, Wt row) : zM2) else z2u) (List.range n)).1 = nI k ∧ (zrL F Wt n).1 = nI k ∧ (k = 0 → (zrL F Wt n).2 = -9 ∧ zms (fun row => if F row = true then ((1, Wt row) : zM2) else z2u) (List.range n) = z2u) ∧ (0 < k → (zrL F Wt n).2 = (zms (fun row => if F row = true then ((1, Wt row) : zM2) else z2u) (List.range n)).2 ∧ (∃ a, a < 2 ^ 8 ∧ (zrL F Wt n).2 = nI a) ∧ nI h &&& (zrL F Wt n).2 = (zrL F Wt n).2) := by
  intro n
  induction n with
  | zero => intro _; exact ⟨0, Nat.le_refl _, rfl, rfl, fun _ => ⟨rfl, rfl⟩, fun q => absurd q (by omega)⟩
  | succ n ih =>
    intro hn
    obtain ⟨k, hk, e1, e2, e3, e4⟩ := ih (by omega)
    rw [zrL_s, List.range_succ, zms_app]
    have e5 : zms (fun row => if F row = true then ((1, Wt row) : zM2) else z2u) [n] = if F n = true then ((1, Wt n) : zM2) else z2u := z2o_u _
    rw [e5]
    generalize zms (fun row => if F row = true then ((1, Wt row) : zM2) else z2u) (List.range n) = m at *
    generalize zrL F Wt n = s at *
    obtain ⟨⟨a, ha, ea⟩, eh⟩ := hW n
    by_cases hF : F n = true
    · rw [if_pos hF]
      refine ⟨k + 1, by omega, ?_, ?_, fun q => absurd q (by omega), fun _ => ?_⟩
      · show m.1 + 1 = _; rw [e1, nI_1]
      · unfold zrS; rw [if_pos hF]; show s.1 + 1 = _; rw [e2, nI_1]
      · unfold zrS
        rw [if_pos hF]
        show (if s.2 = -9 then Wt n else s.2 &&& Wt n) = m.2 &&& Wt n ∧ _
        by_cases hk0 : k = 0
        · obtain ⟨q1, q2⟩ := e3 hk0
          simp only [q1, q2, if_true]
          refine ⟨?_, ⟨a, ha, ea⟩, eh⟩
          show Wt n = (-1 : Int32) &&& Wt n
          rw [i32_and_comm, i32_and_m1]
        · obtain ⟨q1, ⟨b, hb, eb⟩, q3⟩ := e4 (by omega)
          have h9 : ¬ s.2 = -9 := by rw [eb]; exact nI_n9 (by omega)
          simp only [if_neg h9]
          refine ⟨by rw [q1], ⟨b &&& a, Nat.lt_of_le_of_lt Nat.and_le_left hb, by rw [eb, ea, nI_and]⟩, by rw [← i32_and_assoc, q3]⟩
    · rw [if_neg hF, z2o_u, zrS_n (Bool.eq_false_iff.mpr hF)]
      exact ⟨k, by omega, e1, e2, e3, e4⟩
theorem zRet_model {fo : Bool} {N T Y nn h td : Nat} {I : zq_I} (w : Int32) (hs : zS fo N T Y I) (hh : h < 2 ^ N) (hnn : nn ≤ 3) (hpc : zpc h ≤ 6) : (if w = 0 then (zRW2 (I 119 4) (zV I) N h nn td).1 else if (zRW2 (I 119 4) (zV I) N h nn td).1 = 0 then -9 else (zRW2 (I 119 4) (zV I) N h nn td).2) = if w = 0 then (zrL (fun row => zal (zFT (I 119 4) (zV I) N h nn td row) nn) (fun row => zwt (nn + 1) h row N) ((nn + 1) ^ zpc h)).1 else (zrL (fun row => zal (zFT (I 119 4) (zV I) N h nn td row) nn) (fun row => zwt (nn + 1) h row N) ((nn + 1) ^ zpc h)).2 := by
  have hN8 := hs.n8
  have hp2 := zp2_le hN8
  have hb := zRt_b hnn hpc
  have hW : ∀ row, (∃ a, a < 2 ^ 8 ∧ zwt (nn + 1) h row N = nI a) ∧ nI h &&& zwt (nn + 1) h row N = zwt (nn + 1) h row N := by
    intro row
    have h1 := zbn_lt (fun p => decide (0 < zgo (nn + 1) h row p)) N
    unfold zwt
    rw [zbits_N _ N (by omega)]
    refine ⟨⟨_, by omega, rfl⟩, ?_⟩
    rw [nI_and]
    congr 1
    refine Nat.eq_of_testBit_eq (fun k => ?_)
    rw [Nat.testBit_and, zbn_bit]
    by_cases q : 0 < zgo (nn + 1) h row k
    · have q2 : h.testBit k = true := by
        refine Classical.byContradiction (fun q3 => ?_)
        unfold zgo at q
        rw [if_neg q3] at q
        omega
      rw [q2, Bool.true_and]
    · rw [decide_eq_false q, Bool.and_false, Bool.and_false]
  obtain ⟨k, hk, e1, e2, e3, e4⟩ := zrL_ms (F := fun row => zal (zFT (I 119 4) (zV I) N h nn td row) nn) hW ((nn + 1) ^ zpc h) (by omega)
  have em : zRW2 (I 119 4) (zV I) N h nn td = z2o (0, nI h) (zms (fun row => if zal (zFT (I 119 4) (zV I) N h nn td row) nn = true then ((1, zwt (nn + 1) h row N) : zM2) else z2u) (List.range ((nn + 1) ^ zpc h))) := zRW2_ms hs hh hnn
  rw [em]
  generalize zms (fun row => if zal (zFT (I 119 4) (zV I) N h nn td row) nn = true then ((1, zwt (nn + 1) h row N) : zM2) else z2u) (List.range ((nn + 1) ^ zpc h)) = m at *
  generalize zrL (fun row => zal (zFT (I 119 4) (zV I) N h nn td row) nn) (fun row => zwt (nn + 1) h row N) ((nn + 1) ^ zpc h) = s at *
  show (if w = 0 then (0 : Int32) + m.1 else if (0 : Int32) + m.1 = 0 then -9 else nI h &&& m.2) = if w = 0 then s.1 else s.2
  rw [Int32.zero_add, e1, e2]
  by_cases hk0 : k = 0
  · rw [(e3 hk0).1, hk0]
    rfl
  · obtain ⟨q1, -, q3⟩ := e4 (by omega)
    rw [if_neg (nI_ne0 (by omega) (by omega)), ← q1, q3]
