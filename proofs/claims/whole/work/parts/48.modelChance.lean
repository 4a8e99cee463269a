/-- Euclid's way has ended within n steps -/
def zgdn (a b : Int64) : Nat → Prop
  | 0 => b = 0
  | n + 1 => b = 0 ∨ zgdn b (a - a / b * b) n
theorem zgdn_N : ∀ n a b, n ≤ 60 → a < 2 ^ 62 → b < 2 ^ n → zgdn (lN a) (lN b) (2 * n) := by
  intro n
  induction n with
  | zero => intro a b _ _ hb; rw [show b = 0 by omega]; rfl
  | succ n ih =>
    intro a b hn ha hb
    have hp : 2 ^ (n + 1) ≤ 2 ^ 61 := Nat.pow_le_pow_right (by decide) (by omega)
    have hp2 : 2 ^ (n + 1) = 2 * 2 ^ n := by rw [Nat.pow_succ, Nat.mul_comm]
    rw [show 2 * (n + 1) = (2 * n + 1) + 1 by omega]
    by_cases h0 : b = 0
    · exact Or.inl (by rw [h0]; rfl)
    · refine Or.inr ?_
      rw [pk_lRem (by omega) (by omega) (by omega)]
      by_cases h1 : a % b = 0
      · exact Or.inl (by rw [h1]; rfl)
      · refine Or.inr ?_
        have hr : a % b < b := Nat.mod_lt _ (by omega)
        rw [pk_lRem (by omega) (by omega) (by omega)]
        refine ih _ _ (by omega) (by omega) ?_
        have h3 : b % (a % b) < a % b := Nat.mod_lt _ (by omega)
        by_cases h4 : 2 * (a % b) ≤ b
        · omega
        · rw [Nat.mod_eq_sub_mod (by omega), Nat.mod_eq_of_lt (by omega)]; omega
theorem zgcd_pos : ∀ n a b, a < 2 ^ 62 → b < 2 ^ 62 → (0 < a ∨ 0 < b) → zgdn (lN a) (lN b) n → ∃ d, 0 < d ∧ d < 2 ^ 62 ∧ zgcd (lN a) (lN b) n = lN d := by
  intro n
  induction n with
  | zero =>
    intro a b ha hb h hd
    have hb0 : b = 0 := (pk_lEQ (b := 0) (by omega) (by omega)).mp hd
    exact ⟨a, by omega, ha, rfl⟩
  | succ n ih =>
    intro a b ha hb h hd
    by_cases h0 : b = 0
    · refine ⟨a, by omega, ha, ?_⟩
      rw [h0]; exact zgcd_0 rfl
    · have hb0 : ¬ lN b = 0 := fun q => h0 ((pk_lEQ (b := 0) (by omega) (by omega)).mp q)
      rcases hd with hd | hd
      · exact absurd hd hb0
      · rw [zgcd_s hb0]
        rw [pk_lRem (by omega) (by omega) (by omega)] at hd ⊢
        exact ih _ _ hb (Nat.lt_of_lt_of_le (Nat.mod_lt _ (by omega)) (by omega)) (Or.inl (by omega)) hd
set_option maxHeartbeats 4000000 in
set_option maxRecDepth 100000 in
theorem lp_X8_divisor (G : zq_G) (n : Nat) (I : zq_I) (P : zq_P) {a0 b0 : Int64} : ∀ (k : Nat) (a b : Int64), zgdn a b k → zq_E G mX8_divisor 0 0 0 false 6 [some (.long a0), none, some (.long b0), none, some (.long a), none, some (.long b), none, none, none] [] n I P (zq_pu (some (.long (zgcd a b k))) n I P) := by
  intro k
  induction k with
  | zero =>
    intro a b hd
    refine ev_lload (q := 8) dX8_divisor_6 rfl rfl ?_
    refine ev_lconst (q := 9) (0 : Int64) dX8_divisor_8 rfl (by decide) ?_
    refine ev_lcmp (q := 10) dX8_divisor_9 rfl ?_
    refine ev_if_eq (q := 13) (t := 31) dX8_divisor_10 rfl (by decide) (fun h10 => ?_) (fun h10 => ?_)
    · have hb : b = 0 := zcmp0.mp h10
      refine ev_lload (q := 33) dX8_divisor_31 rfl rfl ?_
      exact ev_lret dX8_divisor_33 rfl (⟨rfl, rfl, rfl, rfl⟩)
    · exact absurd hd (fun q => h10 (zcmp0.mpr q))
  | succ k ih =>
    intro a b hd
    refine ev_lload (q := 8) dX8_divisor_6 rfl rfl ?_
    refine ev_lconst (q := 9) (0 : Int64) dX8_divisor_8 rfl (by decide) ?_
    refine ev_lcmp (q := 10) dX8_divisor_9 rfl ?_
    refine ev_if_eq (q := 13) (t := 31) dX8_divisor_10 rfl (by decide) (fun h10 => ?_) (fun h10 => ?_)
    · have hb : b = 0 := zcmp0.mp h10
      refine ev_lload (q := 33) dX8_divisor_31 rfl rfl ?_
      exact ev_lret dX8_divisor_33 rfl (⟨by rw [zgcd_0 hb], rfl, rfl, rfl⟩)
    · have hb : ¬ b = 0 := fun q => h10 (zcmp0.mpr q)
      refine ev_lload (q := 15) dX8_divisor_13 rfl rfl ?_
      refine ev_lload (q := 17) dX8_divisor_15 rfl rfl ?_
      refine ev_lrem (q := 18) dX8_divisor_17 rfl hb ?_
      refine ev_lstoreL (q := 20) (L9 := [_, _, _, _, _, _, _, _, _, _]) dX8_divisor_18 rfl (by decide) rfl rfl ?_
      refine ev_lload (q := 22) dX8_divisor_20 rfl rfl ?_
      refine ev_lstoreL (q := 24) (L9 := [_, _, _, _, _, _, _, _, _, _]) dX8_divisor_22 rfl (by decide) rfl rfl ?_
      refine ev_lload (q := 26) dX8_divisor_24 rfl rfl ?_
      refine ev_lstoreL (q := 28) (L9 := [_, _, _, _, _, _, _, _, _, _]) dX8_divisor_26 rfl (by decide) rfl rfl ?_
      refine ev_goto (t := 6) dX8_divisor_28 (by decide) ?_
      refine ev_wk (L' := [some (.long a0), none, some (.long b0), none, some (.long _), none, some (.long _), none, none, none]) ⟨rfl, rfl, rfl, rfl, trivial⟩ ?_
      rw [zgcd_s hb]
      exact ih _ _ (hd.resolve_left hb)
set_option maxHeartbeats 4000000 in
set_option maxRecDepth 100000 in
theorem c_X8_divisor (G : zq_G) (n : Nat) (I : zq_I) (P : zq_P) {a b : Int64} (hd : zgdn a b 100) : zq_Met G mX8_divisor 0 0 0 [.long a, .long b] n I P (zq_pu (some (.long (zgcd a b 100))) n I P) := by
  refine zq_Met.of okX8_divisor (Nat.le_of_ble_eq_true rfl) ?_
  show zq_E _ _ _ _ _ _ _ [some (.long a), none, some (.long b), none, none, none, none, none, none, none] _ _ _ _ _
  refine ev_lload_n (q := 1) dX8_divisor_0 rfl rfl ?_
  refine ev_lstoreL (q := 3) (L9 := [_, _, _, _, _, _, _, _, _, _]) dX8_divisor_1 rfl (by decide) rfl rfl ?_
  refine ev_lload_n (q := 4) dX8_divisor_3 rfl rfl ?_
  refine ev_lstoreL (q := 6) (L9 := [_, _, _, _, _, _, _, _, _, _]) dX8_divisor_4 rfl (by decide) rfl rfl ?_
  exact lp_X8_divisor G n I P 100 a b hd
def zprd (x : Int32) (h g : Nat) : Nat → Int64
  | 0 => 1
  | n + 1 => zprd x h g n * (if h.testBit n = true then (if g.testBit n = true then x.toInt64 else (10 - x).toInt64) else 1)
theorem zprd_0 {x : Int32} {h g n : Nat} (h1 : h.testBit n = false) : zprd x h g (n + 1) = zprd x h g n * 1 := by rw [zprd, if_neg (by rw [h1]; decide)]
theorem zprd_1 {x : Int32} {h g n : Nat} (h1 : h.testBit n = true) (h2 : g.testBit n = true) : zprd x h g (n + 1) = zprd x h g n * x.toInt64 := by rw [zprd, if_pos h1, if_pos h2]
theorem zprd_2 {x : Int32} {h g n : Nat} (h1 : h.testBit n = true) (h2 : g.testBit n = false) : zprd x h g (n + 1) = zprd x h g n * (10 - x).toInt64 := by rw [zprd, if_pos h1, if_neg (by rw [h2]; decide)]
def zChM (l : Int32) (V : zq_V) (N h : Nat) (c x : Int32) (s : Int64) (g : Nat) : Int64 := if zCIA l V N (nI h) (nI g) < c then s else s + zprd x h g N
theorem zChM_n {l : Int32} {V : zq_V} {N h : Nat} {c x : Int32} {s : Int64} {g : Nat} (h1 : zCIA l V N (nI h) (nI g) < c) : zChM l V N h c x s g = s := by unfold zChM; rw [if_pos h1]
theorem zChM_s {l : Int32} {V : zq_V} {N h : Nat} {c x : Int32} {s : Int64} {g : Nat} (h1 : ¬ zCIA l V N (nI h) (nI g) < c) : zChM l V N h c x s g = s + zprd x h g N := by unfold zChM; rw [if_neg h1]
def zChB (l : Int32) (V : zq_V) (N h : Nat) (c x : Int32) (L : List Nat) : Int64 := L.foldl (zChM l V N h c x) 0
theorem zChB_app (l : Int32) (V : zq_V) (N h : Nat) (c x : Int32) (L : List Nat) (g : Nat) : zChB l V N h c x (L ++ [g]) = zChM l V N h c x (zChB l V N h c x L) g := by unfold zChB; rw [List.foldl_append]; rfl
/-- how many of the first n are in h and in g; in h and not in g -/
def zcb (h g : Nat) : Nat → Nat
  | 0 => 0
  | n + 1 => zcb h g n + (if h.testBit n = true then (if g.testBit n = true then 1 else 0) else 0)
def zcd (h g : Nat) : Nat → Nat
  | 0 => 0
  | n + 1 => zcd h g n + (if h.testBit n = true then (if g.testBit n = true then 0 else 1) else 0)
theorem zcbd : ∀ N, N < 9 → ∀ h, h < 2 ^ N → ∀ g ∈ zsubR h, zcb h g N = zpc g ∧ zcd h g N = zpc h - zpc g := by decide +kernel
theorem zpow_N (b : Nat) : ∀ e, zpow (lN b) e = lN (b ^ e) := by
  intro e
  induction e with
  | zero => rfl
  | succ e ih => rw [zpow, ih, lN_mul, Nat.pow_succ]
theorem zprd_N {x h g : Nat} (hx : x ≤ 10) : ∀ n, zprd (nI x) h g n = lN (x ^ zcb h g n * (10 - x) ^ zcd h g n) := by
  intro n
  induction n with
  | zero => rfl
  | succ n ih =>
    have h1 : ((10 : Int32) - nI x).toInt64 = lN (10 - x) := by
      rw [show (10 : Int32) = nI 10 from rfl, pk_sub hx, nI_l (by omega)]
    cases hb : h.testBit n with
    | false => rw [zprd_0 hb, ih, Int64.mul_one]; simp [zcb, zcd, hb]
    | true =>
      cases hg : g.testBit n with
      | false => rw [zprd_2 hb hg, ih, h1, lN_mul]; simp only [zcb, zcd, hb, hg, if_true, Nat.add_zero, Nat.pow_succ, Nat.mul_assoc, Bool.false_eq_true, if_false]
      | true => rw [zprd_1 hb hg, ih, nI_l (by omega), lN_mul]; simp only [zcb, zcd, hb, hg, if_true, Nat.add_zero, Nat.pow_succ]; congr 1; rw [Nat.mul_right_comm]
theorem zprd_c {N x h g : Nat} (hN : N ≤ 8) (hx : x ≤ 10) (hh : h < 2 ^ N) (hg : g ∈ zsub h) : zprd (nI x) h g N = zpow (nI x).toInt64 (zpc g) * zpow ((10 : Int32) - nI x).toInt64 (zpc h - zpc g) ∧ ∃ t, t ≤ 100000000 ∧ zprd (nI x) h g N = lN t := by
  have hg2 := hg
  rw [zsub_eq] at hg2
  obtain ⟨h1, h2⟩ := zcbd N (by omega) h hh g hg2
  have hp2 := zp2_le hN
  have hle := zpc_le (by omega : h < 256) hg
  have h8 := zpc_8 h
  constructor
  · rw [show (10 : Int32) = nI 10 from rfl, pk_sub hx, nI_l (by omega), nI_l (by omega), zpow_N, zpow_N, lN_mul, zprd_N hx, h1, h2]
  · refine ⟨_, ?_, zprd_N hx N⟩
    rw [h1, h2]
    have a1 : x ^ zpc g ≤ 10 ^ zpc g := Nat.pow_le_pow_left hx _
    have a2 : (10 - x) ^ (zpc h - zpc g) ≤ 10 ^ (zpc h - zpc g) := Nat.pow_le_pow_left (by omega) _
    refine Nat.le_trans (Nat.mul_le_mul a1 a2) ?_
    rw [← Nat.pow_add]
    exact Nat.le_trans (Nat.pow_le_pow_right (by decide) (show _ ≤ 8 by omega)) (by decide)
theorem zChB_eq {l : Int32} {V : zq_V} {N h x : Nat} {c : Int32} (hN : N ≤ 8) (hx : x ≤ 10) (hh : h < 2 ^ N) : ∀ (L : List Nat), (∀ g ∈ L, g ∈ zsub h) → ∀ s, L.foldl (zChM l V N h c (nI x)) s = L.foldl (zChS l V N h c (nI x)) s := by
  intro L
  induction L with
  | nil => intro _ s; rw [List.foldl_nil, List.foldl_nil]
  | cons g L ih =>
    intro hm s
    rw [List.foldl_cons, List.foldl_cons]
    have e : zChM l V N h c (nI x) s g = zChS l V N h c (nI x) s g := by
      unfold zChM zChS
      rw [(zprd_c hN hx hh (hm g List.mem_cons_self)).1]
    rw [e]
    exact ih (fun g' h' => hm g' (List.mem_cons_of_mem _ h')) _
theorem zChB_b {l : Int32} {V : zq_V} {N h x : Nat} {c : Int32} (hN : N ≤ 8) (hx : x ≤ 10) (hh : h < 2 ^ N) : ∀ (L : List Nat), (∀ g ∈ L, g ∈ zsub h) → ∀ s, ∃ t, t ≤ s + L.length * 100000000 ∧ L.foldl (zChM l V N h c (nI x)) (lN s) = lN t := by
  intro L
  induction L with
  | nil => intro _ s; exact ⟨s, by omega, rfl⟩
  | cons g L ih =>
    intro hm s
    rw [List.foldl_cons, List.length_cons, Nat.add_mul, Nat.one_mul]
    obtain ⟨B, hB⟩ : ∃ B, B = 100000000 := ⟨_, rfl⟩
    rw [← hB] at ih ⊢
    obtain ⟨t, ht, et⟩ := (zprd_c hN hx hh (hm g List.mem_cons_self)).2
    have hL : ∀ g' ∈ L, g' ∈ zsub h := fun g' h' => hm g' (List.mem_cons_of_mem _ h')
    by_cases hc : zCIA l V N (nI h) (nI g) < c
    · rw [zChM_n hc]
      obtain ⟨u, hu, eu⟩ := ih hL s
      generalize L.length * B = z at hu
      exact ⟨u, by omega, eu⟩
    · rw [zChM_s hc, et, lN_add]
      obtain ⟨u, hu, eu⟩ := ih hL (s + t)
      rw [← hB] at ht
      generalize L.length * B = z at hu
      exact ⟨u, by omega, eu⟩
theorem zten_N : ∀ e, e < 9 → zten e = zpow 10 e ∧ zpow 10 e = lN (10 ^ e) := by decide +kernel
theorem zinL_10 (x : Int32) : zinL x.toInt64 0 10 = (!decide (x < 0) && decide (x ≤ 10)) := zinL_c x 0 10
theorem zb10 {x : Int32} (h : (!decide (x < 0) && decide (x ≤ 10)) = false) : x < 0 ∨ ¬ x ≤ 10 := by
  by_cases h1 : x < 0
  · exact Or.inl h1
  · exact Or.inr (fun h2 => by simp [h1, h2] at h)
theorem zb10t {x : Int32} (h : (!decide (x < 0) && decide (x ≤ 10)) = true) : ¬ x < 0 ∧ x ≤ 10 := by
  simp only [Bool.and_eq_true, Bool.not_eq_true', decide_eq_false_iff_not, decide_eq_true_eq] at h
  exact h
theorem zCh_gcd {N h x : Nat} {l c : Int32} {V : zq_V} (hN8 : N ≤ 8) (hx : x ≤ 10) (hh : h < 256) (hh2 : h < 2 ^ N) : zgdn (zChB l V N h c (nI x) (zsub h)) (zpow 10 (zpc h)) 100 ∧ ¬ zgcd (zChB l V N h c (nI x) (zsub h)) (zpow 10 (zpc h)) 100 = 0 ∧ ¬ zgcd (zChB l V N h c (nI x) (zsub h)) (zpow 10 (zpc h)) 100 < 1 := by
  obtain ⟨sN, hsN, esN⟩ := zChB_b (l := l) (V := V) (c := c) hN8 hx hh2 (zsub h) (fun _ q => q) 0
  have esB : zChB l V N h c (nI x) (zsub h) = lN sN := esN
  have hlen := (zsub_dec _ hh).2.1
  have hpc := zpc_8 h
  obtain ⟨et1, et2⟩ := zten_N (zpc h) (by omega)
  have hten : 10 ^ zpc h ≤ 10 ^ 8 := Nat.pow_le_pow_right (by decide) hpc
  have hten0 : 0 < 10 ^ zpc h := Nat.pow_pos (by decide)
  have h8 : (10 : Nat) ^ 8 = 100000000 := by decide
  rw [h8] at hten
  rw [esB, et2]
  generalize 10 ^ zpc h = tn at hten hten0
  have hs2 : sN < 2 ^ 62 := by omega
  have ht2 : tn < 2 ^ 62 := by omega
  have ht3 : tn < 2 ^ 50 := by omega
  have h100 : 100 = 2 * 50 := rfl
  have hgd : zgdn (lN sN) (lN tn) (2 * 50) := zgdn_N 50 _ _ (by decide) hs2 ht3
  rw [h100]
  obtain ⟨d, hd0, hd1, ed⟩ := zgcd_pos (2 * 50) _ _ hs2 ht2 (Or.inr hten0) hgd
  refine ⟨hgd, ?_, ?_⟩
  · rw [ed]; intro q; have := (pk_lEQ (b := 0) (by omega) (by omega)).mp q; omega
  · rw [ed]; intro q; have := (pk_lLT (b := 1) (by omega) (by omega)).mp q; omega
theorem zCh_eq {N x t : Nat} {l c up : Int32} {V : zq_V} (hN8 : N ≤ 8) (hc : zm99 c = true) (hx0 : ¬ nI x < 0) (hx10 : nI x ≤ 10) (hx : x ≤ 10) : zCh l V N c (nI x) up t = (if up = 0 then zpow 10 (zpc (zOHn V N (nI t))) else zChB l V N (zOHn V N (nI t)) c (nI x) (zsub (zOHn V N (nI t)))) / zgcd (zChB l V N (zOHn V N (nI t)) c (nI x) (zsub (zOHn V N (nI t)))) (zpow 10 (zpc (zOHn V N (nI t)))) 100 := by
  have hnb : ¬ (zm99 c = false ∨ nI x < 0 ∨ ¬ nI x ≤ 10) := by rw [hc]; rintro (q | q | q); cases q; exact hx0 q; exact q hx10
  have hm := zOHn_lt V hN8 (nI t)
  have hh2 := zOHn_2 V N (nI t)
  have hpc := zpc_8 (zOHn V N (nI t))
  have eA : zChA l V N (zOHn V N (nI t)) c (nI x) = zChB l V N (zOHn V N (nI t)) c (nI x) (zsub (zOHn V N (nI t))) := (zChB_eq hN8 hx hh2 _ (fun _ q => q) 0).symm
  have hg1 := (zCh_gcd (l := l) (c := c) (V := V) hN8 hx hm hh2).2.2
  have et1 := (zten_N (zpc (zOHn V N (nI t))) (by omega)).1
  unfold zCh
  rw [if_neg hnb, eA, et1]
  unfold zChQ zmax1
  rw [if_neg hg1]
set_option maxHeartbeats 4000000 in
set_option maxRecDepth 100000 in
theorem lp_X8_chance_in (G : zq_G) (fo : Bool) (I : zq_I) {N t h g : Nat} {c x up : Int32} {s al : Int64} {R : zq_R} (hN8 : N ≤ 8) (hN : I 119 6 = nI N) (hh : h < 256) (hg : g < 256) (K : zq_E G mX8_chance 3 0 0 false 181 [some (.ref 119), some (.int (nI t)), some (.int c), some (.int x), some (.int up), some (.int (nI h)), some (.long s), none, some (.long al), none, some (.int (nI g)), some (.long (zprd x h g N)), none, none] [] 138 I (zPs fo) R) : zq_E G mX8_chance 3 0 0 false 127 [some (.ref 119), some (.int (nI t)), some (.int c), some (.int x), some (.int up), some (.int (nI h)), some (.long s), none, some (.long al), none, some (.int (nI g)), some (.long 1), none, some (.int 0)] [] 138 I (zPs fo) R := by
  have lp127 : ∀ (k i : Nat) (by0 : Int64), N + 1 ≤ i + k → i ≤ N → by0 = zprd x h g i → zq_E G mX8_chance 3 0 0 false 127 [some (.ref 119), some (.int (nI t)), some (.int c), some (.int x), some (.int up), some (.int (nI h)), some (.long s), none, some (.long al), none, some (.int (nI g)), some (.long by0), none, some (.int (nI i))] [] 138 I (zPs fo) (R) := by
    intro k
    induction k with
    | zero => intro i by0 hk hi; exact absurd hk (by omega)
    | succ k ih =>
      intro i by0 hk hi h0
      refine ev_iload (q := 129) dX8_chance_127 rfl rfl ?_
      refine ev_aload_n (q := 130) dX8_chance_129 rfl rfl ?_
      refine ev_getI (q := 133) (ci := 8) (f := 6) dX8_chance_130 rfl (by first | rfl | assumption | exact zf_kd (by assumption) | exact zw_kd (by assumption) | exact zt_kd (by assumption)) (by first | decide | exact zf_lt (by assumption) | exact zf_lt1 (by assumption) | exact zf_lt2 (by assumption) | exact zf_lt3 (by assumption) | exact zf_lt4 (by assumption) | exact zw_lt (by assumption) | exact zw_lt1 (by assumption) | exact zw_lt2 (by assumption) | exact zw_lt3 (by assumption) | exact zw_lt4 (by assumption) | exact zt_lt (by assumption)) (by decide) (by decide) lfRX8_72 rfl ?_
      refine ev_icmp_ge (q := 136) (t := 181) dX8_chance_133 rfl (by decide) (fun h133 => ?_) (fun h133 => ?_)
      · obtain rfl : i = N := by rw [hN, nI_leI (by omega) (by omega)] at h133; omega
        refine ev_wk (L' := [some (.ref 119), some (.int (nI t)), some (.int c), some (.int x), some (.int up), some (.int (nI h)), some (.long s), none, some (.long al), none, some (.int (nI g)), some (.long (zprd x h g _)), none, none]) ⟨rfl, rfl, rfl, rfl, rfl, rfl, rfl, rfl, rfl, by rw [h0], trivial⟩ ?_
        exact K
      · have hlt_i : i < N := by rw [hN, nI_leI (by omega) (by omega)] at h133; omega
        refine ev_lload (q := 138) dX8_chance_136 rfl rfl ?_
        refine ev_iload (q := 140) dX8_chance_138 rfl rfl ?_
        refine ev_iload (q := 142) dX8_chance_140 rfl rfl ?_
        refine ev_pS (q := 145) dX8_chance_142 rfl okX8_has lmRX8_101 smX8_has (c_X8_has G _ _ _ _ _) (by decide) rfl rfl (Nat.le_of_ble_eq_true rfl) ?_
        refine ev_if_ne (q := 148) (t := 152) dX8_chance_145 rfl (by decide) (fun h145 => ?_) (fun h145 => ?_)
        · have hh1 : h.testBit i = true := by rw [← zhas_N (by omega) (by omega)]; exact zb_ne h145
          refine ev_iload (q := 154) dX8_chance_152 rfl rfl ?_
          refine ev_iload (q := 156) dX8_chance_154 rfl rfl ?_
          refine ev_pS (q := 159) dX8_chance_156 rfl okX8_has lmRX8_101 smX8_has (c_X8_has G _ _ _ _ _) (by decide) rfl rfl (Nat.le_of_ble_eq_true rfl) ?_
          refine ev_if_eq (q := 162) (t := 167) dX8_chance_159 rfl (by decide) (fun h159 => ?_) (fun h159 => ?_)
          · have hg1 : g.testBit i = false := by rw [← zhas_N (by omega) (by omega)]; exact zb_eq h159
            refine ev_bipush (q := 169) (10 : Int32) dX8_chance_167 rfl (by decide) ?_
            refine ev_iload_n (q := 170) dX8_chance_169 rfl rfl ?_
            refine ev_isub (q := 171) dX8_chance_170 rfl ?_
            refine ev_i2l (q := 172) dX8_chance_171 rfl ?_
            refine ev_lmul (q := 173) dX8_chance_172 rfl ?_
            refine ev_lstoreL (q := 175) (L9 := [_, _, _, _, _, _, _, _, _, _, _, _, _, _]) dX8_chance_173 rfl (by decide) rfl rfl ?_
            refine ev_iincL (q := 178) (L9 := [_, _, _, _, _, _, _, _, _, _, _, _, _, _]) (1 : Int32) dX8_chance_175 rfl rfl (by decide) (by decide) rfl rfl ?_
            refine ev_goto (t := 127) dX8_chance_178 (by decide) ?_
            rw [nI_1]
            exact ih (i + 1) _ (by omega) (by omega) (by rw [zprd_2 hh1 hg1, ← h0])
          · have hg1 : g.testBit i = true := by rw [← zhas_N (by omega) (by omega)]; exact zb_ne h159
            refine ev_iload_n (q := 163) dX8_chance_162 rfl rfl ?_
            refine ev_i2l (q := 164) dX8_chance_163 rfl ?_
            refine ev_goto (t := 172) dX8_chance_164 (by decide) ?_
            refine ev_lmul (q := 173) dX8_chance_172 rfl ?_
            refine ev_lstoreL (q := 175) (L9 := [_, _, _, _, _, _, _, _, _, _, _, _, _, _]) dX8_chance_173 rfl (by decide) rfl rfl ?_
            refine ev_iincL (q := 178) (L9 := [_, _, _, _, _, _, _, _, _, _, _, _, _, _]) (1 : Int32) dX8_chance_175 rfl rfl (by decide) (by decide) rfl rfl ?_
            refine ev_goto (t := 127) dX8_chance_178 (by decide) ?_
            rw [nI_1]
            exact ih (i + 1) _ (by omega) (by omega) (by rw [zprd_1 hh1 hg1, ← h0])
        · have hh1 : h.testBit i = false := by rw [← zhas_N (by omega) (by omega)]; exact zb_eq h145
          refine ev_lconst (q := 149) (1 : Int64) dX8_chance_148 rfl (by decide) ?_
          refine ev_goto (t := 172) dX8_chance_149 (by decide) ?_
          refine ev_lmul (q := 173) dX8_chance_172 rfl ?_
          refine ev_lstoreL (q := 175) (L9 := [_, _, _, _, _, _, _, _, _, _, _, _, _, _]) dX8_chance_173 rfl (by decide) rfl rfl ?_
          refine ev_iincL (q := 178) (L9 := [_, _, _, _, _, _, _, _, _, _, _, _, _, _]) (1 : Int32) dX8_chance_175 rfl rfl (by decide) (by decide) rfl rfl ?_
          refine ev_goto (t := 127) dX8_chance_178 (by decide) ?_
          rw [nI_1]
          exact ih (i + 1) _ (by omega) (by omega) (by rw [zprd_0 hh1, ← h0])
  exact lp127 (N + 1) 0 _ (by omega) (by omega) rfl
set_option maxHeartbeats 4000000 in
set_option maxRecDepth 100000 in
theorem lp_X8_chance (G : zq_G) (fo : Bool) (I : zq_I) {N T Y : Nat} (hs : zS fo N T Y I) {t h : Nat} {c x up : Int32} {al : Int64} (hh : h < 256) (hh2 : h < 2 ^ N) (hgd : zgdn (zChB (I 119 4) (zV I) N h c x (zsub h)) al 100) (hg0 : ¬ zgcd (zChB (I 119 4) (zV I) N h c x (zsub h)) al 100 = 0) : zq_E G mX8_chance 3 0 0 false 88 [some (.ref 119), some (.int (nI t)), some (.int c), some (.int x), some (.int up), some (.int (nI h)), some (.long 0), none, some (.long al), none, some (.int (nI 0)), none, none, none] [] 138 I (zPs fo) (zq_pu (some (.long ((if up = 0 then al else zChB (I 119 4) (zV I) N h c x (zsub h)) / zgcd (zChB (I 119 4) (zV I) N h c x (zsub h)) al 100))) 138 I (zPs fo)) := by
  have hN8 := hs.n8
  have hN := hs.mppl
  have hp2 := zp2_le hN8
  have lp88 : ∀ (k i : Nat) (s : Int64), 2 ^ N + 1 ≤ i + k → i ≤ 2 ^ N → s = zChB (I 119 4) (zV I) N h c x (zsb h i) → zq_E G mX8_chance 3 0 0 false 88 [some (.ref 119), some (.int (nI t)), some (.int c), some (.int x), some (.int up), some (.int (nI h)), some (.long s), none, some (.long al), none, some (.int (nI i)), none, none, none] [] 138 I (zPs fo) (zq_pu (some (.long ((if up = 0 then al else zChB (I 119 4) (zV I) N h c x (zsub h)) / zgcd (zChB (I 119 4) (zV I) N h c x (zsub h)) al 100))) 138 I (zPs fo)) := by
    intro k
    induction k with
    | zero => intro i s hk hi; exact absurd hk (by omega)
    | succ k ih =>
      intro i s hk hi h0
      refine ev_iload (q := 90) dX8_chance_88 rfl rfl ?_
      refine ev_iconst (q := 91) (1 : Int32) dX8_chance_90 rfl (by decide) ?_
      refine ev_aload_n (q := 92) dX8_chance_91 rfl rfl ?_
      refine ev_getI (q := 95) (ci := 8) (f := 6) dX8_chance_92 rfl (by first | rfl | assumption | exact zf_kd (by assumption) | exact zw_kd (by assumption) | exact zt_kd (by assumption)) (by first | decide | exact zf_lt (by assumption) | exact zf_lt1 (by assumption) | exact zf_lt2 (by assumption) | exact zf_lt3 (by assumption) | exact zf_lt4 (by assumption) | exact zw_lt (by assumption) | exact zw_lt1 (by assumption) | exact zw_lt2 (by assumption) | exact zw_lt3 (by assumption) | exact zw_lt4 (by assumption) | exact zt_lt (by assumption)) (by decide) (by decide) lfRX8_72 rfl ?_
      rw [hN]
      refine ev_ishl (q := 96) dX8_chance_95 rfl ?_
      rw [zall_N hN8]
      refine ev_icmp_ge (q := 99) (t := 194) dX8_chance_96 rfl (by decide) (fun h96 => ?_) (fun h96 => ?_)
      · obtain rfl : i = 2 ^ N := by rw [nI_leI (by omega) (by omega)] at h96; omega
        rw [zsb_end hN8 hh2] at h0
        subst h0
        refine ev_lload (q := 196) dX8_chance_194 rfl rfl ?_
        refine ev_lload (q := 198) dX8_chance_196 rfl rfl ?_
        refine ev_pS (q := 201) dX8_chance_198 rfl okX8_divisor lmRX8_217 smX8_divisor (c_X8_divisor G _ _ _ hgd) (by decide) rfl rfl (Nat.le_of_ble_eq_true rfl) ?_
        refine ev_lstoreL (q := 203) (L9 := [_, _, _, _, _, _, _, _, _, _, _, _, _, _]) dX8_chance_201 rfl (by decide) rfl rfl ?_
        refine ev_iload (q := 205) dX8_chance_203 rfl rfl ?_
        refine ev_if_eq (q := 208) (t := 216) dX8_chance_205 rfl (by decide) (fun h205 => ?_) (fun h205 => ?_)
        · refine ev_lload (q := 218) dX8_chance_216 rfl rfl ?_
          refine ev_lload (q := 220) dX8_chance_218 rfl rfl ?_
          refine ev_ldiv (q := 221) dX8_chance_220 rfl hg0 ?_
          exact ev_lret dX8_chance_221 rfl (⟨by first | rw [if_pos h205] | rw [if_neg h205], rfl, rfl, rfl⟩)
        · refine ev_lload (q := 210) dX8_chance_208 rfl rfl ?_
          refine ev_lload (q := 212) dX8_chance_210 rfl rfl ?_
          refine ev_ldiv (q := 213) dX8_chance_212 rfl hg0 ?_
          refine ev_goto (t := 221) dX8_chance_213 (by decide) ?_
          exact ev_lret dX8_chance_221 rfl (⟨by first | rw [if_pos h205] | rw [if_neg h205], rfl, rfl, rfl⟩)
      · have hlt_i : i < 2 ^ N := by rw [nI_leI (by omega) (by omega)] at h96; omega
        refine ev_iload (q := 101) dX8_chance_99 rfl rfl ?_
        refine ev_iload (q := 103) dX8_chance_101 rfl rfl ?_
        refine ev_iconst (q := 104) ((-1) : Int32) dX8_chance_103 rfl (by decide) ?_
        refine ev_ixor (q := 105) dX8_chance_104 rfl ?_
        refine ev_iand (q := 106) dX8_chance_105 rfl ?_
        refine ev_if_ne (q := 109) (t := 188) dX8_chance_106 rfl (by decide) (fun h106 => ?_) (fun h106 => ?_)
        · have hnp : ¬ i &&& h = i := fun q => h106 ((zpart (by omega)).mpr q)
          refine ev_iincL (q := 191) (L9 := [_, _, _, _, _, _, _, _, _, _, _, _, _, _]) (1 : Int32) dX8_chance_188 rfl rfl (by decide) (by decide) rfl rfl ?_
          refine ev_goto (t := 88) dX8_chance_191 (by decide) ?_
          rw [nI_1]
          refine ev_wk (L' := [some (.ref 119), some (.int (nI t)), some (.int c), some (.int x), some (.int up), some (.int (nI h)), some (.long _), none, some (.long al), none, some (.int (nI (i + 1))), none, none, none]) ⟨rfl, rfl, rfl, rfl, rfl, rfl, rfl, rfl, rfl, trivial⟩ ?_
          exact ih (i + 1) _ (by omega) (by omega) (by rw [zsb_n hnp]; exact h0)
        · have hpt : i &&& h = i := (zpart (by omega)).mp h106
          refine ev_aload_n (q := 110) dX8_chance_109 rfl rfl ?_
          refine ev_iload (q := 112) dX8_chance_110 rfl rfl ?_
          refine ev_iload (q := 114) dX8_chance_112 rfl rfl ?_
          refine ev_pV (q := 117) (ci := 8) dX8_chance_114 rfl okX8_countBy lmRX8_201 imX8_countBy seX8_countBy (by first | rfl | assumption | exact zf_kd (by assumption) | exact zw_kd (by assumption) | exact zt_kd (by assumption)) (by first | decide | exact zf_lt (by assumption) | exact zf_lt1 (by assumption) | exact zf_lt2 (by assumption) | exact zf_lt3 (by assumption) | exact zf_lt4 (by assumption) | exact zw_lt (by assumption) | exact zw_lt1 (by assumption) | exact zw_lt2 (by assumption) | exact zw_lt3 (by assumption) | exact zw_lt4 (by assumption) | exact zt_lt (by assumption)) (by decide) rfl (c_X8_countBy G fo I hs hh (g := i) (by omega)) (by decide) rfl rfl (Nat.le_of_ble_eq_true rfl) ?_
          refine ev_iload_n (q := 118) dX8_chance_117 rfl rfl ?_
          refine ev_icmp_lt (q := 121) (t := 188) dX8_chance_118 rfl (by decide) (fun h118 => ?_) (fun h118 => ?_)
          · refine ev_iincL (q := 191) (L9 := [_, _, _, _, _, _, _, _, _, _, _, _, _, _]) (1 : Int32) dX8_chance_188 rfl rfl (by decide) (by decide) rfl rfl ?_
            refine ev_goto (t := 88) dX8_chance_191 (by decide) ?_
            rw [nI_1]
            refine ev_wk (L' := [some (.ref 119), some (.int (nI t)), some (.int c), some (.int x), some (.int up), some (.int (nI h)), some (.long _), none, some (.long al), none, some (.int (nI (i + 1))), none, none, none]) ⟨rfl, rfl, rfl, rfl, rfl, rfl, rfl, rfl, rfl, trivial⟩ ?_
            exact ih (i + 1) _ (by omega) (by omega) (by rw [zsb_s hpt, zChB_app, ← h0, zChM_n h118])
          · refine ev_lconst (q := 122) (1 : Int64) dX8_chance_121 rfl (by decide) ?_
            refine ev_lstoreL (q := 124) (L9 := [_, _, _, _, _, _, _, _, _, _, _, _, _, _]) dX8_chance_122 rfl (by decide) rfl rfl ?_
            refine ev_iconst (q := 125) (0 : Int32) dX8_chance_124 rfl (by decide) ?_
            refine ev_istoreL (q := 127) (L9 := [_, _, _, _, _, _, _, _, _, _, _, _, _, _]) dX8_chance_125 rfl (by decide) rfl rfl ?_
            refine lp_X8_chance_in G fo I hN8 hN hh (g := i) (by omega) ?_
            refine ev_lload (q := 183) dX8_chance_181 rfl rfl ?_
            refine ev_lload (q := 185) dX8_chance_183 rfl rfl ?_
            refine ev_ladd (q := 186) dX8_chance_185 rfl ?_
            refine ev_lstoreL (q := 188) (L9 := [_, _, _, _, _, _, _, _, _, _, _, _, _, _]) dX8_chance_186 rfl (by decide) rfl rfl ?_
            refine ev_iincL (q := 191) (L9 := [_, _, _, _, _, _, _, _, _, _, _, _, _, _]) (1 : Int32) dX8_chance_188 rfl rfl (by decide) (by decide) rfl rfl ?_
            refine ev_goto (t := 88) dX8_chance_191 (by decide) ?_
            rw [nI_1]
            refine ev_wk (L' := [some (.ref 119), some (.int (nI t)), some (.int c), some (.int x), some (.int up), some (.int (nI h)), some (.long _), none, some (.long al), none, some (.int (nI (i + 1))), none, none, none]) ⟨rfl, rfl, rfl, rfl, rfl, rfl, rfl, rfl, rfl, trivial⟩ ?_
            exact ih (i + 1) _ (by omega) (by omega) (by rw [zsb_s hpt, zChB_app, ← h0, zChM_s h118])
  exact lp88 (2 ^ N + 1) 0 _ (by omega) (by omega) rfl
set_option maxHeartbeats 4000000 in
set_option maxRecDepth 100000 in
theorem lq_X8_chance (G : zq_G) (fo : Bool) (I : zq_I) {t h : Nat} {c x up : Int32} {R : zq_R} (hh : h < 256) (K : zq_E G mX8_chance 3 0 0 false 88 [some (.ref 119), some (.int (nI t)), some (.int c), some (.int x), some (.int up), some (.int (nI h)), some (.long 0), none, some (.long (zpow 10 (zpc h))), none, some (.int (nI 0)), none, none, none] [] 138 I (zPs fo) R) : zq_E G mX8_chance 3 0 0 false 61 [some (.ref 119), some (.int (nI t)), some (.int c), some (.int x), some (.int up), some (.int (nI h)), some (.long 0), none, some (.long 1), none, some (.int 0), none, none, none] [] 138 I (zPs fo) R := by
  have h8 := zpc_8 h
  have lp61 : ∀ (k i : Nat) (al : Int64), zpc h + 1 ≤ i + k → i ≤ zpc h → al = zpow 10 i → zq_E G mX8_chance 3 0 0 false 61 [some (.ref 119), some (.int (nI t)), some (.int c), some (.int x), some (.int up), some (.int (nI h)), some (.long 0), none, some (.long al), none, some (.int (nI i)), none, none, none] [] 138 I (zPs fo) (R) := by
    intro k
    induction k with
    | zero => intro i al hk hi; exact absurd hk (by omega)
    | succ k ih =>
      intro i al hk hi h0
      refine ev_iload (q := 63) dX8_chance_61 rfl rfl ?_
      refine ev_iload (q := 65) dX8_chance_63 rfl rfl ?_
      refine ev_pS (q := 68) dX8_chance_65 rfl okX8_many lmRX8_151 smX8_many (c_X8_many G _ _ _ _) (by decide) rfl rfl (Nat.le_of_ble_eq_true rfl) ?_
      rw [zmany_pop _ hh, zpop_n _ hh]
      refine ev_icmp_ge (q := 71) (t := 85) dX8_chance_68 rfl (by decide) (fun h68 => ?_) (fun h68 => ?_)
      · obtain rfl : i = zpc h := by rw [nI_leI (by omega) (by omega)] at h68; omega
        subst h0
        refine ev_iconst (q := 86) (nI 0 : Int32) dX8_chance_85 rfl (by decide) ?_
        refine ev_istoreL (q := 88) (L9 := [_, _, _, _, _, _, _, _, _, _, _, _, _, _]) dX8_chance_86 rfl (by decide) rfl rfl ?_
        exact K
      · have hlt_i : i < zpc h := by rw [nI_leI (by omega) (by omega)] at h68; omega
        refine ev_lload (q := 73) dX8_chance_71 rfl rfl ?_
        refine ev_ldc2 (q := 76) dX8_chance_73 rfl ctRX8_213 ?_
        refine ev_lmul (q := 77) dX8_chance_76 rfl ?_
        refine ev_lstoreL (q := 79) (L9 := [_, _, _, _, _, _, _, _, _, _, _, _, _, _]) dX8_chance_77 rfl (by decide) rfl rfl ?_
        refine ev_iincL (q := 82) (L9 := [_, _, _, _, _, _, _, _, _, _, _, _, _, _]) (1 : Int32) dX8_chance_79 rfl rfl (by decide) (by decide) rfl rfl ?_
        refine ev_goto (t := 61) dX8_chance_82 (by decide) ?_
        rw [nI_1]
        exact ih (i + 1) _ (by omega) (by omega) (by rw [h0]; rfl)
  exact lp61 (zpc h + 1) 0 _ (by omega) (by omega) rfl
set_option maxHeartbeats 4000000 in
set_option maxRecDepth 100000 in
theorem k_X8_chance (G : zq_G) (fo : Bool) (I : zq_I) {N T Y : Nat} (hs : zS fo N T Y I) (x0 c x up : Int32) : zq_E G mX8_chance 3 0 0 false 5 [some (.ref 119), some (.int x0), some (.int c), some (.int x), some (.int up), none, none, none, none, none, none, none, none, none] [] 138 I (zPs fo) (zq_fm (some (.long (zpickL x0 T (-1) (fun t => zCh (I 119 4) (zV I) N c x up t)))) fo I) := by
  have hN8 := hs.n8
  have hN := hs.mppl
  refine ev_aload_n (q := 6) dX8_chance_5 rfl rfl ?_
  refine ev_iload_n (q := 7) dX8_chance_6 rfl rfl ?_
  refine ev_pV (q := 10) (ci := 8) dX8_chance_7 rfl okX8_noTown lmRX8_167 imX8_noTown seX8_noTown (by first | rfl | assumption | exact zf_kd (by assumption) | exact zw_kd (by assumption) | exact zt_kd (by assumption)) (by first | decide | exact zf_lt (by assumption) | exact zf_lt1 (by assumption) | exact zf_lt2 (by assumption) | exact zf_lt3 (by assumption) | exact zf_lt4 (by assumption) | exact zw_lt (by assumption) | exact zw_lt1 (by assumption) | exact zw_lt2 (by assumption) | exact zw_lt3 (by assumption) | exact zw_lt4 (by assumption) | exact zt_lt (by assumption)) (by decide) rfl (c_X8_noTown G fo I hs _) (by decide) rfl rfl (Nat.le_of_ble_eq_true rfl) ?_
  refine ev_if_eq (q := 13) (t := 17) dX8_chance_10 rfl (by decide) (fun h10 => ?_) (fun h10 => ?_)
  · have hz : zin x0 (nI T) = true := by simpa using zb_eq h10
    obtain ⟨t, ht, rfl⟩ := zin_t hs.t4' hz
    have ht4 : t < 4 := by have := hs.t4; omega
    refine ev_iload_n (q := 18) dX8_chance_17 rfl rfl ?_
    refine ev_i2l (q := 19) dX8_chance_18 rfl ?_
    refine ev_lconst (q := 20) (0 : Int64) dX8_chance_19 rfl (by decide) ?_
    refine ev_ldc2 (q := 23) dX8_chance_20 rfl ctRX8_190 ?_
    refine ev_pS (q := 26) dX8_chance_23 rfl okX8_in lmRX8_75 smX8_in (c_X8_in G _ _ _ _ _ _) (by decide) rfl rfl (Nat.le_of_ble_eq_true rfl) ?_
    rw [zinL_99]
    refine ev_if_eq (q := 29) (t := 41) dX8_chance_26 rfl (by decide) (fun h26 => ?_) (fun h26 => ?_)
    · have hc : zm99 c = false := zb_eq h26
      refine ev_ldc2 (q := 44) dX8_chance_41 rfl ctRX8_215 ?_
      exact ev_lret dX8_chance_44 rfl (⟨by rw [zpickL_t ht hs.t4']; unfold zCh; rw [if_pos (by first | exact Or.inl hc | (rcases zb10 hw with q | q; exact Or.inr (Or.inl q); exact Or.inr (Or.inr q)))], rfl, rfl, zFM.rf⟩)
    · have hc : zm99 c = true := zb_ne h26
      refine ev_iload_n (q := 30) dX8_chance_29 rfl rfl ?_
      refine ev_i2l (q := 31) dX8_chance_30 rfl ?_
      refine ev_lconst (q := 32) (0 : Int64) dX8_chance_31 rfl (by decide) ?_
      refine ev_ldc2 (q := 35) dX8_chance_32 rfl ctRX8_213 ?_
      refine ev_pS (q := 38) dX8_chance_35 rfl okX8_in lmRX8_75 smX8_in (c_X8_in G _ _ _ _ _ _) (by decide) rfl rfl (Nat.le_of_ble_eq_true rfl) ?_
      rw [zinL_10]
      refine ev_if_ne (q := 41) (t := 45) dX8_chance_38 rfl (by decide) (fun h38 => ?_) (fun h38 => ?_)
      · have hw := zb_ne h38
        refine ev_aload_n (q := 46) dX8_chance_45 rfl rfl ?_
        refine ev_iload_n (q := 47) dX8_chance_46 rfl rfl ?_
        refine ev_pV (q := 50) (ci := 8) dX8_chance_47 rfl okX8_atHome lmRX8_173 imX8_atHome seX8_atHome (by first | rfl | assumption | exact zf_kd (by assumption) | exact zw_kd (by assumption) | exact zt_kd (by assumption)) (by first | decide | exact zf_lt (by assumption) | exact zf_lt1 (by assumption) | exact zf_lt2 (by assumption) | exact zf_lt3 (by assumption) | exact zf_lt4 (by assumption) | exact zw_lt (by assumption) | exact zw_lt1 (by assumption) | exact zw_lt2 (by assumption) | exact zw_lt3 (by assumption) | exact zw_lt4 (by assumption) | exact zt_lt (by assumption)) (by decide) rfl (c_X8_atHome G fo I hs _) (by decide) rfl rfl (Nat.le_of_ble_eq_true rfl) ?_
        rw [zOH_n _ hN8]
        have hm := zOHn_lt (zV I) hN8 (nI t)
        refine ev_istoreL (q := 52) (L9 := [_, _, _, _, _, _, _, _, _, _, _, _, _, _]) dX8_chance_50 rfl (by decide) rfl rfl ?_
        refine ev_lconst (q := 53) (0 : Int64) dX8_chance_52 rfl (by decide) ?_
        refine ev_lstoreL (q := 55) (L9 := [_, _, _, _, _, _, _, _, _, _, _, _, _, _]) dX8_chance_53 rfl (by decide) rfl rfl ?_
        refine ev_lconst (q := 56) (1 : Int64) dX8_chance_55 rfl (by decide) ?_
        refine ev_lstoreL (q := 58) (L9 := [_, _, _, _, _, _, _, _, _, _, _, _, _, _]) dX8_chance_56 rfl (by decide) rfl rfl ?_
        refine ev_iconst (q := 59) (0 : Int32) dX8_chance_58 rfl (by decide) ?_
        refine ev_istoreL (q := 61) (L9 := [_, _, _, _, _, _, _, _, _, _, _, _, _, _]) dX8_chance_59 rfl (by decide) rfl rfl ?_
        obtain ⟨hx0, hx10⟩ := zb10t hw
        obtain ⟨xn, hxn, rfl⟩ := nI_of2 (n := 10) (by decide) hx0 hx10
        have hh2 := zOHn_2 (zV I) N (nI t)
        obtain ⟨hgd, hg0, -⟩ := zCh_gcd (l := I 119 4) (c := c) (V := zV I) hN8 hxn hm hh2
        refine lq_X8_chance G fo I hm ?_
        rw [zpickL_t ht hs.t4', zCh_eq hN8 hc hx0 hx10 hxn]
        refine ev_post ?_ (lp_X8_chance G fo I hs hm hh2 hgd hg0)
        rintro v n' I' P' ⟨q1, q2, q3, q4⟩
        exact ⟨q1, q2, q4, q3 ▸ zFM.rf⟩
      · have hw := zb_eq h38
        refine ev_ldc2 (q := 44) dX8_chance_41 rfl ctRX8_215 ?_
        exact ev_lret dX8_chance_44 rfl (⟨by rw [zpickL_t ht hs.t4']; unfold zCh; rw [if_pos (by first | exact Or.inl hc | (rcases zb10 hw with q | q; exact Or.inr (Or.inl q); exact Or.inr (Or.inr q)))], rfl, rfl, zFM.rf⟩)
  · have hz : zin x0 (nI T) = false := by simpa using zb_ne h10
    refine ev_ldc2 (q := 16) dX8_chance_13 rfl ctRX8_211 ?_
    exact ev_lret dX8_chance_16 rfl (⟨by rw [zpickL_f hz], rfl, rfl, zFM.rf⟩)
set_option maxHeartbeats 4000000 in
set_option maxRecDepth 100000 in
theorem c_X8_chance (G : zq_G) (fo : Bool) (I : zq_I) {N T Y : Nat} (hs : zS fo N T Y I) (x0 c x up : Int32) : zq_Met G mX8_chance 3 0 0 [.ref 119, .int x0, .int c, .int x, .int up] 138 I (zPs fo) (zq_fm (some (.long (zpickL x0 T (-1) (fun t => zCh (I 119 4) (zV I) N c x up t)))) fo I) := by
  refine zq_Met.of okX8_chance (Nat.le_of_ble_eq_true rfl) ?_
  show zq_E _ _ _ _ _ _ _ [some (.ref 119), some (.int x0), some (.int c), some (.int x), some (.int up), none, none, none, none, none, none, none, none, none] _ _ _ _ _
  refine ev_aload_n (q := 1) dX8_chance_0 rfl rfl ?_
  refine ev_iconst (q := 2) (0 : Int32) dX8_chance_1 rfl (by decide) ?_
  refine ev_putI (q := 5) (ci := 8) (f := 0) dX8_chance_2 rfl (by first | rfl | assumption | exact zf_kd (by assumption) | exact zw_kd (by assumption) | exact zt_kd (by assumption)) (by first | decide | exact zf_lt (by assumption) | exact zf_lt1 (by assumption) | exact zf_lt2 (by assumption) | exact zf_lt3 (by assumption) | exact zf_lt4 (by assumption) | exact zw_lt (by assumption) | exact zw_lt1 (by assumption) | exact zw_lt2 (by assumption) | exact zw_lt3 (by assumption) | exact zw_lt4 (by assumption) | exact zt_lt (by assumption)) (by decide) (by decide) lfRX8_69 rfl rfl rfl rfl ?_
  obtain ⟨I1, hI1⟩ : ∃ I1, I1 = zu I 119 0 0 := ⟨_, rfl⟩
  rw [← hI1]
  have hFM : zFM I I1 := by rw [hI1]; exact zFM.rf.zu 119 0 0 rfl
  have hV := hFM.V
  have e2 : I1 119 2 = I 119 2 := hFM.2 2 rfl
  have e4 : I1 119 4 = I 119 4 := hFM.2 4 rfl
  have e5 : I1 119 5 = I 119 5 := hFM.2 5 rfl
  have e6 : I1 119 6 = I 119 6 := hFM.2 6 rfl
  have e15 : I1 119 15 = I 119 15 := hFM.2 15 rfl
  have e25 : I1 119 25 = I 119 25 := hFM.2 25 rfl
  have f128 : I1 128 = I 128 := hFM.1 128 rfl
  refine ev_post ?_ (k_X8_chance G fo I1 (hFM.S hs) x0 c x up)
  rintro v n' I' P' ⟨rfl, rfl, rfl, hf⟩
  exact ⟨by simp only [hV, e2, e4, e5, e6, e15, e25, f128], rfl, rfl, hFM.tr hf⟩
