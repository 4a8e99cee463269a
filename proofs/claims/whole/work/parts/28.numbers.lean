def zpow (b : Int64) : Nat → Int64
  | 0 => 1
  | n + 1 => zpow b n * b
def zgcd (a b : Int64) : Nat → Int64
  | 0 => a
  | n + 1 => if b = 0 then a else zgcd b (a - a / b * b) n
theorem zgcd_s {a b : Int64} {n : Nat} (h : ¬ b = 0) : zgcd a b (n + 1) = zgcd b (a - a / b * b) n := by rw [zgcd, if_neg h]
theorem zgcd_0 {a b : Int64} {n : Nat} (h : b = 0) : zgcd a b (n + 1) = a := by rw [zgcd, if_pos h]
theorem zcmp0 {x y : Int64} : lg_cmp x y = 0 ↔ x = y := by
  unfold lg_cmp
  by_cases h1 : x > y
  · rw [if_pos h1]
    constructor
    · intro h; exact absurd h (by decide)
    · intro h; subst h; exact absurd h1 (Int64.lt_irrefl)
  · rw [if_neg h1]
    by_cases h2 : x = y
    · simp [h2]
    · simp [h2]
/-- how many bits -/
def zpc (g : Nat) : Nat := g % 2 + g / 2 % 2 + g / 4 % 2 + g / 8 % 2 + g / 16 % 2 + g / 32 % 2 + g / 64 % 2 + g / 128 % 2
theorem zpop_n : ∀ g, g < 256 → zpop (nI g) = nI (zpc g) := by decide +kernel
theorem zpc_8 (g : Nat) : zpc g ≤ 8 := by unfold zpc; omega
theorem zpc_leR : ∀ h, h < 256 → ∀ g ∈ zsubR h, zpc g ≤ zpc h := by decide +kernel
theorem zpc_le {h g : Nat} (hh : h < 256) (hg : g ∈ zsub h) : zpc g ≤ zpc h := by rw [zsub_eq] at hg; exact zpc_leR h hh g hg
def zChS (l : Int32) (V : zq_V) (N h : Nat) (c x : Int32) (s : Int64) (g : Nat) : Int64 := if zCIA l V N (nI h) (nI g) < c then s else s + zpow x.toInt64 (zpc g) * zpow (10 - x).toInt64 (zpc h - zpc g)
theorem zChS_n {l : Int32} {V : zq_V} {N h : Nat} {c x : Int32} {s : Int64} {g : Nat} (h1 : zCIA l V N (nI h) (nI g) < c) : zChS l V N h c x s g = s := by unfold zChS; rw [if_pos h1]
theorem zChS_s {l : Int32} {V : zq_V} {N h : Nat} {c x : Int32} {s : Int64} {g : Nat} (h1 : ¬ zCIA l V N (nI h) (nI g) < c) : zChS l V N h c x s g = s + zpow x.toInt64 (zpc g) * zpow (10 - x).toInt64 (zpc h - zpc g) := by unfold zChS; rw [if_neg h1]
def zmax1 (g : Int64) : Int64 := if g < 1 then 1 else g
theorem zmax1_ne (g : Int64) : ¬ zmax1 g = 0 := by
  unfold zmax1
  split
  · decide
  · rename_i h
    intro h0
    subst h0
    exact h (by decide)
def zChQ (up : Int32) (ab bl : Int64) : Int64 := (if up = 0 then bl else ab) / zmax1 (zgcd ab bl 100)
def zten (e : Nat) : Int64 := (zpow (Int32.toInt64 10) e).toInt32.toInt64
noncomputable def zChA (l : Int32) (V : zq_V) (N h : Nat) (c x : Int32) : Int64 := (zsub h).foldl (zChS l V N h c x) 0
noncomputable def zCh (l : Int32) (V : zq_V) (N : Nat) (c x up : Int32) (t : Nat) : Int64 := if zm99 c = false ∨ x < 0 ∨ ¬ x ≤ 10 then -2 else zChQ up (zChA l V N (zOHn V N (nI t)) c x) (zten (zpc (zOHn V N (nI t))))
def zpickL (x : Int32) (N : Nat) (bad : Int64) (F : Nat → Int64) : Int64 := if zin x (nI N) = true then F x.toNatClampNeg else bad
theorem zpickL_f {x : Int32} {N : Nat} {bad : Int64} {F : Nat → Int64} (h : zin x (nI N) = false) : zpickL x N bad F = bad := by unfold zpickL; rw [h]; rfl
theorem zpickL_t {p N : Nat} {bad : Int64} {F : Nat → Int64} (hp : p < N) (hN : N < 2 ^ 31) : zpickL (nI p) N bad F = F p := by
  unfold zpickL; rw [zin_of hp hN, if_pos rfl, nI_clamp (by omega)]
set_option maxHeartbeats 4000000 in
set_option maxRecDepth 100000 in
theorem c_X7_power (G : zq_G) (n : Nat) (I : zq_I) (P : zq_P) (b : Int32) {e : Nat} (he : e ≤ 1000) : zq_Met G mX7_power 0 0 0 [.int b, .int (nI e)] n I P (zq_pu (some (.long (zpow b.toInt64 e))) n I P) := by
  refine zq_Met.of okX7_power (Nat.le_of_ble_eq_true rfl) ?_
  show zq_E _ _ _ _ _ _ _ [some (.int b), some (.int (nI e)), none, none, none] _ _ _ _ _
  have lp5 : ∀ (k i : Nat) (pr : Int64), e + 1 ≤ i + k → i ≤ e → pr = zpow b.toInt64 i → zq_E G mX7_power 0 0 0 false 5 [some (.int b), some (.int (nI e)), some (.long pr), none, some (.int (nI i))] [] n I P (zq_pu (some (.long (zpow b.toInt64 e))) n I P) := by
    intro k
    induction k with
    | zero => intro i pr hk hi; exact absurd hk (by omega)
    | succ k ih =>
      intro i pr hk hi hb
      refine ev_iload (q := 7) dX7_power_5 rfl rfl ?_
      refine ev_iload_n (q := 8) dX7_power_7 rfl rfl ?_
      refine ev_icmp_ge (q := 11) (t := 22) dX7_power_8 rfl (by decide) (fun h8 => ?_) (fun h8 => ?_)
      · obtain rfl : i = e := by rw [nI_leI (by omega) (by omega)] at h8; omega
        refine ev_lload_n (q := 23) dX7_power_22 rfl rfl ?_
        exact ev_lret dX7_power_23 rfl (⟨by rw [hb], rfl, rfl, rfl⟩)
      · have hlt_i : i < e := by rw [nI_leI (by omega) (by omega)] at h8; omega
        refine ev_lload_n (q := 12) dX7_power_11 rfl rfl ?_
        refine ev_iload_n (q := 13) dX7_power_12 rfl rfl ?_
        refine ev_i2l (q := 14) dX7_power_13 rfl ?_
        refine ev_lmul (q := 15) dX7_power_14 rfl ?_
        refine ev_lstore_nL (q := 16) (L9 := [_, _, _, _, _]) dX7_power_15 rfl (by decide) rfl rfl ?_
        refine ev_iincL (q := 19) (L9 := [_, _, _, _, _]) (1 : Int32) dX7_power_16 rfl rfl (by decide) (by decide) rfl rfl ?_
        refine ev_goto (t := 5) dX7_power_19 (by decide) ?_
        rw [nI_1]
        exact ih (i + 1) _ (by omega) (by omega) (by rw [hb]; rfl)
  refine ev_lconst (q := 1) (1 : Int64) dX7_power_0 rfl (by decide) ?_
  refine ev_lstore_nL (q := 2) (L9 := [_, _, _, _, _]) dX7_power_1 rfl (by decide) rfl rfl ?_
  refine ev_iconst (q := 3) (0 : Int32) dX7_power_2 rfl (by decide) ?_
  refine ev_istoreL (q := 5) (L9 := [_, _, _, _, _]) dX7_power_3 rfl (by decide) rfl rfl ?_
  exact lp5 (e + 1) 0 _ (by omega) (by omega) rfl
set_option maxHeartbeats 4000000 in
set_option maxRecDepth 100000 in
theorem c_X7_powerOfTen (G : zq_G) (n : Nat) (I : zq_I) (P : zq_P) {e : Nat} (he : e ≤ 1000) : zq_Met G mX7_powerOfTen 1 0 0 [.int (nI e)] n I P (zq_pu (some (.int (zpow (Int32.toInt64 10) e).toInt32)) n I P) := by
  refine zq_Met.of okX7_powerOfTen (Nat.le_of_ble_eq_true rfl) ?_
  show zq_E _ _ _ _ _ _ _ [some (.int (nI e))] _ _ _ _ _
  refine ev_bipush (q := 2) (10 : Int32) dX7_powerOfTen_0 rfl (by decide) ?_
  refine ev_iload_n (q := 3) dX7_powerOfTen_2 rfl rfl ?_
  refine ev_pS (q := 6) dX7_powerOfTen_3 rfl okX7_power lmRX7_240 smX7_power (c_X7_power G _ _ _ 10 he) (by decide) rfl rfl (Nat.le_of_ble_eq_true rfl) ?_
  refine ev_l2i (q := 7) dX7_powerOfTen_6 rfl ?_
  exact ev_iret dX7_powerOfTen_7 rfl (by first | rfl | exact zb_nar _ | assumption) (⟨rfl, rfl, rfl, rfl⟩)
set_option maxHeartbeats 4000000 in
set_option maxRecDepth 100000 in
theorem c_X7_commonDivisor (G : zq_G) (n : Nat) (I : zq_I) (P : zq_P) (a b : Int64) : zq_Met G mX7_commonDivisor 0 0 0 [.long a, .long b] n I P (zq_pu (some (.long (zgcd a b 100))) n I P) := by
  refine zq_Met.of okX7_commonDivisor (Nat.le_of_ble_eq_true rfl) ?_
  show zq_E _ _ _ _ _ _ _ [some (.long a), none, some (.long b), none, none, none, none] _ _ _ _ _
  have lp3 : ∀ (k i : Nat) (a1 b1 : Int64), 100 + 1 ≤ i + k → i ≤ 100 → zgcd a b 100 = zgcd a1 b1 (100 - i) → zq_E G mX7_commonDivisor 0 0 0 false 3 [some (.long a1), none, some (.long b1), none, some (.int (nI i)), none, none] [] n I P (zq_pu (some (.long (zgcd a b 100))) n I P) := by
    intro k
    induction k with
    | zero => intro i a1 b1 hk hi; exact absurd hk (by omega)
    | succ k ih =>
      intro i a1 b1 hk hi hb
      refine ev_iload (q := 5) dX7_commonDivisor_3 rfl rfl ?_
      refine ev_bipush (q := 7) (nI 100 : Int32) dX7_commonDivisor_5 rfl (by decide) ?_
      refine ev_icmp_ge (q := 10) (t := 32) dX7_commonDivisor_7 rfl (by decide) (fun h7 => ?_) (fun h7 => ?_)
      · obtain rfl : i = 100 := by rw [nI_leI (by omega) (by omega)] at h7; omega
        refine ev_lload_n (q := 33) dX7_commonDivisor_32 rfl rfl ?_
        exact ev_lret dX7_commonDivisor_33 rfl (⟨by rw [hb]; first | rfl | rw [hj, zgcd_0 h13], rfl, rfl, rfl⟩)
      · have hlt_i : i < 100 := by rw [nI_leI (by omega) (by omega)] at h7; omega
        obtain ⟨j, hj⟩ : ∃ j, 100 - i = j + 1 := ⟨99 - i, by omega⟩
        refine ev_lload_n (q := 11) dX7_commonDivisor_10 rfl rfl ?_
        refine ev_lconst (q := 12) (0 : Int64) dX7_commonDivisor_11 rfl (by decide) ?_
        refine ev_lcmp (q := 13) dX7_commonDivisor_12 rfl ?_
        refine ev_if_eq (q := 16) (t := 32) dX7_commonDivisor_13 rfl (by decide) (fun h13 => ?_) (fun h13 => ?_)
        · rw [zcmp0] at h13
          refine ev_lload_n (q := 33) dX7_commonDivisor_32 rfl rfl ?_
          exact ev_lret dX7_commonDivisor_33 rfl (⟨by rw [hb]; first | rfl | rw [hj, zgcd_0 h13], rfl, rfl, rfl⟩)
        · rw [zcmp0] at h13
          refine ev_lload_n (q := 17) dX7_commonDivisor_16 rfl rfl ?_
          refine ev_lload_n (q := 18) dX7_commonDivisor_17 rfl rfl ?_
          refine ev_lrem (q := 19) dX7_commonDivisor_18 rfl h13 ?_
          refine ev_lstoreL (q := 21) (L9 := [_, _, _, _, _, _, _]) dX7_commonDivisor_19 rfl (by decide) rfl rfl ?_
          refine ev_lload_n (q := 22) dX7_commonDivisor_21 rfl rfl ?_
          refine ev_lstore_nL (q := 23) (L9 := [_, _, _, _, _, _, _]) dX7_commonDivisor_22 rfl (by decide) rfl rfl ?_
          refine ev_lload (q := 25) dX7_commonDivisor_23 rfl rfl ?_
          refine ev_lstore_nL (q := 26) (L9 := [_, _, _, _, _, _, _]) dX7_commonDivisor_25 rfl (by decide) rfl rfl ?_
          refine ev_iincL (q := 29) (L9 := [_, _, _, _, _, _, _]) (1 : Int32) dX7_commonDivisor_26 rfl rfl (by decide) (by decide) rfl rfl ?_
          refine ev_goto (t := 3) dX7_commonDivisor_29 (by decide) ?_
          rw [nI_1]
          refine ev_wk (L' := [some (.long _), none, some (.long _), none, some (.int _), none, none]) ⟨rfl, rfl, rfl, trivial⟩ ?_
          exact ih (i + 1) _ _ (by omega) (by omega) (by rw [hb, hj, zgcd_s h13, show 100 - (i + 1) = j by omega])
  refine ev_iconst (q := 1) (0 : Int32) dX7_commonDivisor_0 rfl (by decide) ?_
  refine ev_istoreL (q := 3) (L9 := [_, _, _, _, _, _, _]) dX7_commonDivisor_1 rfl (by decide) rfl rfl ?_
  exact lp3 101 0 _ _ (by omega) (by omega) rfl
