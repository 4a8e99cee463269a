theorem zFM.S {fo : Bool} {N T Y : Nat} {I I' : zq_I} (h : zFM I I') (hs : zS fo N T Y I) : zS fo N T Y I' := by
  have a : ∀ c, zsm c = false → I' c = I c := h.1
  have b : ∀ k, zsk k = false → I' 119 k = I 119 k := h.2
  have e0 : I' (zF fo) = I (zF fo) := a _ (by cases fo <;> rfl)
  have e1 : I' (zF fo + 1) = I (zF fo + 1) := a _ (by cases fo <;> rfl)
  have e2 : I' (zF fo + 2) = I (zF fo + 2) := a _ (by cases fo <;> rfl)
  have e3 : I' (zF fo + 3) = I (zF fo + 3) := a _ (by cases fo <;> rfl)
  have e4 : I' (zF fo + 4) = I (zF fo + 4) := a _ (by cases fo <;> rfl)
  obtain ⟨h1, h2, h3⟩ := hs
  refine ⟨?_, ?_, ?_⟩
  · unfold zRL at h1 ⊢
    rw [e0, e1, e2, e3, e4, b 6 rfl, b 5 rfl, b 4 rfl, a 121 rfl, a 122 rfl, a 123 rfl, a 124 rfl]
    exact h1
  · unfold zRW at h2 ⊢
    rw [a 91 rfl, a (91 + 1) rfl, a (91 + 2) rfl, a (91 + 3) rfl, a (91 + 4) rfl, b 15 rfl, a 125 rfl, a 126 rfl, a 127 rfl, a 128 rfl]
    exact h2
  · unfold zRR at h3 ⊢
    rw [b 15 rfl, b 4 rfl, a 121 rfl, a 122 rfl, a 123 rfl, a 124 rfl, a 125 rfl, a 126 rfl, a 127 rfl, a 128 rfl]
    exact h3
def zinL (v a b : Int64) : Bool := !decide (v < a) && !decide (b < v)
theorem zcmp_lt {x y : Int64} : lg_cmp x y < 0 ↔ x < y := by
  unfold lg_cmp
  by_cases h1 : x > y
  · rw [if_pos h1]
    constructor
    · intro h; exact absurd h (by decide)
    · intro h; exact absurd (Int64.lt_trans h h1) Int64.lt_irrefl
  · rw [if_neg h1]
    by_cases h2 : x = y
    · rw [if_pos h2]
      constructor
      · intro h; exact absurd h (by decide)
      · intro h; subst h2; exact absurd h Int64.lt_irrefl
    · rw [if_neg h2]
      constructor
      · intro _; exact Int64.lt_of_le_of_ne (Int64.not_lt.mp h1) h2
      · intro _; decide
theorem zcmp_gt {x y : Int64} : 0 < lg_cmp x y ↔ y < x := by
  unfold lg_cmp
  by_cases h1 : x > y
  · rw [if_pos h1]; simp [h1]
  · rw [if_neg h1]
    constructor
    · intro h; split at h <;> exact absurd h (by decide)
    · intro h; exact absurd h h1
theorem z01 (x : Int32) : x &&& 1 = 0 ∨ x &&& 1 = 1 := by
  rw [pk_and x (m := 1) 1 (by decide)]
  have : x.toBitVec.toNat % 2 ^ 1 = 0 ∨ x.toBitVec.toNat % 2 ^ 1 = 1 := by omega
  rcases this with h | h <;> rw [h]
  · exact Or.inl rfl
  · exact Or.inr rfl
theorem zhas_1 {m : Int32} {k : Nat} : zhas m k = true ↔ (m >>> (nI k &&& 31)) &&& 1 = 1 := by
  unfold zhas
  rcases z01 (m >>> (nI k &&& 31)) with h | h <;> rw [h] <;> decide
def zmany (x : Int32) : Int32 := zsum (fun k => (x >>> (nI k &&& 31)) &&& 1) (fun _ => true) 8
theorem zmany_pop : ∀ a, a < 256 → zmany (nI a) = zpop (nI a) := by decide +kernel
theorem zinL_n {x : Int32} {N : Nat} (hN : N ≤ 1000) : zinL x.toInt64 0 (nI N - 1).toInt64 = zin x (nI N) := by
  unfold zinL zin
  have h1 : (x.toInt64 < 0) ↔ x < 0 := by rw [Int64.lt_iff_toInt_lt, Int32.toInt_toInt64, Int32.lt_iff_toInt_lt]; rfl
  have h3 : (nI N - 1).toInt = (N : Int) - 1 := by rw [show (1 : Int32) = nI 1 from rfl, pk_sub_toInt (by omega) (by omega)]; rfl
  have h2 : ((nI N - 1).toInt64 < x.toInt64) ↔ nI N ≤ x := by
    rw [Int64.lt_iff_toInt_lt, Int32.toInt_toInt64, Int32.toInt_toInt64, Int32.le_iff_toInt_le, h3, nI_toInt (by omega)]
    omega
  simp only [h1, h2]
set_option maxHeartbeats 4000000 in
set_option maxRecDepth 100000 in
theorem c_X8_in (G : zq_G) (n : Nat) (I : zq_I) (P : zq_P) (v a b : Int64) : zq_Met G mX8_in 0 0 0 [.long v, .long a, .long b] n I P (zq_pu (some (.int (zb (zinL v a b)))) n I P) := by
  refine zq_Met.of okX8_in (Nat.le_of_ble_eq_true rfl) ?_
  show zq_E _ _ _ _ _ _ _ [some (.long v), none, some (.long a), none, some (.long b), none] _ _ _ _ _
  refine ev_lload_n (q := 1) dX8_in_0 rfl rfl ?_
  refine ev_lload_n (q := 2) dX8_in_1 rfl rfl ?_
  refine ev_lcmp (q := 3) dX8_in_2 rfl ?_
  refine ev_if_lt (q := 6) (t := 17) dX8_in_3 rfl (by decide) (fun h3 => ?_) (fun h3 => ?_)
  · rw [zcmp_lt] at h3
    refine ev_iconst (q := 18) (0 : Int32) dX8_in_17 rfl (by decide) ?_
    exact ev_iret dX8_in_18 rfl (by first | rfl | exact zb_nar _ | assumption) (⟨by simp [zinL, zb, h3], rfl, rfl, rfl⟩)
  · rw [zcmp_lt] at h3
    refine ev_lload_n (q := 7) dX8_in_6 rfl rfl ?_
    refine ev_lload (q := 9) dX8_in_7 rfl rfl ?_
    refine ev_lcmp (q := 10) dX8_in_9 rfl ?_
    refine ev_if_gt (q := 13) (t := 17) dX8_in_10 rfl (by decide) (fun h10 => ?_) (fun h10 => ?_)
    · rw [zcmp_gt] at h10
      refine ev_iconst (q := 18) (0 : Int32) dX8_in_17 rfl (by decide) ?_
      exact ev_iret dX8_in_18 rfl (by first | rfl | exact zb_nar _ | assumption) (⟨by simp [zinL, zb, h3, h10], rfl, rfl, rfl⟩)
    · rw [zcmp_gt] at h10
      refine ev_iconst (q := 14) (1 : Int32) dX8_in_13 rfl (by decide) ?_
      refine ev_goto (t := 18) dX8_in_14 (by decide) ?_
      exact ev_iret dX8_in_18 rfl (by first | rfl | exact zb_nar _ | assumption) (⟨by simp [zinL, zb, h3, h10], rfl, rfl, rfl⟩)
set_option maxHeartbeats 4000000 in
set_option maxRecDepth 100000 in
theorem c_X8_has (G : zq_G) (n : Nat) (I : zq_I) (P : zq_P) (x : Int32) (k : Nat) : zq_Met G mX8_has 0 0 0 [.int x, .int (nI k)] n I P (zq_pu (some (.int (zb (zhas x k)))) n I P) := by
  refine zq_Met.of okX8_has (Nat.le_of_ble_eq_true rfl) ?_
  show zq_E _ _ _ _ _ _ _ [some (.int x), some (.int (nI k))] _ _ _ _ _
  refine ev_iload_n (q := 1) dX8_has_0 rfl rfl ?_
  refine ev_iload_n (q := 2) dX8_has_1 rfl rfl ?_
  refine ev_ishr (q := 3) dX8_has_2 rfl ?_
  refine ev_iconst (q := 4) (1 : Int32) dX8_has_3 rfl (by decide) ?_
  refine ev_iand (q := 5) dX8_has_4 rfl ?_
  refine ev_iconst (q := 6) (1 : Int32) dX8_has_5 rfl (by decide) ?_
  refine ev_icmp_ne (q := 9) (t := 13) dX8_has_6 rfl (by decide) (fun h6 => ?_) (fun h6 => ?_)
  · have hh : zhas x k = false := by rw [← Bool.not_eq_true, zhas_1]; exact h6
    refine ev_iconst (q := 14) (0 : Int32) dX8_has_13 rfl (by decide) ?_
    exact ev_iret dX8_has_14 rfl (by first | rfl | exact zb_nar _ | assumption) (⟨by rw [hh]; rfl, rfl, rfl, rfl⟩)
  · have hh := zhas_1.mpr h6
    refine ev_iconst (q := 10) (1 : Int32) dX8_has_9 rfl (by decide) ?_
    refine ev_goto (t := 14) dX8_has_10 (by decide) ?_
    exact ev_iret dX8_has_14 rfl (by first | rfl | exact zb_nar _ | assumption) (⟨by rw [hh]; rfl, rfl, rfl, rfl⟩)
set_option maxHeartbeats 4000000 in
set_option maxRecDepth 100000 in
theorem c_X8_many (G : zq_G) (n : Nat) (I : zq_I) (P : zq_P) (x : Int32) : zq_Met G mX8_many 0 0 0 [.int x] n I P (zq_pu (some (.int (zmany x))) n I P) := by
  refine zq_Met.of okX8_many (Nat.le_of_ble_eq_true rfl) ?_
  show zq_E _ _ _ _ _ _ _ [some (.int x), none, none] _ _ _ _ _
  have lp4 : ∀ (k i : Nat) (b : Int32), 8 + 1 ≤ i + k → i ≤ 8 → b = zsum (fun k => (x >>> (nI k &&& 31)) &&& 1) (fun _ => true) i → zq_E G mX8_many 0 0 0 false 4 [some (.int x), some (.int b), some (.int (nI i))] [] n I P (zq_pu (some (.int (zmany x))) n I P) := by
    intro k
    induction k with
    | zero => intro i b hk hi; exact absurd hk (by omega)
    | succ k ih =>
      intro i b hk hi hb
      refine ev_iload_n (q := 5) dX8_many_4 rfl rfl ?_
      refine ev_bipush (q := 7) (nI 8 : Int32) dX8_many_5 rfl (by decide) ?_
      refine ev_icmp_ge (q := 10) (t := 24) dX8_many_7 rfl (by decide) (fun h7 => ?_) (fun h7 => ?_)
      · obtain rfl : i = 8 := by rw [nI_leI (by omega) (by omega)] at h7; omega
        refine ev_iload_n (q := 25) dX8_many_24 rfl rfl ?_
        exact ev_iret dX8_many_25 rfl (by first | rfl | exact zb_nar _ | assumption) (⟨by subst hb; rfl, rfl, rfl, rfl⟩)
      · have hlt_i : i < 8 := by rw [nI_leI (by omega) (by omega)] at h7; omega
        refine ev_iload_n (q := 11) dX8_many_10 rfl rfl ?_
        refine ev_iload_n (q := 12) dX8_many_11 rfl rfl ?_
        refine ev_iload_n (q := 13) dX8_many_12 rfl rfl ?_
        refine ev_ishr (q := 14) dX8_many_13 rfl ?_
        refine ev_iconst (q := 15) (1 : Int32) dX8_many_14 rfl (by decide) ?_
        refine ev_iand (q := 16) dX8_many_15 rfl ?_
        refine ev_iadd (q := 17) dX8_many_16 rfl ?_
        refine ev_istore_nL (q := 18) (L9 := [_, _, _]) dX8_many_17 rfl (by decide) rfl rfl ?_
        refine ev_iincL (q := 21) (L9 := [_, _, _]) (1 : Int32) dX8_many_18 rfl rfl (by decide) (by decide) rfl rfl ?_
        refine ev_goto (t := 4) dX8_many_21 (by decide) ?_
        rw [nI_1]
        exact ih (i + 1) _ (by omega) (by omega) (zsum_s hb rfl)
  refine ev_iconst (q := 1) (0 : Int32) dX8_many_0 rfl (by decide) ?_
  refine ev_istore_nL (q := 2) (L9 := [_, _, _]) dX8_many_1 rfl (by decide) rfl rfl ?_
  refine ev_iconst (q := 3) (0 : Int32) dX8_many_2 rfl (by decide) ?_
  refine ev_istore_nL (q := 4) (L9 := [_, _, _]) dX8_many_3 rfl (by decide) rfl rfl ?_
  exact lp4 9 0 0 (by omega) (by omega) rfl
set_option maxHeartbeats 4000000 in
set_option maxRecDepth 100000 in
theorem c_X8_noOne (G : zq_G) (fo : Bool) (I : zq_I) {N T Y : Nat} (hs : zS fo N T Y I) (x : Int32) : zq_Met G mX8_noOne 1 0 0 [.ref 119, .int x] 138 I (zPs fo) (zq_pu (some (.int (zb (!(zin x (nI N)))))) 138 I (zPs fo)) := by
  refine zq_Met.of okX8_noOne (Nat.le_of_ble_eq_true rfl) ?_
  show zq_E _ _ _ _ _ _ _ [some (.ref 119), some (.int x)] _ _ _ _ _
  have hN8 := hs.n8
  have hN := hs.mppl
  refine ev_iload_n (q := 1) dX8_noOne_0 rfl rfl ?_
  refine ev_i2l (q := 2) dX8_noOne_1 rfl ?_
  refine ev_lconst (q := 3) (0 : Int64) dX8_noOne_2 rfl (by decide) ?_
  refine ev_aload_n (q := 4) dX8_noOne_3 rfl rfl ?_
  refine ev_getI (q := 7) (ci := 8) (f := 6) dX8_noOne_4 rfl (by first | rfl | assumption | exact zf_kd (by assumption) | exact zw_kd (by assumption) | exact zt_kd (by assumption)) (by first | decide | exact zf_lt (by assumption) | exact zf_lt1 (by assumption) | exact zf_lt2 (by assumption) | exact zf_lt3 (by assumption) | exact zf_lt4 (by assumption) | exact zw_lt (by assumption) | exact zw_lt1 (by assumption) | exact zw_lt2 (by assumption) | exact zw_lt3 (by assumption) | exact zw_lt4 (by assumption) | exact zt_lt (by assumption)) (by decide) (by decide) lfRX8_72 rfl ?_
  refine ev_iconst (q := 8) (1 : Int32) dX8_noOne_7 rfl (by decide) ?_
  rw [hN]
  refine ev_isub (q := 9) dX8_noOne_8 rfl ?_
  refine ev_i2l (q := 10) dX8_noOne_9 rfl ?_
  refine ev_pS (q := 13) dX8_noOne_10 rfl okX8_in lmRX8_75 smX8_in (c_X8_in G _ _ _ _ _ _) (by decide) rfl rfl (Nat.le_of_ble_eq_true rfl) ?_
  rw [zinL_n (by omega)]
  refine ev_if_ne (q := 16) (t := 20) dX8_noOne_13 rfl (by decide) (fun h13 => ?_) (fun h13 => ?_)
  · have hz := zb_ne h13
    refine ev_iconst (q := 21) (0 : Int32) dX8_noOne_20 rfl (by decide) ?_
    exact ev_iret dX8_noOne_21 rfl (by first | rfl | exact zb_nar _ | assumption) (⟨by rw [hz]; rfl, rfl, rfl, rfl⟩)
  · have hz := zb_eq h13
    refine ev_iconst (q := 17) (1 : Int32) dX8_noOne_16 rfl (by decide) ?_
    refine ev_goto (t := 21) dX8_noOne_17 (by decide) ?_
    exact ev_iret dX8_noOne_21 rfl (by first | rfl | exact zb_nar _ | assumption) (⟨by rw [hz]; rfl, rfl, rfl, rfl⟩)
set_option maxHeartbeats 4000000 in
set_option maxRecDepth 100000 in
theorem c_X8_noTown (G : zq_G) (fo : Bool) (I : zq_I) {N T Y : Nat} (hs : zS fo N T Y I) (x : Int32) : zq_Met G mX8_noTown 1 0 0 [.ref 119, .int x] 138 I (zPs fo) (zq_pu (some (.int (zb (!(zin x (nI T)))))) 138 I (zPs fo)) := by
  refine zq_Met.of okX8_noTown (Nat.le_of_ble_eq_true rfl) ?_
  show zq_E _ _ _ _ _ _ _ [some (.ref 119), some (.int x)] _ _ _ _ _
  have hN8 := hs.n8
  have hN := hs.mppl
  refine ev_iload_n (q := 1) dX8_noTown_0 rfl rfl ?_
  refine ev_i2l (q := 2) dX8_noTown_1 rfl ?_
  refine ev_lconst (q := 3) (0 : Int64) dX8_noTown_2 rfl (by decide) ?_
  refine ev_aload_n (q := 4) dX8_noTown_3 rfl rfl ?_
  refine ev_getI (q := 7) (ci := 8) (f := 5) dX8_noTown_4 rfl (by first | rfl | assumption | exact zf_kd (by assumption) | exact zw_kd (by assumption) | exact zt_kd (by assumption)) (by first | decide | exact zf_lt (by assumption) | exact zf_lt1 (by assumption) | exact zf_lt2 (by assumption) | exact zf_lt3 (by assumption) | exact zf_lt4 (by assumption) | exact zw_lt (by assumption) | exact zw_lt1 (by assumption) | exact zw_lt2 (by assumption) | exact zw_lt3 (by assumption) | exact zw_lt4 (by assumption) | exact zt_lt (by assumption)) (by decide) (by decide) lfRX8_13 rfl ?_
  refine ev_iconst (q := 8) (1 : Int32) dX8_noTown_7 rfl (by decide) ?_
  rw [hs.mtwn]
  refine ev_isub (q := 9) dX8_noTown_8 rfl ?_
  refine ev_i2l (q := 10) dX8_noTown_9 rfl ?_
  refine ev_pS (q := 13) dX8_noTown_10 rfl okX8_in lmRX8_75 smX8_in (c_X8_in G _ _ _ _ _ _) (by decide) rfl rfl (Nat.le_of_ble_eq_true rfl) ?_
  rw [zinL_n (by have := hs.t4; omega)]
  refine ev_if_ne (q := 16) (t := 20) dX8_noTown_13 rfl (by decide) (fun h13 => ?_) (fun h13 => ?_)
  · have hz := zb_ne h13
    refine ev_iconst (q := 21) (0 : Int32) dX8_noTown_20 rfl (by decide) ?_
    exact ev_iret dX8_noTown_21 rfl (by first | rfl | exact zb_nar _ | assumption) (⟨by rw [hz]; rfl, rfl, rfl, rfl⟩)
  · have hz := zb_eq h13
    refine ev_iconst (q := 17) (1 : Int32) dX8_noTown_16 rfl (by decide) ?_
    refine ev_goto (t := 21) dX8_noTown_17 (by decide) ?_
    exact ev_iret dX8_noTown_21 rfl (by first | rfl | exact zb_nar _ | assumption) (⟨by rw [hz]; rfl, rfl, rfl, rfl⟩)
set_option maxHeartbeats 4000000 in
set_option maxRecDepth 100000 in
theorem c_X8_away (G : zq_G) (fo : Bool) (I : zq_I) {p : Nat} (hp : p < 8)  : zq_Met G mX8_away 0 0 0 [.ref 119, .int (nI p)] 138 I (zPs fo) (zq_pu (some (.int (zAw (zV I) p))) 138 I (zPs fo)) := by
  refine zq_Met.of okX8_away (Nat.le_of_ble_eq_true rfl) ?_
  show zq_E _ _ _ _ _ _ _ [some (.ref 119), some (.int (nI p))] _ _ _ _ _
  refine ev_aload_n (q := 1) dX8_away_0 rfl rfl ?_
  refine ev_getR (q := 4) (ci := 8) (f := 11) dX8_away_1 rfl (by first | rfl | assumption | exact zf_kd (by assumption) | exact zw_kd (by assumption) | exact zt_kd (by assumption)) (by first | decide | exact zf_lt (by assumption) | exact zf_lt1 (by assumption) | exact zf_lt2 (by assumption) | exact zf_lt3 (by assumption) | exact zf_lt4 (by assumption) | exact zw_lt (by assumption) | exact zw_lt1 (by assumption) | exact zw_lt2 (by assumption) | exact zw_lt3 (by assumption) | exact zw_lt4 (by assumption) | exact zt_lt (by assumption)) (by decide) (by decide) lfRX8_29 rfl (by first | rfl | assumption | exact zf_p4 _ (by assumption) | exact zf_p5 _ (by assumption) | exact zf_p6 _ (by assumption) | exact zf_p7 _ (by assumption) | exact zw_p1 _ (by assumption) | exact zw_p2 _ (by assumption) | exact zw_p3 _ (by assumption) | exact zw_p4 _ (by assumption)) ?_
  refine ev_iload_n (q := 5) dX8_away_4 rfl rfl ?_
  refine ev_ialdN (q := 6) dX8_away_5 rfl (by first | rfl | assumption | exact zf_kd1 (by assumption) | exact zf_kd2 (by assumption) | exact zf_kd3 (by assumption) | exact zf_kd4 (by assumption) | exact zw_kd1 (by assumption) | exact zw_kd2 (by assumption) | exact zw_kd3 (by assumption) | exact zw_kd4 (by assumption)) (by first | decide | exact zf_lt (by assumption) | exact zf_lt1 (by assumption) | exact zf_lt2 (by assumption) | exact zf_lt3 (by assumption) | exact zf_lt4 (by assumption) | exact zw_lt (by assumption) | exact zw_lt1 (by assumption) | exact zw_lt2 (by assumption) | exact zw_lt3 (by assumption) | exact zw_lt4 (by assumption) | exact zt_lt (by assumption)) (by first | omega | assumption) ?_
  refine ev_aload_n (q := 7) dX8_away_6 rfl rfl ?_
  refine ev_getR (q := 10) (ci := 8) (f := 7) dX8_away_7 rfl (by first | rfl | assumption | exact zf_kd (by assumption) | exact zw_kd (by assumption) | exact zt_kd (by assumption)) (by first | decide | exact zf_lt (by assumption) | exact zf_lt1 (by assumption) | exact zf_lt2 (by assumption) | exact zf_lt3 (by assumption) | exact zf_lt4 (by assumption) | exact zw_lt (by assumption) | exact zw_lt1 (by assumption) | exact zw_lt2 (by assumption) | exact zw_lt3 (by assumption) | exact zw_lt4 (by assumption) | exact zt_lt (by assumption)) (by decide) (by decide) lfRX8_17 rfl (by first | rfl | assumption | exact zf_p4 _ (by assumption) | exact zf_p5 _ (by assumption) | exact zf_p6 _ (by assumption) | exact zf_p7 _ (by assumption) | exact zw_p1 _ (by assumption) | exact zw_p2 _ (by assumption) | exact zw_p3 _ (by assumption) | exact zw_p4 _ (by assumption)) ?_
  refine ev_iload_n (q := 11) dX8_away_10 rfl rfl ?_
  refine ev_ialdN (q := 12) dX8_away_11 rfl (by first | rfl | assumption | exact zf_kd1 (by assumption) | exact zf_kd2 (by assumption) | exact zf_kd3 (by assumption) | exact zf_kd4 (by assumption) | exact zw_kd1 (by assumption) | exact zw_kd2 (by assumption) | exact zw_kd3 (by assumption) | exact zw_kd4 (by assumption)) (by first | decide | exact zf_lt (by assumption) | exact zf_lt1 (by assumption) | exact zf_lt2 (by assumption) | exact zf_lt3 (by assumption) | exact zf_lt4 (by assumption) | exact zw_lt (by assumption) | exact zw_lt1 (by assumption) | exact zw_lt2 (by assumption) | exact zw_lt3 (by assumption) | exact zw_lt4 (by assumption) | exact zt_lt (by assumption)) (by first | omega | assumption) ?_
  refine ev_icmp_ge (q := 15) (t := 31) dX8_away_12 rfl (by decide) (fun h12 => ?_) (fun h12 => ?_)
  · refine ev_aload_n (q := 32) dX8_away_31 rfl rfl ?_
    refine ev_getR (q := 35) (ci := 8) (f := 11) dX8_away_32 rfl (by first | rfl | assumption | exact zf_kd (by assumption) | exact zw_kd (by assumption) | exact zt_kd (by assumption)) (by first | decide | exact zf_lt (by assumption) | exact zf_lt1 (by assumption) | exact zf_lt2 (by assumption) | exact zf_lt3 (by assumption) | exact zf_lt4 (by assumption) | exact zw_lt (by assumption) | exact zw_lt1 (by assumption) | exact zw_lt2 (by assumption) | exact zw_lt3 (by assumption) | exact zw_lt4 (by assumption) | exact zt_lt (by assumption)) (by decide) (by decide) lfRX8_29 rfl (by first | rfl | assumption | exact zf_p4 _ (by assumption) | exact zf_p5 _ (by assumption) | exact zf_p6 _ (by assumption) | exact zf_p7 _ (by assumption) | exact zw_p1 _ (by assumption) | exact zw_p2 _ (by assumption) | exact zw_p3 _ (by assumption) | exact zw_p4 _ (by assumption)) ?_
    refine ev_iload_n (q := 36) dX8_away_35 rfl rfl ?_
    refine ev_ialdN (q := 37) dX8_away_36 rfl (by first | rfl | assumption | exact zf_kd1 (by assumption) | exact zf_kd2 (by assumption) | exact zf_kd3 (by assumption) | exact zf_kd4 (by assumption) | exact zw_kd1 (by assumption) | exact zw_kd2 (by assumption) | exact zw_kd3 (by assumption) | exact zw_kd4 (by assumption)) (by first | decide | exact zf_lt (by assumption) | exact zf_lt1 (by assumption) | exact zf_lt2 (by assumption) | exact zf_lt3 (by assumption) | exact zf_lt4 (by assumption) | exact zw_lt (by assumption) | exact zw_lt1 (by assumption) | exact zw_lt2 (by assumption) | exact zw_lt3 (by assumption) | exact zw_lt4 (by assumption) | exact zt_lt (by assumption)) (by first | omega | assumption) ?_
    refine ev_aload_n (q := 38) dX8_away_37 rfl rfl ?_
    refine ev_getR (q := 41) (ci := 8) (f := 7) dX8_away_38 rfl (by first | rfl | assumption | exact zf_kd (by assumption) | exact zw_kd (by assumption) | exact zt_kd (by assumption)) (by first | decide | exact zf_lt (by assumption) | exact zf_lt1 (by assumption) | exact zf_lt2 (by assumption) | exact zf_lt3 (by assumption) | exact zf_lt4 (by assumption) | exact zw_lt (by assumption) | exact zw_lt1 (by assumption) | exact zw_lt2 (by assumption) | exact zw_lt3 (by assumption) | exact zw_lt4 (by assumption) | exact zt_lt (by assumption)) (by decide) (by decide) lfRX8_17 rfl (by first | rfl | assumption | exact zf_p4 _ (by assumption) | exact zf_p5 _ (by assumption) | exact zf_p6 _ (by assumption) | exact zf_p7 _ (by assumption) | exact zw_p1 _ (by assumption) | exact zw_p2 _ (by assumption) | exact zw_p3 _ (by assumption) | exact zw_p4 _ (by assumption)) ?_
    refine ev_iload_n (q := 42) dX8_away_41 rfl rfl ?_
    refine ev_ialdN (q := 43) dX8_away_42 rfl (by first | rfl | assumption | exact zf_kd1 (by assumption) | exact zf_kd2 (by assumption) | exact zf_kd3 (by assumption) | exact zf_kd4 (by assumption) | exact zw_kd1 (by assumption) | exact zw_kd2 (by assumption) | exact zw_kd3 (by assumption) | exact zw_kd4 (by assumption)) (by first | decide | exact zf_lt (by assumption) | exact zf_lt1 (by assumption) | exact zf_lt2 (by assumption) | exact zf_lt3 (by assumption) | exact zf_lt4 (by assumption) | exact zw_lt (by assumption) | exact zw_lt1 (by assumption) | exact zw_lt2 (by assumption) | exact zw_lt3 (by assumption) | exact zw_lt4 (by assumption) | exact zt_lt (by assumption)) (by first | omega | assumption) ?_
    refine ev_isub (q := 44) dX8_away_43 rfl ?_
    exact ev_iret dX8_away_44 rfl (by first | rfl | exact zb_nar _ | assumption) (⟨by show _ = some (Value.int (if I 125 p < I 121 p then _ else _)); first | (rw [if_pos (Int32.not_le.mp h12)]; rfl) | (rw [if_neg (Int32.not_lt.mpr h12)]; rfl), rfl, rfl, rfl⟩)
  · refine ev_aload_n (q := 16) dX8_away_15 rfl rfl ?_
    refine ev_getR (q := 19) (ci := 8) (f := 7) dX8_away_16 rfl (by first | rfl | assumption | exact zf_kd (by assumption) | exact zw_kd (by assumption) | exact zt_kd (by assumption)) (by first | decide | exact zf_lt (by assumption) | exact zf_lt1 (by assumption) | exact zf_lt2 (by assumption) | exact zf_lt3 (by assumption) | exact zf_lt4 (by assumption) | exact zw_lt (by assumption) | exact zw_lt1 (by assumption) | exact zw_lt2 (by assumption) | exact zw_lt3 (by assumption) | exact zw_lt4 (by assumption) | exact zt_lt (by assumption)) (by decide) (by decide) lfRX8_17 rfl (by first | rfl | assumption | exact zf_p4 _ (by assumption) | exact zf_p5 _ (by assumption) | exact zf_p6 _ (by assumption) | exact zf_p7 _ (by assumption) | exact zw_p1 _ (by assumption) | exact zw_p2 _ (by assumption) | exact zw_p3 _ (by assumption) | exact zw_p4 _ (by assumption)) ?_
    refine ev_iload_n (q := 20) dX8_away_19 rfl rfl ?_
    refine ev_ialdN (q := 21) dX8_away_20 rfl (by first | rfl | assumption | exact zf_kd1 (by assumption) | exact zf_kd2 (by assumption) | exact zf_kd3 (by assumption) | exact zf_kd4 (by assumption) | exact zw_kd1 (by assumption) | exact zw_kd2 (by assumption) | exact zw_kd3 (by assumption) | exact zw_kd4 (by assumption)) (by first | decide | exact zf_lt (by assumption) | exact zf_lt1 (by assumption) | exact zf_lt2 (by assumption) | exact zf_lt3 (by assumption) | exact zf_lt4 (by assumption) | exact zw_lt (by assumption) | exact zw_lt1 (by assumption) | exact zw_lt2 (by assumption) | exact zw_lt3 (by assumption) | exact zw_lt4 (by assumption) | exact zt_lt (by assumption)) (by first | omega | assumption) ?_
    refine ev_aload_n (q := 22) dX8_away_21 rfl rfl ?_
    refine ev_getR (q := 25) (ci := 8) (f := 11) dX8_away_22 rfl (by first | rfl | assumption | exact zf_kd (by assumption) | exact zw_kd (by assumption) | exact zt_kd (by assumption)) (by first | decide | exact zf_lt (by assumption) | exact zf_lt1 (by assumption) | exact zf_lt2 (by assumption) | exact zf_lt3 (by assumption) | exact zf_lt4 (by assumption) | exact zw_lt (by assumption) | exact zw_lt1 (by assumption) | exact zw_lt2 (by assumption) | exact zw_lt3 (by assumption) | exact zw_lt4 (by assumption) | exact zt_lt (by assumption)) (by decide) (by decide) lfRX8_29 rfl (by first | rfl | assumption | exact zf_p4 _ (by assumption) | exact zf_p5 _ (by assumption) | exact zf_p6 _ (by assumption) | exact zf_p7 _ (by assumption) | exact zw_p1 _ (by assumption) | exact zw_p2 _ (by assumption) | exact zw_p3 _ (by assumption) | exact zw_p4 _ (by assumption)) ?_
    refine ev_iload_n (q := 26) dX8_away_25 rfl rfl ?_
    refine ev_ialdN (q := 27) dX8_away_26 rfl (by first | rfl | assumption | exact zf_kd1 (by assumption) | exact zf_kd2 (by assumption) | exact zf_kd3 (by assumption) | exact zf_kd4 (by assumption) | exact zw_kd1 (by assumption) | exact zw_kd2 (by assumption) | exact zw_kd3 (by assumption) | exact zw_kd4 (by assumption)) (by first | decide | exact zf_lt (by assumption) | exact zf_lt1 (by assumption) | exact zf_lt2 (by assumption) | exact zf_lt3 (by assumption) | exact zf_lt4 (by assumption) | exact zw_lt (by assumption) | exact zw_lt1 (by assumption) | exact zw_lt2 (by assumption) | exact zw_lt3 (by assumption) | exact zw_lt4 (by assumption) | exact zt_lt (by assumption)) (by first | omega | assumption) ?_
    refine ev_isub (q := 28) dX8_away_27 rfl ?_
    refine ev_goto (t := 44) dX8_away_28 (by decide) ?_
    exact ev_iret dX8_away_44 rfl (by first | rfl | exact zb_nar _ | assumption) (⟨by show _ = some (Value.int (if I 125 p < I 121 p then _ else _)); first | (rw [if_pos (Int32.not_le.mp h12)]; rfl) | (rw [if_neg (Int32.not_lt.mpr h12)]; rfl), rfl, rfl, rfl⟩)
set_option maxHeartbeats 4000000 in
set_option maxRecDepth 100000 in
theorem c_X8_isMissing (G : zq_G) (fo : Bool) (I : zq_I) {p : Nat} (hp : p < 8) (y : Int32) : zq_Met G mX8_isMissing 1 0 0 [.ref 119, .int (nI p), .int y] 138 I (zPs fo) (zq_pu (some (.int (zb (zMi (zV I) p y)))) 138 I (zPs fo)) := by
  refine zq_Met.of okX8_isMissing (Nat.le_of_ble_eq_true rfl) ?_
  show zq_E _ _ _ _ _ _ _ [some (.ref 119), some (.int (nI p)), some (.int y)] _ _ _ _ _
  refine ev_aload_n (q := 1) dX8_isMissing_0 rfl rfl ?_
  refine ev_getR (q := 4) (ci := 8) (f := 13) dX8_isMissing_1 rfl (by first | rfl | assumption | exact zf_kd (by assumption) | exact zw_kd (by assumption) | exact zt_kd (by assumption)) (by first | decide | exact zf_lt (by assumption) | exact zf_lt1 (by assumption) | exact zf_lt2 (by assumption) | exact zf_lt3 (by assumption) | exact zf_lt4 (by assumption) | exact zw_lt (by assumption) | exact zw_lt1 (by assumption) | exact zw_lt2 (by assumption) | exact zw_lt3 (by assumption) | exact zw_lt4 (by assumption) | exact zt_lt (by assumption)) (by decide) (by decide) lfRX8_35 rfl (by first | rfl | assumption | exact zf_p4 _ (by assumption) | exact zf_p5 _ (by assumption) | exact zf_p6 _ (by assumption) | exact zf_p7 _ (by assumption) | exact zw_p1 _ (by assumption) | exact zw_p2 _ (by assumption) | exact zw_p3 _ (by assumption) | exact zw_p4 _ (by assumption)) ?_
  refine ev_iload_n (q := 5) dX8_isMissing_4 rfl rfl ?_
  refine ev_ialdN (q := 6) dX8_isMissing_5 rfl (by first | rfl | assumption | exact zf_kd1 (by assumption) | exact zf_kd2 (by assumption) | exact zf_kd3 (by assumption) | exact zf_kd4 (by assumption) | exact zw_kd1 (by assumption) | exact zw_kd2 (by assumption) | exact zw_kd3 (by assumption) | exact zw_kd4 (by assumption)) (by first | decide | exact zf_lt (by assumption) | exact zf_lt1 (by assumption) | exact zf_lt2 (by assumption) | exact zf_lt3 (by assumption) | exact zf_lt4 (by assumption) | exact zw_lt (by assumption) | exact zw_lt1 (by assumption) | exact zw_lt2 (by assumption) | exact zw_lt3 (by assumption) | exact zw_lt4 (by assumption) | exact zt_lt (by assumption)) (by first | omega | assumption) ?_
  refine ev_bipush (q := 8) ((-9) : Int32) dX8_isMissing_6 rfl (by decide) ?_
  refine ev_icmp_ne (q := 11) (t := 34) dX8_isMissing_8 rfl (by decide) (fun h8 => ?_) (fun h8 => ?_)
  · have ha : zAl (zV I) p = false := by show (I 127 p == -9) = false; simpa using h8
    refine ev_iload_n (q := 35) dX8_isMissing_34 rfl rfl ?_
    refine ev_aload_n (q := 36) dX8_isMissing_35 rfl rfl ?_
    refine ev_getR (q := 39) (ci := 8) (f := 13) dX8_isMissing_36 rfl (by first | rfl | assumption | exact zf_kd (by assumption) | exact zw_kd (by assumption) | exact zt_kd (by assumption)) (by first | decide | exact zf_lt (by assumption) | exact zf_lt1 (by assumption) | exact zf_lt2 (by assumption) | exact zf_lt3 (by assumption) | exact zf_lt4 (by assumption) | exact zw_lt (by assumption) | exact zw_lt1 (by assumption) | exact zw_lt2 (by assumption) | exact zw_lt3 (by assumption) | exact zw_lt4 (by assumption) | exact zt_lt (by assumption)) (by decide) (by decide) lfRX8_35 rfl (by first | rfl | assumption | exact zf_p4 _ (by assumption) | exact zf_p5 _ (by assumption) | exact zf_p6 _ (by assumption) | exact zf_p7 _ (by assumption) | exact zw_p1 _ (by assumption) | exact zw_p2 _ (by assumption) | exact zw_p3 _ (by assumption) | exact zw_p4 _ (by assumption)) ?_
    refine ev_iload_n (q := 40) dX8_isMissing_39 rfl rfl ?_
    refine ev_ialdN (q := 41) dX8_isMissing_40 rfl (by first | rfl | assumption | exact zf_kd1 (by assumption) | exact zf_kd2 (by assumption) | exact zf_kd3 (by assumption) | exact zf_kd4 (by assumption) | exact zw_kd1 (by assumption) | exact zw_kd2 (by assumption) | exact zw_kd3 (by assumption) | exact zw_kd4 (by assumption)) (by first | decide | exact zf_lt (by assumption) | exact zf_lt1 (by assumption) | exact zf_lt2 (by assumption) | exact zf_lt3 (by assumption) | exact zf_lt4 (by assumption) | exact zw_lt (by assumption) | exact zw_lt1 (by assumption) | exact zw_lt2 (by assumption) | exact zw_lt3 (by assumption) | exact zw_lt4 (by assumption) | exact zt_lt (by assumption)) (by first | omega | assumption) ?_
    refine ev_aload_n (q := 42) dX8_isMissing_41 rfl rfl ?_
    refine ev_iload_n (q := 43) dX8_isMissing_42 rfl rfl ?_
    refine ev_pV (q := 46) (ci := 8) dX8_isMissing_43 rfl okX8_away lmRX8_137 imX8_away seX8_away (by first | rfl | assumption | exact zf_kd (by assumption) | exact zw_kd (by assumption) | exact zt_kd (by assumption)) (by first | decide | exact zf_lt (by assumption) | exact zf_lt1 (by assumption) | exact zf_lt2 (by assumption) | exact zf_lt3 (by assumption) | exact zf_lt4 (by assumption) | exact zw_lt (by assumption) | exact zw_lt1 (by assumption) | exact zw_lt2 (by assumption) | exact zw_lt3 (by assumption) | exact zw_lt4 (by assumption) | exact zt_lt (by assumption)) (by decide) rfl (c_X8_away G fo I hp) (by decide) rfl rfl (Nat.le_of_ble_eq_true rfl) ?_
    refine ev_iadd (q := 47) dX8_isMissing_46 rfl ?_
    refine ev_icmp_ge (q := 50) (t := 54) dX8_isMissing_47 rfl (by decide) (fun h47 => ?_) (fun h47 => ?_)
    · have hq : decide (y < vD (zV I) p + zAw (zV I) p) = false := decide_eq_false (Int32.not_lt.mpr h47)
      refine ev_iconst (q := 55) (0 : Int32) dX8_isMissing_54 rfl (by decide) ?_
      exact ev_iret dX8_isMissing_55 rfl (by first | rfl | exact zb_nar _ | assumption) (⟨by unfold zMi; rw [ha]; first | (rw [if_pos rfl, hw]; rfl) | (rw [if_neg (by decide), hq]; rfl), rfl, rfl, rfl⟩)
    · have hq : decide (y < vD (zV I) p + zAw (zV I) p) = true := decide_eq_true (Int32.not_le.mp h47)
      refine ev_iconst (q := 51) (1 : Int32) dX8_isMissing_50 rfl (by decide) ?_
      refine ev_goto (t := 55) dX8_isMissing_51 (by decide) ?_
      exact ev_iret dX8_isMissing_55 rfl (by first | rfl | exact zb_nar _ | assumption) (⟨by unfold zMi; rw [ha]; first | (rw [if_pos rfl, hw]; rfl) | (rw [if_neg (by decide), hq]; rfl), rfl, rfl, rfl⟩)
  · have ha : zAl (zV I) p = true := by show (I 127 p == -9) = true; simpa using h8
    refine ev_aload_n (q := 12) dX8_isMissing_11 rfl rfl ?_
    refine ev_getR (q := 15) (ci := 8) (f := 11) dX8_isMissing_12 rfl (by first | rfl | assumption | exact zf_kd (by assumption) | exact zw_kd (by assumption) | exact zt_kd (by assumption)) (by first | decide | exact zf_lt (by assumption) | exact zf_lt1 (by assumption) | exact zf_lt2 (by assumption) | exact zf_lt3 (by assumption) | exact zf_lt4 (by assumption) | exact zw_lt (by assumption) | exact zw_lt1 (by assumption) | exact zw_lt2 (by assumption) | exact zw_lt3 (by assumption) | exact zw_lt4 (by assumption) | exact zt_lt (by assumption)) (by decide) (by decide) lfRX8_29 rfl (by first | rfl | assumption | exact zf_p4 _ (by assumption) | exact zf_p5 _ (by assumption) | exact zf_p6 _ (by assumption) | exact zf_p7 _ (by assumption) | exact zw_p1 _ (by assumption) | exact zw_p2 _ (by assumption) | exact zw_p3 _ (by assumption) | exact zw_p4 _ (by assumption)) ?_
    refine ev_iload_n (q := 16) dX8_isMissing_15 rfl rfl ?_
    refine ev_ialdN (q := 17) dX8_isMissing_16 rfl (by first | rfl | assumption | exact zf_kd1 (by assumption) | exact zf_kd2 (by assumption) | exact zf_kd3 (by assumption) | exact zf_kd4 (by assumption) | exact zw_kd1 (by assumption) | exact zw_kd2 (by assumption) | exact zw_kd3 (by assumption) | exact zw_kd4 (by assumption)) (by first | decide | exact zf_lt (by assumption) | exact zf_lt1 (by assumption) | exact zf_lt2 (by assumption) | exact zf_lt3 (by assumption) | exact zf_lt4 (by assumption) | exact zw_lt (by assumption) | exact zw_lt1 (by assumption) | exact zw_lt2 (by assumption) | exact zw_lt3 (by assumption) | exact zw_lt4 (by assumption) | exact zt_lt (by assumption)) (by first | omega | assumption) ?_
    refine ev_aload_n (q := 18) dX8_isMissing_17 rfl rfl ?_
    refine ev_getR (q := 21) (ci := 8) (f := 7) dX8_isMissing_18 rfl (by first | rfl | assumption | exact zf_kd (by assumption) | exact zw_kd (by assumption) | exact zt_kd (by assumption)) (by first | decide | exact zf_lt (by assumption) | exact zf_lt1 (by assumption) | exact zf_lt2 (by assumption) | exact zf_lt3 (by assumption) | exact zf_lt4 (by assumption) | exact zw_lt (by assumption) | exact zw_lt1 (by assumption) | exact zw_lt2 (by assumption) | exact zw_lt3 (by assumption) | exact zw_lt4 (by assumption) | exact zt_lt (by assumption)) (by decide) (by decide) lfRX8_17 rfl (by first | rfl | assumption | exact zf_p4 _ (by assumption) | exact zf_p5 _ (by assumption) | exact zf_p6 _ (by assumption) | exact zf_p7 _ (by assumption) | exact zw_p1 _ (by assumption) | exact zw_p2 _ (by assumption) | exact zw_p3 _ (by assumption) | exact zw_p4 _ (by assumption)) ?_
    refine ev_iload_n (q := 22) dX8_isMissing_21 rfl rfl ?_
    refine ev_ialdN (q := 23) dX8_isMissing_22 rfl (by first | rfl | assumption | exact zf_kd1 (by assumption) | exact zf_kd2 (by assumption) | exact zf_kd3 (by assumption) | exact zf_kd4 (by assumption) | exact zw_kd1 (by assumption) | exact zw_kd2 (by assumption) | exact zw_kd3 (by assumption) | exact zw_kd4 (by assumption)) (by first | decide | exact zf_lt (by assumption) | exact zf_lt1 (by assumption) | exact zf_lt2 (by assumption) | exact zf_lt3 (by assumption) | exact zf_lt4 (by assumption) | exact zw_lt (by assumption) | exact zw_lt1 (by assumption) | exact zw_lt2 (by assumption) | exact zw_lt3 (by assumption) | exact zw_lt4 (by assumption) | exact zt_lt (by assumption)) (by first | omega | assumption) ?_
    refine ev_icmp_eq (q := 26) (t := 30) dX8_isMissing_23 rfl (by decide) (fun h23 => ?_) (fun h23 => ?_)
    · have hw : (vW (zV I) p == vH (zV I) p) = true := by show (I 125 p == I 121 p) = true; simpa using h23
      refine ev_iconst (q := 31) (0 : Int32) dX8_isMissing_30 rfl (by decide) ?_
      refine ev_goto (t := 55) dX8_isMissing_31 (by decide) ?_
      exact ev_iret dX8_isMissing_55 rfl (by first | rfl | exact zb_nar _ | assumption) (⟨by unfold zMi; rw [ha]; first | (rw [if_pos rfl, hw]; rfl) | (rw [if_neg (by decide), hq]; rfl), rfl, rfl, rfl⟩)
    · have hw : (vW (zV I) p == vH (zV I) p) = false := by show (I 125 p == I 121 p) = false; simpa using h23
      refine ev_iconst (q := 27) (1 : Int32) dX8_isMissing_26 rfl (by decide) ?_
      refine ev_goto (t := 55) dX8_isMissing_27 (by decide) ?_
      exact ev_iret dX8_isMissing_55 rfl (by first | rfl | exact zb_nar _ | assumption) (⟨by unfold zMi; rw [ha]; first | (rw [if_pos rfl, hw]; rfl) | (rw [if_neg (by decide), hq]; rfl), rfl, rfl, rfl⟩)
set_option maxHeartbeats 4000000 in
set_option maxRecDepth 100000 in
theorem c_X8_isThere (G : zq_G) (fo : Bool) (I : zq_I) {p : Nat} (hp : p < 8)  : zq_Met G mX8_isThere 0 0 0 [.ref 119, .int (nI p)] 138 I (zPs fo) (zq_pu (some (.int (zb (zTh (zV I) p)))) 138 I (zPs fo)) := by
  refine zq_Met.of okX8_isThere (Nat.le_of_ble_eq_true rfl) ?_
  show zq_E _ _ _ _ _ _ _ [some (.ref 119), some (.int (nI p))] _ _ _ _ _
  refine ev_aload_n (q := 1) dX8_isThere_0 rfl rfl ?_
  refine ev_getR (q := 4) (ci := 8) (f := 13) dX8_isThere_1 rfl (by first | rfl | assumption | exact zf_kd (by assumption) | exact zw_kd (by assumption) | exact zt_kd (by assumption)) (by first | decide | exact zf_lt (by assumption) | exact zf_lt1 (by assumption) | exact zf_lt2 (by assumption) | exact zf_lt3 (by assumption) | exact zf_lt4 (by assumption) | exact zw_lt (by assumption) | exact zw_lt1 (by assumption) | exact zw_lt2 (by assumption) | exact zw_lt3 (by assumption) | exact zw_lt4 (by assumption) | exact zt_lt (by assumption)) (by decide) (by decide) lfRX8_35 rfl (by first | rfl | assumption | exact zf_p4 _ (by assumption) | exact zf_p5 _ (by assumption) | exact zf_p6 _ (by assumption) | exact zf_p7 _ (by assumption) | exact zw_p1 _ (by assumption) | exact zw_p2 _ (by assumption) | exact zw_p3 _ (by assumption) | exact zw_p4 _ (by assumption)) ?_
  refine ev_iload_n (q := 5) dX8_isThere_4 rfl rfl ?_
  refine ev_ialdN (q := 6) dX8_isThere_5 rfl (by first | rfl | assumption | exact zf_kd1 (by assumption) | exact zf_kd2 (by assumption) | exact zf_kd3 (by assumption) | exact zf_kd4 (by assumption) | exact zw_kd1 (by assumption) | exact zw_kd2 (by assumption) | exact zw_kd3 (by assumption) | exact zw_kd4 (by assumption)) (by first | decide | exact zf_lt (by assumption) | exact zf_lt1 (by assumption) | exact zf_lt2 (by assumption) | exact zf_lt3 (by assumption) | exact zf_lt4 (by assumption) | exact zw_lt (by assumption) | exact zw_lt1 (by assumption) | exact zw_lt2 (by assumption) | exact zw_lt3 (by assumption) | exact zw_lt4 (by assumption) | exact zt_lt (by assumption)) (by first | omega | assumption) ?_
  refine ev_bipush (q := 8) ((-9) : Int32) dX8_isThere_6 rfl (by decide) ?_
  refine ev_icmp_ne (q := 11) (t := 30) dX8_isThere_8 rfl (by decide) (fun h8 => ?_) (fun h8 => ?_)
  · have ha : zTh (zV I) p = false := by show ((I 127 p == -9) && _) = false; simp [h8]
    refine ev_iconst (q := 31) (0 : Int32) dX8_isThere_30 rfl (by decide) ?_
    exact ev_iret dX8_isThere_31 rfl (by first | rfl | exact zb_nar _ | assumption) (⟨by rw [ha]; rfl, rfl, rfl, rfl⟩)
  · refine ev_aload_n (q := 12) dX8_isThere_11 rfl rfl ?_
    refine ev_getR (q := 15) (ci := 8) (f := 11) dX8_isThere_12 rfl (by first | rfl | assumption | exact zf_kd (by assumption) | exact zw_kd (by assumption) | exact zt_kd (by assumption)) (by first | decide | exact zf_lt (by assumption) | exact zf_lt1 (by assumption) | exact zf_lt2 (by assumption) | exact zf_lt3 (by assumption) | exact zf_lt4 (by assumption) | exact zw_lt (by assumption) | exact zw_lt1 (by assumption) | exact zw_lt2 (by assumption) | exact zw_lt3 (by assumption) | exact zw_lt4 (by assumption) | exact zt_lt (by assumption)) (by decide) (by decide) lfRX8_29 rfl (by first | rfl | assumption | exact zf_p4 _ (by assumption) | exact zf_p5 _ (by assumption) | exact zf_p6 _ (by assumption) | exact zf_p7 _ (by assumption) | exact zw_p1 _ (by assumption) | exact zw_p2 _ (by assumption) | exact zw_p3 _ (by assumption) | exact zw_p4 _ (by assumption)) ?_
    refine ev_iload_n (q := 16) dX8_isThere_15 rfl rfl ?_
    refine ev_ialdN (q := 17) dX8_isThere_16 rfl (by first | rfl | assumption | exact zf_kd1 (by assumption) | exact zf_kd2 (by assumption) | exact zf_kd3 (by assumption) | exact zf_kd4 (by assumption) | exact zw_kd1 (by assumption) | exact zw_kd2 (by assumption) | exact zw_kd3 (by assumption) | exact zw_kd4 (by assumption)) (by first | decide | exact zf_lt (by assumption) | exact zf_lt1 (by assumption) | exact zf_lt2 (by assumption) | exact zf_lt3 (by assumption) | exact zf_lt4 (by assumption) | exact zw_lt (by assumption) | exact zw_lt1 (by assumption) | exact zw_lt2 (by assumption) | exact zw_lt3 (by assumption) | exact zw_lt4 (by assumption) | exact zt_lt (by assumption)) (by first | omega | assumption) ?_
    refine ev_aload_n (q := 18) dX8_isThere_17 rfl rfl ?_
    refine ev_getR (q := 21) (ci := 8) (f := 7) dX8_isThere_18 rfl (by first | rfl | assumption | exact zf_kd (by assumption) | exact zw_kd (by assumption) | exact zt_kd (by assumption)) (by first | decide | exact zf_lt (by assumption) | exact zf_lt1 (by assumption) | exact zf_lt2 (by assumption) | exact zf_lt3 (by assumption) | exact zf_lt4 (by assumption) | exact zw_lt (by assumption) | exact zw_lt1 (by assumption) | exact zw_lt2 (by assumption) | exact zw_lt3 (by assumption) | exact zw_lt4 (by assumption) | exact zt_lt (by assumption)) (by decide) (by decide) lfRX8_17 rfl (by first | rfl | assumption | exact zf_p4 _ (by assumption) | exact zf_p5 _ (by assumption) | exact zf_p6 _ (by assumption) | exact zf_p7 _ (by assumption) | exact zw_p1 _ (by assumption) | exact zw_p2 _ (by assumption) | exact zw_p3 _ (by assumption) | exact zw_p4 _ (by assumption)) ?_
    refine ev_iload_n (q := 22) dX8_isThere_21 rfl rfl ?_
    refine ev_ialdN (q := 23) dX8_isThere_22 rfl (by first | rfl | assumption | exact zf_kd1 (by assumption) | exact zf_kd2 (by assumption) | exact zf_kd3 (by assumption) | exact zf_kd4 (by assumption) | exact zw_kd1 (by assumption) | exact zw_kd2 (by assumption) | exact zw_kd3 (by assumption) | exact zw_kd4 (by assumption)) (by first | decide | exact zf_lt (by assumption) | exact zf_lt1 (by assumption) | exact zf_lt2 (by assumption) | exact zf_lt3 (by assumption) | exact zf_lt4 (by assumption) | exact zw_lt (by assumption) | exact zw_lt1 (by assumption) | exact zw_lt2 (by assumption) | exact zw_lt3 (by assumption) | exact zw_lt4 (by assumption) | exact zt_lt (by assumption)) (by first | omega | assumption) ?_
    refine ev_icmp_ne (q := 26) (t := 30) dX8_isThere_23 rfl (by decide) (fun h23 => ?_) (fun h23 => ?_)
    · have ha : zTh (zV I) p = false := by show ((I 127 p == -9) && (I 125 p == I 121 p)) = false; simp [h23]
      refine ev_iconst (q := 31) (0 : Int32) dX8_isThere_30 rfl (by decide) ?_
      exact ev_iret dX8_isThere_31 rfl (by first | rfl | exact zb_nar _ | assumption) (⟨by rw [ha]; rfl, rfl, rfl, rfl⟩)
    · have ha : zTh (zV I) p = true := by show ((I 127 p == -9) && (I 125 p == I 121 p)) = true; simp [h8, h23]
      refine ev_iconst (q := 27) (1 : Int32) dX8_isThere_26 rfl (by decide) ?_
      refine ev_goto (t := 31) dX8_isThere_27 (by decide) ?_
      exact ev_iret dX8_isThere_31 rfl (by first | rfl | exact zb_nar _ | assumption) (⟨by rw [ha]; rfl, rfl, rfl, rfl⟩)
set_option maxHeartbeats 4000000 in
set_option maxRecDepth 100000 in
theorem c_X8_remembers (G : zq_G) (fo : Bool) (I : zq_I) {p j : Nat} (hp : p < 8) (hj : j < 8) (y : Int32) : zq_Met G mX8_remembers 0 0 0 [.ref 119, .int (nI p), .int (nI j), .int y] 138 I (zPs fo) (zq_pu (some (.int (zb (zRe (zV I) p j y)))) 138 I (zPs fo)) := by
  refine zq_Met.of okX8_remembers (Nat.le_of_ble_eq_true rfl) ?_
  show zq_E _ _ _ _ _ _ _ [some (.ref 119), some (.int (nI p)), some (.int (nI j)), some (.int y)] _ _ _ _ _
  refine ev_iload_n (q := 1) dX8_remembers_0 rfl rfl ?_
  refine ev_aload_n (q := 2) dX8_remembers_1 rfl rfl ?_
  refine ev_getR (q := 5) (ci := 8) (f := 12) dX8_remembers_2 rfl (by first | rfl | assumption | exact zf_kd (by assumption) | exact zw_kd (by assumption) | exact zt_kd (by assumption)) (by first | decide | exact zf_lt (by assumption) | exact zf_lt1 (by assumption) | exact zf_lt2 (by assumption) | exact zf_lt3 (by assumption) | exact zf_lt4 (by assumption) | exact zw_lt (by assumption) | exact zw_lt1 (by assumption) | exact zw_lt2 (by assumption) | exact zw_lt3 (by assumption) | exact zw_lt4 (by assumption) | exact zt_lt (by assumption)) (by decide) (by decide) lfRX8_32 rfl (by first | rfl | assumption | exact zf_p4 _ (by assumption) | exact zf_p5 _ (by assumption) | exact zf_p6 _ (by assumption) | exact zf_p7 _ (by assumption) | exact zw_p1 _ (by assumption) | exact zw_p2 _ (by assumption) | exact zw_p3 _ (by assumption) | exact zw_p4 _ (by assumption)) ?_
  refine ev_iload_n (q := 6) dX8_remembers_5 rfl rfl ?_
  refine ev_ialdN (q := 7) dX8_remembers_6 rfl (by first | rfl | assumption | exact zf_kd1 (by assumption) | exact zf_kd2 (by assumption) | exact zf_kd3 (by assumption) | exact zf_kd4 (by assumption) | exact zw_kd1 (by assumption) | exact zw_kd2 (by assumption) | exact zw_kd3 (by assumption) | exact zw_kd4 (by assumption)) (by first | decide | exact zf_lt (by assumption) | exact zf_lt1 (by assumption) | exact zf_lt2 (by assumption) | exact zf_lt3 (by assumption) | exact zf_lt4 (by assumption) | exact zw_lt (by assumption) | exact zw_lt1 (by assumption) | exact zw_lt2 (by assumption) | exact zw_lt3 (by assumption) | exact zw_lt4 (by assumption) | exact zt_lt (by assumption)) (by first | omega | assumption) ?_
  refine ev_isub (q := 8) dX8_remembers_7 rfl ?_
  refine ev_aload_n (q := 9) dX8_remembers_8 rfl rfl ?_
  refine ev_getR (q := 12) (ci := 8) (f := 9) dX8_remembers_9 rfl (by first | rfl | assumption | exact zf_kd (by assumption) | exact zw_kd (by assumption) | exact zt_kd (by assumption)) (by first | decide | exact zf_lt (by assumption) | exact zf_lt1 (by assumption) | exact zf_lt2 (by assumption) | exact zf_lt3 (by assumption) | exact zf_lt4 (by assumption) | exact zw_lt (by assumption) | exact zw_lt1 (by assumption) | exact zw_lt2 (by assumption) | exact zw_lt3 (by assumption) | exact zw_lt4 (by assumption) | exact zt_lt (by assumption)) (by decide) (by decide) lfRX8_23 rfl (by first | rfl | assumption | exact zf_p4 _ (by assumption) | exact zf_p5 _ (by assumption) | exact zf_p6 _ (by assumption) | exact zf_p7 _ (by assumption) | exact zw_p1 _ (by assumption) | exact zw_p2 _ (by assumption) | exact zw_p3 _ (by assumption) | exact zw_p4 _ (by assumption)) ?_
  refine ev_iload_n (q := 13) dX8_remembers_12 rfl rfl ?_
  refine ev_ialdN (q := 14) dX8_remembers_13 rfl (by first | rfl | assumption | exact zf_kd1 (by assumption) | exact zf_kd2 (by assumption) | exact zf_kd3 (by assumption) | exact zf_kd4 (by assumption) | exact zw_kd1 (by assumption) | exact zw_kd2 (by assumption) | exact zw_kd3 (by assumption) | exact zw_kd4 (by assumption)) (by first | decide | exact zf_lt (by assumption) | exact zf_lt1 (by assumption) | exact zf_lt2 (by assumption) | exact zf_lt3 (by assumption) | exact zf_lt4 (by assumption) | exact zw_lt (by assumption) | exact zw_lt1 (by assumption) | exact zw_lt2 (by assumption) | exact zw_lt3 (by assumption) | exact zw_lt4 (by assumption) | exact zt_lt (by assumption)) (by first | omega | assumption) ?_
  refine ev_icmp_gt (q := 17) (t := 21) dX8_remembers_14 rfl (by decide) (fun h14 => ?_) (fun h14 => ?_)
  · have hq : zRe (zV I) p j y = false := decide_eq_false (Int32.not_le.mpr h14)
    refine ev_iconst (q := 22) (0 : Int32) dX8_remembers_21 rfl (by decide) ?_
    exact ev_iret dX8_remembers_22 rfl (by first | rfl | exact zb_nar _ | assumption) (⟨by rw [hq]; rfl, rfl, rfl, rfl⟩)
  · have hq : zRe (zV I) p j y = true := decide_eq_true (Int32.not_lt.mp h14)
    refine ev_iconst (q := 18) (1 : Int32) dX8_remembers_17 rfl (by decide) ?_
    refine ev_goto (t := 22) dX8_remembers_18 (by decide) ?_
    exact ev_iret dX8_remembers_22 rfl (by first | rfl | exact zb_nar _ | assumption) (⟨by rw [hq]; rfl, rfl, rfl, rfl⟩)
