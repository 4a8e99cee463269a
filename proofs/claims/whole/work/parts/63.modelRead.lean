/-- the model's reader -/
def zRdM (I : zq_I) : zpS → Prop
  | (_, _, l, T, N, M, H, A, K, S) => I 119 16 = nI l ∧ I 119 17 = nI T ∧ I 119 18 = nI N ∧ I 119 19 = nI M ∧ ∀ p, p < N → I 129 p = nI (H p) ∧ I 130 p = nI (A p) ∧ I 131 p = nI (K p) ∧ I 132 p = nI (S p)
def zpuM (I : zq_I) (b : Nat → Nat) (n : Nat) : Prop := n ≤ 80 ∧ I 119 2 = nI n ∧ ∀ j, j < n → I 120 j = nI (b j) ∧ b j < 256
theorem zpuM.of {I I' : zq_I} {b : Nat → Nat} {n : Nat} (h : zpuM I b n) (hf : zFM I I') : zpuM I' b n := ⟨h.1, by rw [hf.2 2 rfl]; exact h.2.1, by rw [hf.1 120 rfl]; exact h.2.2⟩
theorem zfgL {b c lo hi : Nat} (hb : b < 256) (hc : c ≤ 128) (hh : lo ≤ hi) (hi2 : hi ≤ 100) : (!decide (nI b - nI c < nI lo) && decide (nI b - nI c ≤ nI hi)) = decide (c + lo ≤ b ∧ b ≤ c + hi) := by
  by_cases h : c ≤ b
  · rw [pk_sub h, Bool.eq_iff_iff]
    simp only [Bool.and_eq_true, Bool.not_eq_true', decide_eq_true_eq, decide_eq_false_iff_not, nI_ltI (show b - c < 2 ^ 31 by omega) (show lo < 2 ^ 31 by omega), nI_leI (show b - c < 2 ^ 31 by omega) (show hi < 2 ^ 31 by omega)]
    constructor <;> intro h2 <;> omega
  · rw [decide_eq_true (show nI b - nI c < nI lo from Int32.lt_of_lt_of_le (pk_sneg (by omega) (by omega)) (nI_pos' (by omega))), Bool.not_true, Bool.false_and]
    exact (decide_eq_false (fun q => h (by omega))).symm
theorem zst4 {ak l T N M b : Nat} {H A K S : Nat → Nat} (h : 48 ≤ b ∧ b < 48 + T) : zpst (4, ak, l, T, N, M, H, A, K, S) b = some (5, ak, l, T, N, M, zup H N (b - 48), A, K, S) := by simp [zpst, h]
theorem zst4n {ak l T N M b : Nat} {H A K S : Nat → Nat} (h : ¬ (48 ≤ b ∧ b < 48 + T)) : zpst (4, ak, l, T, N, M, H, A, K, S) b = none := by simp only [zpst, if_neg h]; rfl
theorem zst5 {ak l T N M b : Nat} {H A K S : Nat → Nat} (h : 97 ≤ b ∧ b < 103) : zpst (5, ak, l, T, N, M, H, A, K, S) b = some (6, ak, l, T, N, M, H, zup A N (b - 97), K, S) := by simp [zpst, h]
theorem zst5n {ak l T N M b : Nat} {H A K S : Nat → Nat} (h : ¬ (97 ≤ b ∧ b < 103)) : zpst (5, ak, l, T, N, M, H, A, K, S) b = none := by simp only [zpst, if_neg h]; rfl
theorem zst6 {ak l T N M b : Nat} {H A K S : Nat → Nat} (h : 48 ≤ b ∧ b < 58) : zpst (6, ak, l, T, N, M, H, A, K, S) b = some (3, ak, l, T, N + 1, M, H, A, zup K N (b - 48), zup S N 0) := by simp [zpst, h]
theorem zst6n {ak l T N M b : Nat} {H A K S : Nat → Nat} (h : ¬ (48 ≤ b ∧ b < 58)) : zpst (6, ak, l, T, N, M, H, A, K, S) b = none := by simp only [zpst, if_neg h]; rfl
theorem zst7 {ak l T N M b : Nat} {H A K S : Nat → Nat} (h : 48 ≤ b ∧ b < 48 + N ∧ zpc (S (b - 48)) < N - 1) : zpst (7, ak, l, T, N, M, H, A, K, S) b = some (8, b - 48, l, T, N, M, H, A, K, S) := by simp [zpst, h]
theorem zst7n {ak l T N M b : Nat} {H A K S : Nat → Nat} (h : ¬ (48 ≤ b ∧ b < 48 + N ∧ zpc (S (b - 48)) < N - 1)) : zpst (7, ak, l, T, N, M, H, A, K, S) b = none := by simp only [zpst, if_neg h]; rfl
theorem zst8 {ak l T N M b : Nat} {H A K S : Nat → Nat} (h : 48 ≤ b ∧ b < 48 + N ∧ b - 48 ≠ ak ∧ (S ak).testBit (b - 48) = false) : zpst (8, ak, l, T, N, M, H, A, K, S) b = some (3, ak, l, T, N, M + 1, H, A, K, zup S ak (S ak ||| 2 ^ (b - 48))) := by simp [zpst, h]
theorem zst8n {ak l T N M b : Nat} {H A K S : Nat → Nat} (h : ¬ (48 ≤ b ∧ b < 48 + N ∧ b - 48 ≠ ak ∧ (S ak).testBit (b - 48) = false)) : zpst (8, ak, l, T, N, M, H, A, K, S) b = none := by simp only [zpst, if_neg h]; rfl
/-- a fault where the text ends or refuses -/
theorem zpF_bad {b : Nat → Nat} {k n : Nat} {s : zpS} (hz : zpR b k = some s) (hk : k ≤ n) (h3 : s.1 ≠ 3) (h : k < n → zpst s (b k) = none) : zpF b n = nI k := by
  by_cases hlt : k < n
  · exact zpF_no hz (h hlt) hlt
  · obtain rfl : k = n := by omega
    rw [zpF_at hz, if_neg h3]
set_option maxHeartbeats 4000000 in
set_option maxRecDepth 100000 in
theorem c_X8_figure (G : zq_G) (fo : Bool) (I : zq_I) {k n c lo hi : Nat} {b : Nat → Nat} (hb : zpuM I b n) (hk : I 119 3 = nI k) (hkn : k ≤ n) (hc : c ≤ 128) (hlo : lo ≤ hi) (hhi : hi ≤ 100) : zq_Met G mX8_figure 1 0 0 [.ref 119, .int (nI c), .int (nI lo), .int (nI hi)] 138 I (zPs fo) (fun v n' I' P' => n' = 138 ∧ P' = zPs fo ∧ ((k < n ∧ c + lo ≤ b k ∧ b k ≤ c + hi) → v = some (.int (nI (b k - c))) ∧ I' = zu I 119 3 (nI (k + 1))) ∧ (¬ (k < n ∧ c + lo ≤ b k ∧ b k ≤ c + hi) → v = some (.int (-9)) ∧ I' = I)) := by
  refine zq_Met.of okX8_figure (Nat.le_of_ble_eq_true rfl) ?_
  show zq_E _ _ _ _ _ _ _ [some (.ref 119), some (.int (nI c)), some (.int (nI lo)), some (.int (nI hi))] _ _ _ _ _
  have h80 := hb.1
  refine ev_aload_n (q := 1) dX8_figure_0 rfl rfl ?_
  refine ev_getI (q := 4) (ci := 8) (f := 3) dX8_figure_1 rfl (by first | rfl | assumption | exact zf_kd (by assumption) | exact zw_kd (by assumption) | exact zt_kd (by assumption)) (by first | decide | exact zf_lt (by assumption) | exact zf_lt1 (by assumption) | exact zf_lt2 (by assumption) | exact zf_lt3 (by assumption) | exact zf_lt4 (by assumption) | exact zw_lt (by assumption) | exact zw_lt1 (by assumption) | exact zw_lt2 (by assumption) | exact zw_lt3 (by assumption) | exact zw_lt4 (by assumption) | exact zt_lt (by assumption)) (by decide) (by decide) lfRX8_84 rfl ?_
  rw [hk]
  refine ev_aload_n (q := 5) dX8_figure_4 rfl rfl ?_
  refine ev_getI (q := 8) (ci := 8) (f := 2) dX8_figure_5 rfl (by first | rfl | assumption | exact zf_kd (by assumption) | exact zw_kd (by assumption) | exact zt_kd (by assumption)) (by first | decide | exact zf_lt (by assumption) | exact zf_lt1 (by assumption) | exact zf_lt2 (by assumption) | exact zf_lt3 (by assumption) | exact zf_lt4 (by assumption) | exact zw_lt (by assumption) | exact zw_lt1 (by assumption) | exact zw_lt2 (by assumption) | exact zw_lt3 (by assumption) | exact zw_lt4 (by assumption) | exact zt_lt (by assumption)) (by decide) (by decide) lfRX8_81 rfl ?_
  rw [hb.2.1]
  refine ev_icmp_eq (q := 11) (t := 33) dX8_figure_8 rfl (by decide) (fun h8 => ?_) (fun h8 => ?_)
  · have hkn2 : k = n := (nI_eq (by omega) (by omega)).mp h8
    refine ev_bipush (q := 35) ((-9) : Int32) dX8_figure_33 rfl (by decide) ?_
    exact ev_iret dX8_figure_35 rfl (by first | rfl | exact zb_nar _ | assumption) (⟨rfl, rfl, fun q => absurd q.1 (by omega), fun _ => ⟨rfl, rfl⟩⟩)
  · have hlt : k < n := by have : ¬ k = n := (fun q => h8 (by rw [q])); omega
    refine ev_aload_n (q := 12) dX8_figure_11 rfl rfl ?_
    refine ev_getR (q := 15) (ci := 8) (f := 1) dX8_figure_12 rfl (by first | rfl | assumption | exact zf_kd (by assumption) | exact zw_kd (by assumption) | exact zt_kd (by assumption)) (by first | decide | exact zf_lt (by assumption) | exact zf_lt1 (by assumption) | exact zf_lt2 (by assumption) | exact zf_lt3 (by assumption) | exact zf_lt4 (by assumption) | exact zw_lt (by assumption) | exact zw_lt1 (by assumption) | exact zw_lt2 (by assumption) | exact zw_lt3 (by assumption) | exact zw_lt4 (by assumption) | exact zt_lt (by assumption)) (by decide) (by decide) lfRX8_7 rfl (by first | rfl | assumption | exact zf_p4 _ (by assumption) | exact zf_p5 _ (by assumption) | exact zf_p6 _ (by assumption) | exact zf_p7 _ (by assumption) | exact zw_p1 _ (by assumption) | exact zw_p2 _ (by assumption) | exact zw_p3 _ (by assumption) | exact zw_p4 _ (by assumption)) ?_
    refine ev_aload_n (q := 16) dX8_figure_15 rfl rfl ?_
    refine ev_getI (q := 19) (ci := 8) (f := 3) dX8_figure_16 rfl (by first | rfl | assumption | exact zf_kd (by assumption) | exact zw_kd (by assumption) | exact zt_kd (by assumption)) (by first | decide | exact zf_lt (by assumption) | exact zf_lt1 (by assumption) | exact zf_lt2 (by assumption) | exact zf_lt3 (by assumption) | exact zf_lt4 (by assumption) | exact zw_lt (by assumption) | exact zw_lt1 (by assumption) | exact zw_lt2 (by assumption) | exact zw_lt3 (by assumption) | exact zw_lt4 (by assumption) | exact zt_lt (by assumption)) (by decide) (by decide) lfRX8_84 rfl ?_
    rw [hk]
    refine ev_ialdN (q := 20) dX8_figure_19 rfl rfl (by first | decide | exact zf_lt (by assumption) | exact zf_lt1 (by assumption) | exact zf_lt2 (by assumption) | exact zf_lt3 (by assumption) | exact zf_lt4 (by assumption) | exact zw_lt (by assumption) | exact zw_lt1 (by assumption) | exact zw_lt2 (by assumption) | exact zw_lt3 (by assumption) | exact zw_lt4 (by assumption) | exact zt_lt (by assumption)) (by first | omega | assumption) ?_
    rw [(hb.2.2 k hlt).1]
    refine ev_iload_n (q := 21) dX8_figure_20 rfl rfl ?_
    refine ev_isub (q := 22) dX8_figure_21 rfl ?_
    refine ev_i2l (q := 23) dX8_figure_22 rfl ?_
    refine ev_iload_n (q := 24) dX8_figure_23 rfl rfl ?_
    refine ev_i2l (q := 25) dX8_figure_24 rfl ?_
    refine ev_iload_n (q := 26) dX8_figure_25 rfl rfl ?_
    refine ev_i2l (q := 27) dX8_figure_26 rfl ?_
    refine ev_pS (q := 30) dX8_figure_27 rfl okX8_in lmRX8_75 smX8_in (c_X8_in G _ _ _ _ _ _) (by decide) rfl rfl (Nat.le_of_ble_eq_true rfl) ?_
    rw [zinL_c, zfgL (hb.2.2 k hlt).2 hc hlo hhi]
    refine ev_if_ne (q := 33) (t := 36) dX8_figure_30 rfl (by decide) (fun h30 => ?_) (fun h30 => ?_)
    · have hB := of_decide_eq_true (zb_ne h30)
      refine ev_aload_n (q := 37) dX8_figure_36 rfl rfl ?_
      refine ev_dup (q := 38) dX8_figure_37 rfl rfl ?_
      refine ev_getI (q := 41) (ci := 8) (f := 3) dX8_figure_38 rfl (by first | rfl | assumption | exact zf_kd (by assumption) | exact zw_kd (by assumption) | exact zt_kd (by assumption)) (by first | decide | exact zf_lt (by assumption) | exact zf_lt1 (by assumption) | exact zf_lt2 (by assumption) | exact zf_lt3 (by assumption) | exact zf_lt4 (by assumption) | exact zw_lt (by assumption) | exact zw_lt1 (by assumption) | exact zw_lt2 (by assumption) | exact zw_lt3 (by assumption) | exact zw_lt4 (by assumption) | exact zt_lt (by assumption)) (by decide) (by decide) lfRX8_84 rfl ?_
      rw [hk]
      refine ev_iconst (q := 42) (1 : Int32) dX8_figure_41 rfl (by decide) ?_
      refine ev_iadd (q := 43) dX8_figure_42 rfl ?_
      rw [nI_1]
      refine ev_putI (q := 46) (ci := 8) (f := 3) dX8_figure_43 rfl (by first | rfl | assumption | exact zf_kd (by assumption) | exact zw_kd (by assumption) | exact zt_kd (by assumption)) (by first | decide | exact zf_lt (by assumption) | exact zf_lt1 (by assumption) | exact zf_lt2 (by assumption) | exact zf_lt3 (by assumption) | exact zf_lt4 (by assumption) | exact zw_lt (by assumption) | exact zw_lt1 (by assumption) | exact zw_lt2 (by assumption) | exact zw_lt3 (by assumption) | exact zw_lt4 (by assumption) | exact zt_lt (by assumption)) (by decide) (by decide) lfRX8_84 rfl rfl rfl rfl ?_
      refine ev_aload_n (q := 47) dX8_figure_46 rfl rfl ?_
      refine ev_getR (q := 50) (ci := 8) (f := 1) dX8_figure_47 rfl (by first | rfl | assumption | exact zf_kd (by assumption) | exact zw_kd (by assumption) | exact zt_kd (by assumption)) (by first | decide | exact zf_lt (by assumption) | exact zf_lt1 (by assumption) | exact zf_lt2 (by assumption) | exact zf_lt3 (by assumption) | exact zf_lt4 (by assumption) | exact zw_lt (by assumption) | exact zw_lt1 (by assumption) | exact zw_lt2 (by assumption) | exact zw_lt3 (by assumption) | exact zw_lt4 (by assumption) | exact zt_lt (by assumption)) (by decide) (by decide) lfRX8_7 rfl (by first | rfl | assumption | exact zf_p4 _ (by assumption) | exact zf_p5 _ (by assumption) | exact zf_p6 _ (by assumption) | exact zf_p7 _ (by assumption) | exact zw_p1 _ (by assumption) | exact zw_p2 _ (by assumption) | exact zw_p3 _ (by assumption) | exact zw_p4 _ (by assumption)) ?_
      refine ev_aload_n (q := 51) dX8_figure_50 rfl rfl ?_
      refine ev_getI (q := 54) (ci := 8) (f := 3) dX8_figure_51 rfl (by first | rfl | assumption | exact zf_kd (by assumption) | exact zw_kd (by assumption) | exact zt_kd (by assumption)) (by first | decide | exact zf_lt (by assumption) | exact zf_lt1 (by assumption) | exact zf_lt2 (by assumption) | exact zf_lt3 (by assumption) | exact zf_lt4 (by assumption) | exact zw_lt (by assumption) | exact zw_lt1 (by assumption) | exact zw_lt2 (by assumption) | exact zw_lt3 (by assumption) | exact zw_lt4 (by assumption) | exact zt_lt (by assumption)) (by decide) (by decide) lfRX8_84 rfl ?_
      rw [zu_eq]
      refine ev_iconst (q := 55) (1 : Int32) dX8_figure_54 rfl (by decide) ?_
      refine ev_isub (q := 56) dX8_figure_55 rfl ?_
      rw [nI_pred]
      refine ev_ialdN (q := 57) dX8_figure_56 rfl rfl (by first | decide | exact zf_lt (by assumption) | exact zf_lt1 (by assumption) | exact zf_lt2 (by assumption) | exact zf_lt3 (by assumption) | exact zf_lt4 (by assumption) | exact zw_lt (by assumption) | exact zw_lt1 (by assumption) | exact zw_lt2 (by assumption) | exact zw_lt3 (by assumption) | exact zw_lt4 (by assumption) | exact zt_lt (by assumption)) (by first | omega | assumption) ?_
      rw [zu_other (by decide), (hb.2.2 k hlt).1]
      refine ev_iload_n (q := 58) dX8_figure_57 rfl rfl ?_
      refine ev_isub (q := 59) dX8_figure_58 rfl ?_
      rw [pk_sub (by omega)]
      exact ev_iret dX8_figure_59 rfl (by first | rfl | exact zb_nar _ | assumption) (⟨rfl, rfl, fun _ => ⟨rfl, rfl⟩, fun q => absurd ⟨hlt, hB⟩ q⟩)
    · have hB := of_decide_eq_false (zb_eq h30)
      refine ev_bipush (q := 35) ((-9) : Int32) dX8_figure_33 rfl (by decide) ?_
      exact ev_iret dX8_figure_35 rfl (by first | rfl | exact zb_nar _ | assumption) (⟨rfl, rfl, fun q => absurd q.2 hB, fun _ => ⟨rfl, rfl⟩⟩)
set_option maxHeartbeats 4000000 in
set_option maxRecDepth 100000 in
theorem c_X8_left (G : zq_G) (fo : Bool) (I : zq_I) {i N a : Nat} (hi : i < 8) (hN : I 119 18 = nI N) (ha : I 132 i = nI a) : zq_Met G mX8_left 0 0 0 [.ref 119, .int (nI i)] 138 I (zPs fo) (zq_pu (some (.int (zleft N i a))) 138 I (zPs fo)) := by
  refine zq_Met.of okX8_left (Nat.le_of_ble_eq_true rfl) ?_
  show zq_E _ _ _ _ _ _ _ [some (.ref 119), some (.int (nI i))] _ _ _ _ _
  refine ev_iconst (q := 1) (1 : Int32) dX8_left_0 rfl (by decide) ?_
  refine ev_aload_n (q := 2) dX8_left_1 rfl rfl ?_
  refine ev_getI (q := 5) (ci := 8) (f := 18) dX8_left_2 rfl (by first | rfl | assumption | exact zf_kd (by assumption) | exact zw_kd (by assumption) | exact zt_kd (by assumption)) (by first | decide | exact zf_lt (by assumption) | exact zf_lt1 (by assumption) | exact zf_lt2 (by assumption) | exact zf_lt3 (by assumption) | exact zf_lt4 (by assumption) | exact zw_lt (by assumption) | exact zw_lt1 (by assumption) | exact zw_lt2 (by assumption) | exact zw_lt3 (by assumption) | exact zw_lt4 (by assumption) | exact zt_lt (by assumption)) (by decide) (by decide) lfRX8_94 rfl ?_
  rw [hN]
  refine ev_ishl (q := 6) dX8_left_5 rfl ?_
  refine ev_iconst (q := 7) (1 : Int32) dX8_left_6 rfl (by decide) ?_
  refine ev_isub (q := 8) dX8_left_7 rfl ?_
  refine ev_iconst (q := 9) (1 : Int32) dX8_left_8 rfl (by decide) ?_
  refine ev_iload_n (q := 10) dX8_left_9 rfl rfl ?_
  refine ev_ishl (q := 11) dX8_left_10 rfl ?_
  refine ev_iconst (q := 12) ((-1) : Int32) dX8_left_11 rfl (by decide) ?_
  refine ev_ixor (q := 13) dX8_left_12 rfl ?_
  refine ev_iand (q := 14) dX8_left_13 rfl ?_
  refine ev_aload_n (q := 15) dX8_left_14 rfl rfl ?_
  refine ev_getR (q := 18) (ci := 8) (f := 23) dX8_left_15 rfl (by first | rfl | assumption | exact zf_kd (by assumption) | exact zw_kd (by assumption) | exact zt_kd (by assumption)) (by first | decide | exact zf_lt (by assumption) | exact zf_lt1 (by assumption) | exact zf_lt2 (by assumption) | exact zf_lt3 (by assumption) | exact zf_lt4 (by assumption) | exact zw_lt (by assumption) | exact zw_lt1 (by assumption) | exact zw_lt2 (by assumption) | exact zw_lt3 (by assumption) | exact zw_lt4 (by assumption) | exact zt_lt (by assumption)) (by decide) (by decide) lfRX8_50 rfl (by first | rfl | assumption | exact zf_p4 _ (by assumption) | exact zf_p5 _ (by assumption) | exact zf_p6 _ (by assumption) | exact zf_p7 _ (by assumption) | exact zw_p1 _ (by assumption) | exact zw_p2 _ (by assumption) | exact zw_p3 _ (by assumption) | exact zw_p4 _ (by assumption)) ?_
  refine ev_iload_n (q := 19) dX8_left_18 rfl rfl ?_
  refine ev_ialdN (q := 20) dX8_left_19 rfl rfl (by first | decide | exact zf_lt (by assumption) | exact zf_lt1 (by assumption) | exact zf_lt2 (by assumption) | exact zf_lt3 (by assumption) | exact zf_lt4 (by assumption) | exact zw_lt (by assumption) | exact zw_lt1 (by assumption) | exact zw_lt2 (by assumption) | exact zw_lt3 (by assumption) | exact zw_lt4 (by assumption) | exact zt_lt (by assumption)) (by first | omega | assumption) ?_
  rw [ha]
  refine ev_iconst (q := 21) ((-1) : Int32) dX8_left_20 rfl (by decide) ?_
  refine ev_ixor (q := 22) dX8_left_21 rfl ?_
  refine ev_iand (q := 23) dX8_left_22 rfl ?_
  exact ev_iret dX8_left_23 rfl (by first | rfl | exact zb_nar _ | assumption) (⟨rfl, rfl, rfl, rfl⟩)
set_option maxHeartbeats 4000000 in
set_option maxRecDepth 100000 in
theorem c_X8_hasLeft (G : zq_G) (fo : Bool) (I : zq_I) {N : Nat} {S : Nat → Nat} (hN8 : N ≤ 8) (hN : I 119 18 = nI N) (hS : ∀ p, p < N → I 132 p = nI (S p) ∧ S p < 2 ^ N ∧ (S p).testBit p = false) : zq_Met G mX8_hasLeft 1 0 0 [.ref 119] 138 I (zPs fo) (zq_pu (some (.int (zb (zany (fun i => decide (zpc (S i) < N - 1)) N)))) 138 I (zPs fo)) := by
  refine zq_Met.of okX8_hasLeft (Nat.le_of_ble_eq_true rfl) ?_
  show zq_E _ _ _ _ _ _ _ [some (.ref 119), none, none] _ _ _ _ _
  have lp4 : ∀ (k i : Nat) (bv : Int32), N + 1 ≤ i + k → i ≤ N → bv = zb (zany (fun i => decide (zpc (S i) < N - 1)) i) → zq_E G mX8_hasLeft 1 0 0 false 4 [some (.ref 119), some (.int bv), some (.int (nI i))] [] 138 I (zPs fo) (zq_pu (some (.int (zb (zany (fun i => decide (zpc (S i) < N - 1)) N)))) 138 I (zPs fo)) := by
    intro k
    induction k with
    | zero => intro i bv hk hi; exact absurd hk (by omega)
    | succ k ih =>
      intro i bv hk hi h0
      refine ev_iload_n (q := 5) dX8_hasLeft_4 rfl rfl ?_
      refine ev_aload_n (q := 6) dX8_hasLeft_5 rfl rfl ?_
      refine ev_getI (q := 9) (ci := 8) (f := 18) dX8_hasLeft_6 rfl (by first | rfl | assumption | exact zf_kd (by assumption) | exact zw_kd (by assumption) | exact zt_kd (by assumption)) (by first | decide | exact zf_lt (by assumption) | exact zf_lt1 (by assumption) | exact zf_lt2 (by assumption) | exact zf_lt3 (by assumption) | exact zf_lt4 (by assumption) | exact zw_lt (by assumption) | exact zw_lt1 (by assumption) | exact zw_lt2 (by assumption) | exact zw_lt3 (by assumption) | exact zw_lt4 (by assumption) | exact zt_lt (by assumption)) (by decide) (by decide) lfRX8_94 rfl ?_
      refine ev_icmp_ge (q := 12) (t := 36) dX8_hasLeft_9 rfl (by decide) (fun h9 => ?_) (fun h9 => ?_)
      · obtain rfl : i = N := by rw [hN, nI_leI (by omega) (by omega)] at h9; omega
        refine ev_iload_n (q := 37) dX8_hasLeft_36 rfl rfl ?_
        rw [h0]
        exact ev_iret dX8_hasLeft_37 rfl (by first | rfl | exact zb_nar _ | assumption) (⟨rfl, rfl, rfl, rfl⟩)
      · have hlt_i : i < N := by rw [hN, nI_leI (by omega) (by omega)] at h9; omega
        obtain ⟨q1, q2, q3⟩ := hS i hlt_i
        have hz0 := zleft_0 (show N < 9 by omega) hlt_i q2 q3
        refine ev_iload_n (q := 13) dX8_hasLeft_12 rfl rfl ?_
        refine ev_if_ne (q := 16) (t := 24) dX8_hasLeft_13 rfl (by decide) (fun h13 => ?_) (fun h13 => ?_)
        · refine ev_iconst (q := 25) (1 : Int32) dX8_hasLeft_24 rfl (by decide) ?_
          refine ev_goto (t := 29) dX8_hasLeft_25 (by decide) ?_
          refine ev_istore_nL (q := 30) (L9 := [_, _, _]) dX8_hasLeft_29 rfl (by decide) rfl rfl ?_
          refine ev_iincL (q := 33) (L9 := [_, _, _]) (1 : Int32) dX8_hasLeft_30 rfl rfl (by decide) (by decide) rfl rfl ?_
          refine ev_goto (t := 4) dX8_hasLeft_33 (by decide) ?_
          rw [nI_1]
          exact ih (i + 1) _ (by omega) (by omega) (by rw [zany, zb_ne (show ¬ zb (zany (fun i => decide (zpc (S i) < N - 1)) i) = 0 by rw [← h0]; exact h13), Bool.true_or]; rfl)
        · refine ev_aload_n (q := 17) dX8_hasLeft_16 rfl rfl ?_
          refine ev_iload_n (q := 18) dX8_hasLeft_17 rfl rfl ?_
          refine ev_pV (q := 21) (ci := 8) dX8_hasLeft_18 rfl okX8_left lmRX8_97 imX8_left seX8_left (by first | rfl | assumption | exact zf_kd (by assumption) | exact zw_kd (by assumption) | exact zt_kd (by assumption)) (by first | decide | exact zf_lt (by assumption) | exact zf_lt1 (by assumption) | exact zf_lt2 (by assumption) | exact zf_lt3 (by assumption) | exact zf_lt4 (by assumption) | exact zw_lt (by assumption) | exact zw_lt1 (by assumption) | exact zw_lt2 (by assumption) | exact zw_lt3 (by assumption) | exact zw_lt4 (by assumption) | exact zt_lt (by assumption)) (by decide) rfl (c_X8_left G fo I (by omega) hN q1) (by decide) rfl rfl (Nat.le_of_ble_eq_true rfl) ?_
          refine ev_if_eq (q := 24) (t := 28) dX8_hasLeft_21 rfl (by decide) (fun h21 => ?_) (fun h21 => ?_)
          · refine ev_iconst (q := 29) (0 : Int32) dX8_hasLeft_28 rfl (by decide) ?_
            refine ev_istore_nL (q := 30) (L9 := [_, _, _]) dX8_hasLeft_29 rfl (by decide) rfl rfl ?_
            refine ev_iincL (q := 33) (L9 := [_, _, _]) (1 : Int32) dX8_hasLeft_30 rfl rfl (by decide) (by decide) rfl rfl ?_
            refine ev_goto (t := 4) dX8_hasLeft_33 (by decide) ?_
            rw [nI_1]
            exact ih (i + 1) _ (by omega) (by omega) (by rw [zany, zb_eq (show zb (zany (fun i => decide (zpc (S i) < N - 1)) i) = 0 by rw [← h0]; exact h13), decide_eq_false (hz0.1.mp h21)]; rfl)
          · refine ev_iconst (q := 25) (1 : Int32) dX8_hasLeft_24 rfl (by decide) ?_
            refine ev_goto (t := 29) dX8_hasLeft_25 (by decide) ?_
            refine ev_istore_nL (q := 30) (L9 := [_, _, _]) dX8_hasLeft_29 rfl (by decide) rfl rfl ?_
            refine ev_iincL (q := 33) (L9 := [_, _, _]) (1 : Int32) dX8_hasLeft_30 rfl rfl (by decide) (by decide) rfl rfl ?_
            refine ev_goto (t := 4) dX8_hasLeft_33 (by decide) ?_
            rw [nI_1]
            exact ih (i + 1) _ (by omega) (by omega) (by rw [zany, zb_eq (show zb (zany (fun i => decide (zpc (S i) < N - 1)) i) = 0 by rw [← h0]; exact h13), decide_eq_true (Classical.not_not.mp (mt hz0.1.mpr h21))]; rfl)
  refine ev_iconst (q := 1) (0 : Int32) dX8_hasLeft_0 rfl (by decide) ?_
  refine ev_istore_nL (q := 2) (L9 := [_, _, _]) dX8_hasLeft_1 rfl (by decide) rfl rfl ?_
  refine ev_iconst (q := 3) (0 : Int32) dX8_hasLeft_2 rfl (by decide) ?_
  refine ev_istore_nL (q := 4) (L9 := [_, _, _]) dX8_hasLeft_3 rfl (by decide) rfl rfl ?_
  exact lp4 (N + 1) 0 _ (by omega) (by omega) rfl
def zprt (b : Nat → Nat) (n k : Nat) (fo : Bool) (I : zq_I) : zq_R := fun v n' I' P' => n' = 138 ∧ P' = zPs fo ∧ zFM I I' ∧ ∃ (k' : Nat) (r : Bool), v = some (.int (zb r)) ∧ I' 119 3 = nI k' ∧ (r = false → zpF b n = nI k' ∧ k' ≤ n) ∧ (r = true → k < k' ∧ k' ≤ n ∧ ∃ s', zpR b k' = some s' ∧ s'.1 = 3 ∧ zRdM I' s')
set_option maxHeartbeats 4000000 in
set_option maxRecDepth 100000 in
theorem c_X8_readPerson (G : zq_G) (fo : Bool) (I : zq_I) {k n ak l T N M : Nat} {H A K S : Nat → Nat} {b : Nat → Nat} (hb : zpuM I b n) (hk : I 119 3 = nI k) (hkn : k ≤ n) (hz : zpR b k = some (4, ak, l, T, N, M, H, A, K, S)) (hr : zRdM I (4, ak, l, T, N, M, H, A, K, S)) : zq_Met G mX8_readPerson 2 0 0 [.ref 119] 138 I (zPs fo) (zprt b n k fo I) := by
  refine zq_Met.of okX8_readPerson (Nat.le_of_ble_eq_true rfl) ?_
  show zq_E _ _ _ _ _ _ _ [some (.ref 119), none, none, none] _ _ _ _ _
  obtain ⟨r1, r2, r3, r4, r5⟩ := hr
  have hok := zpR_ok _ _ hz
  obtain ⟨c1, c2, c3, c4, c5, c6, c7, c8, c9, c10, c11, c12, c13, c14⟩ := hok
  have h80 := hb.1
  have hN := c7 (by omega)
  refine ev_aload_n (q := 1) dX8_readPerson_0 rfl rfl ?_
  refine ev_bipush (q := 3) (nI 48 : Int32) dX8_readPerson_1 rfl (by decide) ?_
  refine ev_iconst (q := 4) (nI 0 : Int32) dX8_readPerson_3 rfl (by decide) ?_
  refine ev_aload_n (q := 5) dX8_readPerson_4 rfl rfl ?_
  refine ev_getI (q := 8) (ci := 8) (f := 17) dX8_readPerson_5 rfl (by first | rfl | assumption | exact zf_kd (by assumption) | exact zw_kd (by assumption) | exact zt_kd (by assumption)) (by first | decide | exact zf_lt (by assumption) | exact zf_lt1 (by assumption) | exact zf_lt2 (by assumption) | exact zf_lt3 (by assumption) | exact zf_lt4 (by assumption) | exact zw_lt (by assumption) | exact zw_lt1 (by assumption) | exact zw_lt2 (by assumption) | exact zw_lt3 (by assumption) | exact zw_lt4 (by assumption) | exact zt_lt (by assumption)) (by decide) (by decide) lfRX8_87 rfl ?_
  rw [r2]
  refine ev_iconst (q := 9) (nI 1 : Int32) dX8_readPerson_8 rfl (by decide) ?_
  refine ev_isub (q := 10) dX8_readPerson_9 rfl ?_
  rw [pk_sub c3]
  refine ev_cV (q := 13) (ci := 8) dX8_readPerson_10 rfl okX8_figure lmRX8_90 imX8_figure seX8_figure (by first | rfl | assumption | exact zf_kd (by assumption) | exact zw_kd (by assumption) | exact zt_kd (by assumption)) (by first | decide | exact zf_lt (by assumption) | exact zf_lt1 (by assumption) | exact zf_lt2 (by assumption) | exact zf_lt3 (by assumption) | exact zf_lt4 (by assumption) | exact zw_lt (by assumption) | exact zw_lt1 (by assumption) | exact zw_lt2 (by assumption) | exact zw_lt3 (by assumption) | exact zw_lt4 (by assumption) | exact zt_lt (by assumption)) (by decide) rfl (c_X8_figure G fo I hb hk hkn (by omega) (by omega) (by omega)) (by decide) rfl rfl (Nat.le_of_ble_eq_true rfl) (fun v10 n10 I10 P10 hR10 => ?_)
  obtain ⟨rfl, rfl, hg, hng⟩ := hR10
  by_cases hA : k < n ∧ 48 + 0 ≤ b k ∧ b k ≤ 48 + (T - 1)
  · obtain ⟨rfl, hI1⟩ := hg hA
    have hFM1 : zFM I I10 := by rw [hI1]; exact zFM.rf.zu 119 3 _ rfl
    have h13 : I10 119 3 = nI (k + 1) := by rw [hI1, zu_eq]
    have hb1 := (hb.2.2 k (by omega)).2
    have hz1 : zpR b (k + 1) = some (5, ak, l, T, N, M, zup H N (b k - 48), A, K, S) := by
      rw [zpR_s hz]; exact zst4 (by omega)
    have d1 : I10 119 16 = nI l := by rw [hI1, zu_nn (by omega)]; exact r1
    have d2 : I10 119 17 = nI T := by rw [hI1, zu_nn (by omega)]; exact r2
    have d3 : I10 119 18 = nI N := by rw [hI1, zu_nn (by omega)]; exact r3
    have d4 : I10 119 19 = nI M := by rw [hI1, zu_nn (by omega)]; exact r4
    have d5 : ∀ p, p < N → I10 129 p = nI (H p) ∧ I10 130 p = nI (A p) ∧ I10 131 p = nI (K p) ∧ I10 132 p = nI (S p) := fun p hp => by rw [hI1, zu_other (by decide), zu_other (by decide), zu_other (by decide), zu_other (by decide)]; exact r5 p hp
    refine ev_istore_nL (q := 14) (L9 := [_, _, _, _]) dX8_readPerson_13 rfl (by decide) rfl rfl ?_
    refine ev_iload_n (q := 15) dX8_readPerson_14 rfl rfl ?_
    refine ev_bipush (q := 17) ((-9) : Int32) dX8_readPerson_15 rfl (by decide) ?_
    refine ev_icmp_ne (q := 20) (t := 25) dX8_readPerson_17 rfl (by decide) (fun h17 => ?_) (fun h17 => ?_)
    · refine ev_aload_n (q := 26) dX8_readPerson_25 rfl rfl ?_
      refine ev_bipush (q := 28) (nI 97 : Int32) dX8_readPerson_26 rfl (by decide) ?_
      refine ev_iconst (q := 29) (nI 0 : Int32) dX8_readPerson_28 rfl (by decide) ?_
      refine ev_iconst (q := 30) (nI 5 : Int32) dX8_readPerson_29 rfl (by decide) ?_
      refine ev_cV (q := 33) (ci := 8) dX8_readPerson_30 rfl okX8_figure lmRX8_90 imX8_figure seX8_figure (by first | rfl | assumption | exact zf_kd (by assumption) | exact zw_kd (by assumption) | exact zt_kd (by assumption)) (by first | decide | exact zf_lt (by assumption) | exact zf_lt1 (by assumption) | exact zf_lt2 (by assumption) | exact zf_lt3 (by assumption) | exact zf_lt4 (by assumption) | exact zw_lt (by assumption) | exact zw_lt1 (by assumption) | exact zw_lt2 (by assumption) | exact zw_lt3 (by assumption) | exact zw_lt4 (by assumption) | exact zt_lt (by assumption)) (by decide) rfl (c_X8_figure G fo I10 (hb.of hFM1) h13 (show k + 1 ≤ n by omega) (by omega) (by omega) (by omega)) (by decide) rfl rfl (Nat.le_of_ble_eq_true rfl) (fun v30 n30 I30 P30 hR30 => ?_)
      obtain ⟨rfl, rfl, hg, hng⟩ := hR30
      by_cases hB : k + 1 < n ∧ 97 + 0 ≤ b (k + 1) ∧ b (k + 1) ≤ 97 + 5
      · obtain ⟨rfl, hI2⟩ := hg hB
        have hFM2 : zFM I I30 := by rw [hI2]; exact hFM1.zu 119 3 _ rfl
        have h23 : I30 119 3 = nI (k + 2) := by rw [hI2, zu_eq]
        have hb2 := (hb.2.2 (k + 1) (by omega)).2
        have hz2 : zpR b (k + 2) = some (6, ak, l, T, N, M, zup H N (b k - 48), zup A N (b (k + 1) - 97), K, S) := by
          rw [zpR_s hz1]; exact zst5 (by omega)
        have e1 : I30 119 16 = nI l := by rw [hI2, zu_nn (by omega)]; exact d1
        have e2 : I30 119 17 = nI T := by rw [hI2, zu_nn (by omega)]; exact d2
        have e3 : I30 119 18 = nI N := by rw [hI2, zu_nn (by omega)]; exact d3
        have e4 : I30 119 19 = nI M := by rw [hI2, zu_nn (by omega)]; exact d4
        have e5 : ∀ p, p < N → I30 129 p = nI (H p) ∧ I30 130 p = nI (A p) ∧ I30 131 p = nI (K p) ∧ I30 132 p = nI (S p) := fun p hp => by rw [hI2, zu_other (by decide), zu_other (by decide), zu_other (by decide), zu_other (by decide)]; exact d5 p hp
        refine ev_istore_nL (q := 34) (L9 := [_, _, _, _]) dX8_readPerson_33 rfl (by decide) rfl rfl ?_
        refine ev_iload_n (q := 35) dX8_readPerson_34 rfl rfl ?_
        refine ev_bipush (q := 37) ((-9) : Int32) dX8_readPerson_35 rfl (by decide) ?_
        refine ev_icmp_ne (q := 40) (t := 45) dX8_readPerson_37 rfl (by decide) (fun h37 => ?_) (fun h37 => ?_)
        · refine ev_aload_n (q := 46) dX8_readPerson_45 rfl rfl ?_
          refine ev_bipush (q := 48) (nI 48 : Int32) dX8_readPerson_46 rfl (by decide) ?_
          refine ev_iconst (q := 49) (nI 0 : Int32) dX8_readPerson_48 rfl (by decide) ?_
          refine ev_bipush (q := 51) (nI 9 : Int32) dX8_readPerson_49 rfl (by decide) ?_
          refine ev_cV (q := 54) (ci := 8) dX8_readPerson_51 rfl okX8_figure lmRX8_90 imX8_figure seX8_figure (by first | rfl | assumption | exact zf_kd (by assumption) | exact zw_kd (by assumption) | exact zt_kd (by assumption)) (by first | decide | exact zf_lt (by assumption) | exact zf_lt1 (by assumption) | exact zf_lt2 (by assumption) | exact zf_lt3 (by assumption) | exact zf_lt4 (by assumption) | exact zw_lt (by assumption) | exact zw_lt1 (by assumption) | exact zw_lt2 (by assumption) | exact zw_lt3 (by assumption) | exact zw_lt4 (by assumption) | exact zt_lt (by assumption)) (by decide) rfl (c_X8_figure G fo I30 (hb.of hFM2) h23 (show k + 2 ≤ n by omega) (by omega) (by omega) (by omega)) (by decide) rfl rfl (Nat.le_of_ble_eq_true rfl) (fun v51 n51 I51 P51 hR51 => ?_)
          obtain ⟨rfl, rfl, hg, hng⟩ := hR51
          by_cases hC : k + 2 < n ∧ 48 + 0 ≤ b (k + 2) ∧ b (k + 2) ≤ 48 + 9
          · obtain ⟨rfl, hI3⟩ := hg hC
            have hFM3 : zFM I I51 := by rw [hI3]; exact hFM2.zu 119 3 _ rfl
            have h33 : I51 119 3 = nI (k + 3) := by rw [hI3, zu_eq]
            have hb3 := (hb.2.2 (k + 2) (by omega)).2
            have hz3 : zpR b (k + 3) = some (3, ak, l, T, N + 1, M, zup H N (b k - 48), zup A N (b (k + 1) - 97), zup K N (b (k + 2) - 48), zup S N 0) := by
              rw [zpR_s hz2]; exact zst6 (by omega)
            obtain ⟨I3, eI3⟩ : ∃ I3, I3 = I51 := ⟨_, rfl⟩
            rw [← eI3] at hFM3 h33 ⊢
            have g1 : I3 119 16 = nI l := by rw [eI3, hI3, zu_nn (by omega)]; exact e1
            have g2 : I3 119 17 = nI T := by rw [eI3, hI3, zu_nn (by omega)]; exact e2
            have g3 : I3 119 18 = nI N := by rw [eI3, hI3, zu_nn (by omega)]; exact e3
            have g4 : I3 119 19 = nI M := by rw [eI3, hI3, zu_nn (by omega)]; exact e4
            have g5 : ∀ p, p < N → I3 129 p = nI (H p) ∧ I3 130 p = nI (A p) ∧ I3 131 p = nI (K p) ∧ I3 132 p = nI (S p) := fun p hp => by rw [eI3, hI3, zu_other (by decide), zu_other (by decide), zu_other (by decide), zu_other (by decide)]; exact e5 p hp
            refine ev_istore_nL (q := 55) (L9 := [_, _, _, _]) dX8_readPerson_54 rfl (by decide) rfl rfl ?_
            refine ev_iload_n (q := 56) dX8_readPerson_55 rfl rfl ?_
            refine ev_bipush (q := 58) ((-9) : Int32) dX8_readPerson_56 rfl (by decide) ?_
            refine ev_icmp_ne (q := 61) (t := 63) dX8_readPerson_58 rfl (by decide) (fun h58 => ?_) (fun h58 => ?_)
            · refine ev_aload_n (q := 64) dX8_readPerson_63 rfl rfl ?_
              refine ev_getR (q := 67) (ci := 8) (f := 20) dX8_readPerson_64 rfl (by first | rfl | assumption | exact zf_kd (by assumption) | exact zw_kd (by assumption) | exact zt_kd (by assumption)) (by first | decide | exact zf_lt (by assumption) | exact zf_lt1 (by assumption) | exact zf_lt2 (by assumption) | exact zf_lt3 (by assumption) | exact zf_lt4 (by assumption) | exact zw_lt (by assumption) | exact zw_lt1 (by assumption) | exact zw_lt2 (by assumption) | exact zw_lt3 (by assumption) | exact zw_lt4 (by assumption) | exact zt_lt (by assumption)) (by decide) (by decide) lfRX8_41 rfl (by first | rfl | assumption | exact zf_p4 _ (by assumption) | exact zf_p5 _ (by assumption) | exact zf_p6 _ (by assumption) | exact zf_p7 _ (by assumption) | exact zw_p1 _ (by assumption) | exact zw_p2 _ (by assumption) | exact zw_p3 _ (by assumption) | exact zw_p4 _ (by assumption)) ?_
              refine ev_aload_n (q := 68) dX8_readPerson_67 rfl rfl ?_
              refine ev_getI (q := 71) (ci := 8) (f := 18) dX8_readPerson_68 rfl (by first | rfl | assumption | exact zf_kd (by assumption) | exact zw_kd (by assumption) | exact zt_kd (by assumption)) (by first | decide | exact zf_lt (by assumption) | exact zf_lt1 (by assumption) | exact zf_lt2 (by assumption) | exact zf_lt3 (by assumption) | exact zf_lt4 (by assumption) | exact zw_lt (by assumption) | exact zw_lt1 (by assumption) | exact zw_lt2 (by assumption) | exact zw_lt3 (by assumption) | exact zw_lt4 (by assumption) | exact zt_lt (by assumption)) (by decide) (by decide) lfRX8_94 rfl ?_
              rw [g3]
              refine ev_iload_n (q := 72) dX8_readPerson_71 rfl rfl ?_
              refine ev_iastN (q := 73) dX8_readPerson_72 rfl rfl (by first | decide | exact zf_lt (by assumption) | exact zf_lt1 (by assumption) | exact zf_lt2 (by assumption) | exact zf_lt3 (by assumption) | exact zf_lt4 (by assumption) | exact zw_lt (by assumption) | exact zw_lt1 (by assumption) | exact zw_lt2 (by assumption) | exact zw_lt3 (by assumption) | exact zw_lt4 (by assumption) | exact zt_lt (by assumption)) (by first | omega | assumption) ?_
              refine ev_aload_n (q := 74) dX8_readPerson_73 rfl rfl ?_
              refine ev_getR (q := 77) (ci := 8) (f := 21) dX8_readPerson_74 rfl (by first | rfl | assumption | exact zf_kd (by assumption) | exact zw_kd (by assumption) | exact zt_kd (by assumption)) (by first | decide | exact zf_lt (by assumption) | exact zf_lt1 (by assumption) | exact zf_lt2 (by assumption) | exact zf_lt3 (by assumption) | exact zf_lt4 (by assumption) | exact zw_lt (by assumption) | exact zw_lt1 (by assumption) | exact zw_lt2 (by assumption) | exact zw_lt3 (by assumption) | exact zw_lt4 (by assumption) | exact zt_lt (by assumption)) (by decide) (by decide) lfRX8_44 rfl (by first | rfl | assumption | exact zf_p4 _ (by assumption) | exact zf_p5 _ (by assumption) | exact zf_p6 _ (by assumption) | exact zf_p7 _ (by assumption) | exact zw_p1 _ (by assumption) | exact zw_p2 _ (by assumption) | exact zw_p3 _ (by assumption) | exact zw_p4 _ (by assumption)) ?_
              refine ev_aload_n (q := 78) dX8_readPerson_77 rfl rfl ?_
              refine ev_getI (q := 81) (ci := 8) (f := 18) dX8_readPerson_78 rfl (by first | rfl | assumption | exact zf_kd (by assumption) | exact zw_kd (by assumption) | exact zt_kd (by assumption)) (by first | decide | exact zf_lt (by assumption) | exact zf_lt1 (by assumption) | exact zf_lt2 (by assumption) | exact zf_lt3 (by assumption) | exact zf_lt4 (by assumption) | exact zw_lt (by assumption) | exact zw_lt1 (by assumption) | exact zw_lt2 (by assumption) | exact zw_lt3 (by assumption) | exact zw_lt4 (by assumption) | exact zt_lt (by assumption)) (by decide) (by decide) lfRX8_94 rfl ?_
              rw [zu_nn (by omega), g3]
              refine ev_iload_n (q := 82) dX8_readPerson_81 rfl rfl ?_
              refine ev_iastN (q := 83) dX8_readPerson_82 rfl rfl (by first | decide | exact zf_lt (by assumption) | exact zf_lt1 (by assumption) | exact zf_lt2 (by assumption) | exact zf_lt3 (by assumption) | exact zf_lt4 (by assumption) | exact zw_lt (by assumption) | exact zw_lt1 (by assumption) | exact zw_lt2 (by assumption) | exact zw_lt3 (by assumption) | exact zw_lt4 (by assumption) | exact zt_lt (by assumption)) (by first | omega | assumption) ?_
              refine ev_aload_n (q := 84) dX8_readPerson_83 rfl rfl ?_
              refine ev_getR (q := 87) (ci := 8) (f := 22) dX8_readPerson_84 rfl (by first | rfl | assumption | exact zf_kd (by assumption) | exact zw_kd (by assumption) | exact zt_kd (by assumption)) (by first | decide | exact zf_lt (by assumption) | exact zf_lt1 (by assumption) | exact zf_lt2 (by assumption) | exact zf_lt3 (by assumption) | exact zf_lt4 (by assumption) | exact zw_lt (by assumption) | exact zw_lt1 (by assumption) | exact zw_lt2 (by assumption) | exact zw_lt3 (by assumption) | exact zw_lt4 (by assumption) | exact zt_lt (by assumption)) (by decide) (by decide) lfRX8_47 rfl (by first | rfl | assumption | exact zf_p4 _ (by assumption) | exact zf_p5 _ (by assumption) | exact zf_p6 _ (by assumption) | exact zf_p7 _ (by assumption) | exact zw_p1 _ (by assumption) | exact zw_p2 _ (by assumption) | exact zw_p3 _ (by assumption) | exact zw_p4 _ (by assumption)) ?_
              refine ev_aload_n (q := 88) dX8_readPerson_87 rfl rfl ?_
              refine ev_getI (q := 91) (ci := 8) (f := 18) dX8_readPerson_88 rfl (by first | rfl | assumption | exact zf_kd (by assumption) | exact zw_kd (by assumption) | exact zt_kd (by assumption)) (by first | decide | exact zf_lt (by assumption) | exact zf_lt1 (by assumption) | exact zf_lt2 (by assumption) | exact zf_lt3 (by assumption) | exact zf_lt4 (by assumption) | exact zw_lt (by assumption) | exact zw_lt1 (by assumption) | exact zw_lt2 (by assumption) | exact zw_lt3 (by assumption) | exact zw_lt4 (by assumption) | exact zt_lt (by assumption)) (by decide) (by decide) lfRX8_94 rfl ?_
              rw [zu_nn (by omega), zu_nn (by omega), g3]
              refine ev_iload_n (q := 92) dX8_readPerson_91 rfl rfl ?_
              refine ev_iastN (q := 93) dX8_readPerson_92 rfl rfl (by first | decide | exact zf_lt (by assumption) | exact zf_lt1 (by assumption) | exact zf_lt2 (by assumption) | exact zf_lt3 (by assumption) | exact zf_lt4 (by assumption) | exact zw_lt (by assumption) | exact zw_lt1 (by assumption) | exact zw_lt2 (by assumption) | exact zw_lt3 (by assumption) | exact zw_lt4 (by assumption) | exact zt_lt (by assumption)) (by first | omega | assumption) ?_
              refine ev_aload_n (q := 94) dX8_readPerson_93 rfl rfl ?_
              refine ev_getR (q := 97) (ci := 8) (f := 23) dX8_readPerson_94 rfl (by first | rfl | assumption | exact zf_kd (by assumption) | exact zw_kd (by assumption) | exact zt_kd (by assumption)) (by first | decide | exact zf_lt (by assumption) | exact zf_lt1 (by assumption) | exact zf_lt2 (by assumption) | exact zf_lt3 (by assumption) | exact zf_lt4 (by assumption) | exact zw_lt (by assumption) | exact zw_lt1 (by assumption) | exact zw_lt2 (by assumption) | exact zw_lt3 (by assumption) | exact zw_lt4 (by assumption) | exact zt_lt (by assumption)) (by decide) (by decide) lfRX8_50 rfl (by first | rfl | assumption | exact zf_p4 _ (by assumption) | exact zf_p5 _ (by assumption) | exact zf_p6 _ (by assumption) | exact zf_p7 _ (by assumption) | exact zw_p1 _ (by assumption) | exact zw_p2 _ (by assumption) | exact zw_p3 _ (by assumption) | exact zw_p4 _ (by assumption)) ?_
              refine ev_aload_n (q := 98) dX8_readPerson_97 rfl rfl ?_
              refine ev_getI (q := 101) (ci := 8) (f := 18) dX8_readPerson_98 rfl (by first | rfl | assumption | exact zf_kd (by assumption) | exact zw_kd (by assumption) | exact zt_kd (by assumption)) (by first | decide | exact zf_lt (by assumption) | exact zf_lt1 (by assumption) | exact zf_lt2 (by assumption) | exact zf_lt3 (by assumption) | exact zf_lt4 (by assumption) | exact zw_lt (by assumption) | exact zw_lt1 (by assumption) | exact zw_lt2 (by assumption) | exact zw_lt3 (by assumption) | exact zw_lt4 (by assumption) | exact zt_lt (by assumption)) (by decide) (by decide) lfRX8_94 rfl ?_
              rw [zu_nn (by omega), zu_nn (by omega), zu_nn (by omega), g3]
              refine ev_iconst (q := 102) (0 : Int32) dX8_readPerson_101 rfl (by decide) ?_
              refine ev_iastN (q := 103) dX8_readPerson_102 rfl rfl (by first | decide | exact zf_lt (by assumption) | exact zf_lt1 (by assumption) | exact zf_lt2 (by assumption) | exact zf_lt3 (by assumption) | exact zf_lt4 (by assumption) | exact zw_lt (by assumption) | exact zw_lt1 (by assumption) | exact zw_lt2 (by assumption) | exact zw_lt3 (by assumption) | exact zw_lt4 (by assumption) | exact zt_lt (by assumption)) (by first | omega | assumption) ?_
              refine ev_aload_n (q := 104) dX8_readPerson_103 rfl rfl ?_
              refine ev_dup (q := 105) dX8_readPerson_104 rfl rfl ?_
              refine ev_getI (q := 108) (ci := 8) (f := 18) dX8_readPerson_105 rfl (by first | rfl | assumption | exact zf_kd (by assumption) | exact zw_kd (by assumption) | exact zt_kd (by assumption)) (by first | decide | exact zf_lt (by assumption) | exact zf_lt1 (by assumption) | exact zf_lt2 (by assumption) | exact zf_lt3 (by assumption) | exact zf_lt4 (by assumption) | exact zw_lt (by assumption) | exact zw_lt1 (by assumption) | exact zw_lt2 (by assumption) | exact zw_lt3 (by assumption) | exact zw_lt4 (by assumption) | exact zt_lt (by assumption)) (by decide) (by decide) lfRX8_94 rfl ?_
              rw [zu_nn (by omega), zu_nn (by omega), zu_nn (by omega), zu_nn (by omega), g3]
              refine ev_iconst (q := 109) (1 : Int32) dX8_readPerson_108 rfl (by decide) ?_
              refine ev_iadd (q := 110) dX8_readPerson_109 rfl ?_
              rw [nI_1]
              refine ev_putI (q := 113) (ci := 8) (f := 18) dX8_readPerson_110 rfl (by first | rfl | assumption | exact zf_kd (by assumption) | exact zw_kd (by assumption) | exact zt_kd (by assumption)) (by first | decide | exact zf_lt (by assumption) | exact zf_lt1 (by assumption) | exact zf_lt2 (by assumption) | exact zf_lt3 (by assumption) | exact zf_lt4 (by assumption) | exact zw_lt (by assumption) | exact zw_lt1 (by assumption) | exact zw_lt2 (by assumption) | exact zw_lt3 (by assumption) | exact zw_lt4 (by assumption) | exact zt_lt (by assumption)) (by decide) (by decide) lfRX8_94 rfl rfl rfl rfl ?_
              refine ev_iconst (q := 114) (1 : Int32) dX8_readPerson_113 rfl (by decide) ?_
              have hq1 : zu (zu (zu (zu (zu I3 129 N (nI (b k - 48))) 130 N (nI (b (k + 1) - 97))) 131 N (nI (b (k + 2) - 48))) 132 N 0) 119 18 (nI (N + 1)) 119 16 = nI l := by rw [zu_nn (by omega), zu_nn (by omega), zu_nn (by omega), zu_nn (by omega), zu_nn (by omega)]; exact g1
              have hq2 : zu (zu (zu (zu (zu I3 129 N (nI (b k - 48))) 130 N (nI (b (k + 1) - 97))) 131 N (nI (b (k + 2) - 48))) 132 N 0) 119 18 (nI (N + 1)) 119 17 = nI T := by rw [zu_nn (by omega), zu_nn (by omega), zu_nn (by omega), zu_nn (by omega), zu_nn (by omega)]; exact g2
              have hq3 : zu (zu (zu (zu (zu I3 129 N (nI (b k - 48))) 130 N (nI (b (k + 1) - 97))) 131 N (nI (b (k + 2) - 48))) 132 N 0) 119 18 (nI (N + 1)) 119 18 = nI (N + 1) := zu_eq
              have hq4 : zu (zu (zu (zu (zu I3 129 N (nI (b k - 48))) 130 N (nI (b (k + 1) - 97))) 131 N (nI (b (k + 2) - 48))) 132 N 0) 119 18 (nI (N + 1)) 119 19 = nI M := by rw [zu_nn (by omega), zu_nn (by omega), zu_nn (by omega), zu_nn (by omega), zu_nn (by omega)]; exact g4
              exact ev_iret dX8_readPerson_114 rfl (by first | rfl | exact zb_nar _ | assumption) (⟨rfl, rfl, ((((hFM3.zu 129 N _ rfl).zu 130 N _ rfl).zu 131 N _ rfl).zu 132 N _ rfl).zu 119 18 _ rfl, k + 3, true, rfl, by rw [zu_nn (by omega), zu_nn (by omega), zu_nn (by omega), zu_nn (by omega), zu_nn (by omega)]; exact h33, fun q => Bool.noConfusion q, fun _ => ⟨by omega, by omega, _, hz3, rfl, ⟨hq1, hq2, hq3, hq4, fun p hp => by
                by_cases hpN : p = N
                · subst hpN
                  exact ⟨by rw [zu_nn (by omega), zu_nn (by omega), zu_nn (by omega), zu_nn (by omega), zu_eq, zup_eq], by rw [zu_nn (by omega), zu_nn (by omega), zu_nn (by omega), zu_eq, zup_eq], by rw [zu_nn (by omega), zu_nn (by omega), zu_eq, zup_eq], by rw [zu_nn (by omega), zu_eq, zup_eq]; rfl⟩
                · have hp2 : p < N := by omega
                  obtain ⟨t1, t2, t3, t4⟩ := g5 p hp2
                  exact ⟨by rw [zu_nn (by omega), zu_nn (by omega), zu_nn (by omega), zu_nn (by omega), zu_nn (by omega), zup_ne hpN]; exact t1, by rw [zu_nn (by omega), zu_nn (by omega), zu_nn (by omega), zu_nn (by omega), zu_nn (by omega), zup_ne hpN]; exact t2, by rw [zu_nn (by omega), zu_nn (by omega), zu_nn (by omega), zu_nn (by omega), zu_nn (by omega), zup_ne hpN]; exact t3, by rw [zu_nn (by omega), zu_nn (by omega), zu_nn (by omega), zu_nn (by omega), zu_nn (by omega), zup_ne hpN]; exact t4⟩⟩⟩⟩)
            · exact absurd h58 (nI_n9 (by omega))
          · obtain ⟨rfl, hI9⟩ := hng hC
            obtain rfl := hI9.symm
            have hF : zpF b n = nI (k + 2) := zpF_bad hz2 (by omega) (by simp) (fun hlt => zst6n (by omega))
            refine ev_istore_nL (q := 55) (L9 := [_, _, _, _]) dX8_readPerson_54 rfl (by decide) rfl rfl ?_
            refine ev_iload_n (q := 56) dX8_readPerson_55 rfl rfl ?_
            refine ev_bipush (q := 58) ((-9) : Int32) dX8_readPerson_56 rfl (by decide) ?_
            refine ev_icmp_ne (q := 61) (t := 63) dX8_readPerson_58 rfl (by decide) (fun h58 => ?_) (fun h58 => ?_)
            · exact absurd rfl h58
            · refine ev_iconst (q := 62) (0 : Int32) dX8_readPerson_61 rfl (by decide) ?_
              exact ev_iret dX8_readPerson_62 rfl (by first | rfl | exact zb_nar _ | assumption) (⟨rfl, rfl, hFM2, (k + 2), false, rfl, h23, fun _ => ⟨hF, by omega⟩, fun q => Bool.noConfusion q⟩)
        · exact absurd h37 (nI_n9 (by omega))
      · obtain ⟨rfl, hI9⟩ := hng hB
        obtain rfl := hI9.symm
        have hF : zpF b n = nI (k + 1) := zpF_bad hz1 (by omega) (by simp) (fun hlt => zst5n (by omega))
        refine ev_istore_nL (q := 34) (L9 := [_, _, _, _]) dX8_readPerson_33 rfl (by decide) rfl rfl ?_
        refine ev_iload_n (q := 35) dX8_readPerson_34 rfl rfl ?_
        refine ev_bipush (q := 37) ((-9) : Int32) dX8_readPerson_35 rfl (by decide) ?_
        refine ev_icmp_ne (q := 40) (t := 45) dX8_readPerson_37 rfl (by decide) (fun h37 => ?_) (fun h37 => ?_)
        · exact absurd rfl h37
        · refine ev_bipush (q := 42) ((-9) : Int32) dX8_readPerson_40 rfl (by decide) ?_
          refine ev_goto (t := 54) dX8_readPerson_42 (by decide) ?_
          refine ev_istore_nL (q := 55) (L9 := [_, _, _, _]) dX8_readPerson_54 rfl (by decide) rfl rfl ?_
          refine ev_iload_n (q := 56) dX8_readPerson_55 rfl rfl ?_
          refine ev_bipush (q := 58) ((-9) : Int32) dX8_readPerson_56 rfl (by decide) ?_
          refine ev_icmp_ne (q := 61) (t := 63) dX8_readPerson_58 rfl (by decide) (fun h58 => ?_) (fun h58 => ?_)
          · exact absurd rfl h58
          · refine ev_iconst (q := 62) (0 : Int32) dX8_readPerson_61 rfl (by decide) ?_
            exact ev_iret dX8_readPerson_62 rfl (by first | rfl | exact zb_nar _ | assumption) (⟨rfl, rfl, hFM1, (k + 1), false, rfl, h13, fun _ => ⟨hF, by omega⟩, fun q => Bool.noConfusion q⟩)
    · exact absurd h17 (nI_n9 (by omega))
  · obtain ⟨rfl, hI9⟩ := hng hA
    obtain rfl := hI9.symm
    have hF : zpF b n = nI k := zpF_bad hz hkn (by simp) (fun hlt => zst4n (by omega))
    refine ev_istore_nL (q := 14) (L9 := [_, _, _, _]) dX8_readPerson_13 rfl (by decide) rfl rfl ?_
    refine ev_iload_n (q := 15) dX8_readPerson_14 rfl rfl ?_
    refine ev_bipush (q := 17) ((-9) : Int32) dX8_readPerson_15 rfl (by decide) ?_
    refine ev_icmp_ne (q := 20) (t := 25) dX8_readPerson_17 rfl (by decide) (fun h17 => ?_) (fun h17 => ?_)
    · exact absurd rfl h17
    · refine ev_bipush (q := 22) ((-9) : Int32) dX8_readPerson_20 rfl (by decide) ?_
      refine ev_goto (t := 33) dX8_readPerson_22 (by decide) ?_
      refine ev_istore_nL (q := 34) (L9 := [_, _, _, _]) dX8_readPerson_33 rfl (by decide) rfl rfl ?_
      refine ev_iload_n (q := 35) dX8_readPerson_34 rfl rfl ?_
      refine ev_bipush (q := 37) ((-9) : Int32) dX8_readPerson_35 rfl (by decide) ?_
      refine ev_icmp_ne (q := 40) (t := 45) dX8_readPerson_37 rfl (by decide) (fun h37 => ?_) (fun h37 => ?_)
      · exact absurd rfl h37
      · refine ev_bipush (q := 42) ((-9) : Int32) dX8_readPerson_40 rfl (by decide) ?_
        refine ev_goto (t := 54) dX8_readPerson_42 (by decide) ?_
        refine ev_istore_nL (q := 55) (L9 := [_, _, _, _]) dX8_readPerson_54 rfl (by decide) rfl rfl ?_
        refine ev_iload_n (q := 56) dX8_readPerson_55 rfl rfl ?_
        refine ev_bipush (q := 58) ((-9) : Int32) dX8_readPerson_56 rfl (by decide) ?_
        refine ev_icmp_ne (q := 61) (t := 63) dX8_readPerson_58 rfl (by decide) (fun h58 => ?_) (fun h58 => ?_)
        · exact absurd rfl h58
        · refine ev_iconst (q := 62) (0 : Int32) dX8_readPerson_61 rfl (by decide) ?_
          exact ev_iret dX8_readPerson_62 rfl (by first | rfl | exact zb_nar _ | assumption) (⟨rfl, rfl, zFM.rf, k, false, rfl, hk, fun _ => ⟨hF, by omega⟩, fun q => Bool.noConfusion q⟩)
set_option maxHeartbeats 4000000 in
set_option maxRecDepth 100000 in
theorem c_X8_readAsk (G : zq_G) (fo : Bool) (I : zq_I) {k n ak l T N M : Nat} {H A K S : Nat → Nat} {b : Nat → Nat} (hb : zpuM I b n) (hk : I 119 3 = nI k) (hkn : k ≤ n) (hz : zpR b k = some (7, ak, l, T, N, M, H, A, K, S)) (hr : zRdM I (7, ak, l, T, N, M, H, A, K, S)) : zq_Met G mX8_readAsk 2 0 0 [.ref 119] 138 I (zPs fo) (zprt b n k fo I) := by
  refine zq_Met.of okX8_readAsk (Nat.le_of_ble_eq_true rfl) ?_
  show zq_E _ _ _ _ _ _ _ [some (.ref 119), none, none] _ _ _ _ _
  obtain ⟨r1, r2, r3, r4, r5⟩ := hr
  have hok := zpR_ok _ _ hz
  obtain ⟨c1, c2, c3, c4, c5, c6, c7, c8, c9, c10, c11, c12, c13, c14⟩ := hok
  have h80 := hb.1
  refine ev_aload_n (q := 1) dX8_readAsk_0 rfl rfl ?_
  refine ev_getI (q := 4) (ci := 8) (f := 3) dX8_readAsk_1 rfl (by first | rfl | assumption | exact zf_kd (by assumption) | exact zw_kd (by assumption) | exact zt_kd (by assumption)) (by first | decide | exact zf_lt (by assumption) | exact zf_lt1 (by assumption) | exact zf_lt2 (by assumption) | exact zf_lt3 (by assumption) | exact zf_lt4 (by assumption) | exact zw_lt (by assumption) | exact zw_lt1 (by assumption) | exact zw_lt2 (by assumption) | exact zw_lt3 (by assumption) | exact zw_lt4 (by assumption) | exact zt_lt (by assumption)) (by decide) (by decide) lfRX8_84 rfl ?_
  rw [hk]
  refine ev_aload_n (q := 5) dX8_readAsk_4 rfl rfl ?_
  refine ev_getI (q := 8) (ci := 8) (f := 2) dX8_readAsk_5 rfl (by first | rfl | assumption | exact zf_kd (by assumption) | exact zw_kd (by assumption) | exact zt_kd (by assumption)) (by first | decide | exact zf_lt (by assumption) | exact zf_lt1 (by assumption) | exact zf_lt2 (by assumption) | exact zf_lt3 (by assumption) | exact zf_lt4 (by assumption) | exact zw_lt (by assumption) | exact zw_lt1 (by assumption) | exact zw_lt2 (by assumption) | exact zw_lt3 (by assumption) | exact zw_lt4 (by assumption) | exact zt_lt (by assumption)) (by decide) (by decide) lfRX8_81 rfl ?_
  rw [hb.2.1]
  refine ev_icmp_ge (q := 11) (t := 26) dX8_readAsk_8 rfl (by decide) (fun h8 => ?_) (fun h8 => ?_)
  · rw [nI_leI (by omega) (by omega)] at h8
    have hF : zpF b n = nI k := zpF_bad hz hkn (by simp) (fun q => absurd q (by omega))
    refine ev_bipush (q := 28) ((-9) : Int32) dX8_readAsk_26 rfl (by decide) ?_
    refine ev_istore_nL (q := 29) (L9 := [_, _, _]) dX8_readAsk_28 rfl (by decide) rfl rfl ?_
    refine ev_iload_n (q := 30) dX8_readAsk_29 rfl rfl ?_
    refine ev_i2l (q := 31) dX8_readAsk_30 rfl ?_
    refine ev_lconst (q := 32) (0 : Int64) dX8_readAsk_31 rfl (by decide) ?_
    refine ev_aload_n (q := 33) dX8_readAsk_32 rfl rfl ?_
    refine ev_getI (q := 36) (ci := 8) (f := 18) dX8_readAsk_33 rfl (by first | rfl | assumption | exact zf_kd (by assumption) | exact zw_kd (by assumption) | exact zt_kd (by assumption)) (by first | decide | exact zf_lt (by assumption) | exact zf_lt1 (by assumption) | exact zf_lt2 (by assumption) | exact zf_lt3 (by assumption) | exact zf_lt4 (by assumption) | exact zw_lt (by assumption) | exact zw_lt1 (by assumption) | exact zw_lt2 (by assumption) | exact zw_lt3 (by assumption) | exact zw_lt4 (by assumption) | exact zt_lt (by assumption)) (by decide) (by decide) lfRX8_94 rfl ?_
    rw [r3]
    refine ev_iconst (q := 37) (1 : Int32) dX8_readAsk_36 rfl (by decide) ?_
    refine ev_isub (q := 38) dX8_readAsk_37 rfl ?_
    refine ev_i2l (q := 39) dX8_readAsk_38 rfl ?_
    refine ev_pS (q := 42) dX8_readAsk_39 rfl okX8_in lmRX8_75 smX8_in (c_X8_in G _ _ _ _ _ _) (by decide) rfl rfl (Nat.le_of_ble_eq_true rfl) ?_
    rw [zinL_n (by omega), (show zin (-9) (nI N) = false by unfold zin; rw [decide_eq_true (show (-9 : Int32) < 0 by decide)]; rfl)]
    refine ev_if_eq (q := 45) (t := 53) dX8_readAsk_42 rfl (by decide) (fun h42 => ?_) (fun h42 => ?_)
    · refine ev_iconst (q := 54) (0 : Int32) dX8_readAsk_53 rfl (by decide) ?_
      exact ev_iret dX8_readAsk_54 rfl (by first | rfl | exact zb_nar _ | assumption) (⟨rfl, rfl, zFM.rf, k, false, rfl, hk, fun _ => ⟨hF, by omega⟩, fun q => Bool.noConfusion q⟩)
    · exact absurd rfl h42
  · have hlt0 : k < n := by rw [nI_leI (by omega) (by omega)] at h8; omega
    have hb0 := (hb.2.2 k hlt0).2
    refine ev_aload_n (q := 12) dX8_readAsk_11 rfl rfl ?_
    refine ev_getR (q := 15) (ci := 8) (f := 1) dX8_readAsk_12 rfl (by first | rfl | assumption | exact zf_kd (by assumption) | exact zw_kd (by assumption) | exact zt_kd (by assumption)) (by first | decide | exact zf_lt (by assumption) | exact zf_lt1 (by assumption) | exact zf_lt2 (by assumption) | exact zf_lt3 (by assumption) | exact zf_lt4 (by assumption) | exact zw_lt (by assumption) | exact zw_lt1 (by assumption) | exact zw_lt2 (by assumption) | exact zw_lt3 (by assumption) | exact zw_lt4 (by assumption) | exact zt_lt (by assumption)) (by decide) (by decide) lfRX8_7 rfl (by first | rfl | assumption | exact zf_p4 _ (by assumption) | exact zf_p5 _ (by assumption) | exact zf_p6 _ (by assumption) | exact zf_p7 _ (by assumption) | exact zw_p1 _ (by assumption) | exact zw_p2 _ (by assumption) | exact zw_p3 _ (by assumption) | exact zw_p4 _ (by assumption)) ?_
    refine ev_aload_n (q := 16) dX8_readAsk_15 rfl rfl ?_
    refine ev_getI (q := 19) (ci := 8) (f := 3) dX8_readAsk_16 rfl (by first | rfl | assumption | exact zf_kd (by assumption) | exact zw_kd (by assumption) | exact zt_kd (by assumption)) (by first | decide | exact zf_lt (by assumption) | exact zf_lt1 (by assumption) | exact zf_lt2 (by assumption) | exact zf_lt3 (by assumption) | exact zf_lt4 (by assumption) | exact zw_lt (by assumption) | exact zw_lt1 (by assumption) | exact zw_lt2 (by assumption) | exact zw_lt3 (by assumption) | exact zw_lt4 (by assumption) | exact zt_lt (by assumption)) (by decide) (by decide) lfRX8_84 rfl ?_
    rw [hk]
    refine ev_ialdN (q := 20) dX8_readAsk_19 rfl rfl (by first | decide | exact zf_lt (by assumption) | exact zf_lt1 (by assumption) | exact zf_lt2 (by assumption) | exact zf_lt3 (by assumption) | exact zf_lt4 (by assumption) | exact zw_lt (by assumption) | exact zw_lt1 (by assumption) | exact zw_lt2 (by assumption) | exact zw_lt3 (by assumption) | exact zw_lt4 (by assumption) | exact zt_lt (by assumption)) (by first | omega | assumption) ?_
    rw [(hb.2.2 k hlt0).1]
    refine ev_bipush (q := 22) (nI 48 : Int32) dX8_readAsk_20 rfl (by decide) ?_
    refine ev_isub (q := 23) dX8_readAsk_22 rfl ?_
    refine ev_goto (t := 28) dX8_readAsk_23 (by decide) ?_
    refine ev_istore_nL (q := 29) (L9 := [_, _, _]) dX8_readAsk_28 rfl (by decide) rfl rfl ?_
    refine ev_iload_n (q := 30) dX8_readAsk_29 rfl rfl ?_
    refine ev_i2l (q := 31) dX8_readAsk_30 rfl ?_
    refine ev_lconst (q := 32) (0 : Int64) dX8_readAsk_31 rfl (by decide) ?_
    refine ev_aload_n (q := 33) dX8_readAsk_32 rfl rfl ?_
    refine ev_getI (q := 36) (ci := 8) (f := 18) dX8_readAsk_33 rfl (by first | rfl | assumption | exact zf_kd (by assumption) | exact zw_kd (by assumption) | exact zt_kd (by assumption)) (by first | decide | exact zf_lt (by assumption) | exact zf_lt1 (by assumption) | exact zf_lt2 (by assumption) | exact zf_lt3 (by assumption) | exact zf_lt4 (by assumption) | exact zw_lt (by assumption) | exact zw_lt1 (by assumption) | exact zw_lt2 (by assumption) | exact zw_lt3 (by assumption) | exact zw_lt4 (by assumption) | exact zt_lt (by assumption)) (by decide) (by decide) lfRX8_94 rfl ?_
    rw [r3]
    refine ev_iconst (q := 37) (1 : Int32) dX8_readAsk_36 rfl (by decide) ?_
    refine ev_isub (q := 38) dX8_readAsk_37 rfl ?_
    refine ev_i2l (q := 39) dX8_readAsk_38 rfl ?_
    refine ev_pS (q := 42) dX8_readAsk_39 rfl okX8_in lmRX8_75 smX8_in (c_X8_in G _ _ _ _ _ _) (by decide) rfl rfl (Nat.le_of_ble_eq_true rfl) ?_
    rw [zinL_n (by omega)]
    refine ev_if_eq (q := 45) (t := 53) dX8_readAsk_42 rfl (by decide) (fun h42 => ?_) (fun h42 => ?_)
    · refine ev_iconst (q := 54) (0 : Int32) dX8_readAsk_53 rfl (by decide) ?_
      have hF : zpF b n = nI k := zpF_bad hz hkn (by simp) (fun _ => zst7n (fun q => absurd (zb_eq h42) (by rw [zin48 hb0 (by omega) (by omega), decide_eq_true ⟨q.1, q.2.1⟩]; decide)))
      exact ev_iret dX8_readAsk_54 rfl (by first | rfl | exact zb_nar _ | assumption) (⟨rfl, rfl, zFM.rf, k, false, rfl, hk, fun _ => ⟨hF, by omega⟩, fun q => Bool.noConfusion q⟩)
    · have hi : 48 ≤ b k ∧ b k < 48 + N := by have q := zb_ne h42; rw [zin48 hb0 (by omega) (by omega)] at q; exact of_decide_eq_true q
      rw [pk_sub hi.1]
      obtain ⟨-, -, -, u4, u5⟩ := c14 (b k - 48) (by omega)
      have hlz := zleft_0 (show N < 9 by omega) (show b k - 48 < N by omega) u4 u5
      refine ev_aload_n (q := 46) dX8_readAsk_45 rfl rfl ?_
      refine ev_iload_n (q := 47) dX8_readAsk_46 rfl rfl ?_
      refine ev_pV (q := 50) (ci := 8) dX8_readAsk_47 rfl okX8_left lmRX8_97 imX8_left seX8_left (by first | rfl | assumption | exact zf_kd (by assumption) | exact zw_kd (by assumption) | exact zt_kd (by assumption)) (by first | decide | exact zf_lt (by assumption) | exact zf_lt1 (by assumption) | exact zf_lt2 (by assumption) | exact zf_lt3 (by assumption) | exact zf_lt4 (by assumption) | exact zw_lt (by assumption) | exact zw_lt1 (by assumption) | exact zw_lt2 (by assumption) | exact zw_lt3 (by assumption) | exact zw_lt4 (by assumption) | exact zt_lt (by assumption)) (by decide) rfl (c_X8_left G fo I (by omega) r3 (r5 _ (by omega)).2.2.2) (by decide) rfl rfl (Nat.le_of_ble_eq_true rfl) ?_
      refine ev_if_ne (q := 53) (t := 55) dX8_readAsk_50 rfl (by decide) (fun h50 => ?_) (fun h50 => ?_)
      · have hz1 : zpR b (k + 1) = some (8, b k - 48, l, T, N, M, H, A, K, S) := by
          rw [zpR_s hz]; exact zst7 ⟨hi.1, hi.2, Classical.not_not.mp (mt hlz.1.mpr h50)⟩
        refine ev_aload_n (q := 56) dX8_readAsk_55 rfl rfl ?_
        refine ev_dup (q := 57) dX8_readAsk_56 rfl rfl ?_
        refine ev_getI (q := 60) (ci := 8) (f := 3) dX8_readAsk_57 rfl (by first | rfl | assumption | exact zf_kd (by assumption) | exact zw_kd (by assumption) | exact zt_kd (by assumption)) (by first | decide | exact zf_lt (by assumption) | exact zf_lt1 (by assumption) | exact zf_lt2 (by assumption) | exact zf_lt3 (by assumption) | exact zf_lt4 (by assumption) | exact zw_lt (by assumption) | exact zw_lt1 (by assumption) | exact zw_lt2 (by assumption) | exact zw_lt3 (by assumption) | exact zw_lt4 (by assumption) | exact zt_lt (by assumption)) (by decide) (by decide) lfRX8_84 rfl ?_
        rw [hk]
        refine ev_iconst (q := 61) (1 : Int32) dX8_readAsk_60 rfl (by decide) ?_
        refine ev_iadd (q := 62) dX8_readAsk_61 rfl ?_
        rw [nI_1]
        refine ev_putI (q := 65) (ci := 8) (f := 3) dX8_readAsk_62 rfl (by first | rfl | assumption | exact zf_kd (by assumption) | exact zw_kd (by assumption) | exact zt_kd (by assumption)) (by first | decide | exact zf_lt (by assumption) | exact zf_lt1 (by assumption) | exact zf_lt2 (by assumption) | exact zf_lt3 (by assumption) | exact zf_lt4 (by assumption) | exact zw_lt (by assumption) | exact zw_lt1 (by assumption) | exact zw_lt2 (by assumption) | exact zw_lt3 (by assumption) | exact zw_lt4 (by assumption) | exact zt_lt (by assumption)) (by decide) (by decide) lfRX8_84 rfl rfl rfl rfl ?_
        obtain ⟨I1, hI1⟩ : ∃ I1, I1 = zu I 119 3 (nI (k + 1)) := ⟨_, rfl⟩
        rw [← hI1]
        have hFM1 : zFM I I1 := by rw [hI1]; exact zFM.rf.zu 119 3 _ rfl
        have h13 : I1 119 3 = nI (k + 1) := by rw [hI1, zu_eq]
        have d1 : I1 119 16 = nI l := by rw [hI1, zu_nn (by omega)]; exact r1
        have d2 : I1 119 17 = nI T := by rw [hI1, zu_nn (by omega)]; exact r2
        have d3 : I1 119 18 = nI N := by rw [hI1, zu_nn (by omega)]; exact r3
        have d4 : I1 119 19 = nI M := by rw [hI1, zu_nn (by omega)]; exact r4
        have d5 : ∀ p, p < N → I1 129 p = nI (H p) ∧ I1 130 p = nI (A p) ∧ I1 131 p = nI (K p) ∧ I1 132 p = nI (S p) := fun p hp => by rw [hI1, zu_other (by decide), zu_other (by decide), zu_other (by decide), zu_other (by decide)]; exact r5 p hp
        have hbM := hb.of hFM1
        refine ev_aload_n (q := 66) dX8_readAsk_65 rfl rfl ?_
        refine ev_getI (q := 69) (ci := 8) (f := 3) dX8_readAsk_66 rfl (by first | rfl | assumption | exact zf_kd (by assumption) | exact zw_kd (by assumption) | exact zt_kd (by assumption)) (by first | decide | exact zf_lt (by assumption) | exact zf_lt1 (by assumption) | exact zf_lt2 (by assumption) | exact zf_lt3 (by assumption) | exact zf_lt4 (by assumption) | exact zw_lt (by assumption) | exact zw_lt1 (by assumption) | exact zw_lt2 (by assumption) | exact zw_lt3 (by assumption) | exact zw_lt4 (by assumption) | exact zt_lt (by assumption)) (by decide) (by decide) lfRX8_84 rfl ?_
        rw [h13]
        refine ev_aload_n (q := 70) dX8_readAsk_69 rfl rfl ?_
        refine ev_getI (q := 73) (ci := 8) (f := 2) dX8_readAsk_70 rfl (by first | rfl | assumption | exact zf_kd (by assumption) | exact zw_kd (by assumption) | exact zt_kd (by assumption)) (by first | decide | exact zf_lt (by assumption) | exact zf_lt1 (by assumption) | exact zf_lt2 (by assumption) | exact zf_lt3 (by assumption) | exact zf_lt4 (by assumption) | exact zw_lt (by assumption) | exact zw_lt1 (by assumption) | exact zw_lt2 (by assumption) | exact zw_lt3 (by assumption) | exact zw_lt4 (by assumption) | exact zt_lt (by assumption)) (by decide) (by decide) lfRX8_81 rfl ?_
        rw [hbM.2.1]
        refine ev_icmp_ge (q := 76) (t := 91) dX8_readAsk_73 rfl (by decide) (fun h73 => ?_) (fun h73 => ?_)
        · rw [nI_leI (by omega) (by omega)] at h73
          have hF : zpF b n = nI (k + 1) := zpF_bad hz1 (by omega) (by simp) (fun q => absurd q (by omega))
          refine ev_bipush (q := 93) ((-9) : Int32) dX8_readAsk_91 rfl (by decide) ?_
          refine ev_istore_nL (q := 94) (L9 := [_, _, _]) dX8_readAsk_93 rfl (by decide) rfl rfl ?_
          refine ev_iload_n (q := 95) dX8_readAsk_94 rfl rfl ?_
          refine ev_i2l (q := 96) dX8_readAsk_95 rfl ?_
          refine ev_lconst (q := 97) (0 : Int64) dX8_readAsk_96 rfl (by decide) ?_
          refine ev_aload_n (q := 98) dX8_readAsk_97 rfl rfl ?_
          refine ev_getI (q := 101) (ci := 8) (f := 18) dX8_readAsk_98 rfl (by first | rfl | assumption | exact zf_kd (by assumption) | exact zw_kd (by assumption) | exact zt_kd (by assumption)) (by first | decide | exact zf_lt (by assumption) | exact zf_lt1 (by assumption) | exact zf_lt2 (by assumption) | exact zf_lt3 (by assumption) | exact zf_lt4 (by assumption) | exact zw_lt (by assumption) | exact zw_lt1 (by assumption) | exact zw_lt2 (by assumption) | exact zw_lt3 (by assumption) | exact zw_lt4 (by assumption) | exact zt_lt (by assumption)) (by decide) (by decide) lfRX8_94 rfl ?_
          rw [d3]
          refine ev_iconst (q := 102) (1 : Int32) dX8_readAsk_101 rfl (by decide) ?_
          refine ev_isub (q := 103) dX8_readAsk_102 rfl ?_
          refine ev_i2l (q := 104) dX8_readAsk_103 rfl ?_
          refine ev_pS (q := 107) dX8_readAsk_104 rfl okX8_in lmRX8_75 smX8_in (c_X8_in G _ _ _ _ _ _) (by decide) rfl rfl (Nat.le_of_ble_eq_true rfl) ?_
          rw [zinL_n (by omega), (show zin (-9) (nI N) = false by unfold zin; rw [decide_eq_true (show (-9 : Int32) < 0 by decide)]; rfl)]
          refine ev_if_eq (q := 110) (t := 122) dX8_readAsk_107 rfl (by decide) (fun h107 => ?_) (fun h107 => ?_)
          · refine ev_iconst (q := 123) (0 : Int32) dX8_readAsk_122 rfl (by decide) ?_
            exact ev_iret dX8_readAsk_123 rfl (by first | rfl | exact zb_nar _ | assumption) (⟨rfl, rfl, hFM1, (k + 1), false, rfl, h13, fun _ => ⟨hF, by omega⟩, fun q => Bool.noConfusion q⟩)
          · exact absurd rfl h107
        · have hlt1 : k + 1 < n := by rw [nI_leI (by omega) (by omega)] at h73; omega
          have hb1 := (hb.2.2 (k + 1) hlt1).2
          refine ev_aload_n (q := 77) dX8_readAsk_76 rfl rfl ?_
          refine ev_getR (q := 80) (ci := 8) (f := 1) dX8_readAsk_77 rfl (by first | rfl | assumption | exact zf_kd (by assumption) | exact zw_kd (by assumption) | exact zt_kd (by assumption)) (by first | decide | exact zf_lt (by assumption) | exact zf_lt1 (by assumption) | exact zf_lt2 (by assumption) | exact zf_lt3 (by assumption) | exact zf_lt4 (by assumption) | exact zw_lt (by assumption) | exact zw_lt1 (by assumption) | exact zw_lt2 (by assumption) | exact zw_lt3 (by assumption) | exact zw_lt4 (by assumption) | exact zt_lt (by assumption)) (by decide) (by decide) lfRX8_7 rfl (by first | rfl | assumption | exact zf_p4 _ (by assumption) | exact zf_p5 _ (by assumption) | exact zf_p6 _ (by assumption) | exact zf_p7 _ (by assumption) | exact zw_p1 _ (by assumption) | exact zw_p2 _ (by assumption) | exact zw_p3 _ (by assumption) | exact zw_p4 _ (by assumption)) ?_
          refine ev_aload_n (q := 81) dX8_readAsk_80 rfl rfl ?_
          refine ev_getI (q := 84) (ci := 8) (f := 3) dX8_readAsk_81 rfl (by first | rfl | assumption | exact zf_kd (by assumption) | exact zw_kd (by assumption) | exact zt_kd (by assumption)) (by first | decide | exact zf_lt (by assumption) | exact zf_lt1 (by assumption) | exact zf_lt2 (by assumption) | exact zf_lt3 (by assumption) | exact zf_lt4 (by assumption) | exact zw_lt (by assumption) | exact zw_lt1 (by assumption) | exact zw_lt2 (by assumption) | exact zw_lt3 (by assumption) | exact zw_lt4 (by assumption) | exact zt_lt (by assumption)) (by decide) (by decide) lfRX8_84 rfl ?_
          rw [h13]
          refine ev_ialdN (q := 85) dX8_readAsk_84 rfl rfl (by first | decide | exact zf_lt (by assumption) | exact zf_lt1 (by assumption) | exact zf_lt2 (by assumption) | exact zf_lt3 (by assumption) | exact zf_lt4 (by assumption) | exact zw_lt (by assumption) | exact zw_lt1 (by assumption) | exact zw_lt2 (by assumption) | exact zw_lt3 (by assumption) | exact zw_lt4 (by assumption) | exact zt_lt (by assumption)) (by first | omega | assumption) ?_
          rw [(hbM.2.2 (k + 1) hlt1).1]
          refine ev_bipush (q := 87) (nI 48 : Int32) dX8_readAsk_85 rfl (by decide) ?_
          refine ev_isub (q := 88) dX8_readAsk_87 rfl ?_
          refine ev_goto (t := 93) dX8_readAsk_88 (by decide) ?_
          refine ev_istore_nL (q := 94) (L9 := [_, _, _]) dX8_readAsk_93 rfl (by decide) rfl rfl ?_
          refine ev_iload_n (q := 95) dX8_readAsk_94 rfl rfl ?_
          refine ev_i2l (q := 96) dX8_readAsk_95 rfl ?_
          refine ev_lconst (q := 97) (0 : Int64) dX8_readAsk_96 rfl (by decide) ?_
          refine ev_aload_n (q := 98) dX8_readAsk_97 rfl rfl ?_
          refine ev_getI (q := 101) (ci := 8) (f := 18) dX8_readAsk_98 rfl (by first | rfl | assumption | exact zf_kd (by assumption) | exact zw_kd (by assumption) | exact zt_kd (by assumption)) (by first | decide | exact zf_lt (by assumption) | exact zf_lt1 (by assumption) | exact zf_lt2 (by assumption) | exact zf_lt3 (by assumption) | exact zf_lt4 (by assumption) | exact zw_lt (by assumption) | exact zw_lt1 (by assumption) | exact zw_lt2 (by assumption) | exact zw_lt3 (by assumption) | exact zw_lt4 (by assumption) | exact zt_lt (by assumption)) (by decide) (by decide) lfRX8_94 rfl ?_
          rw [d3]
          refine ev_iconst (q := 102) (1 : Int32) dX8_readAsk_101 rfl (by decide) ?_
          refine ev_isub (q := 103) dX8_readAsk_102 rfl ?_
          refine ev_i2l (q := 104) dX8_readAsk_103 rfl ?_
          refine ev_pS (q := 107) dX8_readAsk_104 rfl okX8_in lmRX8_75 smX8_in (c_X8_in G _ _ _ _ _ _) (by decide) rfl rfl (Nat.le_of_ble_eq_true rfl) ?_
          rw [zinL_n (by omega)]
          refine ev_if_eq (q := 110) (t := 122) dX8_readAsk_107 rfl (by decide) (fun h107 => ?_) (fun h107 => ?_)
          · refine ev_iconst (q := 123) (0 : Int32) dX8_readAsk_122 rfl (by decide) ?_
            have hF : zpF b n = nI (k + 1) := zpF_bad hz1 (by omega) (by simp) (fun _ => zst8n (fun q => absurd (zb_eq h107) (by rw [zin48 hb1 (by omega) (by omega), decide_eq_true ⟨q.1, q.2.1⟩]; decide)))
            exact ev_iret dX8_readAsk_123 rfl (by first | rfl | exact zb_nar _ | assumption) (⟨rfl, rfl, hFM1, (k + 1), false, rfl, h13, fun _ => ⟨hF, by omega⟩, fun q => Bool.noConfusion q⟩)
          · have hj : 48 ≤ b (k + 1) ∧ b (k + 1) < 48 + N := by have q := zb_ne h107; rw [zin48 hb1 (by omega) (by omega)] at q; exact of_decide_eq_true q
            rw [pk_sub hj.1]
            refine ev_aload_n (q := 111) dX8_readAsk_110 rfl rfl ?_
            refine ev_iload_n (q := 112) dX8_readAsk_111 rfl rfl ?_
            refine ev_pV (q := 115) (ci := 8) dX8_readAsk_112 rfl okX8_left lmRX8_97 imX8_left seX8_left (by first | rfl | assumption | exact zf_kd (by assumption) | exact zw_kd (by assumption) | exact zt_kd (by assumption)) (by first | decide | exact zf_lt (by assumption) | exact zf_lt1 (by assumption) | exact zf_lt2 (by assumption) | exact zf_lt3 (by assumption) | exact zf_lt4 (by assumption) | exact zw_lt (by assumption) | exact zw_lt1 (by assumption) | exact zw_lt2 (by assumption) | exact zw_lt3 (by assumption) | exact zw_lt4 (by assumption) | exact zt_lt (by assumption)) (by decide) rfl (c_X8_left G fo I1 (by omega) d3 (d5 _ (by omega)).2.2.2) (by decide) rfl rfl (Nat.le_of_ble_eq_true rfl) ?_
            
            refine ev_iload_n (q := 116) dX8_readAsk_115 rfl rfl ?_
            refine ev_pS (q := 119) dX8_readAsk_116 rfl okX8_has lmRX8_101 smX8_has (c_X8_has G _ _ _ _ _) (by decide) rfl rfl (Nat.le_of_ble_eq_true rfl) ?_
            refine ev_if_ne (q := 122) (t := 124) dX8_readAsk_119 rfl (by decide) (fun h119 => ?_) (fun h119 => ?_)
            · have hlf : b (k + 1) - 48 ≠ b k - 48 ∧ (S (b k - 48)).testBit (b (k + 1) - 48) = false := by
                have q := zb_ne h119
                rw [zleft_b N (by omega) _ (by omega) _ (c14 _ (by omega)).2.2.2.1 _ (by omega), Bool.and_eq_true, decide_eq_true_eq, Bool.not_eq_true'] at q
                exact q
              refine ev_aload_n (q := 125) dX8_readAsk_124 rfl rfl ?_
              refine ev_dup (q := 126) dX8_readAsk_125 rfl rfl ?_
              refine ev_getI (q := 129) (ci := 8) (f := 3) dX8_readAsk_126 rfl (by first | rfl | assumption | exact zf_kd (by assumption) | exact zw_kd (by assumption) | exact zt_kd (by assumption)) (by first | decide | exact zf_lt (by assumption) | exact zf_lt1 (by assumption) | exact zf_lt2 (by assumption) | exact zf_lt3 (by assumption) | exact zf_lt4 (by assumption) | exact zw_lt (by assumption) | exact zw_lt1 (by assumption) | exact zw_lt2 (by assumption) | exact zw_lt3 (by assumption) | exact zw_lt4 (by assumption) | exact zt_lt (by assumption)) (by decide) (by decide) lfRX8_84 rfl ?_
              rw [h13]
              refine ev_iconst (q := 130) (1 : Int32) dX8_readAsk_129 rfl (by decide) ?_
              refine ev_iadd (q := 131) dX8_readAsk_130 rfl ?_
              rw [nI_1]
              refine ev_putI (q := 134) (ci := 8) (f := 3) dX8_readAsk_131 rfl (by first | rfl | assumption | exact zf_kd (by assumption) | exact zw_kd (by assumption) | exact zt_kd (by assumption)) (by first | decide | exact zf_lt (by assumption) | exact zf_lt1 (by assumption) | exact zf_lt2 (by assumption) | exact zf_lt3 (by assumption) | exact zf_lt4 (by assumption) | exact zw_lt (by assumption) | exact zw_lt1 (by assumption) | exact zw_lt2 (by assumption) | exact zw_lt3 (by assumption) | exact zw_lt4 (by assumption) | exact zt_lt (by assumption)) (by decide) (by decide) lfRX8_84 rfl rfl rfl rfl ?_
              refine ev_aload_n (q := 135) dX8_readAsk_134 rfl rfl ?_
              refine ev_getR (q := 138) (ci := 8) (f := 23) dX8_readAsk_135 rfl (by first | rfl | assumption | exact zf_kd (by assumption) | exact zw_kd (by assumption) | exact zt_kd (by assumption)) (by first | decide | exact zf_lt (by assumption) | exact zf_lt1 (by assumption) | exact zf_lt2 (by assumption) | exact zf_lt3 (by assumption) | exact zf_lt4 (by assumption) | exact zw_lt (by assumption) | exact zw_lt1 (by assumption) | exact zw_lt2 (by assumption) | exact zw_lt3 (by assumption) | exact zw_lt4 (by assumption) | exact zt_lt (by assumption)) (by decide) (by decide) lfRX8_50 rfl (by first | rfl | assumption | exact zf_p4 _ (by assumption) | exact zf_p5 _ (by assumption) | exact zf_p6 _ (by assumption) | exact zf_p7 _ (by assumption) | exact zw_p1 _ (by assumption) | exact zw_p2 _ (by assumption) | exact zw_p3 _ (by assumption) | exact zw_p4 _ (by assumption)) ?_
              refine ev_iload_n (q := 139) dX8_readAsk_138 rfl rfl ?_
              refine ev_dup2 (q := 140) dX8_readAsk_139 rfl rfl rfl ?_
              refine ev_ialdN (q := 141) dX8_readAsk_140 rfl rfl (by first | decide | exact zf_lt (by assumption) | exact zf_lt1 (by assumption) | exact zf_lt2 (by assumption) | exact zf_lt3 (by assumption) | exact zf_lt4 (by assumption) | exact zw_lt (by assumption) | exact zw_lt1 (by assumption) | exact zw_lt2 (by assumption) | exact zw_lt3 (by assumption) | exact zw_lt4 (by assumption) | exact zt_lt (by assumption)) (by first | omega | assumption) ?_
              rw [zu_other (by decide), (d5 _ (by omega)).2.2.2]
              refine ev_iconst (q := 142) (1 : Int32) dX8_readAsk_141 rfl (by decide) ?_
              refine ev_iload_n (q := 143) dX8_readAsk_142 rfl rfl ?_
              refine ev_ishl (q := 144) dX8_readAsk_143 rfl ?_
              rw [show (1 : Int32) <<< (nI (b (k + 1) - 48) &&& 31) = zsh (b (k + 1) - 48) from rfl, zsh_N _ (by omega)]
              refine ev_ior (q := 145) dX8_readAsk_144 rfl ?_
              rw [nI_or]
              refine ev_iastN (q := 146) dX8_readAsk_145 rfl rfl (by first | decide | exact zf_lt (by assumption) | exact zf_lt1 (by assumption) | exact zf_lt2 (by assumption) | exact zf_lt3 (by assumption) | exact zf_lt4 (by assumption) | exact zw_lt (by assumption) | exact zw_lt1 (by assumption) | exact zw_lt2 (by assumption) | exact zw_lt3 (by assumption) | exact zw_lt4 (by assumption) | exact zt_lt (by assumption)) (by first | omega | assumption) ?_
              refine ev_aload_n (q := 147) dX8_readAsk_146 rfl rfl ?_
              refine ev_dup (q := 148) dX8_readAsk_147 rfl rfl ?_
              refine ev_getI (q := 151) (ci := 8) (f := 19) dX8_readAsk_148 rfl (by first | rfl | assumption | exact zf_kd (by assumption) | exact zw_kd (by assumption) | exact zt_kd (by assumption)) (by first | decide | exact zf_lt (by assumption) | exact zf_lt1 (by assumption) | exact zf_lt2 (by assumption) | exact zf_lt3 (by assumption) | exact zf_lt4 (by assumption) | exact zw_lt (by assumption) | exact zw_lt1 (by assumption) | exact zw_lt2 (by assumption) | exact zw_lt3 (by assumption) | exact zw_lt4 (by assumption) | exact zt_lt (by assumption)) (by decide) (by decide) lfRX8_105 rfl ?_
              rw [zu_nn (by omega), zu_nn (by omega), d4]
              refine ev_iconst (q := 152) (1 : Int32) dX8_readAsk_151 rfl (by decide) ?_
              refine ev_iadd (q := 153) dX8_readAsk_152 rfl ?_
              rw [nI_1]
              refine ev_putI (q := 156) (ci := 8) (f := 19) dX8_readAsk_153 rfl (by first | rfl | assumption | exact zf_kd (by assumption) | exact zw_kd (by assumption) | exact zt_kd (by assumption)) (by first | decide | exact zf_lt (by assumption) | exact zf_lt1 (by assumption) | exact zf_lt2 (by assumption) | exact zf_lt3 (by assumption) | exact zf_lt4 (by assumption) | exact zw_lt (by assumption) | exact zw_lt1 (by assumption) | exact zw_lt2 (by assumption) | exact zw_lt3 (by assumption) | exact zw_lt4 (by assumption) | exact zt_lt (by assumption)) (by decide) (by decide) lfRX8_105 rfl rfl rfl rfl ?_
              refine ev_iconst (q := 157) (1 : Int32) dX8_readAsk_156 rfl (by decide) ?_
              have hfin : zFM I (zu (zu (zu I1 119 3 (nI (k + 2))) 132 (b k - 48) (nI (S (b k - 48) ||| 2 ^ (b (k + 1) - 48)))) 119 19 (nI (M + 1))) := ((hFM1.zu 119 3 _ rfl).zu 132 _ _ rfl).zu 119 19 _ rfl
              have hz2 : zpR b (k + 2) = some (3, b k - 48, l, T, N, M + 1, H, A, K, zup S (b k - 48) (S (b k - 48) ||| 2 ^ (b (k + 1) - 48))) := by
                rw [zpR_s hz1]; exact zst8 ⟨hj.1, by omega, hlf.1, hlf.2⟩
              exact ev_iret dX8_readAsk_157 rfl (by first | rfl | exact zb_nar _ | assumption) (⟨rfl, rfl, hfin, k + 2, true, rfl, by rw [zu_nn (by omega), zu_nn (by omega), zu_eq], fun q => Bool.noConfusion q, fun _ => ⟨by omega, by omega, _, hz2, rfl, ⟨by rw [zu_nn (by omega), zu_nn (by omega), zu_nn (by omega)]; exact d1, by rw [zu_nn (by omega), zu_nn (by omega), zu_nn (by omega)]; exact d2, by rw [zu_nn (by omega), zu_nn (by omega), zu_nn (by omega)]; exact d3, zu_eq, fun p hp => by
                obtain ⟨t1, t2, t3, t4⟩ := d5 p hp
                refine ⟨by rw [zu_nn (by omega), zu_nn (by omega), zu_nn (by omega)]; exact t1, by rw [zu_nn (by omega), zu_nn (by omega), zu_nn (by omega)]; exact t2, by rw [zu_nn (by omega), zu_nn (by omega), zu_nn (by omega)]; exact t3, ?_⟩
                by_cases hpa : p = b k - 48
                · subst hpa; rw [zu_nn (by omega), zu_eq, zup_eq]
                · rw [zu_nn (by omega), zu_nn (by omega), zu_nn (by omega), zup_ne hpa]; exact t4⟩⟩⟩)
            · refine ev_iconst (q := 123) (0 : Int32) dX8_readAsk_122 rfl (by decide) ?_
              have hF : zpF b n = nI (k + 1) := zpF_bad hz1 (by omega) (by simp) (fun _ => zst8n (fun q => absurd (zb_eq h119) (by rw [zleft_b N (by omega) _ (by omega) _ (c14 _ (by omega)).2.2.2.1 _ (by omega), decide_eq_true q.2.2.1, q.2.2.2]; decide)))
              exact ev_iret dX8_readAsk_123 rfl (by first | rfl | exact zb_nar _ | assumption) (⟨rfl, rfl, hFM1, (k + 1), false, rfl, h13, fun _ => ⟨hF, by omega⟩, fun q => Bool.noConfusion q⟩)
      · refine ev_iconst (q := 54) (0 : Int32) dX8_readAsk_53 rfl (by decide) ?_
        have hF : zpF b n = nI k := zpF_bad hz hkn (by simp) (fun _ => zst7n (fun q => hlz.1.mp h50 q.2.2))
        exact ev_iret dX8_readAsk_54 rfl (by first | rfl | exact zb_nar _ | assumption) (⟨rfl, rfl, zFM.rf, k, false, rfl, hk, fun _ => ⟨hF, by omega⟩, fun q => Bool.noConfusion q⟩)
set_option maxHeartbeats 4000000 in
set_option maxRecDepth 100000 in
theorem c_X8_readPart (G : zq_G) (fo : Bool) (I : zq_I) {k n ak l T N M : Nat} {H A K S : Nat → Nat} {b : Nat → Nat} (hb : zpuM I b n) (hk : I 119 3 = nI k) (hlt : k < n) (hz : zpR b k = some (3, ak, l, T, N, M, H, A, K, S)) (hr : zRdM I (3, ak, l, T, N, M, H, A, K, S)) : zq_Met G mX8_readPart 3 0 0 [.ref 119] 138 I (zPs fo) (zprt b n k fo I) := by
  refine zq_Met.of okX8_readPart (Nat.le_of_ble_eq_true rfl) ?_
  show zq_E _ _ _ _ _ _ _ [some (.ref 119), none] _ _ _ _ _
  obtain ⟨r1, r2, r3, r4, r5⟩ := hr
  have hok := zpR_ok _ _ hz
  obtain ⟨c1, c2, c3, c4, c5, c6, c7, c8, c9, c10, c11, c12, c13, c14⟩ := hok
  have h80 := hb.1
  have hb0 := (hb.2.2 k hlt).2
  have hle : ∀ p, p < N → zpc (S p) ≤ N - 1 := fun p hp => (zleft_0 (show N < 9 by omega) hp (c14 p hp).2.2.2.1 (c14 p hp).2.2.2.2).2
  have hall : (M < N * (N - 1) ↔ zany (fun i => decide (zpc (S i) < N - 1)) N = true) := by rw [c13]; exact zsu_any N hle
  refine ev_aload_n (q := 1) dX8_readPart_0 rfl rfl ?_
  refine ev_getR (q := 4) (ci := 8) (f := 1) dX8_readPart_1 rfl (by first | rfl | assumption | exact zf_kd (by assumption) | exact zw_kd (by assumption) | exact zt_kd (by assumption)) (by first | decide | exact zf_lt (by assumption) | exact zf_lt1 (by assumption) | exact zf_lt2 (by assumption) | exact zf_lt3 (by assumption) | exact zf_lt4 (by assumption) | exact zw_lt (by assumption) | exact zw_lt1 (by assumption) | exact zw_lt2 (by assumption) | exact zw_lt3 (by assumption) | exact zw_lt4 (by assumption) | exact zt_lt (by assumption)) (by decide) (by decide) lfRX8_7 rfl (by first | rfl | assumption | exact zf_p4 _ (by assumption) | exact zf_p5 _ (by assumption) | exact zf_p6 _ (by assumption) | exact zf_p7 _ (by assumption) | exact zw_p1 _ (by assumption) | exact zw_p2 _ (by assumption) | exact zw_p3 _ (by assumption) | exact zw_p4 _ (by assumption)) ?_
  refine ev_aload_n (q := 5) dX8_readPart_4 rfl rfl ?_
  refine ev_getI (q := 8) (ci := 8) (f := 3) dX8_readPart_5 rfl (by first | rfl | assumption | exact zf_kd (by assumption) | exact zw_kd (by assumption) | exact zt_kd (by assumption)) (by first | decide | exact zf_lt (by assumption) | exact zf_lt1 (by assumption) | exact zf_lt2 (by assumption) | exact zf_lt3 (by assumption) | exact zf_lt4 (by assumption) | exact zw_lt (by assumption) | exact zw_lt1 (by assumption) | exact zw_lt2 (by assumption) | exact zw_lt3 (by assumption) | exact zw_lt4 (by assumption) | exact zt_lt (by assumption)) (by decide) (by decide) lfRX8_84 rfl ?_
  rw [hk]
  refine ev_ialdN (q := 9) dX8_readPart_8 rfl rfl (by first | decide | exact zf_lt (by assumption) | exact zf_lt1 (by assumption) | exact zf_lt2 (by assumption) | exact zf_lt3 (by assumption) | exact zf_lt4 (by assumption) | exact zw_lt (by assumption) | exact zw_lt1 (by assumption) | exact zw_lt2 (by assumption) | exact zw_lt3 (by assumption) | exact zw_lt4 (by assumption) | exact zt_lt (by assumption)) (by first | omega | assumption) ?_
  rw [(hb.2.2 k hlt).1]
  refine ev_istore_nL (q := 10) (L9 := [_, _]) dX8_readPart_9 rfl (by decide) rfl rfl ?_
  refine ev_iload_n (q := 11) dX8_readPart_10 rfl rfl ?_
  refine ev_bipush (q := 13) (nI 80 : Int32) dX8_readPart_11 rfl (by decide) ?_
  refine ev_icmp_ne (q := 16) (t := 40) dX8_readPart_13 rfl (by decide) (fun h13 => ?_) (fun h13 => ?_)
  · have hb80 : ¬ b k = 80 := fun q => h13 (by rw [q])
    refine ev_iload_n (q := 41) dX8_readPart_40 rfl rfl ?_
    refine ev_bipush (q := 43) (nI 65 : Int32) dX8_readPart_41 rfl (by decide) ?_
    refine ev_icmp_ne (q := 46) (t := 77) dX8_readPart_43 rfl (by decide) (fun h43 => ?_) (fun h43 => ?_)
    · have hb65 : ¬ b k = 65 := fun q => h43 (by rw [q])
      refine ev_iconst (q := 78) (0 : Int32) dX8_readPart_77 rfl (by decide) ?_
      have hst : zpst (3, ak, l, T, N, M, H, A, K, S) (b k) = none := by simp [zpst, hb80, hb65]
      exact ev_iret dX8_readPart_78 rfl (by first | rfl | exact zb_nar _ | assumption) (⟨rfl, rfl, zFM.rf, k, false, rfl, hk, fun _ => ⟨zpF_no hz hst hlt, by omega⟩, fun q => Bool.noConfusion q⟩)
    · have hb65 : b k = 65 := (nI_eq (by omega) (by omega)).mp h43
      refine ev_aload_n (q := 47) dX8_readPart_46 rfl rfl ?_
      refine ev_getI (q := 50) (ci := 8) (f := 19) dX8_readPart_47 rfl (by first | rfl | assumption | exact zf_kd (by assumption) | exact zw_kd (by assumption) | exact zt_kd (by assumption)) (by first | decide | exact zf_lt (by assumption) | exact zf_lt1 (by assumption) | exact zf_lt2 (by assumption) | exact zf_lt3 (by assumption) | exact zf_lt4 (by assumption) | exact zw_lt (by assumption) | exact zw_lt1 (by assumption) | exact zw_lt2 (by assumption) | exact zw_lt3 (by assumption) | exact zw_lt4 (by assumption) | exact zt_lt (by assumption)) (by decide) (by decide) lfRX8_105 rfl ?_
      rw [r4]
      refine ev_bipush (q := 52) (nI 12 : Int32) dX8_readPart_50 rfl (by decide) ?_
      refine ev_icmp_ge (q := 55) (t := 77) dX8_readPart_52 rfl (by decide) (fun h52 => ?_) (fun h52 => ?_)
      · rw [nI_leI (by omega) (by omega)] at h52
        refine ev_iconst (q := 78) (0 : Int32) dX8_readPart_77 rfl (by decide) ?_
        have hst : zpst (3, ak, l, T, N, M, H, A, K, S) (b k) = none := by rw [hb65]; simp [zpst]; omega
        exact ev_iret dX8_readPart_78 rfl (by first | rfl | exact zb_nar _ | assumption) (⟨rfl, rfl, zFM.rf, k, false, rfl, hk, fun _ => ⟨zpF_no hz hst hlt, by omega⟩, fun q => Bool.noConfusion q⟩)
      · rw [nI_leI (by omega) (by omega)] at h52
        refine ev_aload_n (q := 56) dX8_readPart_55 rfl rfl ?_
        refine ev_pV (q := 59) (ci := 8) dX8_readPart_56 rfl okX8_hasLeft lmRX8_112 imX8_hasLeft seX8_hasLeft (by first | rfl | assumption | exact zf_kd (by assumption) | exact zw_kd (by assumption) | exact zt_kd (by assumption)) (by first | decide | exact zf_lt (by assumption) | exact zf_lt1 (by assumption) | exact zf_lt2 (by assumption) | exact zf_lt3 (by assumption) | exact zf_lt4 (by assumption) | exact zw_lt (by assumption) | exact zw_lt1 (by assumption) | exact zw_lt2 (by assumption) | exact zw_lt3 (by assumption) | exact zw_lt4 (by assumption) | exact zt_lt (by assumption)) (by decide) rfl (c_X8_hasLeft G fo I c5 r3 (fun p hp => ⟨(r5 p hp).2.2.2, (c14 p hp).2.2.2.1, (c14 p hp).2.2.2.2⟩)) (by decide) rfl rfl (Nat.le_of_ble_eq_true rfl) ?_
        refine ev_if_eq (q := 62) (t := 77) dX8_readPart_59 rfl (by decide) (fun h59 => ?_) (fun h59 => ?_)
        · have hnl : ¬ M < N * (N - 1) := fun q => by rw [hall.mp q] at h59; exact absurd h59 (by decide)
          refine ev_iconst (q := 78) (0 : Int32) dX8_readPart_77 rfl (by decide) ?_
          have hst : zpst (3, ak, l, T, N, M, H, A, K, S) (b k) = none := by rw [hb65]; simp [zpst]; omega
          exact ev_iret dX8_readPart_78 rfl (by first | rfl | exact zb_nar _ | assumption) (⟨rfl, rfl, zFM.rf, k, false, rfl, hk, fun _ => ⟨zpF_no hz hst hlt, by omega⟩, fun q => Bool.noConfusion q⟩)
        · have hnl : M < N * (N - 1) := hall.mpr (zb_ne h59)
          have hz1 : zpR b (k + 1) = some (7, ak, l, T, N, M, H, A, K, S) := by
            rw [zpR_s hz, hb65]; simp [zpst]; omega
          have hFM1 : zFM I (zu I 119 3 (nI (k + 1))) := zFM.rf.zu 119 3 _ rfl
          refine ev_aload_n (q := 63) dX8_readPart_62 rfl rfl ?_
          refine ev_dup (q := 64) dX8_readPart_63 rfl rfl ?_
          refine ev_getI (q := 67) (ci := 8) (f := 3) dX8_readPart_64 rfl (by first | rfl | assumption | exact zf_kd (by assumption) | exact zw_kd (by assumption) | exact zt_kd (by assumption)) (by first | decide | exact zf_lt (by assumption) | exact zf_lt1 (by assumption) | exact zf_lt2 (by assumption) | exact zf_lt3 (by assumption) | exact zf_lt4 (by assumption) | exact zw_lt (by assumption) | exact zw_lt1 (by assumption) | exact zw_lt2 (by assumption) | exact zw_lt3 (by assumption) | exact zw_lt4 (by assumption) | exact zt_lt (by assumption)) (by decide) (by decide) lfRX8_84 rfl ?_
          rw [hk]
          refine ev_iconst (q := 68) (1 : Int32) dX8_readPart_67 rfl (by decide) ?_
          refine ev_iadd (q := 69) dX8_readPart_68 rfl ?_
          rw [nI_1]
          refine ev_putI (q := 72) (ci := 8) (f := 3) dX8_readPart_69 rfl (by first | rfl | assumption | exact zf_kd (by assumption) | exact zw_kd (by assumption) | exact zt_kd (by assumption)) (by first | decide | exact zf_lt (by assumption) | exact zf_lt1 (by assumption) | exact zf_lt2 (by assumption) | exact zf_lt3 (by assumption) | exact zf_lt4 (by assumption) | exact zw_lt (by assumption) | exact zw_lt1 (by assumption) | exact zw_lt2 (by assumption) | exact zw_lt3 (by assumption) | exact zw_lt4 (by assumption) | exact zt_lt (by assumption)) (by decide) (by decide) lfRX8_84 rfl rfl rfl rfl ?_
          refine ev_aload_n (q := 73) dX8_readPart_72 rfl rfl ?_
          refine ev_cV (q := 76) (ci := 8) dX8_readPart_73 rfl okX8_readAsk lmRX8_115 imX8_readAsk seX8_readAsk (by first | rfl | assumption | exact zf_kd (by assumption) | exact zw_kd (by assumption) | exact zt_kd (by assumption)) (by first | decide | exact zf_lt (by assumption) | exact zf_lt1 (by assumption) | exact zf_lt2 (by assumption) | exact zf_lt3 (by assumption) | exact zf_lt4 (by assumption) | exact zw_lt (by assumption) | exact zw_lt1 (by assumption) | exact zw_lt2 (by assumption) | exact zw_lt3 (by assumption) | exact zw_lt4 (by assumption) | exact zt_lt (by assumption)) (by decide) rfl (c_X8_readAsk G fo (zu I 119 3 (nI (k + 1))) (hb.of hFM1) zu_eq (by omega) hz1 ⟨by rw [zu_nn (by omega)]; exact r1, by rw [zu_nn (by omega)]; exact r2, by rw [zu_nn (by omega)]; exact r3, by rw [zu_nn (by omega)]; exact r4, fun p hp => by rw [zu_other (by decide), zu_other (by decide), zu_other (by decide), zu_other (by decide)]; exact r5 p hp⟩) (by decide) rfl rfl (Nat.le_of_ble_eq_true rfl) (fun v73 n73 I73 P73 hR73 => ?_)
          obtain ⟨rfl, rfl, hf9, k9, b9, rfl, q1, q2, q3⟩ := hR73
          exact ev_iret dX8_readPart_76 rfl (by first | rfl | exact zb_nar _ | assumption) (⟨rfl, rfl, hFM1.tr hf9, k9, b9, rfl, q1, q2, fun q => ⟨by have := (q3 q).1; omega, (q3 q).2⟩⟩)
  · have hb80 : b k = 80 := (nI_eq (by omega) (by omega)).mp h13
    refine ev_aload_n (q := 17) dX8_readPart_16 rfl rfl ?_
    refine ev_getI (q := 20) (ci := 8) (f := 18) dX8_readPart_17 rfl (by first | rfl | assumption | exact zf_kd (by assumption) | exact zw_kd (by assumption) | exact zt_kd (by assumption)) (by first | decide | exact zf_lt (by assumption) | exact zf_lt1 (by assumption) | exact zf_lt2 (by assumption) | exact zf_lt3 (by assumption) | exact zf_lt4 (by assumption) | exact zw_lt (by assumption) | exact zw_lt1 (by assumption) | exact zw_lt2 (by assumption) | exact zw_lt3 (by assumption) | exact zw_lt4 (by assumption) | exact zt_lt (by assumption)) (by decide) (by decide) lfRX8_94 rfl ?_
    rw [r3]
    refine ev_bipush (q := 22) (nI 8 : Int32) dX8_readPart_20 rfl (by decide) ?_
    refine ev_icmp_ge (q := 25) (t := 40) dX8_readPart_22 rfl (by decide) (fun h22 => ?_) (fun h22 => ?_)
    · rw [nI_leI (by omega) (by omega)] at h22
      refine ev_iload_n (q := 41) dX8_readPart_40 rfl rfl ?_
      refine ev_bipush (q := 43) (nI 65 : Int32) dX8_readPart_41 rfl (by decide) ?_
      refine ev_icmp_ne (q := 46) (t := 77) dX8_readPart_43 rfl (by decide) (fun h43 => ?_) (fun h43 => ?_)
      · have hb65 : ¬ b k = 65 := fun q => h43 (by rw [q])
        refine ev_iconst (q := 78) (0 : Int32) dX8_readPart_77 rfl (by decide) ?_
        have hst : zpst (3, ak, l, T, N, M, H, A, K, S) (b k) = none := by rw [hb80]; simp [zpst]; omega
        exact ev_iret dX8_readPart_78 rfl (by first | rfl | exact zb_nar _ | assumption) (⟨rfl, rfl, zFM.rf, k, false, rfl, hk, fun _ => ⟨zpF_no hz hst hlt, by omega⟩, fun q => Bool.noConfusion q⟩)
      · have hb65 : b k = 65 := (nI_eq (by omega) (by omega)).mp h43
        refine ev_aload_n (q := 47) dX8_readPart_46 rfl rfl ?_
        refine ev_getI (q := 50) (ci := 8) (f := 19) dX8_readPart_47 rfl (by first | rfl | assumption | exact zf_kd (by assumption) | exact zw_kd (by assumption) | exact zt_kd (by assumption)) (by first | decide | exact zf_lt (by assumption) | exact zf_lt1 (by assumption) | exact zf_lt2 (by assumption) | exact zf_lt3 (by assumption) | exact zf_lt4 (by assumption) | exact zw_lt (by assumption) | exact zw_lt1 (by assumption) | exact zw_lt2 (by assumption) | exact zw_lt3 (by assumption) | exact zw_lt4 (by assumption) | exact zt_lt (by assumption)) (by decide) (by decide) lfRX8_105 rfl ?_
        rw [r4]
        refine ev_bipush (q := 52) (nI 12 : Int32) dX8_readPart_50 rfl (by decide) ?_
        refine ev_icmp_ge (q := 55) (t := 77) dX8_readPart_52 rfl (by decide) (fun h52 => ?_) (fun h52 => ?_)
        · rw [nI_leI (by omega) (by omega)] at h52
          refine ev_iconst (q := 78) (0 : Int32) dX8_readPart_77 rfl (by decide) ?_
          have hst : zpst (3, ak, l, T, N, M, H, A, K, S) (b k) = none := by rw [hb80]; simp [zpst]; omega
          exact ev_iret dX8_readPart_78 rfl (by first | rfl | exact zb_nar _ | assumption) (⟨rfl, rfl, zFM.rf, k, false, rfl, hk, fun _ => ⟨zpF_no hz hst hlt, by omega⟩, fun q => Bool.noConfusion q⟩)
        · rw [nI_leI (by omega) (by omega)] at h52
          refine ev_aload_n (q := 56) dX8_readPart_55 rfl rfl ?_
          refine ev_pV (q := 59) (ci := 8) dX8_readPart_56 rfl okX8_hasLeft lmRX8_112 imX8_hasLeft seX8_hasLeft (by first | rfl | assumption | exact zf_kd (by assumption) | exact zw_kd (by assumption) | exact zt_kd (by assumption)) (by first | decide | exact zf_lt (by assumption) | exact zf_lt1 (by assumption) | exact zf_lt2 (by assumption) | exact zf_lt3 (by assumption) | exact zf_lt4 (by assumption) | exact zw_lt (by assumption) | exact zw_lt1 (by assumption) | exact zw_lt2 (by assumption) | exact zw_lt3 (by assumption) | exact zw_lt4 (by assumption) | exact zt_lt (by assumption)) (by decide) rfl (c_X8_hasLeft G fo I c5 r3 (fun p hp => ⟨(r5 p hp).2.2.2, (c14 p hp).2.2.2.1, (c14 p hp).2.2.2.2⟩)) (by decide) rfl rfl (Nat.le_of_ble_eq_true rfl) ?_
          refine ev_if_eq (q := 62) (t := 77) dX8_readPart_59 rfl (by decide) (fun h59 => ?_) (fun h59 => ?_)
          · have hnl : ¬ M < N * (N - 1) := fun q => by rw [hall.mp q] at h59; exact absurd h59 (by decide)
            refine ev_iconst (q := 78) (0 : Int32) dX8_readPart_77 rfl (by decide) ?_
            have hst : zpst (3, ak, l, T, N, M, H, A, K, S) (b k) = none := by rw [hb80]; simp [zpst]; omega
            exact ev_iret dX8_readPart_78 rfl (by first | rfl | exact zb_nar _ | assumption) (⟨rfl, rfl, zFM.rf, k, false, rfl, hk, fun _ => ⟨zpF_no hz hst hlt, by omega⟩, fun q => Bool.noConfusion q⟩)
          · have hnl : M < N * (N - 1) := hall.mpr (zb_ne h59)
            have hz1 : zpR b (k + 1) = some (7, ak, l, T, N, M, H, A, K, S) := by
              rw [zpR_s hz, hb65]; simp [zpst]; omega
            have hFM1 : zFM I (zu I 119 3 (nI (k + 1))) := zFM.rf.zu 119 3 _ rfl
            refine ev_aload_n (q := 63) dX8_readPart_62 rfl rfl ?_
            refine ev_dup (q := 64) dX8_readPart_63 rfl rfl ?_
            refine ev_getI (q := 67) (ci := 8) (f := 3) dX8_readPart_64 rfl (by first | rfl | assumption | exact zf_kd (by assumption) | exact zw_kd (by assumption) | exact zt_kd (by assumption)) (by first | decide | exact zf_lt (by assumption) | exact zf_lt1 (by assumption) | exact zf_lt2 (by assumption) | exact zf_lt3 (by assumption) | exact zf_lt4 (by assumption) | exact zw_lt (by assumption) | exact zw_lt1 (by assumption) | exact zw_lt2 (by assumption) | exact zw_lt3 (by assumption) | exact zw_lt4 (by assumption) | exact zt_lt (by assumption)) (by decide) (by decide) lfRX8_84 rfl ?_
            rw [hk]
            refine ev_iconst (q := 68) (1 : Int32) dX8_readPart_67 rfl (by decide) ?_
            refine ev_iadd (q := 69) dX8_readPart_68 rfl ?_
            rw [nI_1]
            refine ev_putI (q := 72) (ci := 8) (f := 3) dX8_readPart_69 rfl (by first | rfl | assumption | exact zf_kd (by assumption) | exact zw_kd (by assumption) | exact zt_kd (by assumption)) (by first | decide | exact zf_lt (by assumption) | exact zf_lt1 (by assumption) | exact zf_lt2 (by assumption) | exact zf_lt3 (by assumption) | exact zf_lt4 (by assumption) | exact zw_lt (by assumption) | exact zw_lt1 (by assumption) | exact zw_lt2 (by assumption) | exact zw_lt3 (by assumption) | exact zw_lt4 (by assumption) | exact zt_lt (by assumption)) (by decide) (by decide) lfRX8_84 rfl rfl rfl rfl ?_
            refine ev_aload_n (q := 73) dX8_readPart_72 rfl rfl ?_
            refine ev_cV (q := 76) (ci := 8) dX8_readPart_73 rfl okX8_readAsk lmRX8_115 imX8_readAsk seX8_readAsk (by first | rfl | assumption | exact zf_kd (by assumption) | exact zw_kd (by assumption) | exact zt_kd (by assumption)) (by first | decide | exact zf_lt (by assumption) | exact zf_lt1 (by assumption) | exact zf_lt2 (by assumption) | exact zf_lt3 (by assumption) | exact zf_lt4 (by assumption) | exact zw_lt (by assumption) | exact zw_lt1 (by assumption) | exact zw_lt2 (by assumption) | exact zw_lt3 (by assumption) | exact zw_lt4 (by assumption) | exact zt_lt (by assumption)) (by decide) rfl (c_X8_readAsk G fo (zu I 119 3 (nI (k + 1))) (hb.of hFM1) zu_eq (by omega) hz1 ⟨by rw [zu_nn (by omega)]; exact r1, by rw [zu_nn (by omega)]; exact r2, by rw [zu_nn (by omega)]; exact r3, by rw [zu_nn (by omega)]; exact r4, fun p hp => by rw [zu_other (by decide), zu_other (by decide), zu_other (by decide), zu_other (by decide)]; exact r5 p hp⟩) (by decide) rfl rfl (Nat.le_of_ble_eq_true rfl) (fun v73 n73 I73 P73 hR73 => ?_)
            obtain ⟨rfl, rfl, hf9, k9, b9, rfl, q1, q2, q3⟩ := hR73
            exact ev_iret dX8_readPart_76 rfl (by first | rfl | exact zb_nar _ | assumption) (⟨rfl, rfl, hFM1.tr hf9, k9, b9, rfl, q1, q2, fun q => ⟨by have := (q3 q).1; omega, (q3 q).2⟩⟩)
    · rw [nI_leI (by omega) (by omega)] at h22
      have hz1 : zpR b (k + 1) = some (4, ak, l, T, N, M, H, A, K, S) := by
        rw [zpR_s hz, hb80]; simp [zpst]; omega
      have hFM1 : zFM I (zu I 119 3 (nI (k + 1))) := zFM.rf.zu 119 3 _ rfl
      refine ev_aload_n (q := 26) dX8_readPart_25 rfl rfl ?_
      refine ev_dup (q := 27) dX8_readPart_26 rfl rfl ?_
      refine ev_getI (q := 30) (ci := 8) (f := 3) dX8_readPart_27 rfl (by first | rfl | assumption | exact zf_kd (by assumption) | exact zw_kd (by assumption) | exact zt_kd (by assumption)) (by first | decide | exact zf_lt (by assumption) | exact zf_lt1 (by assumption) | exact zf_lt2 (by assumption) | exact zf_lt3 (by assumption) | exact zf_lt4 (by assumption) | exact zw_lt (by assumption) | exact zw_lt1 (by assumption) | exact zw_lt2 (by assumption) | exact zw_lt3 (by assumption) | exact zw_lt4 (by assumption) | exact zt_lt (by assumption)) (by decide) (by decide) lfRX8_84 rfl ?_
      rw [hk]
      refine ev_iconst (q := 31) (1 : Int32) dX8_readPart_30 rfl (by decide) ?_
      refine ev_iadd (q := 32) dX8_readPart_31 rfl ?_
      rw [nI_1]
      refine ev_putI (q := 35) (ci := 8) (f := 3) dX8_readPart_32 rfl (by first | rfl | assumption | exact zf_kd (by assumption) | exact zw_kd (by assumption) | exact zt_kd (by assumption)) (by first | decide | exact zf_lt (by assumption) | exact zf_lt1 (by assumption) | exact zf_lt2 (by assumption) | exact zf_lt3 (by assumption) | exact zf_lt4 (by assumption) | exact zw_lt (by assumption) | exact zw_lt1 (by assumption) | exact zw_lt2 (by assumption) | exact zw_lt3 (by assumption) | exact zw_lt4 (by assumption) | exact zt_lt (by assumption)) (by decide) (by decide) lfRX8_84 rfl rfl rfl rfl ?_
      refine ev_aload_n (q := 36) dX8_readPart_35 rfl rfl ?_
      refine ev_cV (q := 39) (ci := 8) dX8_readPart_36 rfl okX8_readPerson lmRX8_108 imX8_readPerson seX8_readPerson (by first | rfl | assumption | exact zf_kd (by assumption) | exact zw_kd (by assumption) | exact zt_kd (by assumption)) (by first | decide | exact zf_lt (by assumption) | exact zf_lt1 (by assumption) | exact zf_lt2 (by assumption) | exact zf_lt3 (by assumption) | exact zf_lt4 (by assumption) | exact zw_lt (by assumption) | exact zw_lt1 (by assumption) | exact zw_lt2 (by assumption) | exact zw_lt3 (by assumption) | exact zw_lt4 (by assumption) | exact zt_lt (by assumption)) (by decide) rfl (c_X8_readPerson G fo (zu I 119 3 (nI (k + 1))) (hb.of hFM1) zu_eq (by omega) hz1 ⟨by rw [zu_nn (by omega)]; exact r1, by rw [zu_nn (by omega)]; exact r2, by rw [zu_nn (by omega)]; exact r3, by rw [zu_nn (by omega)]; exact r4, fun p hp => by rw [zu_other (by decide), zu_other (by decide), zu_other (by decide), zu_other (by decide)]; exact r5 p hp⟩) (by decide) rfl rfl (Nat.le_of_ble_eq_true rfl) (fun v36 n36 I36 P36 hR36 => ?_)
      obtain ⟨rfl, rfl, hf9, k9, b9, rfl, q1, q2, q3⟩ := hR36
      exact ev_iret dX8_readPart_39 rfl (by first | rfl | exact zb_nar _ | assumption) (⟨rfl, rfl, hFM1.tr hf9, k9, b9, rfl, q1, q2, fun q => ⟨by have := (q3 q).1; omega, (q3 q).2⟩⟩)
set_option maxHeartbeats 4000000 in
set_option maxRecDepth 100000 in
theorem lp_X8_readCensus (G : zq_G) (fo : Bool) (I : zq_I) {n : Nat} {b : Nat → Nat} (hb : zpuM I b n) : ∀ (m k : Nat) (I1 : zq_I) (s : zpS), n ≤ k + m → k ≤ n → zFM I I1 → I1 119 3 = nI k → zpR b k = some s → s.1 = 3 → zRdM I1 s → zq_E G mX8_readCensus 4 0 0 false 92 [some (.ref 119)] [] 138 I1 (zPs fo) (fun v n' I' P' => n' = 138 ∧ P' = zPs fo ∧ zFM I I' ∧ v = some (.int (zpF b n)) ∧ ∀ s, zpR b n = some s → s.1 = 3 → zRdM I' s) := by
  have h80 := hb.1
  intro m
  induction m with
  | zero =>
    intro k I1 s hm hkn hFM hk hz h3 hr
    refine ev_aload_n (q := 93) dX8_readCensus_92 rfl rfl ?_
    refine ev_getI (q := 96) (ci := 8) (f := 3) dX8_readCensus_93 rfl (by first | rfl | assumption | exact zf_kd (by assumption) | exact zw_kd (by assumption) | exact zt_kd (by assumption)) (by first | decide | exact zf_lt (by assumption) | exact zf_lt1 (by assumption) | exact zf_lt2 (by assumption) | exact zf_lt3 (by assumption) | exact zf_lt4 (by assumption) | exact zw_lt (by assumption) | exact zw_lt1 (by assumption) | exact zw_lt2 (by assumption) | exact zw_lt3 (by assumption) | exact zw_lt4 (by assumption) | exact zt_lt (by assumption)) (by decide) (by decide) lfRX8_84 rfl ?_
    rw [hk]
    refine ev_aload_n (q := 97) dX8_readCensus_96 rfl rfl ?_
    refine ev_getI (q := 100) (ci := 8) (f := 2) dX8_readCensus_97 rfl (by first | rfl | assumption | exact zf_kd (by assumption) | exact zw_kd (by assumption) | exact zt_kd (by assumption)) (by first | decide | exact zf_lt (by assumption) | exact zf_lt1 (by assumption) | exact zf_lt2 (by assumption) | exact zf_lt3 (by assumption) | exact zf_lt4 (by assumption) | exact zw_lt (by assumption) | exact zw_lt1 (by assumption) | exact zw_lt2 (by assumption) | exact zw_lt3 (by assumption) | exact zw_lt4 (by assumption) | exact zt_lt (by assumption)) (by decide) (by decide) lfRX8_81 rfl ?_
    rw [(hb.of hFM).2.1]
    refine ev_icmp_ge (q := 103) (t := 115) dX8_readCensus_100 rfl (by decide) (fun h100 => ?_) (fun h100 => ?_)
    · obtain rfl : k = n := by rw [nI_leI (by omega) (by omega)] at h100; omega
      refine ev_bipush (q := 117) ((-9) : Int32) dX8_readCensus_115 rfl (by decide) ?_
      exact ev_iret dX8_readCensus_117 rfl (by first | rfl | exact zb_nar _ | assumption) (⟨rfl, rfl, hFM, by rw [zpF_at hz, if_pos h3], fun s2 hs _ => by rw [hz] at hs; cases hs; exact hr⟩)
    · rw [nI_leI (by omega) (by omega)] at h100; exact absurd h100 (by omega)
  | succ m ih =>
    intro k I1 s hm hkn hFM hk hz h3 hr
    refine ev_aload_n (q := 93) dX8_readCensus_92 rfl rfl ?_
    refine ev_getI (q := 96) (ci := 8) (f := 3) dX8_readCensus_93 rfl (by first | rfl | assumption | exact zf_kd (by assumption) | exact zw_kd (by assumption) | exact zt_kd (by assumption)) (by first | decide | exact zf_lt (by assumption) | exact zf_lt1 (by assumption) | exact zf_lt2 (by assumption) | exact zf_lt3 (by assumption) | exact zf_lt4 (by assumption) | exact zw_lt (by assumption) | exact zw_lt1 (by assumption) | exact zw_lt2 (by assumption) | exact zw_lt3 (by assumption) | exact zw_lt4 (by assumption) | exact zt_lt (by assumption)) (by decide) (by decide) lfRX8_84 rfl ?_
    rw [hk]
    refine ev_aload_n (q := 97) dX8_readCensus_96 rfl rfl ?_
    refine ev_getI (q := 100) (ci := 8) (f := 2) dX8_readCensus_97 rfl (by first | rfl | assumption | exact zf_kd (by assumption) | exact zw_kd (by assumption) | exact zt_kd (by assumption)) (by first | decide | exact zf_lt (by assumption) | exact zf_lt1 (by assumption) | exact zf_lt2 (by assumption) | exact zf_lt3 (by assumption) | exact zf_lt4 (by assumption) | exact zw_lt (by assumption) | exact zw_lt1 (by assumption) | exact zw_lt2 (by assumption) | exact zw_lt3 (by assumption) | exact zw_lt4 (by assumption) | exact zt_lt (by assumption)) (by decide) (by decide) lfRX8_81 rfl ?_
    rw [(hb.of hFM).2.1]
    refine ev_icmp_ge (q := 103) (t := 115) dX8_readCensus_100 rfl (by decide) (fun h100 => ?_) (fun h100 => ?_)
    · obtain rfl : k = n := by rw [nI_leI (by omega) (by omega)] at h100; omega
      refine ev_bipush (q := 117) ((-9) : Int32) dX8_readCensus_115 rfl (by decide) ?_
      exact ev_iret dX8_readCensus_117 rfl (by first | rfl | exact zb_nar _ | assumption) (⟨rfl, rfl, hFM, by rw [zpF_at hz, if_pos h3], fun s2 hs _ => by rw [hz] at hs; cases hs; exact hr⟩)
    · have hlt : k < n := by rw [nI_leI (by omega) (by omega)] at h100; omega
      obtain ⟨w, ak, l, T, N, M, H, A, K, S⟩ := s
      obtain rfl : w = 3 := h3
      refine ev_aload_n (q := 104) dX8_readCensus_103 rfl rfl ?_
      refine ev_cV (q := 107) (ci := 8) dX8_readCensus_104 rfl okX8_readPart lmRX8_121 imX8_readPart seX8_readPart (by first | rfl | assumption | exact zf_kd (by assumption) | exact zw_kd (by assumption) | exact zt_kd (by assumption)) (by first | decide | exact zf_lt (by assumption) | exact zf_lt1 (by assumption) | exact zf_lt2 (by assumption) | exact zf_lt3 (by assumption) | exact zf_lt4 (by assumption) | exact zw_lt (by assumption) | exact zw_lt1 (by assumption) | exact zw_lt2 (by assumption) | exact zw_lt3 (by assumption) | exact zw_lt4 (by assumption) | exact zt_lt (by assumption)) (by decide) rfl (c_X8_readPart G fo I1 (hb.of hFM) hk hlt hz hr) (by decide) rfl rfl (Nat.le_of_ble_eq_true rfl) (fun v104 n104 I104 P104 hR104 => ?_)
      obtain ⟨rfl, rfl, hf9, k9, b9, rfl, q1, q2, q3⟩ := hR104
      refine ev_if_ne (q := 110) (t := 92) dX8_readCensus_107 rfl (by decide) (fun h107 => ?_) (fun h107 => ?_)
      · obtain ⟨q4, q5, s2, q6, q7, q8⟩ := q3 (zb_ne h107)
        exact ih k9 _ s2 (by omega) q5 (hFM.tr hf9) q1 q6 q7 q8
      · obtain ⟨hF, hk9n⟩ := q2 (zb_eq h107)
        refine ev_aload_n (q := 111) dX8_readCensus_110 rfl rfl ?_
        refine ev_getI (q := 114) (ci := 8) (f := 3) dX8_readCensus_111 rfl (by first | rfl | assumption | exact zf_kd (by assumption) | exact zw_kd (by assumption) | exact zt_kd (by assumption)) (by first | decide | exact zf_lt (by assumption) | exact zf_lt1 (by assumption) | exact zf_lt2 (by assumption) | exact zf_lt3 (by assumption) | exact zf_lt4 (by assumption) | exact zw_lt (by assumption) | exact zw_lt1 (by assumption) | exact zw_lt2 (by assumption) | exact zw_lt3 (by assumption) | exact zw_lt4 (by assumption) | exact zt_lt (by assumption)) (by decide) (by decide) lfRX8_84 rfl ?_
        rw [q1]
        exact ev_iret dX8_readCensus_114 rfl (by first | rfl | exact zb_nar _ | assumption) (⟨rfl, rfl, hFM.tr hf9, by rw [hF], fun s2 hs hs3 => absurd ((zpF_at hs).symm.trans hF) (by rw [if_pos hs3]; exact fun q => nI_n9 (m := k9) (by omega) q.symm)⟩)
set_option maxHeartbeats 4000000 in
set_option maxRecDepth 100000 in
theorem c_X8_readCensus (G : zq_G) (fo : Bool) (I : zq_I) {n : Nat} {b : Nat → Nat} (hb : zpuM I b n) : zq_Met G mX8_readCensus 4 0 0 [.ref 119] 138 I (zPs fo) (fun v n' I' P' => n' = 138 ∧ P' = zPs fo ∧ zFM I I' ∧ v = some (.int (zpF b n)) ∧ ∀ s, zpR b n = some s → s.1 = 3 → zRdM I' s) := by
  refine zq_Met.of okX8_readCensus (Nat.le_of_ble_eq_true rfl) ?_
  show zq_E _ _ _ _ _ _ _ [some (.ref 119)] _ _ _ _ _
  have h80 := hb.1
  refine ev_aload_n (q := 1) dX8_readCensus_0 rfl rfl ?_
  refine ev_iconst (q := 2) (0 : Int32) dX8_readCensus_1 rfl (by decide) ?_
  refine ev_putI (q := 5) (ci := 8) (f := 3) dX8_readCensus_2 rfl (by first | rfl | assumption | exact zf_kd (by assumption) | exact zw_kd (by assumption) | exact zt_kd (by assumption)) (by first | decide | exact zf_lt (by assumption) | exact zf_lt1 (by assumption) | exact zf_lt2 (by assumption) | exact zf_lt3 (by assumption) | exact zf_lt4 (by assumption) | exact zw_lt (by assumption) | exact zw_lt1 (by assumption) | exact zw_lt2 (by assumption) | exact zw_lt3 (by assumption) | exact zw_lt4 (by assumption) | exact zt_lt (by assumption)) (by decide) (by decide) lfRX8_84 rfl rfl rfl rfl ?_
  refine ev_aload_n (q := 6) dX8_readCensus_5 rfl rfl ?_
  refine ev_iconst (q := 7) (0 : Int32) dX8_readCensus_6 rfl (by decide) ?_
  refine ev_putI (q := 10) (ci := 8) (f := 18) dX8_readCensus_7 rfl (by first | rfl | assumption | exact zf_kd (by assumption) | exact zw_kd (by assumption) | exact zt_kd (by assumption)) (by first | decide | exact zf_lt (by assumption) | exact zf_lt1 (by assumption) | exact zf_lt2 (by assumption) | exact zf_lt3 (by assumption) | exact zf_lt4 (by assumption) | exact zw_lt (by assumption) | exact zw_lt1 (by assumption) | exact zw_lt2 (by assumption) | exact zw_lt3 (by assumption) | exact zw_lt4 (by assumption) | exact zt_lt (by assumption)) (by decide) (by decide) lfRX8_94 rfl rfl rfl rfl ?_
  refine ev_aload_n (q := 11) dX8_readCensus_10 rfl rfl ?_
  refine ev_iconst (q := 12) (0 : Int32) dX8_readCensus_11 rfl (by decide) ?_
  refine ev_putI (q := 15) (ci := 8) (f := 19) dX8_readCensus_12 rfl (by first | rfl | assumption | exact zf_kd (by assumption) | exact zw_kd (by assumption) | exact zt_kd (by assumption)) (by first | decide | exact zf_lt (by assumption) | exact zf_lt1 (by assumption) | exact zf_lt2 (by assumption) | exact zf_lt3 (by assumption) | exact zf_lt4 (by assumption) | exact zw_lt (by assumption) | exact zw_lt1 (by assumption) | exact zw_lt2 (by assumption) | exact zw_lt3 (by assumption) | exact zw_lt4 (by assumption) | exact zt_lt (by assumption)) (by decide) (by decide) lfRX8_105 rfl rfl rfl rfl ?_
  obtain ⟨I0, hI0⟩ : ∃ I0, I0 = zu (zu (zu I 119 3 0) 119 18 0) 119 19 0 := ⟨_, rfl⟩
  rw [← hI0]
  have hFM0 : zFM I I0 := by rw [hI0]; exact ((zFM.rf.zu 119 3 _ rfl).zu 119 18 _ rfl).zu 119 19 _ rfl
  have hb0 := hb.of hFM0
  refine ev_aload_n (q := 16) dX8_readCensus_15 rfl rfl ?_
  refine ev_getI (q := 19) (ci := 8) (f := 2) dX8_readCensus_16 rfl (by first | rfl | assumption | exact zf_kd (by assumption) | exact zw_kd (by assumption) | exact zt_kd (by assumption)) (by first | decide | exact zf_lt (by assumption) | exact zf_lt1 (by assumption) | exact zf_lt2 (by assumption) | exact zf_lt3 (by assumption) | exact zf_lt4 (by assumption) | exact zw_lt (by assumption) | exact zw_lt1 (by assumption) | exact zw_lt2 (by assumption) | exact zw_lt3 (by assumption) | exact zw_lt4 (by assumption) | exact zt_lt (by assumption)) (by decide) (by decide) lfRX8_81 rfl ?_
  rw [hb0.2.1]
  refine ev_if_eq (q := 22) (t := 33) dX8_readCensus_19 rfl (by decide) (fun h19 => ?_) (fun h19 => ?_)
  · have hn0 : n = 0 := (nI_eq (by omega) (by omega)).mp h19
    refine ev_iconst (q := 34) (0 : Int32) dX8_readCensus_33 rfl (by decide) ?_
    have hF : zpF b n = nI 0 := zpF_bad (show zpR b 0 = some zp0 from rfl) (by omega) (by simp [zp0]) (fun hlt => absurd hlt (by omega))
    exact ev_iret dX8_readCensus_34 rfl (by first | rfl | exact zb_nar _ | assumption) (⟨rfl, rfl, hFM0, by rw [hF]; rfl, fun s hs hs3 => absurd ((zpF_at hs).symm.trans hF) (by rw [if_pos hs3]; decide)⟩)
  · have hn0 : 0 < n := by have : ¬ n = 0 := (fun q => h19 (by rw [q]; rfl)); omega
    refine ev_aload_n (q := 23) dX8_readCensus_22 rfl rfl ?_
    refine ev_getR (q := 26) (ci := 8) (f := 1) dX8_readCensus_23 rfl (by first | rfl | assumption | exact zf_kd (by assumption) | exact zw_kd (by assumption) | exact zt_kd (by assumption)) (by first | decide | exact zf_lt (by assumption) | exact zf_lt1 (by assumption) | exact zf_lt2 (by assumption) | exact zf_lt3 (by assumption) | exact zf_lt4 (by assumption) | exact zw_lt (by assumption) | exact zw_lt1 (by assumption) | exact zw_lt2 (by assumption) | exact zw_lt3 (by assumption) | exact zw_lt4 (by assumption) | exact zt_lt (by assumption)) (by decide) (by decide) lfRX8_7 rfl (by first | rfl | assumption | exact zf_p4 _ (by assumption) | exact zf_p5 _ (by assumption) | exact zf_p6 _ (by assumption) | exact zf_p7 _ (by assumption) | exact zw_p1 _ (by assumption) | exact zw_p2 _ (by assumption) | exact zw_p3 _ (by assumption) | exact zw_p4 _ (by assumption)) ?_
    refine ev_iconst (q := 27) (0 : Int32) dX8_readCensus_26 rfl (by decide) ?_
    refine ev_ialdN (q := 28) dX8_readCensus_27 rfl rfl (by first | decide | exact zf_lt (by assumption) | exact zf_lt1 (by assumption) | exact zf_lt2 (by assumption) | exact zf_lt3 (by assumption) | exact zf_lt4 (by assumption) | exact zw_lt (by assumption) | exact zw_lt1 (by assumption) | exact zw_lt2 (by assumption) | exact zw_lt3 (by assumption) | exact zw_lt4 (by assumption) | exact zt_lt (by assumption)) (by decide) ?_
    rw [show I0 120 0 = nI (b 0) from (hb0.2.2 0 hn0).1]
    refine ev_bipush (q := 30) (nI 90 : Int32) dX8_readCensus_28 rfl (by decide) ?_
    refine ev_icmp_eq (q := 33) (t := 35) dX8_readCensus_30 rfl (by decide) (fun h30 => ?_) (fun h30 => ?_)
    · have hb90 : b 0 = 90 := (nI_eq (by have := (hb.2.2 0 hn0).2; omega) (by omega)).mp h30
      refine ev_aload_n (q := 36) dX8_readCensus_35 rfl rfl ?_
      refine ev_iconst (q := 37) (nI 1 : Int32) dX8_readCensus_36 rfl (by decide) ?_
      refine ev_putI (q := 40) (ci := 8) (f := 3) dX8_readCensus_37 rfl (by first | rfl | assumption | exact zf_kd (by assumption) | exact zw_kd (by assumption) | exact zt_kd (by assumption)) (by first | decide | exact zf_lt (by assumption) | exact zf_lt1 (by assumption) | exact zf_lt2 (by assumption) | exact zf_lt3 (by assumption) | exact zf_lt4 (by assumption) | exact zw_lt (by assumption) | exact zw_lt1 (by assumption) | exact zw_lt2 (by assumption) | exact zw_lt3 (by assumption) | exact zw_lt4 (by assumption) | exact zt_lt (by assumption)) (by decide) (by decide) lfRX8_84 rfl rfl rfl rfl ?_
      obtain ⟨I1, hI1⟩ : ∃ I1, I1 = zu I0 119 3 (nI 1) := ⟨_, rfl⟩
      rw [← hI1]
      have hFM1 : zFM I I1 := by rw [hI1]; exact hFM0.zu 119 3 _ rfl
      have h13 : I1 119 3 = nI 1 := by rw [hI1, zu_eq]
      have e3 : I1 119 18 = nI 0 := by rw [hI1, zu_nn (by omega), hI0, zu_nn (by omega), zu_eq]; rfl
      have e4 : I1 119 19 = nI 0 := by rw [hI1, zu_nn (by omega), hI0, zu_eq]; rfl
      have hz1 : zpR b 1 = some (1, 0, 0, 1, 0, 0, fun _ => 0, fun _ => 0, fun _ => 0, fun _ => 0) := by
        rw [zpR_s (show zpR b 0 = some zp0 from rfl)]; show zpst (0, 0, 0, 1, 0, 0, _, _, _, _) (b 0) = _; simp [zpst, hb90]
      refine ev_aload_n (q := 41) dX8_readCensus_40 rfl rfl ?_
      refine ev_aload_n (q := 42) dX8_readCensus_41 rfl rfl ?_
      refine ev_bipush (q := 44) (nI 48 : Int32) dX8_readCensus_42 rfl (by decide) ?_
      refine ev_iconst (q := 45) (nI 0 : Int32) dX8_readCensus_44 rfl (by decide) ?_
      refine ev_iconst (q := 46) (nI 2 : Int32) dX8_readCensus_45 rfl (by decide) ?_
      refine ev_cV (q := 49) (ci := 8) dX8_readCensus_46 rfl okX8_figure lmRX8_90 imX8_figure seX8_figure (by first | rfl | assumption | exact zf_kd (by assumption) | exact zw_kd (by assumption) | exact zt_kd (by assumption)) (by first | decide | exact zf_lt (by assumption) | exact zf_lt1 (by assumption) | exact zf_lt2 (by assumption) | exact zf_lt3 (by assumption) | exact zf_lt4 (by assumption) | exact zw_lt (by assumption) | exact zw_lt1 (by assumption) | exact zw_lt2 (by assumption) | exact zw_lt3 (by assumption) | exact zw_lt4 (by assumption) | exact zt_lt (by assumption)) (by decide) rfl (c_X8_figure G fo I1 (hb.of hFM1) h13 (show 1 ≤ n by omega) (by omega) (by omega) (by omega)) (by decide) rfl rfl (Nat.le_of_ble_eq_true rfl) (fun v46 n46 I46 P46 hR46 => ?_)
      obtain ⟨rfl, rfl, hg, hng⟩ := hR46
      by_cases hA : 1 < n ∧ 48 + 0 ≤ b 1 ∧ b 1 ≤ 48 + 2
      · obtain ⟨rfl, hI2⟩ := hg hA
        have hFM2 : zFM I I46 := by rw [hI2]; exact hFM1.zu 119 3 _ rfl
        have h23 : I46 119 3 = nI 2 := by rw [hI2, zu_eq]
        have hb1 := (hb.2.2 1 (by omega)).2
        have hz2 : zpR b 2 = some (2, 0, b 1 - 48, 1, 0, 0, fun _ => 0, fun _ => 0, fun _ => 0, fun _ => 0) := by
          rw [zpR_s hz1]; simp [zpst]; omega
        refine ev_putI (q := 52) (ci := 8) (f := 16) dX8_readCensus_49 rfl (by first | rfl | assumption | exact zf_kd (by assumption) | exact zw_kd (by assumption) | exact zt_kd (by assumption)) (by first | decide | exact zf_lt (by assumption) | exact zf_lt1 (by assumption) | exact zf_lt2 (by assumption) | exact zf_lt3 (by assumption) | exact zf_lt4 (by assumption) | exact zw_lt (by assumption) | exact zw_lt1 (by assumption) | exact zw_lt2 (by assumption) | exact zw_lt3 (by assumption) | exact zw_lt4 (by assumption) | exact zt_lt (by assumption)) (by decide) (by decide) lfRX8_118 rfl rfl rfl rfl ?_
        obtain ⟨I3, hI3⟩ : ∃ I3, I3 = zu I46 119 16 (nI (b 1 - 48)) := ⟨_, rfl⟩
        rw [← hI3]
        have hFM3 : zFM I I3 := by rw [hI3]; exact hFM2.zu 119 16 _ rfl
        have h33 : I3 119 3 = nI 2 := by rw [hI3, zu_nn (by omega)]; exact h23
        have f1 : I3 119 16 = nI (b 1 - 48) := by rw [hI3, zu_eq]
        have f3 : I3 119 18 = nI 0 := by rw [hI3, zu_nn (by omega), hI2, zu_nn (by omega)]; exact e3
        have f4 : I3 119 19 = nI 0 := by rw [hI3, zu_nn (by omega), hI2, zu_nn (by omega)]; exact e4
        refine ev_aload_n (q := 53) dX8_readCensus_52 rfl rfl ?_
        refine ev_aload_n (q := 54) dX8_readCensus_53 rfl rfl ?_
        refine ev_getI (q := 57) (ci := 8) (f := 16) dX8_readCensus_54 rfl (by first | rfl | assumption | exact zf_kd (by assumption) | exact zw_kd (by assumption) | exact zt_kd (by assumption)) (by first | decide | exact zf_lt (by assumption) | exact zf_lt1 (by assumption) | exact zf_lt2 (by assumption) | exact zf_lt3 (by assumption) | exact zf_lt4 (by assumption) | exact zw_lt (by assumption) | exact zw_lt1 (by assumption) | exact zw_lt2 (by assumption) | exact zw_lt3 (by assumption) | exact zw_lt4 (by assumption) | exact zt_lt (by assumption)) (by decide) (by decide) lfRX8_118 rfl ?_
        rw [f1]
        refine ev_bipush (q := 59) ((-9) : Int32) dX8_readCensus_57 rfl (by decide) ?_
        refine ev_icmp_ne (q := 62) (t := 67) dX8_readCensus_59 rfl (by decide) (fun h59 => ?_) (fun h59 => ?_)
        · refine ev_aload_n (q := 68) dX8_readCensus_67 rfl rfl ?_
          refine ev_bipush (q := 70) (nI 48 : Int32) dX8_readCensus_68 rfl (by decide) ?_
          refine ev_iconst (q := 71) (nI 1 : Int32) dX8_readCensus_70 rfl (by decide) ?_
          refine ev_iconst (q := 72) (nI 4 : Int32) dX8_readCensus_71 rfl (by decide) ?_
          refine ev_cV (q := 75) (ci := 8) dX8_readCensus_72 rfl okX8_figure lmRX8_90 imX8_figure seX8_figure (by first | rfl | assumption | exact zf_kd (by assumption) | exact zw_kd (by assumption) | exact zt_kd (by assumption)) (by first | decide | exact zf_lt (by assumption) | exact zf_lt1 (by assumption) | exact zf_lt2 (by assumption) | exact zf_lt3 (by assumption) | exact zf_lt4 (by assumption) | exact zw_lt (by assumption) | exact zw_lt1 (by assumption) | exact zw_lt2 (by assumption) | exact zw_lt3 (by assumption) | exact zw_lt4 (by assumption) | exact zt_lt (by assumption)) (by decide) rfl (c_X8_figure G fo I3 (hb.of hFM3) h33 (show 2 ≤ n by omega) (by omega) (by omega) (by omega)) (by decide) rfl rfl (Nat.le_of_ble_eq_true rfl) (fun v72 n72 I72 P72 hR72 => ?_)
          obtain ⟨rfl, rfl, hg, hng⟩ := hR72
          by_cases hB : 2 < n ∧ 48 + 1 ≤ b 2 ∧ b 2 ≤ 48 + 4
          · obtain ⟨rfl, hI4⟩ := hg hB
            have hFM4 : zFM I I72 := by rw [hI4]; exact hFM3.zu 119 3 _ rfl
            have h43 : I72 119 3 = nI 3 := by rw [hI4, zu_eq]
            have hz3 : zpR b 3 = some (3, 0, b 1 - 48, b 2 - 48, 0, 0, fun _ => 0, fun _ => 0, fun _ => 0, fun _ => 0) := by
              rw [zpR_s hz2]; simp [zpst]; omega
            have hb2 := (hb.2.2 2 (by omega)).2
            refine ev_putI (q := 78) (ci := 8) (f := 17) dX8_readCensus_75 rfl (by first | rfl | assumption | exact zf_kd (by assumption) | exact zw_kd (by assumption) | exact zt_kd (by assumption)) (by first | decide | exact zf_lt (by assumption) | exact zf_lt1 (by assumption) | exact zf_lt2 (by assumption) | exact zf_lt3 (by assumption) | exact zf_lt4 (by assumption) | exact zw_lt (by assumption) | exact zw_lt1 (by assumption) | exact zw_lt2 (by assumption) | exact zw_lt3 (by assumption) | exact zw_lt4 (by assumption) | exact zt_lt (by assumption)) (by decide) (by decide) lfRX8_87 rfl rfl rfl rfl ?_
            obtain ⟨I5, hI5⟩ : ∃ I5, I5 = zu I72 119 17 (nI (b 2 - 48)) := ⟨_, rfl⟩
            rw [← hI5]
            have hFM5 : zFM I I5 := by rw [hI5]; exact hFM4.zu 119 17 _ rfl
            have h53 : I5 119 3 = nI 3 := by rw [hI5, zu_nn (by omega)]; exact h43
            have g1 : I5 119 16 = nI (b 1 - 48) := by rw [hI5, zu_nn (by omega), hI4, zu_nn (by omega)]; exact f1
            have g2 : I5 119 17 = nI (b 2 - 48) := by rw [hI5, zu_eq]
            have g3 : I5 119 18 = nI 0 := by rw [hI5, zu_nn (by omega), hI4, zu_nn (by omega)]; exact f3
            have g4 : I5 119 19 = nI 0 := by rw [hI5, zu_nn (by omega), hI4, zu_nn (by omega)]; exact f4
            refine ev_aload_n (q := 79) dX8_readCensus_78 rfl rfl ?_
            refine ev_getI (q := 82) (ci := 8) (f := 17) dX8_readCensus_79 rfl (by first | rfl | assumption | exact zf_kd (by assumption) | exact zw_kd (by assumption) | exact zt_kd (by assumption)) (by first | decide | exact zf_lt (by assumption) | exact zf_lt1 (by assumption) | exact zf_lt2 (by assumption) | exact zf_lt3 (by assumption) | exact zf_lt4 (by assumption) | exact zw_lt (by assumption) | exact zw_lt1 (by assumption) | exact zw_lt2 (by assumption) | exact zw_lt3 (by assumption) | exact zw_lt4 (by assumption) | exact zt_lt (by assumption)) (by decide) (by decide) lfRX8_87 rfl ?_
            rw [g2]
            refine ev_bipush (q := 84) ((-9) : Int32) dX8_readCensus_82 rfl (by decide) ?_
            refine ev_icmp_ne (q := 87) (t := 92) dX8_readCensus_84 rfl (by decide) (fun h84 => ?_) (fun h84 => ?_)
            · exact lp_X8_readCensus G fo I hb n 3 _ _ (by omega) (by omega) hFM5 h53 hz3 rfl ⟨g1, g2, g3, g4, fun p hp => absurd hp (by omega)⟩
            · exact absurd h84 (nI_n9 (by omega))
          · obtain ⟨rfl, hI9⟩ := hng hB
            obtain rfl := hI9.symm
            have hF : zpF b n = nI 2 := zpF_bad hz2 (by omega) (by simp) (fun hlt => by simp [zpst]; omega)
            refine ev_putI (q := 78) (ci := 8) (f := 17) dX8_readCensus_75 rfl (by first | rfl | assumption | exact zf_kd (by assumption) | exact zw_kd (by assumption) | exact zt_kd (by assumption)) (by first | decide | exact zf_lt (by assumption) | exact zf_lt1 (by assumption) | exact zf_lt2 (by assumption) | exact zf_lt3 (by assumption) | exact zf_lt4 (by assumption) | exact zw_lt (by assumption) | exact zw_lt1 (by assumption) | exact zw_lt2 (by assumption) | exact zw_lt3 (by assumption) | exact zw_lt4 (by assumption) | exact zt_lt (by assumption)) (by decide) (by decide) lfRX8_87 rfl rfl rfl rfl ?_
            obtain ⟨I5, hI5⟩ : ∃ I5, I5 = zu I3 119 17 (-9) := ⟨_, rfl⟩
            rw [← hI5]
            have hFM5 : zFM I I5 := by rw [hI5]; exact hFM3.zu 119 17 _ rfl
            have g2 : I5 119 17 = -9 := by rw [hI5, zu_eq]
            have hp5 : I5 119 3 = nI 2 := by rw [hI5, zu_nn (by omega)]; exact h33
            refine ev_aload_n (q := 79) dX8_readCensus_78 rfl rfl ?_
            refine ev_getI (q := 82) (ci := 8) (f := 17) dX8_readCensus_79 rfl (by first | rfl | assumption | exact zf_kd (by assumption) | exact zw_kd (by assumption) | exact zt_kd (by assumption)) (by first | decide | exact zf_lt (by assumption) | exact zf_lt1 (by assumption) | exact zf_lt2 (by assumption) | exact zf_lt3 (by assumption) | exact zf_lt4 (by assumption) | exact zw_lt (by assumption) | exact zw_lt1 (by assumption) | exact zw_lt2 (by assumption) | exact zw_lt3 (by assumption) | exact zw_lt4 (by assumption) | exact zt_lt (by assumption)) (by decide) (by decide) lfRX8_87 rfl ?_
            rw [g2]
            refine ev_bipush (q := 84) ((-9) : Int32) dX8_readCensus_82 rfl (by decide) ?_
            refine ev_icmp_ne (q := 87) (t := 92) dX8_readCensus_84 rfl (by decide) (fun h84 => ?_) (fun h84 => ?_)
            · exact absurd rfl h84
            · refine ev_aload_n (q := 88) dX8_readCensus_87 rfl rfl ?_
              refine ev_getI (q := 91) (ci := 8) (f := 3) dX8_readCensus_88 rfl (by first | rfl | assumption | exact zf_kd (by assumption) | exact zw_kd (by assumption) | exact zt_kd (by assumption)) (by first | decide | exact zf_lt (by assumption) | exact zf_lt1 (by assumption) | exact zf_lt2 (by assumption) | exact zf_lt3 (by assumption) | exact zf_lt4 (by assumption) | exact zw_lt (by assumption) | exact zw_lt1 (by assumption) | exact zw_lt2 (by assumption) | exact zw_lt3 (by assumption) | exact zw_lt4 (by assumption) | exact zt_lt (by assumption)) (by decide) (by decide) lfRX8_84 rfl ?_
              rw [hp5]
              exact ev_iret dX8_readCensus_91 rfl (by first | rfl | exact zb_nar _ | assumption) (⟨rfl, rfl, hFM5, by rw [hF], fun s hs hs3 => absurd ((zpF_at hs).symm.trans hF) (by rw [if_pos hs3]; decide)⟩)
        · exact absurd h59 (nI_n9 (by omega))
      · obtain ⟨rfl, hI9⟩ := hng hA
        obtain rfl := hI9.symm
        have hF : zpF b n = nI 1 := zpF_bad hz1 (by omega) (by simp) (fun hlt => by simp [zpst]; omega)
        refine ev_putI (q := 52) (ci := 8) (f := 16) dX8_readCensus_49 rfl (by first | rfl | assumption | exact zf_kd (by assumption) | exact zw_kd (by assumption) | exact zt_kd (by assumption)) (by first | decide | exact zf_lt (by assumption) | exact zf_lt1 (by assumption) | exact zf_lt2 (by assumption) | exact zf_lt3 (by assumption) | exact zf_lt4 (by assumption) | exact zw_lt (by assumption) | exact zw_lt1 (by assumption) | exact zw_lt2 (by assumption) | exact zw_lt3 (by assumption) | exact zw_lt4 (by assumption) | exact zt_lt (by assumption)) (by decide) (by decide) lfRX8_118 rfl rfl rfl rfl ?_
        obtain ⟨I3, hI3⟩ : ∃ I3, I3 = zu I1 119 16 (-9) := ⟨_, rfl⟩
        rw [← hI3]
        have hFM3 : zFM I I3 := by rw [hI3]; exact hFM1.zu 119 16 _ rfl
        have h33 : I3 119 3 = nI 1 := by rw [hI3, zu_nn (by omega)]; exact h13
        have f1 : I3 119 16 = -9 := by rw [hI3, zu_eq]
        refine ev_aload_n (q := 53) dX8_readCensus_52 rfl rfl ?_
        refine ev_aload_n (q := 54) dX8_readCensus_53 rfl rfl ?_
        refine ev_getI (q := 57) (ci := 8) (f := 16) dX8_readCensus_54 rfl (by first | rfl | assumption | exact zf_kd (by assumption) | exact zw_kd (by assumption) | exact zt_kd (by assumption)) (by first | decide | exact zf_lt (by assumption) | exact zf_lt1 (by assumption) | exact zf_lt2 (by assumption) | exact zf_lt3 (by assumption) | exact zf_lt4 (by assumption) | exact zw_lt (by assumption) | exact zw_lt1 (by assumption) | exact zw_lt2 (by assumption) | exact zw_lt3 (by assumption) | exact zw_lt4 (by assumption) | exact zt_lt (by assumption)) (by decide) (by decide) lfRX8_118 rfl ?_
        rw [f1]
        refine ev_bipush (q := 59) ((-9) : Int32) dX8_readCensus_57 rfl (by decide) ?_
        refine ev_icmp_ne (q := 62) (t := 67) dX8_readCensus_59 rfl (by decide) (fun h59 => ?_) (fun h59 => ?_)
        · exact absurd rfl h59
        · refine ev_bipush (q := 64) ((-9) : Int32) dX8_readCensus_62 rfl (by decide) ?_
          refine ev_goto (t := 75) dX8_readCensus_64 (by decide) ?_
          refine ev_putI (q := 78) (ci := 8) (f := 17) dX8_readCensus_75 rfl (by first | rfl | assumption | exact zf_kd (by assumption) | exact zw_kd (by assumption) | exact zt_kd (by assumption)) (by first | decide | exact zf_lt (by assumption) | exact zf_lt1 (by assumption) | exact zf_lt2 (by assumption) | exact zf_lt3 (by assumption) | exact zf_lt4 (by assumption) | exact zw_lt (by assumption) | exact zw_lt1 (by assumption) | exact zw_lt2 (by assumption) | exact zw_lt3 (by assumption) | exact zw_lt4 (by assumption) | exact zt_lt (by assumption)) (by decide) (by decide) lfRX8_87 rfl rfl rfl rfl ?_
          obtain ⟨I5, hI5⟩ : ∃ I5, I5 = zu I3 119 17 (-9) := ⟨_, rfl⟩
          rw [← hI5]
          have hFM5 : zFM I I5 := by rw [hI5]; exact hFM3.zu 119 17 _ rfl
          have g2 : I5 119 17 = -9 := by rw [hI5, zu_eq]
          have hp5 : I5 119 3 = nI 1 := by rw [hI5, zu_nn (by omega)]; exact h33
          refine ev_aload_n (q := 79) dX8_readCensus_78 rfl rfl ?_
          refine ev_getI (q := 82) (ci := 8) (f := 17) dX8_readCensus_79 rfl (by first | rfl | assumption | exact zf_kd (by assumption) | exact zw_kd (by assumption) | exact zt_kd (by assumption)) (by first | decide | exact zf_lt (by assumption) | exact zf_lt1 (by assumption) | exact zf_lt2 (by assumption) | exact zf_lt3 (by assumption) | exact zf_lt4 (by assumption) | exact zw_lt (by assumption) | exact zw_lt1 (by assumption) | exact zw_lt2 (by assumption) | exact zw_lt3 (by assumption) | exact zw_lt4 (by assumption) | exact zt_lt (by assumption)) (by decide) (by decide) lfRX8_87 rfl ?_
          rw [g2]
          refine ev_bipush (q := 84) ((-9) : Int32) dX8_readCensus_82 rfl (by decide) ?_
          refine ev_icmp_ne (q := 87) (t := 92) dX8_readCensus_84 rfl (by decide) (fun h84 => ?_) (fun h84 => ?_)
          · exact absurd rfl h84
          · refine ev_aload_n (q := 88) dX8_readCensus_87 rfl rfl ?_
            refine ev_getI (q := 91) (ci := 8) (f := 3) dX8_readCensus_88 rfl (by first | rfl | assumption | exact zf_kd (by assumption) | exact zw_kd (by assumption) | exact zt_kd (by assumption)) (by first | decide | exact zf_lt (by assumption) | exact zf_lt1 (by assumption) | exact zf_lt2 (by assumption) | exact zf_lt3 (by assumption) | exact zf_lt4 (by assumption) | exact zw_lt (by assumption) | exact zw_lt1 (by assumption) | exact zw_lt2 (by assumption) | exact zw_lt3 (by assumption) | exact zw_lt4 (by assumption) | exact zt_lt (by assumption)) (by decide) (by decide) lfRX8_84 rfl ?_
            rw [hp5]
            exact ev_iret dX8_readCensus_91 rfl (by first | rfl | exact zb_nar _ | assumption) (⟨rfl, rfl, hFM5, by rw [hF], fun s hs hs3 => absurd ((zpF_at hs).symm.trans hF) (by rw [if_pos hs3]; decide)⟩)
    · refine ev_iconst (q := 34) (0 : Int32) dX8_readCensus_33 rfl (by decide) ?_
      have hF : zpF b n = nI 0 := zpF_bad (show zpR b 0 = some zp0 from rfl) (by omega) (by simp [zp0]) (fun hlt => by show zpst (0, 0, 0, 1, 0, 0, _, _, _, _) (b 0) = none; simp [zpst]; exact fun q => h30 (by rw [q]))
      exact ev_iret dX8_readCensus_34 rfl (by first | rfl | exact zb_nar _ | assumption) (⟨rfl, rfl, hFM0, by rw [hF]; rfl, fun s hs hs3 => absurd ((zpF_at hs).symm.trans hF) (by rw [if_pos hs3]; decide)⟩)
