theorem zS.t4' {fo : Bool} {N T Y : Nat} {I : zq_I} (h : zS fo N T Y I) : T < 2 ^ 31 := by have := h.t4; omega
theorem zS.n31 {fo : Bool} {N T Y : Nat} {I : zq_I} (h : zS fo N T Y I) : N < 2 ^ 31 := by have := h.n8; omega
theorem zm_f1 {m : Int32} (h : m < 0) : zm99 m = false := by simp [zm99, h]
theorem zm_f2 {m : Int32} (h : ¬ m ≤ 99) : zm99 m = false := by simp [zm99, h]
theorem zm_t {m : Int32} (h : ¬ m < 0) (h2 : m ≤ 99) : zm99 m = true := by simp [zm99, h, h2]
theorem zbits_mask (c : Nat → Bool) {N : Nat} (h : N ≤ 8) : ∃ m, m < 256 ∧ m < 2 ^ N ∧ zbits c N = nI m ∧ ∀ k, m.testBit k = (decide (k < N) && c k) := by
  have h1 := zbn_lt c N
  have h2 : 2 ^ N ≤ 2 ^ 8 := Nat.pow_le_pow_right (by omega) h
  exact ⟨zbn c N, by omega, h1, zbits_N c N (by omega), zbn_bit c N⟩
def zForg (V : zq_V) (N Y p : Nat) : Nat := Y + zfst (fun k => zany (fun i => zhas (zMs V N i (nI (Y + k))) p) N) 0 10
set_option maxHeartbeats 4000000 in
set_option maxRecDepth 100000 in
theorem lp_X7_forgotten (G : zq_G) (fo : Bool) (I : zq_I) {N T Y : Nat} (hs : zS fo N T Y I) {p : Nat} (hp : p < N) : zq_E G mX7_forgotten 6 0 0 false 23 [some (.ref 0), some (.int (nI p)), some (.int (nI Y)), some (.int 0)] [] 138 I (zPs fo) (zq_pu (some (.int (nI (zForg (zV I) N Y p)))) 138 I (zPs fo)) := by
  have hN8 := hs.n8
  have hY := hs.2.2.1
  have hfF := zF_is fo
  have lp23 : ∀ (k i : Nat), 10 + 1 ≤ i + k → i ≤ 10 → zfst (fun k => zany (fun i => zhas (zMs (zV I) N i (nI (Y + k))) p) N) 0 10 = zfst (fun k => zany (fun i => zhas (zMs (zV I) N i (nI (Y + k))) p) N) i (10 - i) → zq_E G mX7_forgotten 6 0 0 false 23 [some (.ref 0), some (.int (nI p)), some (.int (nI (Y + i))), some (.int (nI i))] [] 138 I (zPs fo) (zq_pu (some (.int (nI (zForg (zV I) N Y p)))) 138 I (zPs fo)) := by
    intro k
    induction k with
    | zero => intro i  hk hi; exact absurd hk (by omega)
    | succ k ih =>
      intro i  hk hi h0
      refine ev_iload_n (q := 24) dX7_forgotten_23 rfl rfl ?_
      refine ev_bipush (q := 26) (nI 9 : Int32) dX7_forgotten_24 rfl (by decide) ?_
      refine ev_icmp_gt (q := 29) (t := 47) dX7_forgotten_26 rfl (by decide) (fun h26 => ?_) (fun h26 => ?_)
      · obtain rfl : i = 10 := by rw [nI_ltI (by omega) (by omega)] at h26; omega
        refine ev_iload_n (q := 48) dX7_forgotten_47 rfl rfl ?_
        exact ev_iret dX7_forgotten_48 rfl (by first | rfl | exact zb_nar _ | assumption) (⟨by unfold zForg; rw [h0]; rfl, rfl, rfl, rfl⟩)
      · have hlt_i : i < 10 := by rw [nI_ltI (by omega) (by omega)] at h26; omega
        obtain ⟨j, hj⟩ : ∃ j, 10 - i = j + 1 := ⟨9 - i, by omega⟩
        refine ev_aload_n (q := 30) dX7_forgotten_29 rfl rfl ?_
        refine ev_iload_n (q := 31) dX7_forgotten_30 rfl rfl ?_
        refine ev_iload_n (q := 32) dX7_forgotten_31 rfl rfl ?_
        refine ev_pV (q := 35) (ci := 7) dX7_forgotten_32 rfl okX7_isMissed lmRX7_184 imX7_isMissed seX7_isMissed (by first | rfl | assumption | exact zf_kd (by assumption) | exact zw_kd (by assumption) | exact zt_kd (by assumption)) (by first | decide | exact zf_lt (by assumption) | exact zf_lt1 (by assumption) | exact zf_lt2 (by assumption) | exact zf_lt3 (by assumption) | exact zf_lt4 (by assumption) | exact zw_lt (by assumption) | exact zw_lt1 (by assumption) | exact zw_lt2 (by assumption) | exact zw_lt3 (by assumption) | exact zw_lt4 (by assumption) | exact zt_lt (by assumption)) (by decide) rfl (c_X7_isMissed G fo I hs (p := p) _) (by decide) rfl rfl (Nat.le_of_ble_eq_true rfl) ?_
        refine ev_if_eq (q := 38) (t := 47) dX7_forgotten_35 rfl (by decide) (fun h35 => ?_) (fun h35 => ?_)
        · have hm := zb_eq h35
          refine ev_iload_n (q := 48) dX7_forgotten_47 rfl rfl ?_
          exact ev_iret dX7_forgotten_48 rfl (by first | rfl | exact zb_nar _ | assumption) (⟨by unfold zForg; rw [h0, hj, zfst, if_neg (by rw [hm]; decide)], rfl, rfl, rfl⟩)
        · have hm := zb_ne h35
          refine ev_iincL (q := 41) (L9 := [_, _, _, _]) (1 : Int32) dX7_forgotten_38 rfl rfl (by decide) (by decide) rfl rfl ?_
          refine ev_iincL (q := 44) (L9 := [_, _, _, _]) (1 : Int32) dX7_forgotten_41 rfl rfl (by decide) (by decide) rfl rfl ?_
          refine ev_goto (t := 23) dX7_forgotten_44 (by decide) ?_
          rw [nI_1, nI_1]
          exact ih (i + 1) (by omega) (by omega) (by rw [h0, hj, zfst, if_pos hm, show 10 - (i + 1) = j by omega])
  exact lp23 11 0 (by omega) (by omega) rfl
set_option maxHeartbeats 4000000 in
set_option maxRecDepth 100000 in
theorem c_X7_forgotten (G : zq_G) (fo : Bool) (I : zq_I) {N T Y : Nat} (hs : zS fo N T Y I) (x : Int32) : zq_Met G mX7_forgotten 6 0 0 [.ref 0, .int x] 138 I (zPs fo) (zq_pu (some (.int (zpick x N (-1) (fun p => nI (zForg (zV I) N Y p))))) 138 I (zPs fo)) := by
  refine zq_Met.of okX7_forgotten (Nat.le_of_ble_eq_true rfl) ?_
  show zq_E _ _ _ _ _ _ _ [some (.ref 0), some (.int x), none, none] _ _ _ _ _
  have hN8 := hs.n8
  have hN := hs.ppl
  have hfF := zF_is fo
  refine ev_aload_n (q := 1) dX7_forgotten_0 rfl rfl ?_
  refine ev_getR (q := 4) (ci := 7) (f := 9) dX7_forgotten_1 rfl (by first | rfl | assumption | exact zf_kd (by assumption) | exact zw_kd (by assumption) | exact zt_kd (by assumption)) (by first | decide | exact zf_lt (by assumption) | exact zf_lt1 (by assumption) | exact zf_lt2 (by assumption) | exact zf_lt3 (by assumption) | exact zf_lt4 (by assumption) | exact zw_lt (by assumption) | exact zw_lt1 (by assumption) | exact zw_lt2 (by assumption) | exact zw_lt3 (by assumption) | exact zw_lt4 (by assumption) | exact zt_lt (by assumption)) (by decide) (by decide) lfRX7_66 rfl (by first | rfl | assumption | exact zf_p4 _ (by assumption) | exact zf_p5 _ (by assumption) | exact zf_p6 _ (by assumption) | exact zf_p7 _ (by assumption) | exact zw_p1 _ (by assumption) | exact zw_p2 _ (by assumption) | exact zw_p3 _ (by assumption) | exact zw_p4 _ (by assumption)) ?_
  refine ev_iload_n (q := 5) dX7_forgotten_4 rfl rfl ?_
  refine ev_pV (q := 8) (ci := 0) dX7_forgotten_5 rfl okX0_hasPerson lmRX7_120 imX0_hasPerson seX0_hasPerson (by first | rfl | assumption | exact zf_kd (by assumption) | exact zw_kd (by assumption) | exact zt_kd (by assumption)) (by first | decide | exact zf_lt (by assumption) | exact zf_lt1 (by assumption) | exact zf_lt2 (by assumption) | exact zf_lt3 (by assumption) | exact zf_lt4 (by assumption) | exact zw_lt (by assumption) | exact zw_lt1 (by assumption) | exact zw_lt2 (by assumption) | exact zw_lt3 (by assumption) | exact zw_lt4 (by assumption) | exact zt_lt (by assumption)) (by decide) rfl (c_X0_hasPerson G fo I hfF _) (by decide) rfl rfl (Nat.le_of_ble_eq_true rfl) ?_
  refine ev_if_ne (q := 11) (t := 13) dX7_forgotten_8 rfl (by decide) (fun h8 => ?_) (fun h8 => ?_)
  · obtain ⟨p, hp, rfl⟩ := zin_t hs.n31 (show zin x (nI N) = true by rw [hN] at h8; exact zb_ne h8)
    refine ev_aload_n (q := 14) dX7_forgotten_13 rfl rfl ?_
    refine ev_getR (q := 17) (ci := 7) (f := 5) dX7_forgotten_14 rfl (by first | rfl | assumption | exact zf_kd (by assumption) | exact zw_kd (by assumption) | exact zt_kd (by assumption)) (by first | decide | exact zf_lt (by assumption) | exact zf_lt1 (by assumption) | exact zf_lt2 (by assumption) | exact zf_lt3 (by assumption) | exact zf_lt4 (by assumption) | exact zw_lt (by assumption) | exact zw_lt1 (by assumption) | exact zw_lt2 (by assumption) | exact zw_lt3 (by assumption) | exact zw_lt4 (by assumption) | exact zt_lt (by assumption)) (by decide) (by decide) lfRX7_47 rfl (by first | rfl | assumption | exact zf_p4 _ (by assumption) | exact zf_p5 _ (by assumption) | exact zf_p6 _ (by assumption) | exact zf_p7 _ (by assumption) | exact zw_p1 _ (by assumption) | exact zw_p2 _ (by assumption) | exact zw_p3 _ (by assumption) | exact zw_p4 _ (by assumption)) ?_
    refine ev_getI (q := 20) (ci := 6) (f := 0) dX7_forgotten_17 rfl (by first | rfl | assumption | exact zf_kd (by assumption) | exact zw_kd (by assumption) | exact zt_kd (by assumption)) (by first | decide | exact zf_lt (by assumption) | exact zf_lt1 (by assumption) | exact zf_lt2 (by assumption) | exact zf_lt3 (by assumption) | exact zf_lt4 (by assumption) | exact zw_lt (by assumption) | exact zw_lt1 (by assumption) | exact zw_lt2 (by assumption) | exact zw_lt3 (by assumption) | exact zw_lt4 (by assumption) | exact zt_lt (by assumption)) (by decide) (by decide) lfRX7_103 rfl ?_
    rw [hs.yea, hs.2.2.2.1]
    refine ev_istore_nL (q := 21) (L9 := [_, _, _, _]) dX7_forgotten_20 rfl (by decide) rfl rfl ?_
    refine ev_iconst (q := 22) (0 : Int32) dX7_forgotten_21 rfl (by decide) ?_
    refine ev_istore_nL (q := 23) (L9 := [_, _, _, _]) dX7_forgotten_22 rfl (by decide) rfl rfl ?_
    rw [zpick_t hp hs.n31]
    exact lp_X7_forgotten G fo I hs hp
  · have hz : zin x (nI N) = false := by rw [hN] at h8; exact zb_eq h8
    refine ev_iconst (q := 12) ((-1) : Int32) dX7_forgotten_11 rfl (by decide) ?_
    exact ev_iret dX7_forgotten_12 rfl (by first | rfl | exact zb_nar _ | assumption) (⟨by rw [zpick_f hz], rfl, rfl, rfl⟩)
def zLie (I : zq_I) (N : Nat) (m : Int32) (t : Nat) : Int32 := if zm99 m = false then -2 else if m ≤ zCO (I 119 4) (zV I) N (nI t) (I 119 15) + I 128 t then 0 else
  if zCnt (I 119 4) (zV I) N (fun i => zRb (zV I) N i (I 119 15)) (fun i => (vH (zV I) i == nI t) && zTh (zV I) i) + I 128 t < m then -9 else m - (zCO (I 119 4) (zV I) N (nI t) (I 119 15) + I 128 t)
set_option maxHeartbeats 4000000 in
set_option maxRecDepth 100000 in
theorem c_X7_lie (G : zq_G) (fo : Bool) (I : zq_I) {N T Y : Nat} (hs : zS fo N T Y I) (x m : Int32) : zq_Met G mX7_lie 7 0 0 [.ref 0, .int x, .int m] 138 I (zPs fo) (zq_fr (some (.int (zpick x T (-1) (fun t => zLie I N m t)))) fo I) := by
  refine zq_Met.of okX7_lie (Nat.le_of_ble_eq_true rfl) ?_
  show zq_E _ _ _ _ _ _ _ [some (.ref 0), some (.int x), some (.int m), none] _ _ _ _ _
  have hN8 := hs.n8
  have hN := hs.ppl
  have hfF := zF_is fo
  refine ev_aload_n (q := 1) dX7_lie_0 rfl rfl ?_
  refine ev_getR (q := 4) (ci := 7) (f := 9) dX7_lie_1 rfl (by first | rfl | assumption | exact zf_kd (by assumption) | exact zw_kd (by assumption) | exact zt_kd (by assumption)) (by first | decide | exact zf_lt (by assumption) | exact zf_lt1 (by assumption) | exact zf_lt2 (by assumption) | exact zf_lt3 (by assumption) | exact zf_lt4 (by assumption) | exact zw_lt (by assumption) | exact zw_lt1 (by assumption) | exact zw_lt2 (by assumption) | exact zw_lt3 (by assumption) | exact zw_lt4 (by assumption) | exact zt_lt (by assumption)) (by decide) (by decide) lfRX7_66 rfl (by first | rfl | assumption | exact zf_p4 _ (by assumption) | exact zf_p5 _ (by assumption) | exact zf_p6 _ (by assumption) | exact zf_p7 _ (by assumption) | exact zw_p1 _ (by assumption) | exact zw_p2 _ (by assumption) | exact zw_p3 _ (by assumption) | exact zw_p4 _ (by assumption)) ?_
  refine ev_iload_n (q := 5) dX7_lie_4 rfl rfl ?_
  refine ev_pV (q := 8) (ci := 0) dX7_lie_5 rfl okX0_hasTown lmRX7_149 imX0_hasTown seX0_hasTown (by first | rfl | assumption | exact zf_kd (by assumption) | exact zw_kd (by assumption) | exact zt_kd (by assumption)) (by first | decide | exact zf_lt (by assumption) | exact zf_lt1 (by assumption) | exact zf_lt2 (by assumption) | exact zf_lt3 (by assumption) | exact zf_lt4 (by assumption) | exact zw_lt (by assumption) | exact zw_lt1 (by assumption) | exact zw_lt2 (by assumption) | exact zw_lt3 (by assumption) | exact zw_lt4 (by assumption) | exact zt_lt (by assumption)) (by decide) rfl (c_X0_hasTown G fo I hfF _) (by decide) rfl rfl (Nat.le_of_ble_eq_true rfl) ?_
  refine ev_if_ne (q := 11) (t := 13) dX7_lie_8 rfl (by decide) (fun h8 => ?_) (fun h8 => ?_)
  · obtain ⟨t, ht, rfl⟩ := zin_t hs.t4' (show zin x (nI T) = true by rw [hs.twn] at h8; exact zb_ne h8)
    have ht4 : t < 4 := by have := hs.t4; omega
    refine ev_iload_n (q := 14) dX7_lie_13 rfl rfl ?_
    refine ev_if_lt (q := 17) (t := 23) dX7_lie_14 rfl (by decide) (fun h14 => ?_) (fun h14 => ?_)
    · refine ev_bipush (q := 25) ((-2) : Int32) dX7_lie_23 rfl (by decide) ?_
      exact ev_iret dX7_lie_25 rfl (by first | rfl | exact zb_nar _ | assumption) (⟨by rw [zpick_t ht hs.t4']; unfold zLie; first | (rw [zm_f1 h14]; rfl) | (rw [zm_f2 h20]; rfl), rfl, rfl, zFC.rf⟩)
    · refine ev_iload_n (q := 18) dX7_lie_17 rfl rfl ?_
      refine ev_bipush (q := 20) (99 : Int32) dX7_lie_18 rfl (by decide) ?_
      refine ev_icmp_le (q := 23) (t := 26) dX7_lie_20 rfl (by decide) (fun h20 => ?_) (fun h20 => ?_)
      · refine ev_aload_n (q := 27) dX7_lie_26 rfl rfl ?_
        refine ev_iload_n (q := 28) dX7_lie_27 rfl rfl ?_
        refine ev_cV (q := 31) (ci := 7) dX7_lie_28 rfl okX7_countOf lmRX7_152 imX7_countOf seX7_countOf (by first | rfl | assumption | exact zf_kd (by assumption) | exact zw_kd (by assumption) | exact zt_kd (by assumption)) (by first | decide | exact zf_lt (by assumption) | exact zf_lt1 (by assumption) | exact zf_lt2 (by assumption) | exact zf_lt3 (by assumption) | exact zf_lt4 (by assumption) | exact zw_lt (by assumption) | exact zw_lt1 (by assumption) | exact zw_lt2 (by assumption) | exact zw_lt3 (by assumption) | exact zw_lt4 (by assumption) | exact zt_lt (by assumption)) (by decide) rfl (c_X7_countOf G fo I hs ht4) (by decide) rfl rfl (Nat.le_of_ble_eq_true rfl) (fun v28 n28 I28 P28 hR28 => ?_)
        obtain ⟨rfl, rfl, rfl, hFC⟩ := hR28
        have hs1 := hFC.S hs
        have hV := hFC.V
        refine ev_istore_nL (q := 32) (L9 := [_, _, _, _]) dX7_lie_31 rfl (by decide) rfl rfl ?_
        refine ev_iload_n (q := 33) dX7_lie_32 rfl rfl ?_
        refine ev_iload_n (q := 34) dX7_lie_33 rfl rfl ?_
        refine ev_icmp_lt (q := 37) (t := 39) dX7_lie_34 rfl (by decide) (fun h34 => ?_) (fun h34 => ?_)
        · refine ev_aload_n (q := 40) dX7_lie_39 rfl rfl ?_
          refine ev_iload_n (q := 41) dX7_lie_40 rfl rfl ?_
          refine ev_cV (q := 44) (ci := 7) dX7_lie_41 rfl okX7_mostCountByLies lmRX7_188 imX7_mostCountByLies seX7_mostCountByLies (by first | rfl | assumption | exact zf_kd (by assumption) | exact zw_kd (by assumption) | exact zt_kd (by assumption)) (by first | decide | exact zf_lt (by assumption) | exact zf_lt1 (by assumption) | exact zf_lt2 (by assumption) | exact zf_lt3 (by assumption) | exact zf_lt4 (by assumption) | exact zw_lt (by assumption) | exact zw_lt1 (by assumption) | exact zw_lt2 (by assumption) | exact zw_lt3 (by assumption) | exact zw_lt4 (by assumption) | exact zt_lt (by assumption)) (by decide) rfl (c_X7_mostCountByLies G fo I28 hs1 ht4) (by decide) rfl rfl (Nat.le_of_ble_eq_true rfl) (fun v41 n41 I41 P41 hR41 => ?_)
          obtain ⟨rfl, rfl, rfl, hf2⟩ := hR41
          rw [hV, hFC 119 (by cases fo <;> rfl), hFC 128 (by cases fo <;> rfl)]
          refine ev_iload_n (q := 45) dX7_lie_44 rfl rfl ?_
          refine ev_icmp_lt (q := 48) (t := 54) dX7_lie_45 rfl (by decide) (fun h45 => ?_) (fun h45 => ?_)
          · refine ev_bipush (q := 56) ((-9) : Int32) dX7_lie_54 rfl (by decide) ?_
            exact ev_iret dX7_lie_56 rfl (by first | rfl | exact zb_nar _ | assumption) (⟨by rw [zpick_t ht hs.t4']; unfold zLie; rw [zm_t h14 h20, if_neg (by decide), if_neg (Int32.not_le.mpr h34)]; first | rw [if_pos h45] | rw [if_neg h45], rfl, rfl, hFC.tr (z4_FC hf2)⟩)
          · refine ev_iload_n (q := 49) dX7_lie_48 rfl rfl ?_
            refine ev_iload_n (q := 50) dX7_lie_49 rfl rfl ?_
            refine ev_isub (q := 51) dX7_lie_50 rfl ?_
            refine ev_goto (t := 56) dX7_lie_51 (by decide) ?_
            exact ev_iret dX7_lie_56 rfl (by first | rfl | exact zb_nar _ | assumption) (⟨by rw [zpick_t ht hs.t4']; unfold zLie; rw [zm_t h14 h20, if_neg (by decide), if_neg (Int32.not_le.mpr h34)]; first | rw [if_pos h45] | rw [if_neg h45], rfl, rfl, hFC.tr (z4_FC hf2)⟩)
        · refine ev_iconst (q := 38) (0 : Int32) dX7_lie_37 rfl (by decide) ?_
          exact ev_iret dX7_lie_38 rfl (by first | rfl | exact zb_nar _ | assumption) (⟨by rw [zpick_t ht hs.t4']; unfold zLie; rw [zm_t h14 h20, if_neg (by decide), if_pos (Int32.not_lt.mp h34)], rfl, rfl, hFC⟩)
      · refine ev_bipush (q := 25) ((-2) : Int32) dX7_lie_23 rfl (by decide) ?_
        exact ev_iret dX7_lie_25 rfl (by first | rfl | exact zb_nar _ | assumption) (⟨by rw [zpick_t ht hs.t4']; unfold zLie; first | (rw [zm_f1 h14]; rfl) | (rw [zm_f2 h20]; rfl), rfl, rfl, zFC.rf⟩)
  · have hz : zin x (nI T) = false := by rw [hs.twn] at h8; exact zb_eq h8
    refine ev_iconst (q := 12) ((-1) : Int32) dX7_lie_11 rfl (by decide) ?_
    exact ev_iret dX7_lie_12 rfl (by first | rfl | exact zb_nar _ | assumption) (⟨by rw [zpick_f hz], rfl, rfl, zFC.rf⟩)
noncomputable def zLeave (I : zq_I) (N : Nat) (m : Int32) (t : Nat) : Int32 := if zm99 m = false then -2 else if m < I 128 t then -9 else nI (zFew I N (zbn (fun i => (vH (zV I) i == nI t) && zTh (zV I) i) N) (m - I 128 t))
set_option maxHeartbeats 4000000 in
set_option maxRecDepth 100000 in
theorem c_X7_leave (G : zq_G) (fo : Bool) (I : zq_I) {N T Y : Nat} (hs : zS fo N T Y I) (x m : Int32) : zq_Met G mX7_leave 7 0 0 [.ref 0, .int x, .int m] 138 I (zPs fo) (zq_fr (some (.int (zpick x T (-1) (fun t => zLeave I N m t)))) fo I) := by
  refine zq_Met.of okX7_leave (Nat.le_of_ble_eq_true rfl) ?_
  show zq_E _ _ _ _ _ _ _ [some (.ref 0), some (.int x), some (.int m)] _ _ _ _ _
  have hN8 := hs.n8
  have hN := hs.ppl
  have hfF := zF_is fo
  refine ev_aload_n (q := 1) dX7_leave_0 rfl rfl ?_
  refine ev_getR (q := 4) (ci := 7) (f := 9) dX7_leave_1 rfl (by first | rfl | assumption | exact zf_kd (by assumption) | exact zw_kd (by assumption) | exact zt_kd (by assumption)) (by first | decide | exact zf_lt (by assumption) | exact zf_lt1 (by assumption) | exact zf_lt2 (by assumption) | exact zf_lt3 (by assumption) | exact zf_lt4 (by assumption) | exact zw_lt (by assumption) | exact zw_lt1 (by assumption) | exact zw_lt2 (by assumption) | exact zw_lt3 (by assumption) | exact zw_lt4 (by assumption) | exact zt_lt (by assumption)) (by decide) (by decide) lfRX7_66 rfl (by first | rfl | assumption | exact zf_p4 _ (by assumption) | exact zf_p5 _ (by assumption) | exact zf_p6 _ (by assumption) | exact zf_p7 _ (by assumption) | exact zw_p1 _ (by assumption) | exact zw_p2 _ (by assumption) | exact zw_p3 _ (by assumption) | exact zw_p4 _ (by assumption)) ?_
  refine ev_iload_n (q := 5) dX7_leave_4 rfl rfl ?_
  refine ev_pV (q := 8) (ci := 0) dX7_leave_5 rfl okX0_hasTown lmRX7_149 imX0_hasTown seX0_hasTown (by first | rfl | assumption | exact zf_kd (by assumption) | exact zw_kd (by assumption) | exact zt_kd (by assumption)) (by first | decide | exact zf_lt (by assumption) | exact zf_lt1 (by assumption) | exact zf_lt2 (by assumption) | exact zf_lt3 (by assumption) | exact zf_lt4 (by assumption) | exact zw_lt (by assumption) | exact zw_lt1 (by assumption) | exact zw_lt2 (by assumption) | exact zw_lt3 (by assumption) | exact zw_lt4 (by assumption) | exact zt_lt (by assumption)) (by decide) rfl (c_X0_hasTown G fo I hfF _) (by decide) rfl rfl (Nat.le_of_ble_eq_true rfl) ?_
  refine ev_if_ne (q := 11) (t := 13) dX7_leave_8 rfl (by decide) (fun h8 => ?_) (fun h8 => ?_)
  · obtain ⟨t, ht, rfl⟩ := zin_t hs.t4' (show zin x (nI T) = true by rw [hs.twn] at h8; exact zb_ne h8)
    have ht4 : t < 4 := by have := hs.t4; omega
    refine ev_iload_n (q := 14) dX7_leave_13 rfl rfl ?_
    refine ev_if_lt (q := 17) (t := 23) dX7_leave_14 rfl (by decide) (fun h14 => ?_) (fun h14 => ?_)
    · refine ev_bipush (q := 25) ((-2) : Int32) dX7_leave_23 rfl (by decide) ?_
      exact ev_iret dX7_leave_25 rfl (by first | rfl | exact zb_nar _ | assumption) (⟨by rw [zpick_t ht hs.t4']; unfold zLeave; first | (rw [zm_f1 h14]; rfl) | (rw [zm_f2 h20]; rfl), rfl, rfl, zFC.rf⟩)
    · refine ev_iload_n (q := 18) dX7_leave_17 rfl rfl ?_
      refine ev_bipush (q := 20) (99 : Int32) dX7_leave_18 rfl (by decide) ?_
      refine ev_icmp_le (q := 23) (t := 26) dX7_leave_20 rfl (by decide) (fun h20 => ?_) (fun h20 => ?_)
      · refine ev_aload_n (q := 27) dX7_leave_26 rfl rfl ?_
        refine ev_getR (q := 30) (ci := 7) (f := 5) dX7_leave_27 rfl (by first | rfl | assumption | exact zf_kd (by assumption) | exact zw_kd (by assumption) | exact zt_kd (by assumption)) (by first | decide | exact zf_lt (by assumption) | exact zf_lt1 (by assumption) | exact zf_lt2 (by assumption) | exact zf_lt3 (by assumption) | exact zf_lt4 (by assumption) | exact zw_lt (by assumption) | exact zw_lt1 (by assumption) | exact zw_lt2 (by assumption) | exact zw_lt3 (by assumption) | exact zw_lt4 (by assumption) | exact zt_lt (by assumption)) (by decide) (by decide) lfRX7_47 rfl (by first | rfl | assumption | exact zf_p4 _ (by assumption) | exact zf_p5 _ (by assumption) | exact zf_p6 _ (by assumption) | exact zf_p7 _ (by assumption) | exact zw_p1 _ (by assumption) | exact zw_p2 _ (by assumption) | exact zw_p3 _ (by assumption) | exact zw_p4 _ (by assumption)) ?_
        refine ev_getR (q := 33) (ci := 6) (f := 4) dX7_leave_30 rfl (by first | rfl | assumption | exact zf_kd (by assumption) | exact zw_kd (by assumption) | exact zt_kd (by assumption)) (by first | decide | exact zf_lt (by assumption) | exact zf_lt1 (by assumption) | exact zf_lt2 (by assumption) | exact zf_lt3 (by assumption) | exact zf_lt4 (by assumption) | exact zw_lt (by assumption) | exact zw_lt1 (by assumption) | exact zw_lt2 (by assumption) | exact zw_lt3 (by assumption) | exact zw_lt4 (by assumption) | exact zt_lt (by assumption)) (by decide) (by decide) lfRX7_158 rfl (by first | rfl | assumption | exact zf_p4 _ (by assumption) | exact zf_p5 _ (by assumption) | exact zf_p6 _ (by assumption) | exact zf_p7 _ (by assumption) | exact zw_p1 _ (by assumption) | exact zw_p2 _ (by assumption) | exact zw_p3 _ (by assumption) | exact zw_p4 _ (by assumption)) ?_
        refine ev_iload_n (q := 34) dX7_leave_33 rfl rfl ?_
        refine ev_ialdN (q := 35) dX7_leave_34 rfl (by first | rfl | assumption | exact zf_kd1 (by assumption) | exact zf_kd2 (by assumption) | exact zf_kd3 (by assumption) | exact zf_kd4 (by assumption) | exact zw_kd1 (by assumption) | exact zw_kd2 (by assumption) | exact zw_kd3 (by assumption) | exact zw_kd4 (by assumption)) (by first | decide | exact zf_lt (by assumption) | exact zf_lt1 (by assumption) | exact zf_lt2 (by assumption) | exact zf_lt3 (by assumption) | exact zf_lt4 (by assumption) | exact zw_lt (by assumption) | exact zw_lt1 (by assumption) | exact zw_lt2 (by assumption) | exact zw_lt3 (by assumption) | exact zw_lt4 (by assumption) | exact zt_lt (by assumption)) (by first | omega | assumption) ?_
        refine ev_iload_n (q := 36) dX7_leave_35 rfl rfl ?_
        
        refine ev_icmp_le (q := 39) (t := 42) dX7_leave_36 rfl (by decide) (fun h36 => ?_) (fun h36 => ?_)
        · rw [hs.rum ht4] at h36
          refine ev_aload_n (q := 43) dX7_leave_42 rfl rfl ?_
          refine ev_aload_n (q := 44) dX7_leave_43 rfl rfl ?_
          refine ev_iload_n (q := 45) dX7_leave_44 rfl rfl ?_
          refine ev_pV (q := 48) (ci := 7) dX7_leave_45 rfl okX7_atHomeIn lmRX7_191 imX7_atHomeIn seX7_atHomeIn (by first | rfl | assumption | exact zf_kd (by assumption) | exact zw_kd (by assumption) | exact zt_kd (by assumption)) (by first | decide | exact zf_lt (by assumption) | exact zf_lt1 (by assumption) | exact zf_lt2 (by assumption) | exact zf_lt3 (by assumption) | exact zf_lt4 (by assumption) | exact zw_lt (by assumption) | exact zw_lt1 (by assumption) | exact zw_lt2 (by assumption) | exact zw_lt3 (by assumption) | exact zw_lt4 (by assumption) | exact zt_lt (by assumption)) (by decide) rfl (c_X7_atHomeIn G fo I hs _) (by decide) rfl rfl (Nat.le_of_ble_eq_true rfl) ?_
          refine ev_iload_n (q := 49) dX7_leave_48 rfl rfl ?_
          refine ev_aload_n (q := 50) dX7_leave_49 rfl rfl ?_
          refine ev_getR (q := 53) (ci := 7) (f := 5) dX7_leave_50 rfl (by first | rfl | assumption | exact zf_kd (by assumption) | exact zw_kd (by assumption) | exact zt_kd (by assumption)) (by first | decide | exact zf_lt (by assumption) | exact zf_lt1 (by assumption) | exact zf_lt2 (by assumption) | exact zf_lt3 (by assumption) | exact zf_lt4 (by assumption) | exact zw_lt (by assumption) | exact zw_lt1 (by assumption) | exact zw_lt2 (by assumption) | exact zw_lt3 (by assumption) | exact zw_lt4 (by assumption) | exact zt_lt (by assumption)) (by decide) (by decide) lfRX7_47 rfl (by first | rfl | assumption | exact zf_p4 _ (by assumption) | exact zf_p5 _ (by assumption) | exact zf_p6 _ (by assumption) | exact zf_p7 _ (by assumption) | exact zw_p1 _ (by assumption) | exact zw_p2 _ (by assumption) | exact zw_p3 _ (by assumption) | exact zw_p4 _ (by assumption)) ?_
          refine ev_getR (q := 56) (ci := 6) (f := 4) dX7_leave_53 rfl (by first | rfl | assumption | exact zf_kd (by assumption) | exact zw_kd (by assumption) | exact zt_kd (by assumption)) (by first | decide | exact zf_lt (by assumption) | exact zf_lt1 (by assumption) | exact zf_lt2 (by assumption) | exact zf_lt3 (by assumption) | exact zf_lt4 (by assumption) | exact zw_lt (by assumption) | exact zw_lt1 (by assumption) | exact zw_lt2 (by assumption) | exact zw_lt3 (by assumption) | exact zw_lt4 (by assumption) | exact zt_lt (by assumption)) (by decide) (by decide) lfRX7_158 rfl (by first | rfl | assumption | exact zf_p4 _ (by assumption) | exact zf_p5 _ (by assumption) | exact zf_p6 _ (by assumption) | exact zf_p7 _ (by assumption) | exact zw_p1 _ (by assumption) | exact zw_p2 _ (by assumption) | exact zw_p3 _ (by assumption) | exact zw_p4 _ (by assumption)) ?_
          refine ev_iload_n (q := 57) dX7_leave_56 rfl rfl ?_
          refine ev_ialdN (q := 58) dX7_leave_57 rfl (by first | rfl | assumption | exact zf_kd1 (by assumption) | exact zf_kd2 (by assumption) | exact zf_kd3 (by assumption) | exact zf_kd4 (by assumption) | exact zw_kd1 (by assumption) | exact zw_kd2 (by assumption) | exact zw_kd3 (by assumption) | exact zw_kd4 (by assumption)) (by first | decide | exact zf_lt (by assumption) | exact zf_lt1 (by assumption) | exact zf_lt2 (by assumption) | exact zf_lt3 (by assumption) | exact zf_lt4 (by assumption) | exact zw_lt (by assumption) | exact zw_lt1 (by assumption) | exact zw_lt2 (by assumption) | exact zw_lt3 (by assumption) | exact zw_lt4 (by assumption) | exact zt_lt (by assumption)) (by first | omega | assumption) ?_
          rw [hs.rum ht4, zbits_N _ N (by omega)]
          have hm8 : zbn (fun i => (vH (zV I) i == nI t) && zTh (zV I) i) N < 256 := by
            have h1 := zbn_lt (fun i => (vH (zV I) i == nI t) && zTh (zV I) i) N
            have h2 : 2 ^ N ≤ 2 ^ 8 := Nat.pow_le_pow_right (by omega) hN8
            omega
          refine ev_isub (q := 59) dX7_leave_58 rfl ?_
          refine ev_cV (q := 62) (ci := 7) dX7_leave_59 rfl okX7_fewestToLeave lmRX7_194 imX7_fewestToLeave seX7_fewestToLeave (by first | rfl | assumption | exact zf_kd (by assumption) | exact zw_kd (by assumption) | exact zt_kd (by assumption)) (by first | decide | exact zf_lt (by assumption) | exact zf_lt1 (by assumption) | exact zf_lt2 (by assumption) | exact zf_lt3 (by assumption) | exact zf_lt4 (by assumption) | exact zw_lt (by assumption) | exact zw_lt1 (by assumption) | exact zw_lt2 (by assumption) | exact zw_lt3 (by assumption) | exact zw_lt4 (by assumption) | exact zt_lt (by assumption)) (by decide) rfl (c_X7_fewestToLeave G fo I hs hm8 _) (by decide) rfl rfl (Nat.le_of_ble_eq_true rfl) (fun v59 n59 I59 P59 hR59 => ?_)
          obtain ⟨rfl, rfl, rfl, hFC⟩ := hR59
          exact ev_iret dX7_leave_62 rfl (by first | rfl | exact zb_nar _ | assumption) (⟨by rw [zpick_t ht hs.t4']; unfold zLeave; rw [zm_t h14 h20, if_neg (by decide), if_neg (Int32.not_lt.mpr h36)], rfl, rfl, hFC⟩)
        · rw [hs.rum ht4] at h36
          refine ev_bipush (q := 41) ((-9) : Int32) dX7_leave_39 rfl (by decide) ?_
          exact ev_iret dX7_leave_41 rfl (by first | rfl | exact zb_nar _ | assumption) (⟨by rw [zpick_t ht hs.t4']; unfold zLeave; rw [zm_t h14 h20, if_neg (by decide), if_pos (Int32.not_le.mp h36)], rfl, rfl, zFC.rf⟩)
      · refine ev_bipush (q := 25) ((-2) : Int32) dX7_leave_23 rfl (by decide) ?_
        exact ev_iret dX7_leave_25 rfl (by first | rfl | exact zb_nar _ | assumption) (⟨by rw [zpick_t ht hs.t4']; unfold zLeave; first | (rw [zm_f1 h14]; rfl) | (rw [zm_f2 h20]; rfl), rfl, rfl, zFC.rf⟩)
  · have hz : zin x (nI T) = false := by rw [hs.twn] at h8; exact zb_eq h8
    refine ev_iconst (q := 12) ((-1) : Int32) dX7_leave_11 rfl (by decide) ?_
    exact ev_iret dX7_leave_12 rfl (by first | rfl | exact zb_nar _ | assumption) (⟨by rw [zpick_f hz], rfl, rfl, zFC.rf⟩)
