theorem zhas_0 (i : Nat) : zhas 0 i = false := by
  unfold zhas
  have h : ((0 : Int32) >>> (nI i &&& 31)) = 0 := by
    apply Int32.toBitVec_inj.mp
    simp [Int32.toBitVec_shiftRight]
  rw [h]; rfl
theorem zCO_model {l : Int32} {V : zq_V} {N : Nat} {t y : Int32} : zCnt l V N (fun i => zMs V N i y) (fun i => (vH V i == t) && !(zhas 0 i)) = zCO l V N t y := zCnt_congr (fun i _ => by rw [zhas_0]; simp) (fun _ _ _ => rfl)
theorem zFM_of {I : zq_I} : zFM I I := zFM.rf
set_option maxHeartbeats 4000000 in
set_option maxRecDepth 100000 in
theorem k_X8_wipe (G : zq_G) (fo : Bool) (I : zq_I) {N T Y : Nat} (hs : zS fo N T Y I)  : zq_E G mX8_wipe 0 0 0 false 5 [some (.ref 119), none] [] 138 I (zPs fo) (fun v n' I' P' => v = some (.int (I 119 2)) ∧ n' = 138 ∧ P' = zPs fo ∧ I' = zu I 119 2 0) := by
  refine ev_aload_n (q := 6) dX8_wipe_5 rfl rfl ?_
  refine ev_getI (q := 9) (ci := 8) (f := 2) dX8_wipe_6 rfl (by first | rfl | assumption | exact zf_kd (by assumption) | exact zw_kd (by assumption) | exact zt_kd (by assumption)) (by first | decide | exact zf_lt (by assumption) | exact zf_lt1 (by assumption) | exact zf_lt2 (by assumption) | exact zf_lt3 (by assumption) | exact zf_lt4 (by assumption) | exact zw_lt (by assumption) | exact zw_lt1 (by assumption) | exact zw_lt2 (by assumption) | exact zw_lt3 (by assumption) | exact zw_lt4 (by assumption) | exact zt_lt (by assumption)) (by decide) (by decide) lfRX8_81 rfl ?_
  refine ev_istore_nL (q := 10) (L9 := [_, _]) dX8_wipe_9 rfl (by decide) rfl rfl ?_
  refine ev_aload_n (q := 11) dX8_wipe_10 rfl rfl ?_
  refine ev_iconst (q := 12) (0 : Int32) dX8_wipe_11 rfl (by decide) ?_
  refine ev_putI (q := 15) (ci := 8) (f := 2) dX8_wipe_12 rfl (by first | rfl | assumption | exact zf_kd (by assumption) | exact zw_kd (by assumption) | exact zt_kd (by assumption)) (by first | decide | exact zf_lt (by assumption) | exact zf_lt1 (by assumption) | exact zf_lt2 (by assumption) | exact zf_lt3 (by assumption) | exact zf_lt4 (by assumption) | exact zw_lt (by assumption) | exact zw_lt1 (by assumption) | exact zw_lt2 (by assumption) | exact zw_lt3 (by assumption) | exact zw_lt4 (by assumption) | exact zt_lt (by assumption)) (by decide) (by decide) lfRX8_81 rfl rfl rfl rfl ?_
  refine ev_iload_n (q := 16) dX8_wipe_15 rfl rfl ?_
  exact ev_iret dX8_wipe_16 rfl (by first | rfl | exact zb_nar _ | assumption) (⟨rfl, rfl, rfl, rfl⟩)
set_option maxHeartbeats 4000000 in
set_option maxRecDepth 100000 in
theorem c_X8_wipe (G : zq_G) (fo : Bool) (I : zq_I) {N T Y : Nat} (hs : zS fo N T Y I)  : zq_Met G mX8_wipe 0 0 0 [.ref 119] 138 I (zPs fo) (fun v n' I' P' => v = some (.int (I 119 2)) ∧ n' = 138 ∧ P' = zPs fo ∧ zFM (zu I 119 2 0) I') := by
  refine zq_Met.of okX8_wipe (Nat.le_of_ble_eq_true rfl) ?_
  show zq_E _ _ _ _ _ _ _ [some (.ref 119), none] _ _ _ _ _
  refine ev_aload_n (q := 1) dX8_wipe_0 rfl rfl ?_
  refine ev_iconst (q := 2) (0 : Int32) dX8_wipe_1 rfl (by decide) ?_
  refine ev_putI (q := 5) (ci := 8) (f := 0) dX8_wipe_2 rfl (by first | rfl | assumption | exact zf_kd (by assumption) | exact zw_kd (by assumption) | exact zt_kd (by assumption)) (by first | decide | exact zf_lt (by assumption) | exact zf_lt1 (by assumption) | exact zf_lt2 (by assumption) | exact zf_lt3 (by assumption) | exact zf_lt4 (by assumption) | exact zw_lt (by assumption) | exact zw_lt1 (by assumption) | exact zw_lt2 (by assumption) | exact zw_lt3 (by assumption) | exact zw_lt4 (by assumption) | exact zt_lt (by assumption)) (by decide) (by decide) lfRX8_69 rfl rfl rfl rfl ?_
  obtain ⟨I1, hI1⟩ : ∃ I1, I1 = zu I 119 0 0 := ⟨_, rfl⟩
  rw [← hI1]
  have hFM : zFM I I1 := by rw [hI1]; exact zFM.rf.zu 119 0 0 rfl
  have hV := hFM.V
  have e2 : I1 119 2 = I 119 2 := hFM.2 2 rfl
  have e4 : I1 119 4 = I 119 4 := hFM.2 4 rfl
  have e5 : I1 119 5 = I 119 5 := hFM.2 5 rfl
  have e6 : I1 119 6 = I 119 6 := hFM.2 6 rfl
  have e15 : I1 119 15 = I 119 15 := hFM.2 15 rfl
  have e25 : I1 119 25 = I 119 25 := hFM.2 25 rfl
  have f128 : I1 128 = I 128 := hFM.1 128 rfl
  refine ev_post ?_ (k_X8_wipe G fo I1 (hFM.S hs) )
  rintro v n' I' P' ⟨rfl, rfl, rfl, rfl⟩
  exact ⟨by rw [e2], rfl, rfl, by rw [hI1]; exact ⟨fun c hc => by rw [zu_other (by rintro rfl; cases hc), zu_other (by rintro rfl; cases hc), zu_other (by rintro rfl; cases hc)], fun k hk => by simp only [zu]; by_cases h2 : k = 2 <;> by_cases h0 : k = 0 <;> simp_all [zsk]⟩⟩
set_option maxHeartbeats 4000000 in
set_option maxRecDepth 100000 in
theorem k_X8_law (G : zq_G) (fo : Bool) (I : zq_I) {N T Y : Nat} (hs : zS fo N T Y I) (x : Int32) : zq_E G mX8_law 1 0 0 false 5 [some (.ref 119), some (.int x), none] [] 138 I (zPs fo) (fun v n' I' P' => n' = 138 ∧ P' = zPs fo ∧ (zin x 3 = false → v = some (.int (-2)) ∧ I' = I) ∧ (zin x 3 = true → v = some (.int (I 119 4)) ∧ I' = zu I 119 4 x)) := by
  refine ev_iload_n (q := 6) dX8_law_5 rfl rfl ?_
  refine ev_i2l (q := 7) dX8_law_6 rfl ?_
  refine ev_lconst (q := 8) (0 : Int64) dX8_law_7 rfl (by decide) ?_
  refine ev_ldc2 (q := 11) dX8_law_8 rfl ctRX8_176 ?_
  rw [show (2 : Int64) = (nI 3 - 1).toInt64 from by decide]
  refine ev_pS (q := 14) dX8_law_11 rfl okX8_in lmRX8_75 smX8_in (c_X8_in G _ _ _ _ _ _) (by decide) rfl rfl (Nat.le_of_ble_eq_true rfl) ?_
  rw [zinL_n (by omega)]
  refine ev_if_ne (q := 17) (t := 20) dX8_law_14 rfl (by decide) (fun h14 => ?_) (fun h14 => ?_)
  · have hz : zin x 3 = true := zb_ne h14
    refine ev_aload_n (q := 21) dX8_law_20 rfl rfl ?_
    refine ev_getI (q := 24) (ci := 8) (f := 4) dX8_law_21 rfl (by first | rfl | assumption | exact zf_kd (by assumption) | exact zw_kd (by assumption) | exact zt_kd (by assumption)) (by first | decide | exact zf_lt (by assumption) | exact zf_lt1 (by assumption) | exact zf_lt2 (by assumption) | exact zf_lt3 (by assumption) | exact zf_lt4 (by assumption) | exact zw_lt (by assumption) | exact zw_lt1 (by assumption) | exact zw_lt2 (by assumption) | exact zw_lt3 (by assumption) | exact zw_lt4 (by assumption) | exact zt_lt (by assumption)) (by decide) (by decide) lfRX8_128 rfl ?_
    refine ev_istore_nL (q := 25) (L9 := [_, _, _]) dX8_law_24 rfl (by decide) rfl rfl ?_
    refine ev_aload_n (q := 26) dX8_law_25 rfl rfl ?_
    refine ev_iload_n (q := 27) dX8_law_26 rfl rfl ?_
    refine ev_putI (q := 30) (ci := 8) (f := 4) dX8_law_27 rfl (by first | rfl | assumption | exact zf_kd (by assumption) | exact zw_kd (by assumption) | exact zt_kd (by assumption)) (by first | decide | exact zf_lt (by assumption) | exact zf_lt1 (by assumption) | exact zf_lt2 (by assumption) | exact zf_lt3 (by assumption) | exact zf_lt4 (by assumption) | exact zw_lt (by assumption) | exact zw_lt1 (by assumption) | exact zw_lt2 (by assumption) | exact zw_lt3 (by assumption) | exact zw_lt4 (by assumption) | exact zt_lt (by assumption)) (by decide) (by decide) lfRX8_128 rfl rfl rfl rfl ?_
    refine ev_iload_n (q := 31) dX8_law_30 rfl rfl ?_
    exact ev_iret dX8_law_31 rfl (by first | rfl | exact zb_nar _ | assumption) (⟨rfl, rfl, fun h => absurd h (by rw [hz]; decide), fun _ => ⟨rfl, rfl⟩⟩)
  · have hz : zin x 3 = false := zb_eq h14
    refine ev_bipush (q := 19) ((-2) : Int32) dX8_law_17 rfl (by decide) ?_
    exact ev_iret dX8_law_19 rfl (by first | rfl | exact zb_nar _ | assumption) (⟨rfl, rfl, fun _ => ⟨rfl, rfl⟩, fun h => absurd h (by rw [hz]; decide)⟩)
set_option maxHeartbeats 4000000 in
set_option maxRecDepth 100000 in
theorem c_X8_law (G : zq_G) (fo : Bool) (I : zq_I) {N T Y : Nat} (hs : zS fo N T Y I) (x : Int32) : zq_Met G mX8_law 1 0 0 [.ref 119, .int x] 138 I (zPs fo) (fun v n' I' P' => n' = 138 ∧ P' = zPs fo ∧ (zin x 3 = false → v = some (.int (-2)) ∧ zFM I I') ∧ (zin x 3 = true → v = some (.int (I 119 4)) ∧ zFM (zu I 119 4 x) I')) := by
  refine zq_Met.of okX8_law (Nat.le_of_ble_eq_true rfl) ?_
  show zq_E _ _ _ _ _ _ _ [some (.ref 119), some (.int x), none] _ _ _ _ _
  refine ev_aload_n (q := 1) dX8_law_0 rfl rfl ?_
  refine ev_iconst (q := 2) (0 : Int32) dX8_law_1 rfl (by decide) ?_
  refine ev_putI (q := 5) (ci := 8) (f := 0) dX8_law_2 rfl (by first | rfl | assumption | exact zf_kd (by assumption) | exact zw_kd (by assumption) | exact zt_kd (by assumption)) (by first | decide | exact zf_lt (by assumption) | exact zf_lt1 (by assumption) | exact zf_lt2 (by assumption) | exact zf_lt3 (by assumption) | exact zf_lt4 (by assumption) | exact zw_lt (by assumption) | exact zw_lt1 (by assumption) | exact zw_lt2 (by assumption) | exact zw_lt3 (by assumption) | exact zw_lt4 (by assumption) | exact zt_lt (by assumption)) (by decide) (by decide) lfRX8_69 rfl rfl rfl rfl ?_
  obtain ⟨I1, hI1⟩ : ∃ I1, I1 = zu I 119 0 0 := ⟨_, rfl⟩
  rw [← hI1]
  have hFM : zFM I I1 := by rw [hI1]; exact zFM.rf.zu 119 0 0 rfl
  have hV := hFM.V
  have e2 : I1 119 2 = I 119 2 := hFM.2 2 rfl
  have e4 : I1 119 4 = I 119 4 := hFM.2 4 rfl
  have e5 : I1 119 5 = I 119 5 := hFM.2 5 rfl
  have e6 : I1 119 6 = I 119 6 := hFM.2 6 rfl
  have e15 : I1 119 15 = I 119 15 := hFM.2 15 rfl
  have e25 : I1 119 25 = I 119 25 := hFM.2 25 rfl
  have f128 : I1 128 = I 128 := hFM.1 128 rfl
  refine ev_post ?_ (k_X8_law G fo I1 (hFM.S hs) x)
  rintro v n' I' P' ⟨rfl, rfl, h1, h2⟩
  refine ⟨rfl, rfl, fun hz => ?_, fun hz => ?_⟩
  · obtain ⟨rfl, rfl⟩ := h1 hz
    exact ⟨rfl, hFM⟩
  · obtain ⟨rfl, rfl⟩ := h2 hz
    exact ⟨by rw [e4], by rw [hI1]; exact ⟨fun c hc => by rw [zu_other (by rintro rfl; cases hc), zu_other (by rintro rfl; cases hc), zu_other (by rintro rfl; cases hc)], fun k hk => by simp only [zu]; by_cases h2 : k = 4 <;> by_cases h0 : k = 0 <;> simp_all [zsk]⟩⟩
set_option maxHeartbeats 4000000 in
set_option maxRecDepth 100000 in
theorem k_X8_about (G : zq_G) (fo : Bool) (I : zq_I) {N T Y : Nat} (hs : zS fo N T Y I) (w : Int32) : zq_E G mX8_about 5 0 0 false 5 [some (.ref 119), some (.int w), none, none, none] [] 138 I (zPs fo) (zq_fm (some (.int (zsel w [I 119 5, I 119 6, I 119 4, I 119 15, zbits (fun i => zAl (zV I) i) N, zor (fun i => zMs (zV I) N i (I 119 15)) (fun _ => true) N, zsum (fun i => zpop (vA (zV I) i)) (fun _ => true) N, I 119 25, I 119 2] (-2)))) fo I) := by
  have hN8 := hs.n8
  have hN := hs.mppl
  have lp12 : ∀ (k i : Nat) (b e : Int32), N + 1 ≤ i + k → i ≤ N → b = zor zsh (fun i => zAl (zV I) i) i → e = zsum (fun i => zpop (vA (zV I) i)) (fun _ => true) i → zq_E G mX8_about 5 0 0 false 12 [some (.ref 119), some (.int w), some (.int b), some (.int e), some (.int (nI i))] [] 138 I (zPs fo) (zq_fm (some (.int (zsel w [I 119 5, I 119 6, I 119 4, I 119 15, zbits (fun i => zAl (zV I) i) N, zor (fun i => zMs (zV I) N i (I 119 15)) (fun _ => true) N, zsum (fun i => zpop (vA (zV I) i)) (fun _ => true) N, I 119 25, I 119 2] (-2)))) fo I) := by
    intro k
    induction k with
    | zero => intro i b e hk hi; exact absurd hk (by omega)
    | succ k ih =>
      intro i b e hk hi h0 h1
      refine ev_iload (q := 14) dX8_about_12 rfl rfl ?_
      refine ev_aload_n (q := 15) dX8_about_14 rfl rfl ?_
      refine ev_getI (q := 18) (ci := 8) (f := 6) dX8_about_15 rfl (by first | rfl | assumption | exact zf_kd (by assumption) | exact zw_kd (by assumption) | exact zt_kd (by assumption)) (by first | decide | exact zf_lt (by assumption) | exact zf_lt1 (by assumption) | exact zf_lt2 (by assumption) | exact zf_lt3 (by assumption) | exact zf_lt4 (by assumption) | exact zw_lt (by assumption) | exact zw_lt1 (by assumption) | exact zw_lt2 (by assumption) | exact zw_lt3 (by assumption) | exact zw_lt4 (by assumption) | exact zt_lt (by assumption)) (by decide) (by decide) lfRX8_72 rfl ?_
      refine ev_icmp_ge (q := 21) (t := 63) dX8_about_18 rfl (by decide) (fun h18 => ?_) (fun h18 => ?_)
      · obtain rfl : i = N := by rw [hN, nI_leI (by omega) (by omega)] at h18; omega
        refine ev_iload_n (q := 64) dX8_about_63 rfl rfl ?_
        rcases zsw_c w (n := 9) (by omega) with hsw | ⟨k9, hk9, rfl⟩
        · refine ev_swOut (t := 159) dX8_about_64 (by exact hsw) (by decide) ?_
          refine ev_bipush (q := 161) ((-2) : Int32) dX8_about_159 rfl (by decide) ?_
          exact ev_iret dX8_about_161 rfl (by first | rfl | exact zb_nar _ | assumption) (⟨by rw [zsel_f (by simp) (by exact hsw)], rfl, rfl, zFM.rf⟩)
        · rcases (by omega : k9 = 0 ∨ k9 = 1 ∨ k9 = 2 ∨ k9 = 3 ∨ k9 = 4 ∨ k9 = 5 ∨ k9 = 6 ∨ k9 = 7 ∨ k9 = 8) with rfl | rfl | rfl | rfl | rfl | rfl | rfl | rfl | rfl
          · refine ev_swIn (off := 52) (t := 116) dX8_about_64 (by decide) (by decide) (by decide) (by decide) ?_
            refine ev_aload_n (q := 117) dX8_about_116 rfl rfl ?_
            refine ev_getI (q := 120) (ci := 8) (f := 5) dX8_about_117 rfl (by first | rfl | assumption | exact zf_kd (by assumption) | exact zw_kd (by assumption) | exact zt_kd (by assumption)) (by first | decide | exact zf_lt (by assumption) | exact zf_lt1 (by assumption) | exact zf_lt2 (by assumption) | exact zf_lt3 (by assumption) | exact zf_lt4 (by assumption) | exact zw_lt (by assumption) | exact zw_lt1 (by assumption) | exact zw_lt2 (by assumption) | exact zw_lt3 (by assumption) | exact zw_lt4 (by assumption) | exact zt_lt (by assumption)) (by decide) (by decide) lfRX8_13 rfl ?_
            exact ev_iret dX8_about_120 rfl (by first | rfl | exact zb_nar _ | assumption) (⟨by rw [zsel_t (by simp) (by simp)]; first | rfl | (rw [h0]; rfl) | (rw [h1]; rfl), rfl, rfl, zFM.rf⟩)
          · refine ev_swIn (off := 57) (t := 121) dX8_about_64 (by decide) (by decide) (by decide) (by decide) ?_
            refine ev_aload_n (q := 122) dX8_about_121 rfl rfl ?_
            refine ev_getI (q := 125) (ci := 8) (f := 6) dX8_about_122 rfl (by first | rfl | assumption | exact zf_kd (by assumption) | exact zw_kd (by assumption) | exact zt_kd (by assumption)) (by first | decide | exact zf_lt (by assumption) | exact zf_lt1 (by assumption) | exact zf_lt2 (by assumption) | exact zf_lt3 (by assumption) | exact zf_lt4 (by assumption) | exact zw_lt (by assumption) | exact zw_lt1 (by assumption) | exact zw_lt2 (by assumption) | exact zw_lt3 (by assumption) | exact zw_lt4 (by assumption) | exact zt_lt (by assumption)) (by decide) (by decide) lfRX8_72 rfl ?_
            exact ev_iret dX8_about_125 rfl (by first | rfl | exact zb_nar _ | assumption) (⟨by rw [zsel_t (by simp) (by simp)]; first | rfl | (rw [h0]; rfl) | (rw [h1]; rfl), rfl, rfl, zFM.rf⟩)
          · refine ev_swIn (off := 62) (t := 126) dX8_about_64 (by decide) (by decide) (by decide) (by decide) ?_
            refine ev_aload_n (q := 127) dX8_about_126 rfl rfl ?_
            refine ev_getI (q := 130) (ci := 8) (f := 4) dX8_about_127 rfl (by first | rfl | assumption | exact zf_kd (by assumption) | exact zw_kd (by assumption) | exact zt_kd (by assumption)) (by first | decide | exact zf_lt (by assumption) | exact zf_lt1 (by assumption) | exact zf_lt2 (by assumption) | exact zf_lt3 (by assumption) | exact zf_lt4 (by assumption) | exact zw_lt (by assumption) | exact zw_lt1 (by assumption) | exact zw_lt2 (by assumption) | exact zw_lt3 (by assumption) | exact zw_lt4 (by assumption) | exact zt_lt (by assumption)) (by decide) (by decide) lfRX8_128 rfl ?_
            exact ev_iret dX8_about_130 rfl (by first | rfl | exact zb_nar _ | assumption) (⟨by rw [zsel_t (by simp) (by simp)]; first | rfl | (rw [h0]; rfl) | (rw [h1]; rfl), rfl, rfl, zFM.rf⟩)
          · refine ev_swIn (off := 67) (t := 131) dX8_about_64 (by decide) (by decide) (by decide) (by decide) ?_
            refine ev_aload_n (q := 132) dX8_about_131 rfl rfl ?_
            refine ev_getI (q := 135) (ci := 8) (f := 15) dX8_about_132 rfl (by first | rfl | assumption | exact zf_kd (by assumption) | exact zw_kd (by assumption) | exact zt_kd (by assumption)) (by first | decide | exact zf_lt (by assumption) | exact zf_lt1 (by assumption) | exact zf_lt2 (by assumption) | exact zf_lt3 (by assumption) | exact zf_lt4 (by assumption) | exact zw_lt (by assumption) | exact zw_lt1 (by assumption) | exact zw_lt2 (by assumption) | exact zw_lt3 (by assumption) | exact zw_lt4 (by assumption) | exact zt_lt (by assumption)) (by decide) (by decide) lfRX8_131 rfl ?_
            exact ev_iret dX8_about_135 rfl (by first | rfl | exact zb_nar _ | assumption) (⟨by rw [zsel_t (by simp) (by simp)]; first | rfl | (rw [h0]; rfl) | (rw [h1]; rfl), rfl, rfl, zFM.rf⟩)
          · refine ev_swIn (off := 72) (t := 136) dX8_about_64 (by decide) (by decide) (by decide) (by decide) ?_
            refine ev_iload_n (q := 137) dX8_about_136 rfl rfl ?_
            exact ev_iret dX8_about_137 rfl (by first | rfl | exact zb_nar _ | assumption) (⟨by rw [zsel_t (by simp) (by simp)]; first | rfl | (rw [h0]; rfl) | (rw [h1]; rfl), rfl, rfl, zFM.rf⟩)
          · refine ev_swIn (off := 74) (t := 138) dX8_about_64 (by decide) (by decide) (by decide) (by decide) ?_
            refine ev_aload_n (q := 139) dX8_about_138 rfl rfl ?_
            refine ev_aload_n (q := 140) dX8_about_139 rfl rfl ?_
            refine ev_getI (q := 143) (ci := 8) (f := 15) dX8_about_140 rfl (by first | rfl | assumption | exact zf_kd (by assumption) | exact zw_kd (by assumption) | exact zt_kd (by assumption)) (by first | decide | exact zf_lt (by assumption) | exact zf_lt1 (by assumption) | exact zf_lt2 (by assumption) | exact zf_lt3 (by assumption) | exact zf_lt4 (by assumption) | exact zw_lt (by assumption) | exact zw_lt1 (by assumption) | exact zw_lt2 (by assumption) | exact zw_lt3 (by assumption) | exact zw_lt4 (by assumption) | exact zt_lt (by assumption)) (by decide) (by decide) lfRX8_131 rfl ?_
            refine ev_pV (q := 146) (ci := 8) dX8_about_143 rfl okX8_missed lmRX8_161 imX8_missed seX8_missed (by first | rfl | assumption | exact zf_kd (by assumption) | exact zw_kd (by assumption) | exact zt_kd (by assumption)) (by first | decide | exact zf_lt (by assumption) | exact zf_lt1 (by assumption) | exact zf_lt2 (by assumption) | exact zf_lt3 (by assumption) | exact zf_lt4 (by assumption) | exact zw_lt (by assumption) | exact zw_lt1 (by assumption) | exact zw_lt2 (by assumption) | exact zw_lt3 (by assumption) | exact zw_lt4 (by assumption) | exact zt_lt (by assumption)) (by decide) rfl (c_X8_missed G fo I hs _) (by decide) rfl rfl (Nat.le_of_ble_eq_true rfl) ?_
            exact ev_iret dX8_about_146 rfl (by first | rfl | exact zb_nar _ | assumption) (⟨by rw [zsel_t (by simp) (by simp)]; first | rfl | (rw [h0]; rfl) | (rw [h1]; rfl), rfl, rfl, zFM.rf⟩)
          · refine ev_swIn (off := 83) (t := 147) dX8_about_64 (by decide) (by decide) (by decide) (by decide) ?_
            refine ev_iload_n (q := 148) dX8_about_147 rfl rfl ?_
            exact ev_iret dX8_about_148 rfl (by first | rfl | exact zb_nar _ | assumption) (⟨by rw [zsel_t (by simp) (by simp)]; first | rfl | (rw [h0]; rfl) | (rw [h1]; rfl), rfl, rfl, zFM.rf⟩)
          · refine ev_swIn (off := 85) (t := 149) dX8_about_64 (by decide) (by decide) (by decide) (by decide) ?_
            refine ev_aload_n (q := 150) dX8_about_149 rfl rfl ?_
            refine ev_getI (q := 153) (ci := 8) (f := 25) dX8_about_150 rfl (by first | rfl | assumption | exact zf_kd (by assumption) | exact zw_kd (by assumption) | exact zt_kd (by assumption)) (by first | decide | exact zf_lt (by assumption) | exact zf_lt1 (by assumption) | exact zf_lt2 (by assumption) | exact zf_lt3 (by assumption) | exact zf_lt4 (by assumption) | exact zw_lt (by assumption) | exact zw_lt1 (by assumption) | exact zw_lt2 (by assumption) | exact zw_lt3 (by assumption) | exact zw_lt4 (by assumption) | exact zt_lt (by assumption)) (by decide) (by decide) lfRX8_134 rfl ?_
            exact ev_iret dX8_about_153 rfl (by first | rfl | exact zb_nar _ | assumption) (⟨by rw [zsel_t (by simp) (by simp)]; first | rfl | (rw [h0]; rfl) | (rw [h1]; rfl), rfl, rfl, zFM.rf⟩)
          · refine ev_swIn (off := 90) (t := 154) dX8_about_64 (by decide) (by decide) (by decide) (by decide) ?_
            refine ev_aload_n (q := 155) dX8_about_154 rfl rfl ?_
            refine ev_getI (q := 158) (ci := 8) (f := 2) dX8_about_155 rfl (by first | rfl | assumption | exact zf_kd (by assumption) | exact zw_kd (by assumption) | exact zt_kd (by assumption)) (by first | decide | exact zf_lt (by assumption) | exact zf_lt1 (by assumption) | exact zf_lt2 (by assumption) | exact zf_lt3 (by assumption) | exact zf_lt4 (by assumption) | exact zw_lt (by assumption) | exact zw_lt1 (by assumption) | exact zw_lt2 (by assumption) | exact zw_lt3 (by assumption) | exact zw_lt4 (by assumption) | exact zt_lt (by assumption)) (by decide) (by decide) lfRX8_81 rfl ?_
            exact ev_iret dX8_about_158 rfl (by first | rfl | exact zb_nar _ | assumption) (⟨by rw [zsel_t (by simp) (by simp)]; first | rfl | (rw [h0]; rfl) | (rw [h1]; rfl), rfl, rfl, zFM.rf⟩)
      · have hlt_i : i < N := by rw [hN, nI_leI (by omega) (by omega)] at h18; omega
        refine ev_iload_n (q := 22) dX8_about_21 rfl rfl ?_
        refine ev_aload_n (q := 23) dX8_about_22 rfl rfl ?_
        refine ev_getR (q := 26) (ci := 8) (f := 13) dX8_about_23 rfl (by first | rfl | assumption | exact zf_kd (by assumption) | exact zw_kd (by assumption) | exact zt_kd (by assumption)) (by first | decide | exact zf_lt (by assumption) | exact zf_lt1 (by assumption) | exact zf_lt2 (by assumption) | exact zf_lt3 (by assumption) | exact zf_lt4 (by assumption) | exact zw_lt (by assumption) | exact zw_lt1 (by assumption) | exact zw_lt2 (by assumption) | exact zw_lt3 (by assumption) | exact zw_lt4 (by assumption) | exact zt_lt (by assumption)) (by decide) (by decide) lfRX8_35 rfl (by first | rfl | assumption | exact zf_p4 _ (by assumption) | exact zf_p5 _ (by assumption) | exact zf_p6 _ (by assumption) | exact zf_p7 _ (by assumption) | exact zw_p1 _ (by assumption) | exact zw_p2 _ (by assumption) | exact zw_p3 _ (by assumption) | exact zw_p4 _ (by assumption)) ?_
        refine ev_iload (q := 28) dX8_about_26 rfl rfl ?_
        refine ev_ialdN (q := 29) dX8_about_28 rfl (by first | rfl | assumption | exact zf_kd1 (by assumption) | exact zf_kd2 (by assumption) | exact zf_kd3 (by assumption) | exact zf_kd4 (by assumption) | exact zw_kd1 (by assumption) | exact zw_kd2 (by assumption) | exact zw_kd3 (by assumption) | exact zw_kd4 (by assumption)) (by first | decide | exact zf_lt (by assumption) | exact zf_lt1 (by assumption) | exact zf_lt2 (by assumption) | exact zf_lt3 (by assumption) | exact zf_lt4 (by assumption) | exact zw_lt (by assumption) | exact zw_lt1 (by assumption) | exact zw_lt2 (by assumption) | exact zw_lt3 (by assumption) | exact zw_lt4 (by assumption) | exact zt_lt (by assumption)) (by first | omega | assumption) ?_
        refine ev_bipush (q := 31) ((-9) : Int32) dX8_about_29 rfl (by decide) ?_
        refine ev_icmp_ne (q := 34) (t := 41) dX8_about_31 rfl (by decide) (fun h31 => ?_) (fun h31 => ?_)
        · have q : zAl (zV I) i = false := by show (I 127 i == -9) = false; simpa using h31
          refine ev_iconst (q := 42) (0 : Int32) dX8_about_41 rfl (by decide) ?_
          refine ev_ior (q := 43) dX8_about_42 rfl ?_
          refine ev_istore_nL (q := 44) (L9 := [_, _, _, _, _]) dX8_about_43 rfl (by decide) rfl rfl ?_
          refine ev_iload_n (q := 45) dX8_about_44 rfl rfl ?_
          refine ev_aload_n (q := 46) dX8_about_45 rfl rfl ?_
          refine ev_getR (q := 49) (ci := 8) (f := 10) dX8_about_46 rfl (by first | rfl | assumption | exact zf_kd (by assumption) | exact zw_kd (by assumption) | exact zt_kd (by assumption)) (by first | decide | exact zf_lt (by assumption) | exact zf_lt1 (by assumption) | exact zf_lt2 (by assumption) | exact zf_lt3 (by assumption) | exact zf_lt4 (by assumption) | exact zw_lt (by assumption) | exact zw_lt1 (by assumption) | exact zw_lt2 (by assumption) | exact zw_lt3 (by assumption) | exact zw_lt4 (by assumption) | exact zt_lt (by assumption)) (by decide) (by decide) lfRX8_26 rfl (by first | rfl | assumption | exact zf_p4 _ (by assumption) | exact zf_p5 _ (by assumption) | exact zf_p6 _ (by assumption) | exact zf_p7 _ (by assumption) | exact zw_p1 _ (by assumption) | exact zw_p2 _ (by assumption) | exact zw_p3 _ (by assumption) | exact zw_p4 _ (by assumption)) ?_
          refine ev_iload (q := 51) dX8_about_49 rfl rfl ?_
          refine ev_ialdN (q := 52) dX8_about_51 rfl (by first | rfl | assumption | exact zf_kd1 (by assumption) | exact zf_kd2 (by assumption) | exact zf_kd3 (by assumption) | exact zf_kd4 (by assumption) | exact zw_kd1 (by assumption) | exact zw_kd2 (by assumption) | exact zw_kd3 (by assumption) | exact zw_kd4 (by assumption)) (by first | decide | exact zf_lt (by assumption) | exact zf_lt1 (by assumption) | exact zf_lt2 (by assumption) | exact zf_lt3 (by assumption) | exact zf_lt4 (by assumption) | exact zw_lt (by assumption) | exact zw_lt1 (by assumption) | exact zw_lt2 (by assumption) | exact zw_lt3 (by assumption) | exact zw_lt4 (by assumption) | exact zt_lt (by assumption)) (by first | omega | assumption) ?_
          refine ev_pS (q := 55) dX8_about_52 rfl okX8_many lmRX8_151 smX8_many (c_X8_many G _ _ _ _) (by decide) rfl rfl (Nat.le_of_ble_eq_true rfl) ?_
          obtain ⟨a9, ha9, ea9⟩ := hs.askR hlt_i
          rw [show I 124 i = vA (zV I) i from rfl, ea9, zmany_pop a9 ha9, ← ea9]
          refine ev_iadd (q := 56) dX8_about_55 rfl ?_
          refine ev_istore_nL (q := 57) (L9 := [_, _, _, _, _]) dX8_about_56 rfl (by decide) rfl rfl ?_
          refine ev_iincL (q := 60) (L9 := [_, _, _, _, _]) (1 : Int32) dX8_about_57 rfl rfl (by decide) (by decide) rfl rfl ?_
          refine ev_goto (t := 12) dX8_about_60 (by decide) ?_
          rw [nI_1]
          exact ih (i + 1) _ _ (by omega) (by omega) (by rw [i32_or_0]; exact zor_n h0 q) (zsum_s h1 rfl)
        · have q : zAl (zV I) i = true := by show (I 127 i == -9) = true; simpa using h31
          refine ev_iconst (q := 35) (1 : Int32) dX8_about_34 rfl (by decide) ?_
          refine ev_iload (q := 37) dX8_about_35 rfl rfl ?_
          refine ev_ishl (q := 38) dX8_about_37 rfl ?_
          refine ev_goto (t := 42) dX8_about_38 (by decide) ?_
          refine ev_ior (q := 43) dX8_about_42 rfl ?_
          refine ev_istore_nL (q := 44) (L9 := [_, _, _, _, _]) dX8_about_43 rfl (by decide) rfl rfl ?_
          refine ev_iload_n (q := 45) dX8_about_44 rfl rfl ?_
          refine ev_aload_n (q := 46) dX8_about_45 rfl rfl ?_
          refine ev_getR (q := 49) (ci := 8) (f := 10) dX8_about_46 rfl (by first | rfl | assumption | exact zf_kd (by assumption) | exact zw_kd (by assumption) | exact zt_kd (by assumption)) (by first | decide | exact zf_lt (by assumption) | exact zf_lt1 (by assumption) | exact zf_lt2 (by assumption) | exact zf_lt3 (by assumption) | exact zf_lt4 (by assumption) | exact zw_lt (by assumption) | exact zw_lt1 (by assumption) | exact zw_lt2 (by assumption) | exact zw_lt3 (by assumption) | exact zw_lt4 (by assumption) | exact zt_lt (by assumption)) (by decide) (by decide) lfRX8_26 rfl (by first | rfl | assumption | exact zf_p4 _ (by assumption) | exact zf_p5 _ (by assumption) | exact zf_p6 _ (by assumption) | exact zf_p7 _ (by assumption) | exact zw_p1 _ (by assumption) | exact zw_p2 _ (by assumption) | exact zw_p3 _ (by assumption) | exact zw_p4 _ (by assumption)) ?_
          refine ev_iload (q := 51) dX8_about_49 rfl rfl ?_
          refine ev_ialdN (q := 52) dX8_about_51 rfl (by first | rfl | assumption | exact zf_kd1 (by assumption) | exact zf_kd2 (by assumption) | exact zf_kd3 (by assumption) | exact zf_kd4 (by assumption) | exact zw_kd1 (by assumption) | exact zw_kd2 (by assumption) | exact zw_kd3 (by assumption) | exact zw_kd4 (by assumption)) (by first | decide | exact zf_lt (by assumption) | exact zf_lt1 (by assumption) | exact zf_lt2 (by assumption) | exact zf_lt3 (by assumption) | exact zf_lt4 (by assumption) | exact zw_lt (by assumption) | exact zw_lt1 (by assumption) | exact zw_lt2 (by assumption) | exact zw_lt3 (by assumption) | exact zw_lt4 (by assumption) | exact zt_lt (by assumption)) (by first | omega | assumption) ?_
          refine ev_pS (q := 55) dX8_about_52 rfl okX8_many lmRX8_151 smX8_many (c_X8_many G _ _ _ _) (by decide) rfl rfl (Nat.le_of_ble_eq_true rfl) ?_
          obtain ⟨a9, ha9, ea9⟩ := hs.askR hlt_i
          rw [show I 124 i = vA (zV I) i from rfl, ea9, zmany_pop a9 ha9, ← ea9]
          refine ev_iadd (q := 56) dX8_about_55 rfl ?_
          refine ev_istore_nL (q := 57) (L9 := [_, _, _, _, _]) dX8_about_56 rfl (by decide) rfl rfl ?_
          refine ev_iincL (q := 60) (L9 := [_, _, _, _, _]) (1 : Int32) dX8_about_57 rfl rfl (by decide) (by decide) rfl rfl ?_
          refine ev_goto (t := 12) dX8_about_60 (by decide) ?_
          rw [nI_1]
          exact ih (i + 1) _ _ (by omega) (by omega) (zor_s h0 q) (zsum_s h1 rfl)
  refine ev_iconst (q := 6) (0 : Int32) dX8_about_5 rfl (by decide) ?_
  refine ev_istore_nL (q := 7) (L9 := [_, _, _, _, _]) dX8_about_6 rfl (by decide) rfl rfl ?_
  refine ev_iconst (q := 8) (0 : Int32) dX8_about_7 rfl (by decide) ?_
  refine ev_istore_nL (q := 9) (L9 := [_, _, _, _, _]) dX8_about_8 rfl (by decide) rfl rfl ?_
  refine ev_iconst (q := 10) (0 : Int32) dX8_about_9 rfl (by decide) ?_
  refine ev_istoreL (q := 12) (L9 := [_, _, _, _, _]) dX8_about_10 rfl (by decide) rfl rfl ?_
  exact lp12 (N + 1) 0 0 0 (by omega) (by omega) rfl rfl
set_option maxHeartbeats 4000000 in
set_option maxRecDepth 100000 in
theorem c_X8_about (G : zq_G) (fo : Bool) (I : zq_I) {N T Y : Nat} (hs : zS fo N T Y I) (w : Int32) : zq_Met G mX8_about 5 0 0 [.ref 119, .int w] 138 I (zPs fo) (zq_fm (some (.int (zsel w [I 119 5, I 119 6, I 119 4, I 119 15, zbits (fun i => zAl (zV I) i) N, zor (fun i => zMs (zV I) N i (I 119 15)) (fun _ => true) N, zsum (fun i => zpop (vA (zV I) i)) (fun _ => true) N, I 119 25, I 119 2] (-2)))) fo I) := by
  refine zq_Met.of okX8_about (Nat.le_of_ble_eq_true rfl) ?_
  show zq_E _ _ _ _ _ _ _ [some (.ref 119), some (.int w), none, none, none] _ _ _ _ _
  refine ev_aload_n (q := 1) dX8_about_0 rfl rfl ?_
  refine ev_iconst (q := 2) (0 : Int32) dX8_about_1 rfl (by decide) ?_
  refine ev_putI (q := 5) (ci := 8) (f := 0) dX8_about_2 rfl (by first | rfl | assumption | exact zf_kd (by assumption) | exact zw_kd (by assumption) | exact zt_kd (by assumption)) (by first | decide | exact zf_lt (by assumption) | exact zf_lt1 (by assumption) | exact zf_lt2 (by assumption) | exact zf_lt3 (by assumption) | exact zf_lt4 (by assumption) | exact zw_lt (by assumption) | exact zw_lt1 (by assumption) | exact zw_lt2 (by assumption) | exact zw_lt3 (by assumption) | exact zw_lt4 (by assumption) | exact zt_lt (by assumption)) (by decide) (by decide) lfRX8_69 rfl rfl rfl rfl ?_
  obtain ⟨I1, hI1⟩ : ∃ I1, I1 = zu I 119 0 0 := ⟨_, rfl⟩
  rw [← hI1]
  have hFM : zFM I I1 := by rw [hI1]; exact zFM.rf.zu 119 0 0 rfl
  have hV := hFM.V
  have e2 : I1 119 2 = I 119 2 := hFM.2 2 rfl
  have e4 : I1 119 4 = I 119 4 := hFM.2 4 rfl
  have e5 : I1 119 5 = I 119 5 := hFM.2 5 rfl
  have e6 : I1 119 6 = I 119 6 := hFM.2 6 rfl
  have e15 : I1 119 15 = I 119 15 := hFM.2 15 rfl
  have e25 : I1 119 25 = I 119 25 := hFM.2 25 rfl
  have f128 : I1 128 = I 128 := hFM.1 128 rfl
  refine ev_post ?_ (k_X8_about G fo I1 (hFM.S hs) w)
  rintro v n' I' P' ⟨rfl, rfl, rfl, hf⟩
  exact ⟨by simp only [hV, e2, e4, e5, e6, e15, e25, f128], rfl, rfl, hFM.tr hf⟩
set_option maxHeartbeats 4000000 in
set_option maxRecDepth 100000 in
theorem k_X8_person (G : zq_G) (fo : Bool) (I : zq_I) {N T Y : Nat} (hs : zS fo N T Y I) (x w : Int32) : zq_E G mX8_person 4 0 0 false 5 [some (.ref 119), some (.int x), some (.int w)] [] 138 I (zPs fo) (zq_fm (some (.int (zpick x N (-1) (fun p => zsel w [vH (zV I) p, vN (zV I) p, vK (zV I) p, vW (zV I) p, vS (zV I) p, vD (zV I) p, vA (zV I) p, zMs (zV I) N p (I 119 15)] (-2))))) fo I) := by
  have hN8 := hs.n8
  have hN := hs.mppl
  refine ev_aload_n (q := 6) dX8_person_5 rfl rfl ?_
  refine ev_iload_n (q := 7) dX8_person_6 rfl rfl ?_
  refine ev_pV (q := 10) (ci := 8) dX8_person_7 rfl okX8_noOne lmRX8_164 imX8_noOne seX8_noOne (by first | rfl | assumption | exact zf_kd (by assumption) | exact zw_kd (by assumption) | exact zt_kd (by assumption)) (by first | decide | exact zf_lt (by assumption) | exact zf_lt1 (by assumption) | exact zf_lt2 (by assumption) | exact zf_lt3 (by assumption) | exact zf_lt4 (by assumption) | exact zw_lt (by assumption) | exact zw_lt1 (by assumption) | exact zw_lt2 (by assumption) | exact zw_lt3 (by assumption) | exact zw_lt4 (by assumption) | exact zt_lt (by assumption)) (by decide) rfl (c_X8_noOne G fo I hs _) (by decide) rfl rfl (Nat.le_of_ble_eq_true rfl) ?_
  refine ev_if_eq (q := 13) (t := 15) dX8_person_10 rfl (by decide) (fun h10 => ?_) (fun h10 => ?_)
  · have hz : zin x (nI N) = true := by simpa using zb_eq h10
    obtain ⟨p, hp, rfl⟩ := zin_t hs.n31 hz
    refine ev_iload_n (q := 16) dX8_person_15 rfl rfl ?_
    rcases zsw_c w (n := 8) (by omega) with hsw | ⟨k9, hk9, rfl⟩
    · refine ev_swOut (t := 123) dX8_person_16 (by exact hsw) (by decide) ?_
      refine ev_bipush (q := 125) ((-2) : Int32) dX8_person_123 rfl (by decide) ?_
      exact ev_iret dX8_person_125 rfl (by first | rfl | exact zb_nar _ | assumption) (⟨by rw [zpick_t hp hs.n31, zsel_f (by simp) (by exact hsw)], rfl, rfl, zFM.rf⟩)
    · rcases (by omega : k9 = 0 ∨ k9 = 1 ∨ k9 = 2 ∨ k9 = 3 ∨ k9 = 4 ∨ k9 = 5 ∨ k9 = 6 ∨ k9 = 7) with rfl | rfl | rfl | rfl | rfl | rfl | rfl | rfl
      · refine ev_swIn (off := 48) (t := 64) dX8_person_16 (by decide) (by decide) (by decide) (by decide) ?_
        refine ev_aload_n (q := 65) dX8_person_64 rfl rfl ?_
        refine ev_getR (q := 68) (ci := 8) (f := 7) dX8_person_65 rfl (by first | rfl | assumption | exact zf_kd (by assumption) | exact zw_kd (by assumption) | exact zt_kd (by assumption)) (by first | decide | exact zf_lt (by assumption) | exact zf_lt1 (by assumption) | exact zf_lt2 (by assumption) | exact zf_lt3 (by assumption) | exact zf_lt4 (by assumption) | exact zw_lt (by assumption) | exact zw_lt1 (by assumption) | exact zw_lt2 (by assumption) | exact zw_lt3 (by assumption) | exact zw_lt4 (by assumption) | exact zt_lt (by assumption)) (by decide) (by decide) lfRX8_17 rfl (by first | rfl | assumption | exact zf_p4 _ (by assumption) | exact zf_p5 _ (by assumption) | exact zf_p6 _ (by assumption) | exact zf_p7 _ (by assumption) | exact zw_p1 _ (by assumption) | exact zw_p2 _ (by assumption) | exact zw_p3 _ (by assumption) | exact zw_p4 _ (by assumption)) ?_
        refine ev_iload_n (q := 69) dX8_person_68 rfl rfl ?_
        refine ev_ialdN (q := 70) dX8_person_69 rfl (by first | rfl | assumption | exact zf_kd1 (by assumption) | exact zf_kd2 (by assumption) | exact zf_kd3 (by assumption) | exact zf_kd4 (by assumption) | exact zw_kd1 (by assumption) | exact zw_kd2 (by assumption) | exact zw_kd3 (by assumption) | exact zw_kd4 (by assumption)) (by first | decide | exact zf_lt (by assumption) | exact zf_lt1 (by assumption) | exact zf_lt2 (by assumption) | exact zf_lt3 (by assumption) | exact zf_lt4 (by assumption) | exact zw_lt (by assumption) | exact zw_lt1 (by assumption) | exact zw_lt2 (by assumption) | exact zw_lt3 (by assumption) | exact zw_lt4 (by assumption) | exact zt_lt (by assumption)) (by first | omega | assumption) ?_
        exact ev_iret dX8_person_70 rfl (by first | rfl | exact zb_nar _ | assumption) (⟨by rw [zpick_t hp hs.n31, zsel_t (by simp) (by simp)]; rfl, rfl, rfl, zFM.rf⟩)
      · refine ev_swIn (off := 55) (t := 71) dX8_person_16 (by decide) (by decide) (by decide) (by decide) ?_
        refine ev_aload_n (q := 72) dX8_person_71 rfl rfl ?_
        refine ev_getR (q := 75) (ci := 8) (f := 8) dX8_person_72 rfl (by first | rfl | assumption | exact zf_kd (by assumption) | exact zw_kd (by assumption) | exact zt_kd (by assumption)) (by first | decide | exact zf_lt (by assumption) | exact zf_lt1 (by assumption) | exact zf_lt2 (by assumption) | exact zf_lt3 (by assumption) | exact zf_lt4 (by assumption) | exact zw_lt (by assumption) | exact zw_lt1 (by assumption) | exact zw_lt2 (by assumption) | exact zw_lt3 (by assumption) | exact zw_lt4 (by assumption) | exact zt_lt (by assumption)) (by decide) (by decide) lfRX8_20 rfl (by first | rfl | assumption | exact zf_p4 _ (by assumption) | exact zf_p5 _ (by assumption) | exact zf_p6 _ (by assumption) | exact zf_p7 _ (by assumption) | exact zw_p1 _ (by assumption) | exact zw_p2 _ (by assumption) | exact zw_p3 _ (by assumption) | exact zw_p4 _ (by assumption)) ?_
        refine ev_iload_n (q := 76) dX8_person_75 rfl rfl ?_
        refine ev_ialdN (q := 77) dX8_person_76 rfl (by first | rfl | assumption | exact zf_kd1 (by assumption) | exact zf_kd2 (by assumption) | exact zf_kd3 (by assumption) | exact zf_kd4 (by assumption) | exact zw_kd1 (by assumption) | exact zw_kd2 (by assumption) | exact zw_kd3 (by assumption) | exact zw_kd4 (by assumption)) (by first | decide | exact zf_lt (by assumption) | exact zf_lt1 (by assumption) | exact zf_lt2 (by assumption) | exact zf_lt3 (by assumption) | exact zf_lt4 (by assumption) | exact zw_lt (by assumption) | exact zw_lt1 (by assumption) | exact zw_lt2 (by assumption) | exact zw_lt3 (by assumption) | exact zw_lt4 (by assumption) | exact zt_lt (by assumption)) (by first | omega | assumption) ?_
        exact ev_iret dX8_person_77 rfl (by first | rfl | exact zb_nar _ | assumption) (⟨by rw [zpick_t hp hs.n31, zsel_t (by simp) (by simp)]; rfl, rfl, rfl, zFM.rf⟩)
      · refine ev_swIn (off := 62) (t := 78) dX8_person_16 (by decide) (by decide) (by decide) (by decide) ?_
        refine ev_aload_n (q := 79) dX8_person_78 rfl rfl ?_
        refine ev_getR (q := 82) (ci := 8) (f := 9) dX8_person_79 rfl (by first | rfl | assumption | exact zf_kd (by assumption) | exact zw_kd (by assumption) | exact zt_kd (by assumption)) (by first | decide | exact zf_lt (by assumption) | exact zf_lt1 (by assumption) | exact zf_lt2 (by assumption) | exact zf_lt3 (by assumption) | exact zf_lt4 (by assumption) | exact zw_lt (by assumption) | exact zw_lt1 (by assumption) | exact zw_lt2 (by assumption) | exact zw_lt3 (by assumption) | exact zw_lt4 (by assumption) | exact zt_lt (by assumption)) (by decide) (by decide) lfRX8_23 rfl (by first | rfl | assumption | exact zf_p4 _ (by assumption) | exact zf_p5 _ (by assumption) | exact zf_p6 _ (by assumption) | exact zf_p7 _ (by assumption) | exact zw_p1 _ (by assumption) | exact zw_p2 _ (by assumption) | exact zw_p3 _ (by assumption) | exact zw_p4 _ (by assumption)) ?_
        refine ev_iload_n (q := 83) dX8_person_82 rfl rfl ?_
        refine ev_ialdN (q := 84) dX8_person_83 rfl (by first | rfl | assumption | exact zf_kd1 (by assumption) | exact zf_kd2 (by assumption) | exact zf_kd3 (by assumption) | exact zf_kd4 (by assumption) | exact zw_kd1 (by assumption) | exact zw_kd2 (by assumption) | exact zw_kd3 (by assumption) | exact zw_kd4 (by assumption)) (by first | decide | exact zf_lt (by assumption) | exact zf_lt1 (by assumption) | exact zf_lt2 (by assumption) | exact zf_lt3 (by assumption) | exact zf_lt4 (by assumption) | exact zw_lt (by assumption) | exact zw_lt1 (by assumption) | exact zw_lt2 (by assumption) | exact zw_lt3 (by assumption) | exact zw_lt4 (by assumption) | exact zt_lt (by assumption)) (by first | omega | assumption) ?_
        exact ev_iret dX8_person_84 rfl (by first | rfl | exact zb_nar _ | assumption) (⟨by rw [zpick_t hp hs.n31, zsel_t (by simp) (by simp)]; rfl, rfl, rfl, zFM.rf⟩)
      · refine ev_swIn (off := 69) (t := 85) dX8_person_16 (by decide) (by decide) (by decide) (by decide) ?_
        refine ev_aload_n (q := 86) dX8_person_85 rfl rfl ?_
        refine ev_getR (q := 89) (ci := 8) (f := 11) dX8_person_86 rfl (by first | rfl | assumption | exact zf_kd (by assumption) | exact zw_kd (by assumption) | exact zt_kd (by assumption)) (by first | decide | exact zf_lt (by assumption) | exact zf_lt1 (by assumption) | exact zf_lt2 (by assumption) | exact zf_lt3 (by assumption) | exact zf_lt4 (by assumption) | exact zw_lt (by assumption) | exact zw_lt1 (by assumption) | exact zw_lt2 (by assumption) | exact zw_lt3 (by assumption) | exact zw_lt4 (by assumption) | exact zt_lt (by assumption)) (by decide) (by decide) lfRX8_29 rfl (by first | rfl | assumption | exact zf_p4 _ (by assumption) | exact zf_p5 _ (by assumption) | exact zf_p6 _ (by assumption) | exact zf_p7 _ (by assumption) | exact zw_p1 _ (by assumption) | exact zw_p2 _ (by assumption) | exact zw_p3 _ (by assumption) | exact zw_p4 _ (by assumption)) ?_
        refine ev_iload_n (q := 90) dX8_person_89 rfl rfl ?_
        refine ev_ialdN (q := 91) dX8_person_90 rfl (by first | rfl | assumption | exact zf_kd1 (by assumption) | exact zf_kd2 (by assumption) | exact zf_kd3 (by assumption) | exact zf_kd4 (by assumption) | exact zw_kd1 (by assumption) | exact zw_kd2 (by assumption) | exact zw_kd3 (by assumption) | exact zw_kd4 (by assumption)) (by first | decide | exact zf_lt (by assumption) | exact zf_lt1 (by assumption) | exact zf_lt2 (by assumption) | exact zf_lt3 (by assumption) | exact zf_lt4 (by assumption) | exact zw_lt (by assumption) | exact zw_lt1 (by assumption) | exact zw_lt2 (by assumption) | exact zw_lt3 (by assumption) | exact zw_lt4 (by assumption) | exact zt_lt (by assumption)) (by first | omega | assumption) ?_
        exact ev_iret dX8_person_91 rfl (by first | rfl | exact zb_nar _ | assumption) (⟨by rw [zpick_t hp hs.n31, zsel_t (by simp) (by simp)]; rfl, rfl, rfl, zFM.rf⟩)
      · refine ev_swIn (off := 76) (t := 92) dX8_person_16 (by decide) (by decide) (by decide) (by decide) ?_
        refine ev_aload_n (q := 93) dX8_person_92 rfl rfl ?_
        refine ev_getR (q := 96) (ci := 8) (f := 12) dX8_person_93 rfl (by first | rfl | assumption | exact zf_kd (by assumption) | exact zw_kd (by assumption) | exact zt_kd (by assumption)) (by first | decide | exact zf_lt (by assumption) | exact zf_lt1 (by assumption) | exact zf_lt2 (by assumption) | exact zf_lt3 (by assumption) | exact zf_lt4 (by assumption) | exact zw_lt (by assumption) | exact zw_lt1 (by assumption) | exact zw_lt2 (by assumption) | exact zw_lt3 (by assumption) | exact zw_lt4 (by assumption) | exact zt_lt (by assumption)) (by decide) (by decide) lfRX8_32 rfl (by first | rfl | assumption | exact zf_p4 _ (by assumption) | exact zf_p5 _ (by assumption) | exact zf_p6 _ (by assumption) | exact zf_p7 _ (by assumption) | exact zw_p1 _ (by assumption) | exact zw_p2 _ (by assumption) | exact zw_p3 _ (by assumption) | exact zw_p4 _ (by assumption)) ?_
        refine ev_iload_n (q := 97) dX8_person_96 rfl rfl ?_
        refine ev_ialdN (q := 98) dX8_person_97 rfl (by first | rfl | assumption | exact zf_kd1 (by assumption) | exact zf_kd2 (by assumption) | exact zf_kd3 (by assumption) | exact zf_kd4 (by assumption) | exact zw_kd1 (by assumption) | exact zw_kd2 (by assumption) | exact zw_kd3 (by assumption) | exact zw_kd4 (by assumption)) (by first | decide | exact zf_lt (by assumption) | exact zf_lt1 (by assumption) | exact zf_lt2 (by assumption) | exact zf_lt3 (by assumption) | exact zf_lt4 (by assumption) | exact zw_lt (by assumption) | exact zw_lt1 (by assumption) | exact zw_lt2 (by assumption) | exact zw_lt3 (by assumption) | exact zw_lt4 (by assumption) | exact zt_lt (by assumption)) (by first | omega | assumption) ?_
        exact ev_iret dX8_person_98 rfl (by first | rfl | exact zb_nar _ | assumption) (⟨by rw [zpick_t hp hs.n31, zsel_t (by simp) (by simp)]; rfl, rfl, rfl, zFM.rf⟩)
      · refine ev_swIn (off := 83) (t := 99) dX8_person_16 (by decide) (by decide) (by decide) (by decide) ?_
        refine ev_aload_n (q := 100) dX8_person_99 rfl rfl ?_
        refine ev_getR (q := 103) (ci := 8) (f := 13) dX8_person_100 rfl (by first | rfl | assumption | exact zf_kd (by assumption) | exact zw_kd (by assumption) | exact zt_kd (by assumption)) (by first | decide | exact zf_lt (by assumption) | exact zf_lt1 (by assumption) | exact zf_lt2 (by assumption) | exact zf_lt3 (by assumption) | exact zf_lt4 (by assumption) | exact zw_lt (by assumption) | exact zw_lt1 (by assumption) | exact zw_lt2 (by assumption) | exact zw_lt3 (by assumption) | exact zw_lt4 (by assumption) | exact zt_lt (by assumption)) (by decide) (by decide) lfRX8_35 rfl (by first | rfl | assumption | exact zf_p4 _ (by assumption) | exact zf_p5 _ (by assumption) | exact zf_p6 _ (by assumption) | exact zf_p7 _ (by assumption) | exact zw_p1 _ (by assumption) | exact zw_p2 _ (by assumption) | exact zw_p3 _ (by assumption) | exact zw_p4 _ (by assumption)) ?_
        refine ev_iload_n (q := 104) dX8_person_103 rfl rfl ?_
        refine ev_ialdN (q := 105) dX8_person_104 rfl (by first | rfl | assumption | exact zf_kd1 (by assumption) | exact zf_kd2 (by assumption) | exact zf_kd3 (by assumption) | exact zf_kd4 (by assumption) | exact zw_kd1 (by assumption) | exact zw_kd2 (by assumption) | exact zw_kd3 (by assumption) | exact zw_kd4 (by assumption)) (by first | decide | exact zf_lt (by assumption) | exact zf_lt1 (by assumption) | exact zf_lt2 (by assumption) | exact zf_lt3 (by assumption) | exact zf_lt4 (by assumption) | exact zw_lt (by assumption) | exact zw_lt1 (by assumption) | exact zw_lt2 (by assumption) | exact zw_lt3 (by assumption) | exact zw_lt4 (by assumption) | exact zt_lt (by assumption)) (by first | omega | assumption) ?_
        exact ev_iret dX8_person_105 rfl (by first | rfl | exact zb_nar _ | assumption) (⟨by rw [zpick_t hp hs.n31, zsel_t (by simp) (by simp)]; rfl, rfl, rfl, zFM.rf⟩)
      · refine ev_swIn (off := 90) (t := 106) dX8_person_16 (by decide) (by decide) (by decide) (by decide) ?_
        refine ev_aload_n (q := 107) dX8_person_106 rfl rfl ?_
        refine ev_getR (q := 110) (ci := 8) (f := 10) dX8_person_107 rfl (by first | rfl | assumption | exact zf_kd (by assumption) | exact zw_kd (by assumption) | exact zt_kd (by assumption)) (by first | decide | exact zf_lt (by assumption) | exact zf_lt1 (by assumption) | exact zf_lt2 (by assumption) | exact zf_lt3 (by assumption) | exact zf_lt4 (by assumption) | exact zw_lt (by assumption) | exact zw_lt1 (by assumption) | exact zw_lt2 (by assumption) | exact zw_lt3 (by assumption) | exact zw_lt4 (by assumption) | exact zt_lt (by assumption)) (by decide) (by decide) lfRX8_26 rfl (by first | rfl | assumption | exact zf_p4 _ (by assumption) | exact zf_p5 _ (by assumption) | exact zf_p6 _ (by assumption) | exact zf_p7 _ (by assumption) | exact zw_p1 _ (by assumption) | exact zw_p2 _ (by assumption) | exact zw_p3 _ (by assumption) | exact zw_p4 _ (by assumption)) ?_
        refine ev_iload_n (q := 111) dX8_person_110 rfl rfl ?_
        refine ev_ialdN (q := 112) dX8_person_111 rfl (by first | rfl | assumption | exact zf_kd1 (by assumption) | exact zf_kd2 (by assumption) | exact zf_kd3 (by assumption) | exact zf_kd4 (by assumption) | exact zw_kd1 (by assumption) | exact zw_kd2 (by assumption) | exact zw_kd3 (by assumption) | exact zw_kd4 (by assumption)) (by first | decide | exact zf_lt (by assumption) | exact zf_lt1 (by assumption) | exact zf_lt2 (by assumption) | exact zf_lt3 (by assumption) | exact zf_lt4 (by assumption) | exact zw_lt (by assumption) | exact zw_lt1 (by assumption) | exact zw_lt2 (by assumption) | exact zw_lt3 (by assumption) | exact zw_lt4 (by assumption) | exact zt_lt (by assumption)) (by first | omega | assumption) ?_
        exact ev_iret dX8_person_112 rfl (by first | rfl | exact zb_nar _ | assumption) (⟨by rw [zpick_t hp hs.n31, zsel_t (by simp) (by simp)]; rfl, rfl, rfl, zFM.rf⟩)
      · refine ev_swIn (off := 97) (t := 113) dX8_person_16 (by decide) (by decide) (by decide) (by decide) ?_
        refine ev_aload_n (q := 114) dX8_person_113 rfl rfl ?_
        refine ev_iload_n (q := 115) dX8_person_114 rfl rfl ?_
        refine ev_aload_n (q := 116) dX8_person_115 rfl rfl ?_
        refine ev_getI (q := 119) (ci := 8) (f := 15) dX8_person_116 rfl (by first | rfl | assumption | exact zf_kd (by assumption) | exact zw_kd (by assumption) | exact zt_kd (by assumption)) (by first | decide | exact zf_lt (by assumption) | exact zf_lt1 (by assumption) | exact zf_lt2 (by assumption) | exact zf_lt3 (by assumption) | exact zf_lt4 (by assumption) | exact zw_lt (by assumption) | exact zw_lt1 (by assumption) | exact zw_lt2 (by assumption) | exact zw_lt3 (by assumption) | exact zw_lt4 (by assumption) | exact zt_lt (by assumption)) (by decide) (by decide) lfRX8_131 rfl ?_
        refine ev_pV (q := 122) (ci := 8) dX8_person_119 rfl okX8_misses lmRX8_154 imX8_misses seX8_misses (by first | rfl | assumption | exact zf_kd (by assumption) | exact zw_kd (by assumption) | exact zt_kd (by assumption)) (by first | decide | exact zf_lt (by assumption) | exact zf_lt1 (by assumption) | exact zf_lt2 (by assumption) | exact zf_lt3 (by assumption) | exact zf_lt4 (by assumption) | exact zw_lt (by assumption) | exact zw_lt1 (by assumption) | exact zw_lt2 (by assumption) | exact zw_lt3 (by assumption) | exact zw_lt4 (by assumption) | exact zt_lt (by assumption)) (by decide) rfl (c_X8_misses G fo I hs hp _) (by decide) rfl rfl (Nat.le_of_ble_eq_true rfl) ?_
        exact ev_iret dX8_person_122 rfl (by first | rfl | exact zb_nar _ | assumption) (⟨by rw [zpick_t hp hs.n31, zsel_t (by simp) (by simp)]; rfl, rfl, rfl, zFM.rf⟩)
  · have hz : zin x (nI N) = false := by simpa using zb_ne h10
    refine ev_iconst (q := 14) ((-1) : Int32) dX8_person_13 rfl (by decide) ?_
    exact ev_iret dX8_person_14 rfl (by first | rfl | exact zb_nar _ | assumption) (⟨by rw [zpick_f hz], rfl, rfl, zFM.rf⟩)
set_option maxHeartbeats 4000000 in
set_option maxRecDepth 100000 in
theorem c_X8_person (G : zq_G) (fo : Bool) (I : zq_I) {N T Y : Nat} (hs : zS fo N T Y I) (x w : Int32) : zq_Met G mX8_person 4 0 0 [.ref 119, .int x, .int w] 138 I (zPs fo) (zq_fm (some (.int (zpick x N (-1) (fun p => zsel w [vH (zV I) p, vN (zV I) p, vK (zV I) p, vW (zV I) p, vS (zV I) p, vD (zV I) p, vA (zV I) p, zMs (zV I) N p (I 119 15)] (-2))))) fo I) := by
  refine zq_Met.of okX8_person (Nat.le_of_ble_eq_true rfl) ?_
  show zq_E _ _ _ _ _ _ _ [some (.ref 119), some (.int x), some (.int w)] _ _ _ _ _
  refine ev_aload_n (q := 1) dX8_person_0 rfl rfl ?_
  refine ev_iconst (q := 2) (0 : Int32) dX8_person_1 rfl (by decide) ?_
  refine ev_putI (q := 5) (ci := 8) (f := 0) dX8_person_2 rfl (by first | rfl | assumption | exact zf_kd (by assumption) | exact zw_kd (by assumption) | exact zt_kd (by assumption)) (by first | decide | exact zf_lt (by assumption) | exact zf_lt1 (by assumption) | exact zf_lt2 (by assumption) | exact zf_lt3 (by assumption) | exact zf_lt4 (by assumption) | exact zw_lt (by assumption) | exact zw_lt1 (by assumption) | exact zw_lt2 (by assumption) | exact zw_lt3 (by assumption) | exact zw_lt4 (by assumption) | exact zt_lt (by assumption)) (by decide) (by decide) lfRX8_69 rfl rfl rfl rfl ?_
  obtain ⟨I1, hI1⟩ : ∃ I1, I1 = zu I 119 0 0 := ⟨_, rfl⟩
  rw [← hI1]
  have hFM : zFM I I1 := by rw [hI1]; exact zFM.rf.zu 119 0 0 rfl
  have hV := hFM.V
  have e2 : I1 119 2 = I 119 2 := hFM.2 2 rfl
  have e4 : I1 119 4 = I 119 4 := hFM.2 4 rfl
  have e5 : I1 119 5 = I 119 5 := hFM.2 5 rfl
  have e6 : I1 119 6 = I 119 6 := hFM.2 6 rfl
  have e15 : I1 119 15 = I 119 15 := hFM.2 15 rfl
  have e25 : I1 119 25 = I 119 25 := hFM.2 25 rfl
  have f128 : I1 128 = I 128 := hFM.1 128 rfl
  refine ev_post ?_ (k_X8_person G fo I1 (hFM.S hs) x w)
  rintro v n' I' P' ⟨rfl, rfl, rfl, hf⟩
  exact ⟨by simp only [hV, e2, e4, e5, e6, e15, e25, f128], rfl, rfl, hFM.tr hf⟩
set_option maxHeartbeats 4000000 in
set_option maxRecDepth 100000 in
theorem lp_X8_town (G : zq_G) (fo : Bool) (I : zq_I) {N T Y : Nat} (hs : zS fo N T Y I) {t : Nat} (ht : t < T) (w : Int32) : zq_E G mX8_town 5 0 0 false 23 [some (.ref 119), some (.int (nI t)), some (.int w), some (.int 0), some (.int 0), some (.int 0)] [] 138 I (zPs fo) (zq_fm (some (.int (zpick (nI t) T (-1) (fun t => zsel w [zCO (I 119 4) (zV I) N (nI t) (I 119 15) + I 128 t, zsum (fun _ => 1) (fun i => zAl (zV I) i && (vW (zV I) i == nI t)) N, I 128 t, zOH (zV I) N (nI t), zbits (fun i => (vH (zV I) i == nI t) && zMi (zV I) i (I 119 15)) N, zor (fun i => zMs (zV I) N i (I 119 15)) (fun _ => true) N &&& zOH (zV I) N (nI t)] (-2))))) fo I) := by
  have hN8 := hs.n8
  have hN := hs.mppl
  have ht4 : t < 4 := by have := hs.t4; omega
  have lp23 : ∀ (k i : Nat) (b e : Int32), N + 1 ≤ i + k → i ≤ N → b = zsum (fun _ => 1) (fun i => zAl (zV I) i && (vW (zV I) i == nI t)) i → e = zor zsh (fun i => (vH (zV I) i == nI t) && zMi (zV I) i (I 119 15)) i → zq_E G mX8_town 5 0 0 false 23 [some (.ref 119), some (.int (nI t)), some (.int w), some (.int b), some (.int e), some (.int (nI i))] [] 138 I (zPs fo) (zq_fm (some (.int (zpick (nI t) T (-1) (fun t => zsel w [zCO (I 119 4) (zV I) N (nI t) (I 119 15) + I 128 t, zsum (fun _ => 1) (fun i => zAl (zV I) i && (vW (zV I) i == nI t)) N, I 128 t, zOH (zV I) N (nI t), zbits (fun i => (vH (zV I) i == nI t) && zMi (zV I) i (I 119 15)) N, zor (fun i => zMs (zV I) N i (I 119 15)) (fun _ => true) N &&& zOH (zV I) N (nI t)] (-2))))) fo I) := by
    intro k
    induction k with
    | zero => intro i b e hk hi; exact absurd hk (by omega)
    | succ k ih =>
      intro i b e hk hi h0 h1
      refine ev_iload (q := 25) dX8_town_23 rfl rfl ?_
      refine ev_aload_n (q := 26) dX8_town_25 rfl rfl ?_
      refine ev_getI (q := 29) (ci := 8) (f := 6) dX8_town_26 rfl (by first | rfl | assumption | exact zf_kd (by assumption) | exact zw_kd (by assumption) | exact zt_kd (by assumption)) (by first | decide | exact zf_lt (by assumption) | exact zf_lt1 (by assumption) | exact zf_lt2 (by assumption) | exact zf_lt3 (by assumption) | exact zf_lt4 (by assumption) | exact zw_lt (by assumption) | exact zw_lt1 (by assumption) | exact zw_lt2 (by assumption) | exact zw_lt3 (by assumption) | exact zw_lt4 (by assumption) | exact zt_lt (by assumption)) (by decide) (by decide) lfRX8_72 rfl ?_
      refine ev_icmp_ge (q := 32) (t := 106) dX8_town_29 rfl (by decide) (fun h29 => ?_) (fun h29 => ?_)
      · obtain rfl : i = N := by rw [hN, nI_leI (by omega) (by omega)] at h29; omega
        refine ev_iload_n (q := 107) dX8_town_106 rfl rfl ?_
        rcases zsw_c w (n := 6) (by omega) with hsw | ⟨k9, hk9, rfl⟩
        · refine ev_swOut (t := 191) dX8_town_107 (by exact hsw) (by decide) ?_
          refine ev_bipush (q := 193) ((-2) : Int32) dX8_town_191 rfl (by decide) ?_
          exact ev_iret dX8_town_193 rfl (by first | rfl | exact zb_nar _ | assumption) (⟨by rw [zpick_t ht hs.t4', zsel_f (by simp) (by exact hsw)], rfl, rfl, zFM.rf⟩)
        · rcases (by omega : k9 = 0 ∨ k9 = 1 ∨ k9 = 2 ∨ k9 = 3 ∨ k9 = 4 ∨ k9 = 5) with rfl | rfl | rfl | rfl | rfl | rfl
          · refine ev_swIn (off := 37) (t := 144) dX8_town_107 (by decide) (by decide) (by decide) (by decide) ?_
            refine ev_aload_n (q := 145) dX8_town_144 rfl rfl ?_
            refine ev_iload_n (q := 146) dX8_town_145 rfl rfl ?_
            refine ev_iconst (q := 147) (0 : Int32) dX8_town_146 rfl (by decide) ?_
            refine ev_pV (q := 150) (ci := 8) dX8_town_147 rfl okX8_count lmRX8_170 imX8_count seX8_count (by first | rfl | assumption | exact zf_kd (by assumption) | exact zw_kd (by assumption) | exact zt_kd (by assumption)) (by first | decide | exact zf_lt (by assumption) | exact zf_lt1 (by assumption) | exact zf_lt2 (by assumption) | exact zf_lt3 (by assumption) | exact zf_lt4 (by assumption) | exact zw_lt (by assumption) | exact zw_lt1 (by assumption) | exact zw_lt2 (by assumption) | exact zw_lt3 (by assumption) | exact zw_lt4 (by assumption) | exact zt_lt (by assumption)) (by decide) rfl (c_X8_count G fo I hs _ _) (by decide) rfl rfl (Nat.le_of_ble_eq_true rfl) ?_
            refine ev_aload_n (q := 151) dX8_town_150 rfl rfl ?_
            refine ev_getR (q := 154) (ci := 8) (f := 14) dX8_town_151 rfl (by first | rfl | assumption | exact zf_kd (by assumption) | exact zw_kd (by assumption) | exact zt_kd (by assumption)) (by first | decide | exact zf_lt (by assumption) | exact zf_lt1 (by assumption) | exact zf_lt2 (by assumption) | exact zf_lt3 (by assumption) | exact zf_lt4 (by assumption) | exact zw_lt (by assumption) | exact zw_lt1 (by assumption) | exact zw_lt2 (by assumption) | exact zw_lt3 (by assumption) | exact zw_lt4 (by assumption) | exact zt_lt (by assumption)) (by decide) (by decide) lfRX8_38 rfl (by first | rfl | assumption | exact zf_p4 _ (by assumption) | exact zf_p5 _ (by assumption) | exact zf_p6 _ (by assumption) | exact zf_p7 _ (by assumption) | exact zw_p1 _ (by assumption) | exact zw_p2 _ (by assumption) | exact zw_p3 _ (by assumption) | exact zw_p4 _ (by assumption)) ?_
            refine ev_iload_n (q := 155) dX8_town_154 rfl rfl ?_
            refine ev_ialdN (q := 156) dX8_town_155 rfl (by first | rfl | assumption | exact zf_kd1 (by assumption) | exact zf_kd2 (by assumption) | exact zf_kd3 (by assumption) | exact zf_kd4 (by assumption) | exact zw_kd1 (by assumption) | exact zw_kd2 (by assumption) | exact zw_kd3 (by assumption) | exact zw_kd4 (by assumption)) (by first | decide | exact zf_lt (by assumption) | exact zf_lt1 (by assumption) | exact zf_lt2 (by assumption) | exact zf_lt3 (by assumption) | exact zf_lt4 (by assumption) | exact zw_lt (by assumption) | exact zw_lt1 (by assumption) | exact zw_lt2 (by assumption) | exact zw_lt3 (by assumption) | exact zw_lt4 (by assumption) | exact zt_lt (by assumption)) (by first | omega | assumption) ?_
            refine ev_iadd (q := 157) dX8_town_156 rfl ?_
            exact ev_iret dX8_town_157 rfl (by first | rfl | exact zb_nar _ | assumption) (⟨by rw [zpick_t ht hs.t4', zsel_t (by simp) (by simp)]; first | rfl | (rw [h0]; rfl) | (rw [h1]; rfl) | (rw [zCO_model]; rfl), rfl, rfl, zFM.rf⟩)
          · refine ev_swIn (off := 51) (t := 158) dX8_town_107 (by decide) (by decide) (by decide) (by decide) ?_
            refine ev_iload_n (q := 159) dX8_town_158 rfl rfl ?_
            exact ev_iret dX8_town_159 rfl (by first | rfl | exact zb_nar _ | assumption) (⟨by rw [zpick_t ht hs.t4', zsel_t (by simp) (by simp)]; first | rfl | (rw [h0]; rfl) | (rw [h1]; rfl) | (rw [zCO_model]; rfl), rfl, rfl, zFM.rf⟩)
          · refine ev_swIn (off := 53) (t := 160) dX8_town_107 (by decide) (by decide) (by decide) (by decide) ?_
            refine ev_aload_n (q := 161) dX8_town_160 rfl rfl ?_
            refine ev_getR (q := 164) (ci := 8) (f := 14) dX8_town_161 rfl (by first | rfl | assumption | exact zf_kd (by assumption) | exact zw_kd (by assumption) | exact zt_kd (by assumption)) (by first | decide | exact zf_lt (by assumption) | exact zf_lt1 (by assumption) | exact zf_lt2 (by assumption) | exact zf_lt3 (by assumption) | exact zf_lt4 (by assumption) | exact zw_lt (by assumption) | exact zw_lt1 (by assumption) | exact zw_lt2 (by assumption) | exact zw_lt3 (by assumption) | exact zw_lt4 (by assumption) | exact zt_lt (by assumption)) (by decide) (by decide) lfRX8_38 rfl (by first | rfl | assumption | exact zf_p4 _ (by assumption) | exact zf_p5 _ (by assumption) | exact zf_p6 _ (by assumption) | exact zf_p7 _ (by assumption) | exact zw_p1 _ (by assumption) | exact zw_p2 _ (by assumption) | exact zw_p3 _ (by assumption) | exact zw_p4 _ (by assumption)) ?_
            refine ev_iload_n (q := 165) dX8_town_164 rfl rfl ?_
            refine ev_ialdN (q := 166) dX8_town_165 rfl (by first | rfl | assumption | exact zf_kd1 (by assumption) | exact zf_kd2 (by assumption) | exact zf_kd3 (by assumption) | exact zf_kd4 (by assumption) | exact zw_kd1 (by assumption) | exact zw_kd2 (by assumption) | exact zw_kd3 (by assumption) | exact zw_kd4 (by assumption)) (by first | decide | exact zf_lt (by assumption) | exact zf_lt1 (by assumption) | exact zf_lt2 (by assumption) | exact zf_lt3 (by assumption) | exact zf_lt4 (by assumption) | exact zw_lt (by assumption) | exact zw_lt1 (by assumption) | exact zw_lt2 (by assumption) | exact zw_lt3 (by assumption) | exact zw_lt4 (by assumption) | exact zt_lt (by assumption)) (by first | omega | assumption) ?_
            exact ev_iret dX8_town_166 rfl (by first | rfl | exact zb_nar _ | assumption) (⟨by rw [zpick_t ht hs.t4', zsel_t (by simp) (by simp)]; first | rfl | (rw [h0]; rfl) | (rw [h1]; rfl) | (rw [zCO_model]; rfl), rfl, rfl, zFM.rf⟩)
          · refine ev_swIn (off := 60) (t := 167) dX8_town_107 (by decide) (by decide) (by decide) (by decide) ?_
            refine ev_aload_n (q := 168) dX8_town_167 rfl rfl ?_
            refine ev_iload_n (q := 169) dX8_town_168 rfl rfl ?_
            refine ev_pV (q := 172) (ci := 8) dX8_town_169 rfl okX8_atHome lmRX8_173 imX8_atHome seX8_atHome (by first | rfl | assumption | exact zf_kd (by assumption) | exact zw_kd (by assumption) | exact zt_kd (by assumption)) (by first | decide | exact zf_lt (by assumption) | exact zf_lt1 (by assumption) | exact zf_lt2 (by assumption) | exact zf_lt3 (by assumption) | exact zf_lt4 (by assumption) | exact zw_lt (by assumption) | exact zw_lt1 (by assumption) | exact zw_lt2 (by assumption) | exact zw_lt3 (by assumption) | exact zw_lt4 (by assumption) | exact zt_lt (by assumption)) (by decide) rfl (c_X8_atHome G fo I hs _) (by decide) rfl rfl (Nat.le_of_ble_eq_true rfl) ?_
            exact ev_iret dX8_town_172 rfl (by first | rfl | exact zb_nar _ | assumption) (⟨by rw [zpick_t ht hs.t4', zsel_t (by simp) (by simp)]; first | rfl | (rw [h0]; rfl) | (rw [h1]; rfl) | (rw [zCO_model]; rfl), rfl, rfl, zFM.rf⟩)
          · refine ev_swIn (off := 66) (t := 173) dX8_town_107 (by decide) (by decide) (by decide) (by decide) ?_
            refine ev_iload (q := 175) dX8_town_173 rfl rfl ?_
            exact ev_iret dX8_town_175 rfl (by first | rfl | exact zb_nar _ | assumption) (⟨by rw [zpick_t ht hs.t4', zsel_t (by simp) (by simp)]; first | rfl | (rw [h0]; rfl) | (rw [h1]; rfl) | (rw [zCO_model]; rfl), rfl, rfl, zFM.rf⟩)
          · refine ev_swIn (off := 69) (t := 176) dX8_town_107 (by decide) (by decide) (by decide) (by decide) ?_
            refine ev_aload_n (q := 177) dX8_town_176 rfl rfl ?_
            refine ev_aload_n (q := 178) dX8_town_177 rfl rfl ?_
            refine ev_getI (q := 181) (ci := 8) (f := 15) dX8_town_178 rfl (by first | rfl | assumption | exact zf_kd (by assumption) | exact zw_kd (by assumption) | exact zt_kd (by assumption)) (by first | decide | exact zf_lt (by assumption) | exact zf_lt1 (by assumption) | exact zf_lt2 (by assumption) | exact zf_lt3 (by assumption) | exact zf_lt4 (by assumption) | exact zw_lt (by assumption) | exact zw_lt1 (by assumption) | exact zw_lt2 (by assumption) | exact zw_lt3 (by assumption) | exact zw_lt4 (by assumption) | exact zt_lt (by assumption)) (by decide) (by decide) lfRX8_131 rfl ?_
            refine ev_pV (q := 184) (ci := 8) dX8_town_181 rfl okX8_missed lmRX8_161 imX8_missed seX8_missed (by first | rfl | assumption | exact zf_kd (by assumption) | exact zw_kd (by assumption) | exact zt_kd (by assumption)) (by first | decide | exact zf_lt (by assumption) | exact zf_lt1 (by assumption) | exact zf_lt2 (by assumption) | exact zf_lt3 (by assumption) | exact zf_lt4 (by assumption) | exact zw_lt (by assumption) | exact zw_lt1 (by assumption) | exact zw_lt2 (by assumption) | exact zw_lt3 (by assumption) | exact zw_lt4 (by assumption) | exact zt_lt (by assumption)) (by decide) rfl (c_X8_missed G fo I hs _) (by decide) rfl rfl (Nat.le_of_ble_eq_true rfl) ?_
            refine ev_aload_n (q := 185) dX8_town_184 rfl rfl ?_
            refine ev_iload_n (q := 186) dX8_town_185 rfl rfl ?_
            refine ev_pV (q := 189) (ci := 8) dX8_town_186 rfl okX8_atHome lmRX8_173 imX8_atHome seX8_atHome (by first | rfl | assumption | exact zf_kd (by assumption) | exact zw_kd (by assumption) | exact zt_kd (by assumption)) (by first | decide | exact zf_lt (by assumption) | exact zf_lt1 (by assumption) | exact zf_lt2 (by assumption) | exact zf_lt3 (by assumption) | exact zf_lt4 (by assumption) | exact zw_lt (by assumption) | exact zw_lt1 (by assumption) | exact zw_lt2 (by assumption) | exact zw_lt3 (by assumption) | exact zw_lt4 (by assumption) | exact zt_lt (by assumption)) (by decide) rfl (c_X8_atHome G fo I hs _) (by decide) rfl rfl (Nat.le_of_ble_eq_true rfl) ?_
            refine ev_iand (q := 190) dX8_town_189 rfl ?_
            exact ev_iret dX8_town_190 rfl (by first | rfl | exact zb_nar _ | assumption) (⟨by rw [zpick_t ht hs.t4', zsel_t (by simp) (by simp)]; first | rfl | (rw [h0]; rfl) | (rw [h1]; rfl) | (rw [zCO_model]; rfl), rfl, rfl, zFM.rf⟩)
      · have hlt_i : i < N := by rw [hN, nI_leI (by omega) (by omega)] at h29; omega
        refine ev_iload_n (q := 33) dX8_town_32 rfl rfl ?_
        refine ev_aload_n (q := 34) dX8_town_33 rfl rfl ?_
        refine ev_getR (q := 37) (ci := 8) (f := 13) dX8_town_34 rfl (by first | rfl | assumption | exact zf_kd (by assumption) | exact zw_kd (by assumption) | exact zt_kd (by assumption)) (by first | decide | exact zf_lt (by assumption) | exact zf_lt1 (by assumption) | exact zf_lt2 (by assumption) | exact zf_lt3 (by assumption) | exact zf_lt4 (by assumption) | exact zw_lt (by assumption) | exact zw_lt1 (by assumption) | exact zw_lt2 (by assumption) | exact zw_lt3 (by assumption) | exact zw_lt4 (by assumption) | exact zt_lt (by assumption)) (by decide) (by decide) lfRX8_35 rfl (by first | rfl | assumption | exact zf_p4 _ (by assumption) | exact zf_p5 _ (by assumption) | exact zf_p6 _ (by assumption) | exact zf_p7 _ (by assumption) | exact zw_p1 _ (by assumption) | exact zw_p2 _ (by assumption) | exact zw_p3 _ (by assumption) | exact zw_p4 _ (by assumption)) ?_
        refine ev_iload (q := 39) dX8_town_37 rfl rfl ?_
        refine ev_ialdN (q := 40) dX8_town_39 rfl (by first | rfl | assumption | exact zf_kd1 (by assumption) | exact zf_kd2 (by assumption) | exact zf_kd3 (by assumption) | exact zf_kd4 (by assumption) | exact zw_kd1 (by assumption) | exact zw_kd2 (by assumption) | exact zw_kd3 (by assumption) | exact zw_kd4 (by assumption)) (by first | decide | exact zf_lt (by assumption) | exact zf_lt1 (by assumption) | exact zf_lt2 (by assumption) | exact zf_lt3 (by assumption) | exact zf_lt4 (by assumption) | exact zw_lt (by assumption) | exact zw_lt1 (by assumption) | exact zw_lt2 (by assumption) | exact zw_lt3 (by assumption) | exact zw_lt4 (by assumption) | exact zt_lt (by assumption)) (by first | omega | assumption) ?_
        refine ev_bipush (q := 42) ((-9) : Int32) dX8_town_40 rfl (by decide) ?_
        refine ev_icmp_ne (q := 45) (t := 60) dX8_town_42 rfl (by decide) (fun h42 => ?_) (fun h42 => ?_)
        · refine ev_iconst (q := 61) (0 : Int32) dX8_town_60 rfl (by decide) ?_
          refine ev_iadd (q := 62) dX8_town_61 rfl ?_
          refine ev_istore_nL (q := 63) (L9 := [_, _, _, _, _, _]) dX8_town_62 rfl (by decide) rfl rfl ?_
          refine ev_iload (q := 65) dX8_town_63 rfl rfl ?_
          refine ev_aload_n (q := 66) dX8_town_65 rfl rfl ?_
          refine ev_getR (q := 69) (ci := 8) (f := 7) dX8_town_66 rfl (by first | rfl | assumption | exact zf_kd (by assumption) | exact zw_kd (by assumption) | exact zt_kd (by assumption)) (by first | decide | exact zf_lt (by assumption) | exact zf_lt1 (by assumption) | exact zf_lt2 (by assumption) | exact zf_lt3 (by assumption) | exact zf_lt4 (by assumption) | exact zw_lt (by assumption) | exact zw_lt1 (by assumption) | exact zw_lt2 (by assumption) | exact zw_lt3 (by assumption) | exact zw_lt4 (by assumption) | exact zt_lt (by assumption)) (by decide) (by decide) lfRX8_17 rfl (by first | rfl | assumption | exact zf_p4 _ (by assumption) | exact zf_p5 _ (by assumption) | exact zf_p6 _ (by assumption) | exact zf_p7 _ (by assumption) | exact zw_p1 _ (by assumption) | exact zw_p2 _ (by assumption) | exact zw_p3 _ (by assumption) | exact zw_p4 _ (by assumption)) ?_
          refine ev_iload (q := 71) dX8_town_69 rfl rfl ?_
          refine ev_ialdN (q := 72) dX8_town_71 rfl (by first | rfl | assumption | exact zf_kd1 (by assumption) | exact zf_kd2 (by assumption) | exact zf_kd3 (by assumption) | exact zf_kd4 (by assumption) | exact zw_kd1 (by assumption) | exact zw_kd2 (by assumption) | exact zw_kd3 (by assumption) | exact zw_kd4 (by assumption)) (by first | decide | exact zf_lt (by assumption) | exact zf_lt1 (by assumption) | exact zf_lt2 (by assumption) | exact zf_lt3 (by assumption) | exact zf_lt4 (by assumption) | exact zw_lt (by assumption) | exact zw_lt1 (by assumption) | exact zw_lt2 (by assumption) | exact zw_lt3 (by assumption) | exact zw_lt4 (by assumption) | exact zt_lt (by assumption)) (by first | omega | assumption) ?_
          refine ev_iload_n (q := 73) dX8_town_72 rfl rfl ?_
          refine ev_icmp_ne (q := 76) (t := 96) dX8_town_73 rfl (by decide) (fun h73 => ?_) (fun h73 => ?_)
          · refine ev_iconst (q := 97) (0 : Int32) dX8_town_96 rfl (by decide) ?_
            refine ev_ior (q := 98) dX8_town_97 rfl ?_
            refine ev_istoreL (q := 100) (L9 := [_, _, _, _, _, _]) dX8_town_98 rfl (by decide) rfl rfl ?_
            refine ev_iincL (q := 103) (L9 := [_, _, _, _, _, _]) (1 : Int32) dX8_town_100 rfl rfl (by decide) (by decide) rfl rfl ?_
            refine ev_goto (t := 23) dX8_town_103 (by decide) ?_
            rw [nI_1]
            exact ih (i + 1) _ _ (by omega) (by omega) (by rw [Int32.add_zero]; exact zsum_n h0 (by show ((I 127 i == -9) && (I 125 i == nI t)) = false; simp [h42])) (by rw [i32_or_0]; exact zor_n h1 (by show ((I 121 i == nI t) && _) = false; simp [h73]))
          · refine ev_aload_n (q := 77) dX8_town_76 rfl rfl ?_
            refine ev_iload (q := 79) dX8_town_77 rfl rfl ?_
            refine ev_aload_n (q := 80) dX8_town_79 rfl rfl ?_
            refine ev_getI (q := 83) (ci := 8) (f := 15) dX8_town_80 rfl (by first | rfl | assumption | exact zf_kd (by assumption) | exact zw_kd (by assumption) | exact zt_kd (by assumption)) (by first | decide | exact zf_lt (by assumption) | exact zf_lt1 (by assumption) | exact zf_lt2 (by assumption) | exact zf_lt3 (by assumption) | exact zf_lt4 (by assumption) | exact zw_lt (by assumption) | exact zw_lt1 (by assumption) | exact zw_lt2 (by assumption) | exact zw_lt3 (by assumption) | exact zw_lt4 (by assumption) | exact zt_lt (by assumption)) (by decide) (by decide) lfRX8_131 rfl ?_
            refine ev_pV (q := 86) (ci := 8) dX8_town_83 rfl okX8_isMissing lmRX8_144 imX8_isMissing seX8_isMissing (by first | rfl | assumption | exact zf_kd (by assumption) | exact zw_kd (by assumption) | exact zt_kd (by assumption)) (by first | decide | exact zf_lt (by assumption) | exact zf_lt1 (by assumption) | exact zf_lt2 (by assumption) | exact zf_lt3 (by assumption) | exact zf_lt4 (by assumption) | exact zw_lt (by assumption) | exact zw_lt1 (by assumption) | exact zw_lt2 (by assumption) | exact zw_lt3 (by assumption) | exact zw_lt4 (by assumption) | exact zt_lt (by assumption)) (by decide) rfl (c_X8_isMissing G fo I (show i < 8 by omega) _) (by decide) rfl rfl (Nat.le_of_ble_eq_true rfl) ?_
            refine ev_if_eq (q := 89) (t := 96) dX8_town_86 rfl (by decide) (fun h86 => ?_) (fun h86 => ?_)
            · refine ev_iconst (q := 97) (0 : Int32) dX8_town_96 rfl (by decide) ?_
              refine ev_ior (q := 98) dX8_town_97 rfl ?_
              refine ev_istoreL (q := 100) (L9 := [_, _, _, _, _, _]) dX8_town_98 rfl (by decide) rfl rfl ?_
              refine ev_iincL (q := 103) (L9 := [_, _, _, _, _, _]) (1 : Int32) dX8_town_100 rfl rfl (by decide) (by decide) rfl rfl ?_
              refine ev_goto (t := 23) dX8_town_103 (by decide) ?_
              rw [nI_1]
              exact ih (i + 1) _ _ (by omega) (by omega) (by rw [Int32.add_zero]; exact zsum_n h0 (by show ((I 127 i == -9) && (I 125 i == nI t)) = false; simp [h42])) (by rw [i32_or_0]; exact zor_n h1 (by rw [zb_eq h86]; simp))
            · refine ev_iconst (q := 90) (1 : Int32) dX8_town_89 rfl (by decide) ?_
              refine ev_iload (q := 92) dX8_town_90 rfl rfl ?_
              refine ev_ishl (q := 93) dX8_town_92 rfl ?_
              refine ev_goto (t := 97) dX8_town_93 (by decide) ?_
              refine ev_ior (q := 98) dX8_town_97 rfl ?_
              refine ev_istoreL (q := 100) (L9 := [_, _, _, _, _, _]) dX8_town_98 rfl (by decide) rfl rfl ?_
              refine ev_iincL (q := 103) (L9 := [_, _, _, _, _, _]) (1 : Int32) dX8_town_100 rfl rfl (by decide) (by decide) rfl rfl ?_
              refine ev_goto (t := 23) dX8_town_103 (by decide) ?_
              rw [nI_1]
              exact ih (i + 1) _ _ (by omega) (by omega) (by rw [Int32.add_zero]; exact zsum_n h0 (by show ((I 127 i == -9) && (I 125 i == nI t)) = false; simp [h42])) (zor_s h1 (by show ((I 121 i == nI t) && _) = true; rw [zb_ne h86]; simp [h73]))
        · refine ev_aload_n (q := 46) dX8_town_45 rfl rfl ?_
          refine ev_getR (q := 49) (ci := 8) (f := 11) dX8_town_46 rfl (by first | rfl | assumption | exact zf_kd (by assumption) | exact zw_kd (by assumption) | exact zt_kd (by assumption)) (by first | decide | exact zf_lt (by assumption) | exact zf_lt1 (by assumption) | exact zf_lt2 (by assumption) | exact zf_lt3 (by assumption) | exact zf_lt4 (by assumption) | exact zw_lt (by assumption) | exact zw_lt1 (by assumption) | exact zw_lt2 (by assumption) | exact zw_lt3 (by assumption) | exact zw_lt4 (by assumption) | exact zt_lt (by assumption)) (by decide) (by decide) lfRX8_29 rfl (by first | rfl | assumption | exact zf_p4 _ (by assumption) | exact zf_p5 _ (by assumption) | exact zf_p6 _ (by assumption) | exact zf_p7 _ (by assumption) | exact zw_p1 _ (by assumption) | exact zw_p2 _ (by assumption) | exact zw_p3 _ (by assumption) | exact zw_p4 _ (by assumption)) ?_
          refine ev_iload (q := 51) dX8_town_49 rfl rfl ?_
          refine ev_ialdN (q := 52) dX8_town_51 rfl (by first | rfl | assumption | exact zf_kd1 (by assumption) | exact zf_kd2 (by assumption) | exact zf_kd3 (by assumption) | exact zf_kd4 (by assumption) | exact zw_kd1 (by assumption) | exact zw_kd2 (by assumption) | exact zw_kd3 (by assumption) | exact zw_kd4 (by assumption)) (by first | decide | exact zf_lt (by assumption) | exact zf_lt1 (by assumption) | exact zf_lt2 (by assumption) | exact zf_lt3 (by assumption) | exact zf_lt4 (by assumption) | exact zw_lt (by assumption) | exact zw_lt1 (by assumption) | exact zw_lt2 (by assumption) | exact zw_lt3 (by assumption) | exact zw_lt4 (by assumption) | exact zt_lt (by assumption)) (by first | omega | assumption) ?_
          refine ev_iload_n (q := 53) dX8_town_52 rfl rfl ?_
          refine ev_icmp_ne (q := 56) (t := 60) dX8_town_53 rfl (by decide) (fun h53 => ?_) (fun h53 => ?_)
          · refine ev_iconst (q := 61) (0 : Int32) dX8_town_60 rfl (by decide) ?_
            refine ev_iadd (q := 62) dX8_town_61 rfl ?_
            refine ev_istore_nL (q := 63) (L9 := [_, _, _, _, _, _]) dX8_town_62 rfl (by decide) rfl rfl ?_
            refine ev_iload (q := 65) dX8_town_63 rfl rfl ?_
            refine ev_aload_n (q := 66) dX8_town_65 rfl rfl ?_
            refine ev_getR (q := 69) (ci := 8) (f := 7) dX8_town_66 rfl (by first | rfl | assumption | exact zf_kd (by assumption) | exact zw_kd (by assumption) | exact zt_kd (by assumption)) (by first | decide | exact zf_lt (by assumption) | exact zf_lt1 (by assumption) | exact zf_lt2 (by assumption) | exact zf_lt3 (by assumption) | exact zf_lt4 (by assumption) | exact zw_lt (by assumption) | exact zw_lt1 (by assumption) | exact zw_lt2 (by assumption) | exact zw_lt3 (by assumption) | exact zw_lt4 (by assumption) | exact zt_lt (by assumption)) (by decide) (by decide) lfRX8_17 rfl (by first | rfl | assumption | exact zf_p4 _ (by assumption) | exact zf_p5 _ (by assumption) | exact zf_p6 _ (by assumption) | exact zf_p7 _ (by assumption) | exact zw_p1 _ (by assumption) | exact zw_p2 _ (by assumption) | exact zw_p3 _ (by assumption) | exact zw_p4 _ (by assumption)) ?_
            refine ev_iload (q := 71) dX8_town_69 rfl rfl ?_
            refine ev_ialdN (q := 72) dX8_town_71 rfl (by first | rfl | assumption | exact zf_kd1 (by assumption) | exact zf_kd2 (by assumption) | exact zf_kd3 (by assumption) | exact zf_kd4 (by assumption) | exact zw_kd1 (by assumption) | exact zw_kd2 (by assumption) | exact zw_kd3 (by assumption) | exact zw_kd4 (by assumption)) (by first | decide | exact zf_lt (by assumption) | exact zf_lt1 (by assumption) | exact zf_lt2 (by assumption) | exact zf_lt3 (by assumption) | exact zf_lt4 (by assumption) | exact zw_lt (by assumption) | exact zw_lt1 (by assumption) | exact zw_lt2 (by assumption) | exact zw_lt3 (by assumption) | exact zw_lt4 (by assumption) | exact zt_lt (by assumption)) (by first | omega | assumption) ?_
            refine ev_iload_n (q := 73) dX8_town_72 rfl rfl ?_
            refine ev_icmp_ne (q := 76) (t := 96) dX8_town_73 rfl (by decide) (fun h73 => ?_) (fun h73 => ?_)
            · refine ev_iconst (q := 97) (0 : Int32) dX8_town_96 rfl (by decide) ?_
              refine ev_ior (q := 98) dX8_town_97 rfl ?_
              refine ev_istoreL (q := 100) (L9 := [_, _, _, _, _, _]) dX8_town_98 rfl (by decide) rfl rfl ?_
              refine ev_iincL (q := 103) (L9 := [_, _, _, _, _, _]) (1 : Int32) dX8_town_100 rfl rfl (by decide) (by decide) rfl rfl ?_
              refine ev_goto (t := 23) dX8_town_103 (by decide) ?_
              rw [nI_1]
              exact ih (i + 1) _ _ (by omega) (by omega) (by rw [Int32.add_zero]; exact zsum_n h0 (by show ((I 127 i == -9) && (I 125 i == nI t)) = false; simp [h42, h53])) (by rw [i32_or_0]; exact zor_n h1 (by show ((I 121 i == nI t) && _) = false; simp [h73]))
            · refine ev_aload_n (q := 77) dX8_town_76 rfl rfl ?_
              refine ev_iload (q := 79) dX8_town_77 rfl rfl ?_
              refine ev_aload_n (q := 80) dX8_town_79 rfl rfl ?_
              refine ev_getI (q := 83) (ci := 8) (f := 15) dX8_town_80 rfl (by first | rfl | assumption | exact zf_kd (by assumption) | exact zw_kd (by assumption) | exact zt_kd (by assumption)) (by first | decide | exact zf_lt (by assumption) | exact zf_lt1 (by assumption) | exact zf_lt2 (by assumption) | exact zf_lt3 (by assumption) | exact zf_lt4 (by assumption) | exact zw_lt (by assumption) | exact zw_lt1 (by assumption) | exact zw_lt2 (by assumption) | exact zw_lt3 (by assumption) | exact zw_lt4 (by assumption) | exact zt_lt (by assumption)) (by decide) (by decide) lfRX8_131 rfl ?_
              refine ev_pV (q := 86) (ci := 8) dX8_town_83 rfl okX8_isMissing lmRX8_144 imX8_isMissing seX8_isMissing (by first | rfl | assumption | exact zf_kd (by assumption) | exact zw_kd (by assumption) | exact zt_kd (by assumption)) (by first | decide | exact zf_lt (by assumption) | exact zf_lt1 (by assumption) | exact zf_lt2 (by assumption) | exact zf_lt3 (by assumption) | exact zf_lt4 (by assumption) | exact zw_lt (by assumption) | exact zw_lt1 (by assumption) | exact zw_lt2 (by assumption) | exact zw_lt3 (by assumption) | exact zw_lt4 (by assumption) | exact zt_lt (by assumption)) (by decide) rfl (c_X8_isMissing G fo I (show i < 8 by omega) _) (by decide) rfl rfl (Nat.le_of_ble_eq_true rfl) ?_
              refine ev_if_eq (q := 89) (t := 96) dX8_town_86 rfl (by decide) (fun h86 => ?_) (fun h86 => ?_)
              · refine ev_iconst (q := 97) (0 : Int32) dX8_town_96 rfl (by decide) ?_
                refine ev_ior (q := 98) dX8_town_97 rfl ?_
                refine ev_istoreL (q := 100) (L9 := [_, _, _, _, _, _]) dX8_town_98 rfl (by decide) rfl rfl ?_
                refine ev_iincL (q := 103) (L9 := [_, _, _, _, _, _]) (1 : Int32) dX8_town_100 rfl rfl (by decide) (by decide) rfl rfl ?_
                refine ev_goto (t := 23) dX8_town_103 (by decide) ?_
                rw [nI_1]
                exact ih (i + 1) _ _ (by omega) (by omega) (by rw [Int32.add_zero]; exact zsum_n h0 (by show ((I 127 i == -9) && (I 125 i == nI t)) = false; simp [h42, h53])) (by rw [i32_or_0]; exact zor_n h1 (by rw [zb_eq h86]; simp))
              · refine ev_iconst (q := 90) (1 : Int32) dX8_town_89 rfl (by decide) ?_
                refine ev_iload (q := 92) dX8_town_90 rfl rfl ?_
                refine ev_ishl (q := 93) dX8_town_92 rfl ?_
                refine ev_goto (t := 97) dX8_town_93 (by decide) ?_
                refine ev_ior (q := 98) dX8_town_97 rfl ?_
                refine ev_istoreL (q := 100) (L9 := [_, _, _, _, _, _]) dX8_town_98 rfl (by decide) rfl rfl ?_
                refine ev_iincL (q := 103) (L9 := [_, _, _, _, _, _]) (1 : Int32) dX8_town_100 rfl rfl (by decide) (by decide) rfl rfl ?_
                refine ev_goto (t := 23) dX8_town_103 (by decide) ?_
                rw [nI_1]
                exact ih (i + 1) _ _ (by omega) (by omega) (by rw [Int32.add_zero]; exact zsum_n h0 (by show ((I 127 i == -9) && (I 125 i == nI t)) = false; simp [h42, h53])) (zor_s h1 (by show ((I 121 i == nI t) && _) = true; rw [zb_ne h86]; simp [h73]))
          · refine ev_iconst (q := 57) (1 : Int32) dX8_town_56 rfl (by decide) ?_
            refine ev_goto (t := 61) dX8_town_57 (by decide) ?_
            refine ev_iadd (q := 62) dX8_town_61 rfl ?_
            refine ev_istore_nL (q := 63) (L9 := [_, _, _, _, _, _]) dX8_town_62 rfl (by decide) rfl rfl ?_
            refine ev_iload (q := 65) dX8_town_63 rfl rfl ?_
            refine ev_aload_n (q := 66) dX8_town_65 rfl rfl ?_
            refine ev_getR (q := 69) (ci := 8) (f := 7) dX8_town_66 rfl (by first | rfl | assumption | exact zf_kd (by assumption) | exact zw_kd (by assumption) | exact zt_kd (by assumption)) (by first | decide | exact zf_lt (by assumption) | exact zf_lt1 (by assumption) | exact zf_lt2 (by assumption) | exact zf_lt3 (by assumption) | exact zf_lt4 (by assumption) | exact zw_lt (by assumption) | exact zw_lt1 (by assumption) | exact zw_lt2 (by assumption) | exact zw_lt3 (by assumption) | exact zw_lt4 (by assumption) | exact zt_lt (by assumption)) (by decide) (by decide) lfRX8_17 rfl (by first | rfl | assumption | exact zf_p4 _ (by assumption) | exact zf_p5 _ (by assumption) | exact zf_p6 _ (by assumption) | exact zf_p7 _ (by assumption) | exact zw_p1 _ (by assumption) | exact zw_p2 _ (by assumption) | exact zw_p3 _ (by assumption) | exact zw_p4 _ (by assumption)) ?_
            refine ev_iload (q := 71) dX8_town_69 rfl rfl ?_
            refine ev_ialdN (q := 72) dX8_town_71 rfl (by first | rfl | assumption | exact zf_kd1 (by assumption) | exact zf_kd2 (by assumption) | exact zf_kd3 (by assumption) | exact zf_kd4 (by assumption) | exact zw_kd1 (by assumption) | exact zw_kd2 (by assumption) | exact zw_kd3 (by assumption) | exact zw_kd4 (by assumption)) (by first | decide | exact zf_lt (by assumption) | exact zf_lt1 (by assumption) | exact zf_lt2 (by assumption) | exact zf_lt3 (by assumption) | exact zf_lt4 (by assumption) | exact zw_lt (by assumption) | exact zw_lt1 (by assumption) | exact zw_lt2 (by assumption) | exact zw_lt3 (by assumption) | exact zw_lt4 (by assumption) | exact zt_lt (by assumption)) (by first | omega | assumption) ?_
            refine ev_iload_n (q := 73) dX8_town_72 rfl rfl ?_
            refine ev_icmp_ne (q := 76) (t := 96) dX8_town_73 rfl (by decide) (fun h73 => ?_) (fun h73 => ?_)
            · refine ev_iconst (q := 97) (0 : Int32) dX8_town_96 rfl (by decide) ?_
              refine ev_ior (q := 98) dX8_town_97 rfl ?_
              refine ev_istoreL (q := 100) (L9 := [_, _, _, _, _, _]) dX8_town_98 rfl (by decide) rfl rfl ?_
              refine ev_iincL (q := 103) (L9 := [_, _, _, _, _, _]) (1 : Int32) dX8_town_100 rfl rfl (by decide) (by decide) rfl rfl ?_
              refine ev_goto (t := 23) dX8_town_103 (by decide) ?_
              rw [nI_1]
              exact ih (i + 1) _ _ (by omega) (by omega) (zsum_s (f := fun _ => 1) h0 (by show ((I 127 i == -9) && (I 125 i == nI t)) = true; simp [h42, h53])) (by rw [i32_or_0]; exact zor_n h1 (by show ((I 121 i == nI t) && _) = false; simp [h73]))
            · refine ev_aload_n (q := 77) dX8_town_76 rfl rfl ?_
              refine ev_iload (q := 79) dX8_town_77 rfl rfl ?_
              refine ev_aload_n (q := 80) dX8_town_79 rfl rfl ?_
              refine ev_getI (q := 83) (ci := 8) (f := 15) dX8_town_80 rfl (by first | rfl | assumption | exact zf_kd (by assumption) | exact zw_kd (by assumption) | exact zt_kd (by assumption)) (by first | decide | exact zf_lt (by assumption) | exact zf_lt1 (by assumption) | exact zf_lt2 (by assumption) | exact zf_lt3 (by assumption) | exact zf_lt4 (by assumption) | exact zw_lt (by assumption) | exact zw_lt1 (by assumption) | exact zw_lt2 (by assumption) | exact zw_lt3 (by assumption) | exact zw_lt4 (by assumption) | exact zt_lt (by assumption)) (by decide) (by decide) lfRX8_131 rfl ?_
              refine ev_pV (q := 86) (ci := 8) dX8_town_83 rfl okX8_isMissing lmRX8_144 imX8_isMissing seX8_isMissing (by first | rfl | assumption | exact zf_kd (by assumption) | exact zw_kd (by assumption) | exact zt_kd (by assumption)) (by first | decide | exact zf_lt (by assumption) | exact zf_lt1 (by assumption) | exact zf_lt2 (by assumption) | exact zf_lt3 (by assumption) | exact zf_lt4 (by assumption) | exact zw_lt (by assumption) | exact zw_lt1 (by assumption) | exact zw_lt2 (by assumption) | exact zw_lt3 (by assumption) | exact zw_lt4 (by assumption) | exact zt_lt (by assumption)) (by decide) rfl (c_X8_isMissing G fo I (show i < 8 by omega) _) (by decide) rfl rfl (Nat.le_of_ble_eq_true rfl) ?_
              refine ev_if_eq (q := 89) (t := 96) dX8_town_86 rfl (by decide) (fun h86 => ?_) (fun h86 => ?_)
              · refine ev_iconst (q := 97) (0 : Int32) dX8_town_96 rfl (by decide) ?_
                refine ev_ior (q := 98) dX8_town_97 rfl ?_
                refine ev_istoreL (q := 100) (L9 := [_, _, _, _, _, _]) dX8_town_98 rfl (by decide) rfl rfl ?_
                refine ev_iincL (q := 103) (L9 := [_, _, _, _, _, _]) (1 : Int32) dX8_town_100 rfl rfl (by decide) (by decide) rfl rfl ?_
                refine ev_goto (t := 23) dX8_town_103 (by decide) ?_
                rw [nI_1]
                exact ih (i + 1) _ _ (by omega) (by omega) (zsum_s (f := fun _ => 1) h0 (by show ((I 127 i == -9) && (I 125 i == nI t)) = true; simp [h42, h53])) (by rw [i32_or_0]; exact zor_n h1 (by rw [zb_eq h86]; simp))
              · refine ev_iconst (q := 90) (1 : Int32) dX8_town_89 rfl (by decide) ?_
                refine ev_iload (q := 92) dX8_town_90 rfl rfl ?_
                refine ev_ishl (q := 93) dX8_town_92 rfl ?_
                refine ev_goto (t := 97) dX8_town_93 (by decide) ?_
                refine ev_ior (q := 98) dX8_town_97 rfl ?_
                refine ev_istoreL (q := 100) (L9 := [_, _, _, _, _, _]) dX8_town_98 rfl (by decide) rfl rfl ?_
                refine ev_iincL (q := 103) (L9 := [_, _, _, _, _, _]) (1 : Int32) dX8_town_100 rfl rfl (by decide) (by decide) rfl rfl ?_
                refine ev_goto (t := 23) dX8_town_103 (by decide) ?_
                rw [nI_1]
                exact ih (i + 1) _ _ (by omega) (by omega) (zsum_s (f := fun _ => 1) h0 (by show ((I 127 i == -9) && (I 125 i == nI t)) = true; simp [h42, h53])) (zor_s h1 (by show ((I 121 i == nI t) && _) = true; rw [zb_ne h86]; simp [h73]))
  exact lp23 (N + 1) 0 0 0 (by omega) (by omega) rfl rfl
set_option maxHeartbeats 4000000 in
set_option maxRecDepth 100000 in
theorem k_X8_town (G : zq_G) (fo : Bool) (I : zq_I) {N T Y : Nat} (hs : zS fo N T Y I) (x w : Int32) : zq_E G mX8_town 5 0 0 false 5 [some (.ref 119), some (.int x), some (.int w), none, none, none] [] 138 I (zPs fo) (zq_fm (some (.int (zpick x T (-1) (fun t => zsel w [zCO (I 119 4) (zV I) N (nI t) (I 119 15) + I 128 t, zsum (fun _ => 1) (fun i => zAl (zV I) i && (vW (zV I) i == nI t)) N, I 128 t, zOH (zV I) N (nI t), zbits (fun i => (vH (zV I) i == nI t) && zMi (zV I) i (I 119 15)) N, zor (fun i => zMs (zV I) N i (I 119 15)) (fun _ => true) N &&& zOH (zV I) N (nI t)] (-2))))) fo I) := by
  have hN8 := hs.n8
  have hN := hs.mppl
  refine ev_aload_n (q := 6) dX8_town_5 rfl rfl ?_
  refine ev_iload_n (q := 7) dX8_town_6 rfl rfl ?_
  refine ev_pV (q := 10) (ci := 8) dX8_town_7 rfl okX8_noTown lmRX8_167 imX8_noTown seX8_noTown (by first | rfl | assumption | exact zf_kd (by assumption) | exact zw_kd (by assumption) | exact zt_kd (by assumption)) (by first | decide | exact zf_lt (by assumption) | exact zf_lt1 (by assumption) | exact zf_lt2 (by assumption) | exact zf_lt3 (by assumption) | exact zf_lt4 (by assumption) | exact zw_lt (by assumption) | exact zw_lt1 (by assumption) | exact zw_lt2 (by assumption) | exact zw_lt3 (by assumption) | exact zw_lt4 (by assumption) | exact zt_lt (by assumption)) (by decide) rfl (c_X8_noTown G fo I hs _) (by decide) rfl rfl (Nat.le_of_ble_eq_true rfl) ?_
  refine ev_if_eq (q := 13) (t := 15) dX8_town_10 rfl (by decide) (fun h10 => ?_) (fun h10 => ?_)
  · have hz : zin x (nI T) = true := by simpa using zb_eq h10
    obtain ⟨t, ht, rfl⟩ := zin_t hs.t4' hz
    have ht4 : t < 4 := by have := hs.t4; omega
    refine ev_iconst (q := 16) (0 : Int32) dX8_town_15 rfl (by decide) ?_
    refine ev_istore_nL (q := 17) (L9 := [_, _, _, _, _, _]) dX8_town_16 rfl (by decide) rfl rfl ?_
    refine ev_iconst (q := 18) (0 : Int32) dX8_town_17 rfl (by decide) ?_
    refine ev_istoreL (q := 20) (L9 := [_, _, _, _, _, _]) dX8_town_18 rfl (by decide) rfl rfl ?_
    refine ev_iconst (q := 21) (0 : Int32) dX8_town_20 rfl (by decide) ?_
    refine ev_istoreL (q := 23) (L9 := [_, _, _, _, _, _]) dX8_town_21 rfl (by decide) rfl rfl ?_
    exact lp_X8_town G fo I hs ht w
  · have hz : zin x (nI T) = false := by simpa using zb_ne h10
    refine ev_iconst (q := 14) ((-1) : Int32) dX8_town_13 rfl (by decide) ?_
    exact ev_iret dX8_town_14 rfl (by first | rfl | exact zb_nar _ | assumption) (⟨by rw [zpick_f hz], rfl, rfl, zFM.rf⟩)
set_option maxHeartbeats 4000000 in
set_option maxRecDepth 100000 in
theorem c_X8_town (G : zq_G) (fo : Bool) (I : zq_I) {N T Y : Nat} (hs : zS fo N T Y I) (x w : Int32) : zq_Met G mX8_town 5 0 0 [.ref 119, .int x, .int w] 138 I (zPs fo) (zq_fm (some (.int (zpick x T (-1) (fun t => zsel w [zCO (I 119 4) (zV I) N (nI t) (I 119 15) + I 128 t, zsum (fun _ => 1) (fun i => zAl (zV I) i && (vW (zV I) i == nI t)) N, I 128 t, zOH (zV I) N (nI t), zbits (fun i => (vH (zV I) i == nI t) && zMi (zV I) i (I 119 15)) N, zor (fun i => zMs (zV I) N i (I 119 15)) (fun _ => true) N &&& zOH (zV I) N (nI t)] (-2))))) fo I) := by
  refine zq_Met.of okX8_town (Nat.le_of_ble_eq_true rfl) ?_
  show zq_E _ _ _ _ _ _ _ [some (.ref 119), some (.int x), some (.int w), none, none, none] _ _ _ _ _
  refine ev_aload_n (q := 1) dX8_town_0 rfl rfl ?_
  refine ev_iconst (q := 2) (0 : Int32) dX8_town_1 rfl (by decide) ?_
  refine ev_putI (q := 5) (ci := 8) (f := 0) dX8_town_2 rfl (by first | rfl | assumption | exact zf_kd (by assumption) | exact zw_kd (by assumption) | exact zt_kd (by assumption)) (by first | decide | exact zf_lt (by assumption) | exact zf_lt1 (by assumption) | exact zf_lt2 (by assumption) | exact zf_lt3 (by assumption) | exact zf_lt4 (by assumption) | exact zw_lt (by assumption) | exact zw_lt1 (by assumption) | exact zw_lt2 (by assumption) | exact zw_lt3 (by assumption) | exact zw_lt4 (by assumption) | exact zt_lt (by assumption)) (by decide) (by decide) lfRX8_69 rfl rfl rfl rfl ?_
  obtain ⟨I1, hI1⟩ : ∃ I1, I1 = zu I 119 0 0 := ⟨_, rfl⟩
  rw [← hI1]
  have hFM : zFM I I1 := by rw [hI1]; exact zFM.rf.zu 119 0 0 rfl
  have hV := hFM.V
  have e2 : I1 119 2 = I 119 2 := hFM.2 2 rfl
  have e4 : I1 119 4 = I 119 4 := hFM.2 4 rfl
  have e5 : I1 119 5 = I 119 5 := hFM.2 5 rfl
  have e6 : I1 119 6 = I 119 6 := hFM.2 6 rfl
  have e15 : I1 119 15 = I 119 15 := hFM.2 15 rfl
  have e25 : I1 119 25 = I 119 25 := hFM.2 25 rfl
  have f128 : I1 128 = I 128 := hFM.1 128 rfl
  refine ev_post ?_ (k_X8_town G fo I1 (hFM.S hs) x w)
  rintro v n' I' P' ⟨rfl, rfl, rfl, hf⟩
  exact ⟨by simp only [hV, e2, e4, e5, e6, e15, e25, f128], rfl, rfl, hFM.tr hf⟩
