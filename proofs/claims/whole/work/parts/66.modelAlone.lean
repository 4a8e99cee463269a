/-! the model's mutators, where class and model needn't agree -/
def zSm (N T : Nat) (I : zq_I) : Prop := N ≤ 8 ∧ 1 ≤ T ∧ T ≤ 4 ∧ I 119 6 = nI N ∧ I 119 5 = nI T
theorem zSm.n8 {N T : Nat} {I : zq_I} (h : zSm N T I) : N ≤ 8 := h.1
theorem zSm.t4 {N T : Nat} {I : zq_I} (h : zSm N T I) : T ≤ 4 := h.2.2.1
theorem zSm.mppl {N T : Nat} {I : zq_I} (h : zSm N T I) : I 119 6 = nI N := h.2.2.2.1
theorem zSm.mtwn {N T : Nat} {I : zq_I} (h : zSm N T I) : I 119 5 = nI T := h.2.2.2.2
theorem zSm.t4' {N T : Nat} {I : zq_I} (h : zSm N T I) : T < 2 ^ 31 := by have := h.t4; omega
theorem zSm.n31 {N T : Nat} {I : zq_I} (h : zSm N T I) : N < 2 ^ 31 := by have := h.n8; omega
theorem zFM.Sm {N T : Nat} {I I' : zq_I} (h : zFM I I') (hs : zSm N T I) : zSm N T I' := ⟨hs.1, hs.2.1, hs.2.2.1, by rw [h.2 6 rfl]; exact hs.2.2.2.1, by rw [h.2 5 rfl]; exact hs.2.2.2.2⟩
theorem zS.m {fo : Bool} {N T Y : Nat} {I : zq_I} (h : zS fo N T Y I) : zSm N T I := ⟨h.n8, h.1.2.1, h.t4, h.mppl, h.mtwn⟩
set_option maxHeartbeats 4000000 in
set_option maxRecDepth 100000 in
theorem cm_X8_noOne (G : zq_G) (fo : Bool) (I : zq_I) {N T : Nat} (hs : zSm N T I) (x : Int32) : zq_Met G mX8_noOne 1 0 0 [.ref 119, .int x] 138 I (zPs fo) (zq_pu (some (.int (zb (!(zin x (nI N)))))) 138 I (zPs fo)) := by
  refine zq_Met.of okX8_noOne (Nat.le_of_ble_eq_true rfl) ?_
  show zq_E _ _ _ _ _ _ _ [some (.ref 119), some (.int x)] _ _ _ _ _
  have hN8 := hs.n8
  have hN := hs.mppl
  refine ev_iload_n (q := 1) dX8_noOne_0 rfl rfl ?_
  refine ev_i2l (q := 2) dX8_noOne_1 rfl ?_
  refine ev_lconst (q := 3) (0 : Int64) dX8_noOne_2 rfl (by decide) ?_
  refine ev_aload_n (q := 4) dX8_noOne_3 rfl rfl ?_
  refine ev_getI (q := 7) (ci := 8) (f := 6) dX8_noOne_4 rfl (by first | rfl | assumption | exact zf_kd (by assumption) | exact zw_kd (by assumption) | exact zt_kd (by assumption)) (by first | decide | exact zf_lt (by assumption) | exact zf_lt1 (by assumption) | exact zf_lt2 (by assumption) | exact zf_lt3 (by assumption) | exact zf_lt4 (by assumption) | exact zw_lt (by assumption) | exact zw_lt1 (by assumption) | exact zw_lt2 (by assumption) | exact zw_lt3 (by assumption) | exact zw_lt4 (by assumption) | exact zt_lt (by assumption)) (by decide) (by decide) lfRX8_72 rfl ?_
  refine ev_iconst (q := 8) (1 : Int32) dX8_noOne_7 rfl (by decide) ?_
  rw [hN]
  refine ev_isub (q := 9) dX8_noOne_8 rfl ?_
  refine ev_i2l (q := 10) dX8_noOne_9 rfl ?_
  refine ev_pS (q := 13) dX8_noOne_10 rfl okX8_in lmRX8_75 smX8_in (c_X8_in G _ _ _ _ _ _) (by decide) rfl rfl (Nat.le_of_ble_eq_true rfl) ?_
  rw [zinL_n (by omega)]
  refine ev_if_ne (q := 16) (t := 20) dX8_noOne_13 rfl (by decide) (fun h13 => ?_) (fun h13 => ?_)
  · have hz := zb_ne h13
    refine ev_iconst (q := 21) (0 : Int32) dX8_noOne_20 rfl (by decide) ?_
    exact ev_iret dX8_noOne_21 rfl (by first | rfl | exact zb_nar _ | assumption) (⟨by rw [hz]; rfl, rfl, rfl, rfl⟩)
  · have hz := zb_eq h13
    refine ev_iconst (q := 17) (1 : Int32) dX8_noOne_16 rfl (by decide) ?_
    refine ev_goto (t := 21) dX8_noOne_17 (by decide) ?_
    exact ev_iret dX8_noOne_21 rfl (by first | rfl | exact zb_nar _ | assumption) (⟨by rw [hz]; rfl, rfl, rfl, rfl⟩)
set_option maxHeartbeats 4000000 in
set_option maxRecDepth 100000 in
theorem cm_X8_noTown (G : zq_G) (fo : Bool) (I : zq_I) {N T : Nat} (hs : zSm N T I) (x : Int32) : zq_Met G mX8_noTown 1 0 0 [.ref 119, .int x] 138 I (zPs fo) (zq_pu (some (.int (zb (!(zin x (nI T)))))) 138 I (zPs fo)) := by
  refine zq_Met.of okX8_noTown (Nat.le_of_ble_eq_true rfl) ?_
  show zq_E _ _ _ _ _ _ _ [some (.ref 119), some (.int x)] _ _ _ _ _
  have hN8 := hs.n8
  have hN := hs.mppl
  refine ev_iload_n (q := 1) dX8_noTown_0 rfl rfl ?_
  refine ev_i2l (q := 2) dX8_noTown_1 rfl ?_
  refine ev_lconst (q := 3) (0 : Int64) dX8_noTown_2 rfl (by decide) ?_
  refine ev_aload_n (q := 4) dX8_noTown_3 rfl rfl ?_
  refine ev_getI (q := 7) (ci := 8) (f := 5) dX8_noTown_4 rfl (by first | rfl | assumption | exact zf_kd (by assumption) | exact zw_kd (by assumption) | exact zt_kd (by assumption)) (by first | decide | exact zf_lt (by assumption) | exact zf_lt1 (by assumption) | exact zf_lt2 (by assumption) | exact zf_lt3 (by assumption) | exact zf_lt4 (by assumption) | exact zw_lt (by assumption) | exact zw_lt1 (by assumption) | exact zw_lt2 (by assumption) | exact zw_lt3 (by assumption) | exact zw_lt4 (by assumption) | exact zt_lt (by assumption)) (by decide) (by decide) lfRX8_13 rfl ?_
  refine ev_iconst (q := 8) (1 : Int32) dX8_noTown_7 rfl (by decide) ?_
  rw [hs.mtwn]
  refine ev_isub (q := 9) dX8_noTown_8 rfl ?_
  refine ev_i2l (q := 10) dX8_noTown_9 rfl ?_
  refine ev_pS (q := 13) dX8_noTown_10 rfl okX8_in lmRX8_75 smX8_in (c_X8_in G _ _ _ _ _ _) (by decide) rfl rfl (Nat.le_of_ble_eq_true rfl) ?_
  rw [zinL_n (by have := hs.t4; omega)]
  refine ev_if_ne (q := 16) (t := 20) dX8_noTown_13 rfl (by decide) (fun h13 => ?_) (fun h13 => ?_)
  · have hz := zb_ne h13
    refine ev_iconst (q := 21) (0 : Int32) dX8_noTown_20 rfl (by decide) ?_
    exact ev_iret dX8_noTown_21 rfl (by first | rfl | exact zb_nar _ | assumption) (⟨by rw [hz]; rfl, rfl, rfl, rfl⟩)
  · have hz := zb_eq h13
    refine ev_iconst (q := 17) (1 : Int32) dX8_noTown_16 rfl (by decide) ?_
    refine ev_goto (t := 21) dX8_noTown_17 (by decide) ?_
    exact ev_iret dX8_noTown_21 rfl (by first | rfl | exact zb_nar _ | assumption) (⟨by rw [hz]; rfl, rfl, rfl, rfl⟩)
set_option maxHeartbeats 4000000 in
set_option maxRecDepth 100000 in
theorem km_X8_law (G : zq_G) (fo : Bool) (I : zq_I) {N T : Nat} (hs : zSm N T I) (x : Int32) : zq_E G mX8_law 1 0 0 false 5 [some (.ref 119), some (.int x), none] [] 138 I (zPs fo) (fun v n' I' P' => n' = 138 ∧ P' = zPs fo ∧ (zin x 3 = false → v = some (.int (-2)) ∧ I' = I) ∧ (zin x 3 = true → v = some (.int (I 119 4)) ∧ I' = zu I 119 4 x)) := by
  refine ev_iload_n (q := 6) dX8_law_5 rfl rfl ?_
  refine ev_i2l (q := 7) dX8_law_6 rfl ?_
  refine ev_lconst (q := 8) (0 : Int64) dX8_law_7 rfl (by decide) ?_
  refine ev_ldc2 (q := 11) dX8_law_8 rfl ctRX8_176 ?_
  rw [show (2 : Int64) = (nI 3 - 1).toInt64 from by decide]
  refine ev_pS (q := 14) dX8_law_11 rfl okX8_in lmRX8_75 smX8_in (c_X8_in G _ _ _ _ _ _) (by decide) rfl rfl (Nat.le_of_ble_eq_true rfl) ?_
  rw [zinL_n (by omega)]
  refine ev_if_ne (q := 17) (t := 20) dX8_law_14 rfl (by decide) (fun h14 => ?_) (fun h14 => ?_)
  · have hz : zin x 3 = true := zb_ne h14
    refine ev_aload_n (q := 21) dX8_law_20 rfl rfl ?_
    refine ev_getI (q := 24) (ci := 8) (f := 4) dX8_law_21 rfl (by first | rfl | assumption | exact zf_kd (by assumption) | exact zw_kd (by assumption) | exact zt_kd (by assumption)) (by first | decide | exact zf_lt (by assumption) | exact zf_lt1 (by assumption) | exact zf_lt2 (by assumption) | exact zf_lt3 (by assumption) | exact zf_lt4 (by assumption) | exact zw_lt (by assumption) | exact zw_lt1 (by assumption) | exact zw_lt2 (by assumption) | exact zw_lt3 (by assumption) | exact zw_lt4 (by assumption) | exact zt_lt (by assumption)) (by decide) (by decide) lfRX8_128 rfl ?_
    refine ev_istore_nL (q := 25) (L9 := [_, _, _]) dX8_law_24 rfl (by decide) rfl rfl ?_
    refine ev_aload_n (q := 26) dX8_law_25 rfl rfl ?_
    refine ev_iload_n (q := 27) dX8_law_26 rfl rfl ?_
    refine ev_putI (q := 30) (ci := 8) (f := 4) dX8_law_27 rfl (by first | rfl | assumption | exact zf_kd (by assumption) | exact zw_kd (by assumption) | exact zt_kd (by assumption)) (by first | decide | exact zf_lt (by assumption) | exact zf_lt1 (by assumption) | exact zf_lt2 (by assumption) | exact zf_lt3 (by assumption) | exact zf_lt4 (by assumption) | exact zw_lt (by assumption) | exact zw_lt1 (by assumption) | exact zw_lt2 (by assumption) | exact zw_lt3 (by assumption) | exact zw_lt4 (by assumption) | exact zt_lt (by assumption)) (by decide) (by decide) lfRX8_128 rfl rfl rfl rfl ?_
    refine ev_iload_n (q := 31) dX8_law_30 rfl rfl ?_
    exact ev_iret dX8_law_31 rfl (by first | rfl | exact zb_nar _ | assumption) (⟨rfl, rfl, fun h => absurd h (by rw [hz]; decide), fun _ => ⟨rfl, rfl⟩⟩)
  · have hz : zin x 3 = false := zb_eq h14
    refine ev_bipush (q := 19) ((-2) : Int32) dX8_law_17 rfl (by decide) ?_
    exact ev_iret dX8_law_19 rfl (by first | rfl | exact zb_nar _ | assumption) (⟨rfl, rfl, fun _ => ⟨rfl, rfl⟩, fun h => absurd h (by rw [hz]; decide)⟩)
set_option maxHeartbeats 4000000 in
set_option maxRecDepth 100000 in
theorem cm_X8_law (G : zq_G) (fo : Bool) (I : zq_I) {N T : Nat} (hs : zSm N T I) (x : Int32) : zq_Met G mX8_law 1 0 0 [.ref 119, .int x] 138 I (zPs fo) (fun v n' I' P' => n' = 138 ∧ P' = zPs fo ∧ (zin x 3 = false → v = some (.int (-2)) ∧ zFM I I') ∧ (zin x 3 = true → v = some (.int (I 119 4)) ∧ zFM (zu I 119 4 x) I')) := by
  refine zq_Met.of okX8_law (Nat.le_of_ble_eq_true rfl) ?_
  show zq_E _ _ _ _ _ _ _ [some (.ref 119), some (.int x), none] _ _ _ _ _
  refine ev_aload_n (q := 1) dX8_law_0 rfl rfl ?_
  refine ev_iconst (q := 2) (0 : Int32) dX8_law_1 rfl (by decide) ?_
  refine ev_putI (q := 5) (ci := 8) (f := 0) dX8_law_2 rfl (by first | rfl | assumption | exact zf_kd (by assumption) | exact zw_kd (by assumption) | exact zt_kd (by assumption)) (by first | decide | exact zf_lt (by assumption) | exact zf_lt1 (by assumption) | exact zf_lt2 (by assumption) | exact zf_lt3 (by assumption) | exact zf_lt4 (by assumption) | exact zw_lt (by assumption) | exact zw_lt1 (by assumption) | exact zw_lt2 (by assumption) | exact zw_lt3 (by assumption) | exact zw_lt4 (by assumption) | exact zt_lt (by assumption)) (by decide) (by decide) lfRX8_69 rfl rfl rfl rfl ?_
  obtain ⟨I1, hI1⟩ : ∃ I1, I1 = zu I 119 0 0 := ⟨_, rfl⟩
  rw [← hI1]
  have hFM : zFM I I1 := by rw [hI1]; exact zFM.rf.zu 119 0 0 rfl
  have hV := hFM.V
  have e2 : I1 119 2 = I 119 2 := hFM.2 2 rfl
  have e4 : I1 119 4 = I 119 4 := hFM.2 4 rfl
  have e5 : I1 119 5 = I 119 5 := hFM.2 5 rfl
  have e6 : I1 119 6 = I 119 6 := hFM.2 6 rfl
  have e15 : I1 119 15 = I 119 15 := hFM.2 15 rfl
  have e25 : I1 119 25 = I 119 25 := hFM.2 25 rfl
  have f128 : I1 128 = I 128 := hFM.1 128 rfl
  refine ev_post ?_ (km_X8_law G fo I1 (hFM.Sm hs) x)
  rintro v n' I' P' ⟨rfl, rfl, h1, h2⟩
  refine ⟨rfl, rfl, fun hz => ?_, fun hz => ?_⟩
  · obtain ⟨rfl, rfl⟩ := h1 hz
    exact ⟨rfl, hFM⟩
  · obtain ⟨rfl, rfl⟩ := h2 hz
    exact ⟨by rw [e4], by rw [hI1]; exact ⟨fun c hc => by rw [zu_other (by rintro rfl; cases hc), zu_other (by rintro rfl; cases hc), zu_other (by rintro rfl; cases hc)], fun k hk => by simp only [zu]; by_cases h2 : k = 4 <;> by_cases h0 : k = 0 <;> simp_all [zsk]⟩⟩
set_option maxHeartbeats 4000000 in
set_option maxRecDepth 100000 in
theorem km_X8_go (G : zq_G) (fo : Bool) (I : zq_I) {N T : Nat} (hs : zSm N T I) {an : Nat} (han : an ≤ 16) (ha : I 119 25 = nI an) (x y : Int32) : zq_E G mX8_go 2 0 0 false 5 [some (.ref 119), some (.int x), some (.int y), none] [] 138 I (zPs fo) (fun v n' I' P' => n' = 138 ∧ P' = zPs fo ∧ v = some (.int (zGoR (zV I) N T x y)) ∧ (zGoB (zV I) N T x y = false → I' = I) ∧ (zGoB (zV I) N T x y = true → ∃ I1, znote an I I1 ∧ I' = zu (zu I1 125 x.toNatClampNeg y) 126 x.toNatClampNeg (I 119 15))) := by
  have hN8 := hs.n8
  have hN := hs.mppl
  refine ev_aload_n (q := 6) dX8_go_5 rfl rfl ?_
  refine ev_iload_n (q := 7) dX8_go_6 rfl rfl ?_
  refine ev_pV (q := 10) (ci := 8) dX8_go_7 rfl okX8_noOne lmRX8_164 imX8_noOne seX8_noOne (by first | rfl | assumption | exact zf_kd (by assumption) | exact zw_kd (by assumption) | exact zt_kd (by assumption)) (by first | decide | exact zf_lt (by assumption) | exact zf_lt1 (by assumption) | exact zf_lt2 (by assumption) | exact zf_lt3 (by assumption) | exact zf_lt4 (by assumption) | exact zw_lt (by assumption) | exact zw_lt1 (by assumption) | exact zw_lt2 (by assumption) | exact zw_lt3 (by assumption) | exact zw_lt4 (by assumption) | exact zt_lt (by assumption)) (by decide) rfl (cm_X8_noOne G fo I hs _) (by decide) rfl rfl (Nat.le_of_ble_eq_true rfl) ?_
  refine ev_if_ne (q := 13) (t := 21) dX8_go_10 rfl (by decide) (fun h10 => ?_) (fun h10 => ?_)
  · have hz : zin x (nI N) = false := by simpa using zb_ne h10
    refine ev_iconst (q := 22) ((-1) : Int32) dX8_go_21 rfl (by decide) ?_
    exact ev_iret dX8_go_22 rfl (by first | rfl | exact zb_nar _ | assumption) (⟨rfl, rfl, by simp [zGoR, hz], fun _ => rfl, fun h => absurd h (by simp [zGoB, hz])⟩)
  · have hz : zin x (nI N) = true := by simpa using zb_eq h10
    obtain ⟨p, hp, rfl⟩ := zin_t hs.n31 hz
    have hcx : (nI p).toNatClampNeg = p := nI_clamp (by omega)
    have hp8 : p < 8 := by omega
    refine ev_aload_n (q := 14) dX8_go_13 rfl rfl ?_
    refine ev_iload_n (q := 15) dX8_go_14 rfl rfl ?_
    refine ev_pV (q := 18) (ci := 8) dX8_go_15 rfl okX8_noTown lmRX8_167 imX8_noTown seX8_noTown (by first | rfl | assumption | exact zf_kd (by assumption) | exact zw_kd (by assumption) | exact zt_kd (by assumption)) (by first | decide | exact zf_lt (by assumption) | exact zf_lt1 (by assumption) | exact zf_lt2 (by assumption) | exact zf_lt3 (by assumption) | exact zf_lt4 (by assumption) | exact zw_lt (by assumption) | exact zw_lt1 (by assumption) | exact zw_lt2 (by assumption) | exact zw_lt3 (by assumption) | exact zw_lt4 (by assumption) | exact zt_lt (by assumption)) (by decide) rfl (cm_X8_noTown G fo I hs _) (by decide) rfl rfl (Nat.le_of_ble_eq_true rfl) ?_
    refine ev_if_eq (q := 21) (t := 23) dX8_go_18 rfl (by decide) (fun h18 => ?_) (fun h18 => ?_)
    · have hzy : zin y (nI T) = true := by simpa using zb_eq h18
      refine ev_aload_n (q := 24) dX8_go_23 rfl rfl ?_
      refine ev_getR (q := 27) (ci := 8) (f := 13) dX8_go_24 rfl (by first | rfl | assumption | exact zf_kd (by assumption) | exact zw_kd (by assumption) | exact zt_kd (by assumption)) (by first | decide | exact zf_lt (by assumption) | exact zf_lt1 (by assumption) | exact zf_lt2 (by assumption) | exact zf_lt3 (by assumption) | exact zf_lt4 (by assumption) | exact zw_lt (by assumption) | exact zw_lt1 (by assumption) | exact zw_lt2 (by assumption) | exact zw_lt3 (by assumption) | exact zw_lt4 (by assumption) | exact zt_lt (by assumption)) (by decide) (by decide) lfRX8_35 rfl (by first | rfl | assumption | exact zf_p4 _ (by assumption) | exact zf_p5 _ (by assumption) | exact zf_p6 _ (by assumption) | exact zf_p7 _ (by assumption) | exact zw_p1 _ (by assumption) | exact zw_p2 _ (by assumption) | exact zw_p3 _ (by assumption) | exact zw_p4 _ (by assumption)) ?_
      refine ev_iload_n (q := 28) dX8_go_27 rfl rfl ?_
      refine ev_ialdN (q := 29) dX8_go_28 rfl (by first | rfl | assumption | exact zf_kd1 (by assumption) | exact zf_kd2 (by assumption) | exact zf_kd3 (by assumption) | exact zf_kd4 (by assumption) | exact zw_kd1 (by assumption) | exact zw_kd2 (by assumption) | exact zw_kd3 (by assumption) | exact zw_kd4 (by assumption)) (by first | decide | exact zf_lt (by assumption) | exact zf_lt1 (by assumption) | exact zf_lt2 (by assumption) | exact zf_lt3 (by assumption) | exact zf_lt4 (by assumption) | exact zw_lt (by assumption) | exact zw_lt1 (by assumption) | exact zw_lt2 (by assumption) | exact zw_lt3 (by assumption) | exact zw_lt4 (by assumption) | exact zt_lt (by assumption)) (by first | omega | assumption) ?_
      refine ev_bipush (q := 31) ((-9) : Int32) dX8_go_29 rfl (by decide) ?_
      refine ev_icmp_ne (q := 34) (t := 44) dX8_go_31 rfl (by decide) (fun h31 => ?_) (fun h31 => ?_)
      · have hal : zAl (zV I) p = false := by show (I 127 p == -9) = false; simpa using h31
        refine ev_bipush (q := 46) ((-3) : Int32) dX8_go_44 rfl (by decide) ?_
        exact ev_iret dX8_go_46 rfl (by first | rfl | exact zb_nar _ | assumption) (⟨rfl, rfl, by simp [zGoR, zGoB, hcx, hz, hzy, hal], fun _ => rfl, fun h => absurd h (by simp [zGoB, hcx, hz, hzy, hal])⟩)
      · have hal : zAl (zV I) p = true := by show (I 127 p == -9) = true; simpa using h31
        refine ev_aload_n (q := 35) dX8_go_34 rfl rfl ?_
        refine ev_getR (q := 38) (ci := 8) (f := 11) dX8_go_35 rfl (by first | rfl | assumption | exact zf_kd (by assumption) | exact zw_kd (by assumption) | exact zt_kd (by assumption)) (by first | decide | exact zf_lt (by assumption) | exact zf_lt1 (by assumption) | exact zf_lt2 (by assumption) | exact zf_lt3 (by assumption) | exact zf_lt4 (by assumption) | exact zw_lt (by assumption) | exact zw_lt1 (by assumption) | exact zw_lt2 (by assumption) | exact zw_lt3 (by assumption) | exact zw_lt4 (by assumption) | exact zt_lt (by assumption)) (by decide) (by decide) lfRX8_29 rfl (by first | rfl | assumption | exact zf_p4 _ (by assumption) | exact zf_p5 _ (by assumption) | exact zf_p6 _ (by assumption) | exact zf_p7 _ (by assumption) | exact zw_p1 _ (by assumption) | exact zw_p2 _ (by assumption) | exact zw_p3 _ (by assumption) | exact zw_p4 _ (by assumption)) ?_
        refine ev_iload_n (q := 39) dX8_go_38 rfl rfl ?_
        refine ev_ialdN (q := 40) dX8_go_39 rfl (by first | rfl | assumption | exact zf_kd1 (by assumption) | exact zf_kd2 (by assumption) | exact zf_kd3 (by assumption) | exact zf_kd4 (by assumption) | exact zw_kd1 (by assumption) | exact zw_kd2 (by assumption) | exact zw_kd3 (by assumption) | exact zw_kd4 (by assumption)) (by first | decide | exact zf_lt (by assumption) | exact zf_lt1 (by assumption) | exact zf_lt2 (by assumption) | exact zf_lt3 (by assumption) | exact zf_lt4 (by assumption) | exact zw_lt (by assumption) | exact zw_lt1 (by assumption) | exact zw_lt2 (by assumption) | exact zw_lt3 (by assumption) | exact zw_lt4 (by assumption) | exact zt_lt (by assumption)) (by first | omega | assumption) ?_
        refine ev_iload_n (q := 41) dX8_go_40 rfl rfl ?_
        refine ev_icmp_ne (q := 44) (t := 47) dX8_go_41 rfl (by decide) (fun h41 => ?_) (fun h41 => ?_)
        · have hw : (vW (zV I) p == y) = false := by show (I 125 p == y) = false; simpa using h41
          refine ev_aload_n (q := 48) dX8_go_47 rfl rfl ?_
          refine ev_cV (q := 51) (ci := 8) dX8_go_48 rfl okX8_note lmRX8_182 imX8_note seX8_note (by first | rfl | assumption | exact zf_kd (by assumption) | exact zw_kd (by assumption) | exact zt_kd (by assumption)) (by first | decide | exact zf_lt (by assumption) | exact zf_lt1 (by assumption) | exact zf_lt2 (by assumption) | exact zf_lt3 (by assumption) | exact zf_lt4 (by assumption) | exact zw_lt (by assumption) | exact zw_lt1 (by assumption) | exact zw_lt2 (by assumption) | exact zw_lt3 (by assumption) | exact zw_lt4 (by assumption) | exact zt_lt (by assumption)) (by decide) rfl (c_X8_note G fo I han ha) (by decide) rfl rfl (Nat.le_of_ble_eq_true rfl) (fun v48 n48 I48 P48 hR48 => ?_)
          obtain ⟨rfl, rfl, rfl, hnt⟩ := hR48
          refine ev_aload_n (q := 52) dX8_go_51 rfl rfl ?_
          refine ev_getR (q := 55) (ci := 8) (f := 12) dX8_go_52 rfl (by first | rfl | assumption | exact zf_kd (by assumption) | exact zw_kd (by assumption) | exact zt_kd (by assumption)) (by first | decide | exact zf_lt (by assumption) | exact zf_lt1 (by assumption) | exact zf_lt2 (by assumption) | exact zf_lt3 (by assumption) | exact zf_lt4 (by assumption) | exact zw_lt (by assumption) | exact zw_lt1 (by assumption) | exact zw_lt2 (by assumption) | exact zw_lt3 (by assumption) | exact zw_lt4 (by assumption) | exact zt_lt (by assumption)) (by decide) (by decide) lfRX8_32 rfl (by first | rfl | assumption | exact zf_p4 _ (by assumption) | exact zf_p5 _ (by assumption) | exact zf_p6 _ (by assumption) | exact zf_p7 _ (by assumption) | exact zw_p1 _ (by assumption) | exact zw_p2 _ (by assumption) | exact zw_p3 _ (by assumption) | exact zw_p4 _ (by assumption)) ?_
          refine ev_iload_n (q := 56) dX8_go_55 rfl rfl ?_
          refine ev_ialdN (q := 57) dX8_go_56 rfl (by first | rfl | assumption | exact zf_kd1 (by assumption) | exact zf_kd2 (by assumption) | exact zf_kd3 (by assumption) | exact zf_kd4 (by assumption) | exact zw_kd1 (by assumption) | exact zw_kd2 (by assumption) | exact zw_kd3 (by assumption) | exact zw_kd4 (by assumption)) (by first | decide | exact zf_lt (by assumption) | exact zf_lt1 (by assumption) | exact zf_lt2 (by assumption) | exact zf_lt3 (by assumption) | exact zf_lt4 (by assumption) | exact zw_lt (by assumption) | exact zw_lt1 (by assumption) | exact zw_lt2 (by assumption) | exact zw_lt3 (by assumption) | exact zw_lt4 (by assumption) | exact zt_lt (by assumption)) (by first | omega | assumption) ?_
          rw [hnt.1 126 (by decide) (by decide)]
          refine ev_istore_nL (q := 58) (L9 := [_, _, _, _]) dX8_go_57 rfl (by decide) rfl rfl ?_
          refine ev_aload_n (q := 59) dX8_go_58 rfl rfl ?_
          refine ev_getR (q := 62) (ci := 8) (f := 11) dX8_go_59 rfl (by first | rfl | assumption | exact zf_kd (by assumption) | exact zw_kd (by assumption) | exact zt_kd (by assumption)) (by first | decide | exact zf_lt (by assumption) | exact zf_lt1 (by assumption) | exact zf_lt2 (by assumption) | exact zf_lt3 (by assumption) | exact zf_lt4 (by assumption) | exact zw_lt (by assumption) | exact zw_lt1 (by assumption) | exact zw_lt2 (by assumption) | exact zw_lt3 (by assumption) | exact zw_lt4 (by assumption) | exact zt_lt (by assumption)) (by decide) (by decide) lfRX8_29 rfl (by first | rfl | assumption | exact zf_p4 _ (by assumption) | exact zf_p5 _ (by assumption) | exact zf_p6 _ (by assumption) | exact zf_p7 _ (by assumption) | exact zw_p1 _ (by assumption) | exact zw_p2 _ (by assumption) | exact zw_p3 _ (by assumption) | exact zw_p4 _ (by assumption)) ?_
          refine ev_iload_n (q := 63) dX8_go_62 rfl rfl ?_
          refine ev_iload_n (q := 64) dX8_go_63 rfl rfl ?_
          refine ev_iastN (q := 65) dX8_go_64 rfl (by first | rfl | assumption | exact zf_kd1 (by assumption) | exact zf_kd2 (by assumption) | exact zf_kd3 (by assumption) | exact zf_kd4 (by assumption) | exact zw_kd1 (by assumption) | exact zw_kd2 (by assumption) | exact zw_kd3 (by assumption) | exact zw_kd4 (by assumption)) (by first | decide | exact zf_lt (by assumption) | exact zf_lt1 (by assumption) | exact zf_lt2 (by assumption) | exact zf_lt3 (by assumption) | exact zf_lt4 (by assumption) | exact zw_lt (by assumption) | exact zw_lt1 (by assumption) | exact zw_lt2 (by assumption) | exact zw_lt3 (by assumption) | exact zw_lt4 (by assumption) | exact zt_lt (by assumption)) (by first | omega | assumption) ?_
          refine ev_aload_n (q := 66) dX8_go_65 rfl rfl ?_
          refine ev_getR (q := 69) (ci := 8) (f := 12) dX8_go_66 rfl (by first | rfl | assumption | exact zf_kd (by assumption) | exact zw_kd (by assumption) | exact zt_kd (by assumption)) (by first | decide | exact zf_lt (by assumption) | exact zf_lt1 (by assumption) | exact zf_lt2 (by assumption) | exact zf_lt3 (by assumption) | exact zf_lt4 (by assumption) | exact zw_lt (by assumption) | exact zw_lt1 (by assumption) | exact zw_lt2 (by assumption) | exact zw_lt3 (by assumption) | exact zw_lt4 (by assumption) | exact zt_lt (by assumption)) (by decide) (by decide) lfRX8_32 rfl (by first | rfl | assumption | exact zf_p4 _ (by assumption) | exact zf_p5 _ (by assumption) | exact zf_p6 _ (by assumption) | exact zf_p7 _ (by assumption) | exact zw_p1 _ (by assumption) | exact zw_p2 _ (by assumption) | exact zw_p3 _ (by assumption) | exact zw_p4 _ (by assumption)) ?_
          refine ev_iload_n (q := 70) dX8_go_69 rfl rfl ?_
          refine ev_aload_n (q := 71) dX8_go_70 rfl rfl ?_
          refine ev_getI (q := 74) (ci := 8) (f := 15) dX8_go_71 rfl (by first | rfl | assumption | exact zf_kd (by assumption) | exact zw_kd (by assumption) | exact zt_kd (by assumption)) (by first | decide | exact zf_lt (by assumption) | exact zf_lt1 (by assumption) | exact zf_lt2 (by assumption) | exact zf_lt3 (by assumption) | exact zf_lt4 (by assumption) | exact zw_lt (by assumption) | exact zw_lt1 (by assumption) | exact zw_lt2 (by assumption) | exact zw_lt3 (by assumption) | exact zw_lt4 (by assumption) | exact zt_lt (by assumption)) (by decide) (by decide) lfRX8_131 rfl ?_
          rw [zu_other (show 119 ≠ 125 by decide), hnt.2.1 15 (by decide)]
          refine ev_iastN (q := 75) dX8_go_74 rfl (by first | rfl | assumption | exact zf_kd1 (by assumption) | exact zf_kd2 (by assumption) | exact zf_kd3 (by assumption) | exact zf_kd4 (by assumption) | exact zw_kd1 (by assumption) | exact zw_kd2 (by assumption) | exact zw_kd3 (by assumption) | exact zw_kd4 (by assumption)) (by first | decide | exact zf_lt (by assumption) | exact zf_lt1 (by assumption) | exact zf_lt2 (by assumption) | exact zf_lt3 (by assumption) | exact zf_lt4 (by assumption) | exact zw_lt (by assumption) | exact zw_lt1 (by assumption) | exact zw_lt2 (by assumption) | exact zw_lt3 (by assumption) | exact zw_lt4 (by assumption) | exact zt_lt (by assumption)) (by first | omega | assumption) ?_
          refine ev_iload_n (q := 76) dX8_go_75 rfl rfl ?_
          exact ev_iret dX8_go_76 rfl (by first | rfl | exact zb_nar _ | assumption) (⟨rfl, rfl, by unfold zGoR zGoB; rw [hz, hzy, hcx, hal, hw]; rfl, fun h => absurd h (by unfold zGoB; rw [hz, hzy, hcx, hal, hw]; decide), fun _ => ⟨_, hnt, by rw [hcx]⟩⟩)
        · have hw : (vW (zV I) p == y) = true := by show (I 125 p == y) = true; simpa using h41
          refine ev_bipush (q := 46) ((-3) : Int32) dX8_go_44 rfl (by decide) ?_
          exact ev_iret dX8_go_46 rfl (by first | rfl | exact zb_nar _ | assumption) (⟨rfl, rfl, by simp [zGoR, zGoB, hcx, hz, hzy, hal, hw], fun _ => rfl, fun h => absurd h (by simp [zGoB, hcx, hz, hzy, hal, hw])⟩)
    · have hzy : zin y (nI T) = false := by simpa using zb_ne h18
      refine ev_iconst (q := 22) ((-1) : Int32) dX8_go_21 rfl (by decide) ?_
      exact ev_iret dX8_go_22 rfl (by first | rfl | exact zb_nar _ | assumption) (⟨rfl, rfl, by simp [zGoR, hz, hzy], fun _ => rfl, fun h => absurd h (by simp [zGoB, hz, hzy])⟩)
set_option maxHeartbeats 4000000 in
set_option maxRecDepth 100000 in
theorem cm_X8_go (G : zq_G) (fo : Bool) (I : zq_I) {N T : Nat} (hs : zSm N T I) {an : Nat} (han : an ≤ 16) (ha : I 119 25 = nI an) (x y : Int32) : zq_Met G mX8_go 2 0 0 [.ref 119, .int x, .int y] 138 I (zPs fo) ((fun (I : zq_I) => fun v n' I' P' => n' = 138 ∧ P' = zPs fo ∧ v = some (.int (zGoR (zV I) N T x y)) ∧ (zGoB (zV I) N T x y = false → I' = I) ∧ (zGoB (zV I) N T x y = true → ∃ I1, znote an I I1 ∧ I' = zu (zu I1 125 x.toNatClampNeg y) 126 x.toNatClampNeg (I 119 15))) (zu I 119 0 0)) := by
  refine zq_Met.of okX8_go (Nat.le_of_ble_eq_true rfl) ?_
  show zq_E _ _ _ _ _ _ _ [some (.ref 119), some (.int x), some (.int y), none] _ _ _ _ _
  refine ev_aload_n (q := 1) dX8_go_0 rfl rfl ?_
  refine ev_iconst (q := 2) (0 : Int32) dX8_go_1 rfl (by decide) ?_
  refine ev_putI (q := 5) (ci := 8) (f := 0) dX8_go_2 rfl (by first | rfl | assumption | exact zf_kd (by assumption) | exact zw_kd (by assumption) | exact zt_kd (by assumption)) (by first | decide | exact zf_lt (by assumption) | exact zf_lt1 (by assumption) | exact zf_lt2 (by assumption) | exact zf_lt3 (by assumption) | exact zf_lt4 (by assumption) | exact zw_lt (by assumption) | exact zw_lt1 (by assumption) | exact zw_lt2 (by assumption) | exact zw_lt3 (by assumption) | exact zw_lt4 (by assumption) | exact zt_lt (by assumption)) (by decide) (by decide) lfRX8_69 rfl rfl rfl rfl ?_
  obtain ⟨I1, hI1⟩ : ∃ I1, I1 = zu I 119 0 0 := ⟨_, rfl⟩
  rw [← hI1]
  have hFM : zFM I I1 := by rw [hI1]; exact zFM.rf.zu 119 0 0 rfl
  have hV := hFM.V
  have e2 : I1 119 2 = I 119 2 := hFM.2 2 rfl
  have e4 : I1 119 4 = I 119 4 := hFM.2 4 rfl
  have e5 : I1 119 5 = I 119 5 := hFM.2 5 rfl
  have e6 : I1 119 6 = I 119 6 := hFM.2 6 rfl
  have e15 : I1 119 15 = I 119 15 := hFM.2 15 rfl
  have e25 : I1 119 25 = I 119 25 := hFM.2 25 rfl
  have f128 : I1 128 = I 128 := hFM.1 128 rfl
  refine ev_post ?_ (km_X8_go G fo I1 (hFM.Sm hs) han (by rw [e25]; exact ha) x y)
  intro v n' I' P' h
  subst hI1
  exact h
set_option maxHeartbeats 4000000 in
set_option maxRecDepth 100000 in
theorem km_X8_die (G : zq_G) (fo : Bool) (I : zq_I) {N T : Nat} (hs : zSm N T I) {an : Nat} (han : an ≤ 16) (ha : I 119 25 = nI an) (x : Int32) : zq_E G mX8_die 2 0 0 false 5 [some (.ref 119), some (.int x)] [] 138 I (zPs fo) (fun v n' I' P' => n' = 138 ∧ P' = zPs fo ∧ v = some (.int (zDiR (zV I) N x (I 119 15))) ∧ (zDiB (zV I) N x = false → I' = I) ∧ (zDiB (zV I) N x = true → ∃ I1, znote an I I1 ∧ I' = zu I1 127 x.toNatClampNeg (I 119 15))) := by
  have hN8 := hs.n8
  have hN := hs.mppl
  refine ev_aload_n (q := 6) dX8_die_5 rfl rfl ?_
  refine ev_iload_n (q := 7) dX8_die_6 rfl rfl ?_
  refine ev_pV (q := 10) (ci := 8) dX8_die_7 rfl okX8_noOne lmRX8_164 imX8_noOne seX8_noOne (by first | rfl | assumption | exact zf_kd (by assumption) | exact zw_kd (by assumption) | exact zt_kd (by assumption)) (by first | decide | exact zf_lt (by assumption) | exact zf_lt1 (by assumption) | exact zf_lt2 (by assumption) | exact zf_lt3 (by assumption) | exact zf_lt4 (by assumption) | exact zw_lt (by assumption) | exact zw_lt1 (by assumption) | exact zw_lt2 (by assumption) | exact zw_lt3 (by assumption) | exact zw_lt4 (by assumption) | exact zt_lt (by assumption)) (by decide) rfl (cm_X8_noOne G fo I hs _) (by decide) rfl rfl (Nat.le_of_ble_eq_true rfl) ?_
  refine ev_if_eq (q := 13) (t := 15) dX8_die_10 rfl (by decide) (fun h10 => ?_) (fun h10 => ?_)
  · have hz : zin x (nI N) = true := by simpa using zb_eq h10
    obtain ⟨p, hp, rfl⟩ := zin_t hs.n31 hz
    have hcx : (nI p).toNatClampNeg = p := nI_clamp (by omega)
    have hp8 : p < 8 := by omega
    refine ev_aload_n (q := 16) dX8_die_15 rfl rfl ?_
    refine ev_getR (q := 19) (ci := 8) (f := 13) dX8_die_16 rfl (by first | rfl | assumption | exact zf_kd (by assumption) | exact zw_kd (by assumption) | exact zt_kd (by assumption)) (by first | decide | exact zf_lt (by assumption) | exact zf_lt1 (by assumption) | exact zf_lt2 (by assumption) | exact zf_lt3 (by assumption) | exact zf_lt4 (by assumption) | exact zw_lt (by assumption) | exact zw_lt1 (by assumption) | exact zw_lt2 (by assumption) | exact zw_lt3 (by assumption) | exact zw_lt4 (by assumption) | exact zt_lt (by assumption)) (by decide) (by decide) lfRX8_35 rfl (by first | rfl | assumption | exact zf_p4 _ (by assumption) | exact zf_p5 _ (by assumption) | exact zf_p6 _ (by assumption) | exact zf_p7 _ (by assumption) | exact zw_p1 _ (by assumption) | exact zw_p2 _ (by assumption) | exact zw_p3 _ (by assumption) | exact zw_p4 _ (by assumption)) ?_
    refine ev_iload_n (q := 20) dX8_die_19 rfl rfl ?_
    refine ev_ialdN (q := 21) dX8_die_20 rfl (by first | rfl | assumption | exact zf_kd1 (by assumption) | exact zf_kd2 (by assumption) | exact zf_kd3 (by assumption) | exact zf_kd4 (by assumption) | exact zw_kd1 (by assumption) | exact zw_kd2 (by assumption) | exact zw_kd3 (by assumption) | exact zw_kd4 (by assumption)) (by first | decide | exact zf_lt (by assumption) | exact zf_lt1 (by assumption) | exact zf_lt2 (by assumption) | exact zf_lt3 (by assumption) | exact zf_lt4 (by assumption) | exact zw_lt (by assumption) | exact zw_lt1 (by assumption) | exact zw_lt2 (by assumption) | exact zw_lt3 (by assumption) | exact zw_lt4 (by assumption) | exact zt_lt (by assumption)) (by first | omega | assumption) ?_
    refine ev_bipush (q := 23) ((-9) : Int32) dX8_die_21 rfl (by decide) ?_
    refine ev_icmp_eq (q := 26) (t := 29) dX8_die_23 rfl (by decide) (fun h23 => ?_) (fun h23 => ?_)
    · have hal : zAl (zV I) p = true := by show (I 127 p == -9) = true; simpa using h23
      refine ev_aload_n (q := 30) dX8_die_29 rfl rfl ?_
      refine ev_cV (q := 33) (ci := 8) dX8_die_30 rfl okX8_note lmRX8_182 imX8_note seX8_note (by first | rfl | assumption | exact zf_kd (by assumption) | exact zw_kd (by assumption) | exact zt_kd (by assumption)) (by first | decide | exact zf_lt (by assumption) | exact zf_lt1 (by assumption) | exact zf_lt2 (by assumption) | exact zf_lt3 (by assumption) | exact zf_lt4 (by assumption) | exact zw_lt (by assumption) | exact zw_lt1 (by assumption) | exact zw_lt2 (by assumption) | exact zw_lt3 (by assumption) | exact zw_lt4 (by assumption) | exact zt_lt (by assumption)) (by decide) rfl (c_X8_note G fo I han ha) (by decide) rfl rfl (Nat.le_of_ble_eq_true rfl) (fun v30 n30 I30 P30 hR30 => ?_)
      obtain ⟨rfl, rfl, rfl, hnt⟩ := hR30
      refine ev_aload_n (q := 34) dX8_die_33 rfl rfl ?_
      refine ev_getR (q := 37) (ci := 8) (f := 13) dX8_die_34 rfl (by first | rfl | assumption | exact zf_kd (by assumption) | exact zw_kd (by assumption) | exact zt_kd (by assumption)) (by first | decide | exact zf_lt (by assumption) | exact zf_lt1 (by assumption) | exact zf_lt2 (by assumption) | exact zf_lt3 (by assumption) | exact zf_lt4 (by assumption) | exact zw_lt (by assumption) | exact zw_lt1 (by assumption) | exact zw_lt2 (by assumption) | exact zw_lt3 (by assumption) | exact zw_lt4 (by assumption) | exact zt_lt (by assumption)) (by decide) (by decide) lfRX8_35 rfl (by first | rfl | assumption | exact zf_p4 _ (by assumption) | exact zf_p5 _ (by assumption) | exact zf_p6 _ (by assumption) | exact zf_p7 _ (by assumption) | exact zw_p1 _ (by assumption) | exact zw_p2 _ (by assumption) | exact zw_p3 _ (by assumption) | exact zw_p4 _ (by assumption)) ?_
      refine ev_iload_n (q := 38) dX8_die_37 rfl rfl ?_
      refine ev_aload_n (q := 39) dX8_die_38 rfl rfl ?_
      refine ev_getI (q := 42) (ci := 8) (f := 15) dX8_die_39 rfl (by first | rfl | assumption | exact zf_kd (by assumption) | exact zw_kd (by assumption) | exact zt_kd (by assumption)) (by first | decide | exact zf_lt (by assumption) | exact zf_lt1 (by assumption) | exact zf_lt2 (by assumption) | exact zf_lt3 (by assumption) | exact zf_lt4 (by assumption) | exact zw_lt (by assumption) | exact zw_lt1 (by assumption) | exact zw_lt2 (by assumption) | exact zw_lt3 (by assumption) | exact zw_lt4 (by assumption) | exact zt_lt (by assumption)) (by decide) (by decide) lfRX8_131 rfl ?_
      rw [hnt.2.1 15 (by decide)]
      refine ev_iastN (q := 43) dX8_die_42 rfl (by first | rfl | assumption | exact zf_kd1 (by assumption) | exact zf_kd2 (by assumption) | exact zf_kd3 (by assumption) | exact zf_kd4 (by assumption) | exact zw_kd1 (by assumption) | exact zw_kd2 (by assumption) | exact zw_kd3 (by assumption) | exact zw_kd4 (by assumption)) (by first | decide | exact zf_lt (by assumption) | exact zf_lt1 (by assumption) | exact zf_lt2 (by assumption) | exact zf_lt3 (by assumption) | exact zf_lt4 (by assumption) | exact zw_lt (by assumption) | exact zw_lt1 (by assumption) | exact zw_lt2 (by assumption) | exact zw_lt3 (by assumption) | exact zw_lt4 (by assumption) | exact zt_lt (by assumption)) (by first | omega | assumption) ?_
      refine ev_aload_n (q := 44) dX8_die_43 rfl rfl ?_
      refine ev_getI (q := 47) (ci := 8) (f := 15) dX8_die_44 rfl (by first | rfl | assumption | exact zf_kd (by assumption) | exact zw_kd (by assumption) | exact zt_kd (by assumption)) (by first | decide | exact zf_lt (by assumption) | exact zf_lt1 (by assumption) | exact zf_lt2 (by assumption) | exact zf_lt3 (by assumption) | exact zf_lt4 (by assumption) | exact zw_lt (by assumption) | exact zw_lt1 (by assumption) | exact zw_lt2 (by assumption) | exact zw_lt3 (by assumption) | exact zw_lt4 (by assumption) | exact zt_lt (by assumption)) (by decide) (by decide) lfRX8_131 rfl ?_
      rw [zu_other (show 119 ≠ 127 by decide), hnt.2.1 15 (by decide)]
      refine ev_aload_n (q := 48) dX8_die_47 rfl rfl ?_
      refine ev_iload_n (q := 49) dX8_die_48 rfl rfl ?_
      refine ev_pV (q := 52) (ci := 8) dX8_die_49 rfl okX8_away lmRX8_137 imX8_away seX8_away (by first | rfl | assumption | exact zf_kd (by assumption) | exact zw_kd (by assumption) | exact zt_kd (by assumption)) (by first | decide | exact zf_lt (by assumption) | exact zf_lt1 (by assumption) | exact zf_lt2 (by assumption) | exact zf_lt3 (by assumption) | exact zf_lt4 (by assumption) | exact zw_lt (by assumption) | exact zw_lt1 (by assumption) | exact zw_lt2 (by assumption) | exact zw_lt3 (by assumption) | exact zw_lt4 (by assumption) | exact zt_lt (by assumption)) (by decide) rfl (c_X8_away G fo _ hp8) (by decide) rfl rfl (Nat.le_of_ble_eq_true rfl) ?_
      rw [zAw_congr (I := I) (by rw [zu_other (by decide), hnt.1 125 (by decide) (by decide)]) (by rw [zu_other (by decide), hnt.1 121 (by decide) (by decide)])]
      refine ev_iadd (q := 53) dX8_die_52 rfl ?_
      exact ev_iret dX8_die_53 rfl (by first | rfl | exact zb_nar _ | assumption) (⟨rfl, rfl, by simp [zDiR, zDiB, hz, hcx, hal], fun h => absurd h (by simp [zDiB, hz, hcx, hal]), fun _ => ⟨_, hnt, by rw [hcx]⟩⟩)
    · have hal : zAl (zV I) p = false := by show (I 127 p == -9) = false; simpa using h23
      refine ev_bipush (q := 28) ((-3) : Int32) dX8_die_26 rfl (by decide) ?_
      exact ev_iret dX8_die_28 rfl (by first | rfl | exact zb_nar _ | assumption) (⟨rfl, rfl, by simp [zDiR, zDiB, hz, hcx, hal], fun _ => rfl, fun h => absurd h (by simp [zDiB, hcx, hal])⟩)
  · have hz : zin x (nI N) = false := by simpa using zb_ne h10
    refine ev_iconst (q := 14) ((-1) : Int32) dX8_die_13 rfl (by decide) ?_
    exact ev_iret dX8_die_14 rfl (by first | rfl | exact zb_nar _ | assumption) (⟨rfl, rfl, by simp [zDiR, hz], fun _ => rfl, fun h => absurd h (by simp [zDiB, hz])⟩)
set_option maxHeartbeats 4000000 in
set_option maxRecDepth 100000 in
theorem cm_X8_die (G : zq_G) (fo : Bool) (I : zq_I) {N T : Nat} (hs : zSm N T I) {an : Nat} (han : an ≤ 16) (ha : I 119 25 = nI an) (x : Int32) : zq_Met G mX8_die 2 0 0 [.ref 119, .int x] 138 I (zPs fo) ((fun (I : zq_I) => fun v n' I' P' => n' = 138 ∧ P' = zPs fo ∧ v = some (.int (zDiR (zV I) N x (I 119 15))) ∧ (zDiB (zV I) N x = false → I' = I) ∧ (zDiB (zV I) N x = true → ∃ I1, znote an I I1 ∧ I' = zu I1 127 x.toNatClampNeg (I 119 15))) (zu I 119 0 0)) := by
  refine zq_Met.of okX8_die (Nat.le_of_ble_eq_true rfl) ?_
  show zq_E _ _ _ _ _ _ _ [some (.ref 119), some (.int x)] _ _ _ _ _
  refine ev_aload_n (q := 1) dX8_die_0 rfl rfl ?_
  refine ev_iconst (q := 2) (0 : Int32) dX8_die_1 rfl (by decide) ?_
  refine ev_putI (q := 5) (ci := 8) (f := 0) dX8_die_2 rfl (by first | rfl | assumption | exact zf_kd (by assumption) | exact zw_kd (by assumption) | exact zt_kd (by assumption)) (by first | decide | exact zf_lt (by assumption) | exact zf_lt1 (by assumption) | exact zf_lt2 (by assumption) | exact zf_lt3 (by assumption) | exact zf_lt4 (by assumption) | exact zw_lt (by assumption) | exact zw_lt1 (by assumption) | exact zw_lt2 (by assumption) | exact zw_lt3 (by assumption) | exact zw_lt4 (by assumption) | exact zt_lt (by assumption)) (by decide) (by decide) lfRX8_69 rfl rfl rfl rfl ?_
  obtain ⟨I1, hI1⟩ : ∃ I1, I1 = zu I 119 0 0 := ⟨_, rfl⟩
  rw [← hI1]
  have hFM : zFM I I1 := by rw [hI1]; exact zFM.rf.zu 119 0 0 rfl
  have hV := hFM.V
  have e2 : I1 119 2 = I 119 2 := hFM.2 2 rfl
  have e4 : I1 119 4 = I 119 4 := hFM.2 4 rfl
  have e5 : I1 119 5 = I 119 5 := hFM.2 5 rfl
  have e6 : I1 119 6 = I 119 6 := hFM.2 6 rfl
  have e15 : I1 119 15 = I 119 15 := hFM.2 15 rfl
  have e25 : I1 119 25 = I 119 25 := hFM.2 25 rfl
  have f128 : I1 128 = I 128 := hFM.1 128 rfl
  refine ev_post ?_ (km_X8_die G fo I1 (hFM.Sm hs) han (by rw [e25]; exact ha) x)
  intro v n' I' P' h
  subst hI1
  exact h
set_option maxHeartbeats 4000000 in
set_option maxRecDepth 100000 in
theorem km_X8_year (G : zq_G) (fo : Bool) (I : zq_I) {N T : Nat} (hs : zSm N T I) {an : Nat} (han : an ≤ 16) (ha : I 119 25 = nI an)  : zq_E G mX8_year 2 0 0 false 5 [some (.ref 119), none] [] 138 I (zPs fo) (fun v n' I' P' => n' = 138 ∧ P' = zPs fo ∧ v = some (.int (I 119 15 + 1)) ∧ ∃ I1, znote an I I1 ∧ (∀ c, c ≠ 119 → c ≠ 128 → I' c = I1 c) ∧ (∀ k, k ≠ 15 → I' 119 k = I1 119 k) ∧ I' 119 15 = I 119 15 + 1 ∧ ∀ t, t < 4 → I' 128 t = 0) := by
  refine ev_aload_n (q := 6) dX8_year_5 rfl rfl ?_
  refine ev_cV (q := 9) (ci := 8) dX8_year_6 rfl okX8_note lmRX8_182 imX8_note seX8_note (by first | rfl | assumption | exact zf_kd (by assumption) | exact zw_kd (by assumption) | exact zt_kd (by assumption)) (by first | decide | exact zf_lt (by assumption) | exact zf_lt1 (by assumption) | exact zf_lt2 (by assumption) | exact zf_lt3 (by assumption) | exact zf_lt4 (by assumption) | exact zw_lt (by assumption) | exact zw_lt1 (by assumption) | exact zw_lt2 (by assumption) | exact zw_lt3 (by assumption) | exact zw_lt4 (by assumption) | exact zt_lt (by assumption)) (by decide) rfl (c_X8_note G fo I han ha) (by decide) rfl rfl (Nat.le_of_ble_eq_true rfl) (fun v6 n6 I6 P6 hR6 => ?_)
  obtain ⟨rfl, rfl, rfl, hnt⟩ := hR6
  refine ev_aload_n (q := 10) dX8_year_9 rfl rfl ?_
  refine ev_dup (q := 11) dX8_year_10 rfl rfl ?_
  refine ev_getI (q := 14) (ci := 8) (f := 15) dX8_year_11 rfl (by first | rfl | assumption | exact zf_kd (by assumption) | exact zw_kd (by assumption) | exact zt_kd (by assumption)) (by first | decide | exact zf_lt (by assumption) | exact zf_lt1 (by assumption) | exact zf_lt2 (by assumption) | exact zf_lt3 (by assumption) | exact zf_lt4 (by assumption) | exact zw_lt (by assumption) | exact zw_lt1 (by assumption) | exact zw_lt2 (by assumption) | exact zw_lt3 (by assumption) | exact zw_lt4 (by assumption) | exact zt_lt (by assumption)) (by decide) (by decide) lfRX8_131 rfl ?_
  rw [hnt.2.1 15 (by decide)]
  refine ev_iconst (q := 15) (1 : Int32) dX8_year_14 rfl (by decide) ?_
  refine ev_iadd (q := 16) dX8_year_15 rfl ?_
  refine ev_putI (q := 19) (ci := 8) (f := 15) dX8_year_16 rfl (by first | rfl | assumption | exact zf_kd (by assumption) | exact zw_kd (by assumption) | exact zt_kd (by assumption)) (by first | decide | exact zf_lt (by assumption) | exact zf_lt1 (by assumption) | exact zf_lt2 (by assumption) | exact zf_lt3 (by assumption) | exact zf_lt4 (by assumption) | exact zw_lt (by assumption) | exact zw_lt1 (by assumption) | exact zw_lt2 (by assumption) | exact zw_lt3 (by assumption) | exact zw_lt4 (by assumption) | exact zt_lt (by assumption)) (by decide) (by decide) lfRX8_131 rfl rfl rfl rfl ?_
  refine ev_iconst (q := 20) (0 : Int32) dX8_year_19 rfl (by decide) ?_
  refine ev_istore_nL (q := 21) (L9 := [_, _]) dX8_year_20 rfl (by decide) rfl rfl ?_
  exact lp_X8_year G fo I hnt
set_option maxHeartbeats 4000000 in
set_option maxRecDepth 100000 in
theorem cm_X8_year (G : zq_G) (fo : Bool) (I : zq_I) {N T : Nat} (hs : zSm N T I) {an : Nat} (han : an ≤ 16) (ha : I 119 25 = nI an)  : zq_Met G mX8_year 2 0 0 [.ref 119] 138 I (zPs fo) ((fun (I : zq_I) => fun v n' I' P' => n' = 138 ∧ P' = zPs fo ∧ v = some (.int (I 119 15 + 1)) ∧ ∃ I1, znote an I I1 ∧ (∀ c, c ≠ 119 → c ≠ 128 → I' c = I1 c) ∧ (∀ k, k ≠ 15 → I' 119 k = I1 119 k) ∧ I' 119 15 = I 119 15 + 1 ∧ ∀ t, t < 4 → I' 128 t = 0) (zu I 119 0 0)) := by
  refine zq_Met.of okX8_year (Nat.le_of_ble_eq_true rfl) ?_
  show zq_E _ _ _ _ _ _ _ [some (.ref 119), none] _ _ _ _ _
  refine ev_aload_n (q := 1) dX8_year_0 rfl rfl ?_
  refine ev_iconst (q := 2) (0 : Int32) dX8_year_1 rfl (by decide) ?_
  refine ev_putI (q := 5) (ci := 8) (f := 0) dX8_year_2 rfl (by first | rfl | assumption | exact zf_kd (by assumption) | exact zw_kd (by assumption) | exact zt_kd (by assumption)) (by first | decide | exact zf_lt (by assumption) | exact zf_lt1 (by assumption) | exact zf_lt2 (by assumption) | exact zf_lt3 (by assumption) | exact zf_lt4 (by assumption) | exact zw_lt (by assumption) | exact zw_lt1 (by assumption) | exact zw_lt2 (by assumption) | exact zw_lt3 (by assumption) | exact zw_lt4 (by assumption) | exact zt_lt (by assumption)) (by decide) (by decide) lfRX8_69 rfl rfl rfl rfl ?_
  obtain ⟨I1, hI1⟩ : ∃ I1, I1 = zu I 119 0 0 := ⟨_, rfl⟩
  rw [← hI1]
  have hFM : zFM I I1 := by rw [hI1]; exact zFM.rf.zu 119 0 0 rfl
  have hV := hFM.V
  have e2 : I1 119 2 = I 119 2 := hFM.2 2 rfl
  have e4 : I1 119 4 = I 119 4 := hFM.2 4 rfl
  have e5 : I1 119 5 = I 119 5 := hFM.2 5 rfl
  have e6 : I1 119 6 = I 119 6 := hFM.2 6 rfl
  have e15 : I1 119 15 = I 119 15 := hFM.2 15 rfl
  have e25 : I1 119 25 = I 119 25 := hFM.2 25 rfl
  have f128 : I1 128 = I 128 := hFM.1 128 rfl
  refine ev_post ?_ (km_X8_year G fo I1 (hFM.Sm hs) han (by rw [e25]; exact ha))
  intro v n' I' P' h
  subst hI1
  exact h
set_option maxHeartbeats 4000000 in
set_option maxRecDepth 100000 in
theorem km_X8_rumour (G : zq_G) (fo : Bool) (I : zq_I) {N T : Nat} (hs : zSm N T I) {an : Nat} (han : an ≤ 16) (ha : I 119 25 = nI an) (x n : Int32) : zq_E G mX8_rumour 2 0 0 false 5 [some (.ref 119), some (.int x), some (.int n)] [] 138 I (zPs fo) (fun v n' I' P' => n' = 138 ∧ P' = zPs fo ∧ v = some (.int (zRuR I T x n)) ∧ (zRuB I T x n = false → I' = I) ∧ (zRuB I T x n = true → ∃ I1, znote an I I1 ∧ I' = zu I1 128 x.toNatClampNeg (I 128 x.toNatClampNeg + n))) := by
  have hN8 := hs.n8
  have hN := hs.mppl
  refine ev_aload_n (q := 6) dX8_rumour_5 rfl rfl ?_
  refine ev_iload_n (q := 7) dX8_rumour_6 rfl rfl ?_
  refine ev_pV (q := 10) (ci := 8) dX8_rumour_7 rfl okX8_noTown lmRX8_167 imX8_noTown seX8_noTown (by first | rfl | assumption | exact zf_kd (by assumption) | exact zw_kd (by assumption) | exact zt_kd (by assumption)) (by first | decide | exact zf_lt (by assumption) | exact zf_lt1 (by assumption) | exact zf_lt2 (by assumption) | exact zf_lt3 (by assumption) | exact zf_lt4 (by assumption) | exact zw_lt (by assumption) | exact zw_lt1 (by assumption) | exact zw_lt2 (by assumption) | exact zw_lt3 (by assumption) | exact zw_lt4 (by assumption) | exact zt_lt (by assumption)) (by decide) rfl (cm_X8_noTown G fo I hs _) (by decide) rfl rfl (Nat.le_of_ble_eq_true rfl) ?_
  refine ev_if_eq (q := 13) (t := 15) dX8_rumour_10 rfl (by decide) (fun h10 => ?_) (fun h10 => ?_)
  · have hz : zin x (nI T) = true := by simpa using zb_eq h10
    obtain ⟨t, ht, rfl⟩ := zin_t hs.t4' hz
    have ht4 : t < 4 := by have := hs.t4; omega
    have hcx : (nI t).toNatClampNeg = t := nI_clamp (by omega)
    refine ev_iload_n (q := 16) dX8_rumour_15 rfl rfl ?_
    refine ev_i2l (q := 17) dX8_rumour_16 rfl ?_
    refine ev_lconst (q := 18) (1 : Int64) dX8_rumour_17 rfl (by decide) ?_
    refine ev_ldc2 (q := 21) dX8_rumour_18 rfl ctRX8_185 ?_
    refine ev_pS (q := 24) dX8_rumour_21 rfl okX8_in lmRX8_75 smX8_in (c_X8_in G _ _ _ _ _ _) (by decide) rfl rfl (Nat.le_of_ble_eq_true rfl) ?_
    rw [zinL_19]
    refine ev_if_ne (q := 27) (t := 30) dX8_rumour_24 rfl (by decide) (fun h24 => ?_) (fun h24 => ?_)
    · have hn := zb_ne h24
      refine ev_aload_n (q := 31) dX8_rumour_30 rfl rfl ?_
      refine ev_getR (q := 34) (ci := 8) (f := 14) dX8_rumour_31 rfl (by first | rfl | assumption | exact zf_kd (by assumption) | exact zw_kd (by assumption) | exact zt_kd (by assumption)) (by first | decide | exact zf_lt (by assumption) | exact zf_lt1 (by assumption) | exact zf_lt2 (by assumption) | exact zf_lt3 (by assumption) | exact zf_lt4 (by assumption) | exact zw_lt (by assumption) | exact zw_lt1 (by assumption) | exact zw_lt2 (by assumption) | exact zw_lt3 (by assumption) | exact zw_lt4 (by assumption) | exact zt_lt (by assumption)) (by decide) (by decide) lfRX8_38 rfl (by first | rfl | assumption | exact zf_p4 _ (by assumption) | exact zf_p5 _ (by assumption) | exact zf_p6 _ (by assumption) | exact zf_p7 _ (by assumption) | exact zw_p1 _ (by assumption) | exact zw_p2 _ (by assumption) | exact zw_p3 _ (by assumption) | exact zw_p4 _ (by assumption)) ?_
      refine ev_iload_n (q := 35) dX8_rumour_34 rfl rfl ?_
      refine ev_ialdN (q := 36) dX8_rumour_35 rfl (by first | rfl | assumption | exact zf_kd1 (by assumption) | exact zf_kd2 (by assumption) | exact zf_kd3 (by assumption) | exact zf_kd4 (by assumption) | exact zw_kd1 (by assumption) | exact zw_kd2 (by assumption) | exact zw_kd3 (by assumption) | exact zw_kd4 (by assumption)) (by first | decide | exact zf_lt (by assumption) | exact zf_lt1 (by assumption) | exact zf_lt2 (by assumption) | exact zf_lt3 (by assumption) | exact zf_lt4 (by assumption) | exact zw_lt (by assumption) | exact zw_lt1 (by assumption) | exact zw_lt2 (by assumption) | exact zw_lt3 (by assumption) | exact zw_lt4 (by assumption) | exact zt_lt (by assumption)) (by first | omega | assumption) ?_
      refine ev_iload_n (q := 37) dX8_rumour_36 rfl rfl ?_
      refine ev_iadd (q := 38) dX8_rumour_37 rfl ?_
      refine ev_bipush (q := 40) (99 : Int32) dX8_rumour_38 rfl (by decide) ?_
      refine ev_icmp_le (q := 43) (t := 46) dX8_rumour_40 rfl (by decide) (fun h40 => ?_) (fun h40 => ?_)
      · refine ev_aload_n (q := 47) dX8_rumour_46 rfl rfl ?_
        refine ev_cV (q := 50) (ci := 8) dX8_rumour_47 rfl okX8_note lmRX8_182 imX8_note seX8_note (by first | rfl | assumption | exact zf_kd (by assumption) | exact zw_kd (by assumption) | exact zt_kd (by assumption)) (by first | decide | exact zf_lt (by assumption) | exact zf_lt1 (by assumption) | exact zf_lt2 (by assumption) | exact zf_lt3 (by assumption) | exact zf_lt4 (by assumption) | exact zw_lt (by assumption) | exact zw_lt1 (by assumption) | exact zw_lt2 (by assumption) | exact zw_lt3 (by assumption) | exact zw_lt4 (by assumption) | exact zt_lt (by assumption)) (by decide) rfl (c_X8_note G fo I han ha) (by decide) rfl rfl (Nat.le_of_ble_eq_true rfl) (fun v47 n47 I47 P47 hR47 => ?_)
        obtain ⟨rfl, rfl, rfl, hnt⟩ := hR47
        refine ev_aload_n (q := 51) dX8_rumour_50 rfl rfl ?_
        refine ev_getR (q := 54) (ci := 8) (f := 14) dX8_rumour_51 rfl (by first | rfl | assumption | exact zf_kd (by assumption) | exact zw_kd (by assumption) | exact zt_kd (by assumption)) (by first | decide | exact zf_lt (by assumption) | exact zf_lt1 (by assumption) | exact zf_lt2 (by assumption) | exact zf_lt3 (by assumption) | exact zf_lt4 (by assumption) | exact zw_lt (by assumption) | exact zw_lt1 (by assumption) | exact zw_lt2 (by assumption) | exact zw_lt3 (by assumption) | exact zw_lt4 (by assumption) | exact zt_lt (by assumption)) (by decide) (by decide) lfRX8_38 rfl (by first | rfl | assumption | exact zf_p4 _ (by assumption) | exact zf_p5 _ (by assumption) | exact zf_p6 _ (by assumption) | exact zf_p7 _ (by assumption) | exact zw_p1 _ (by assumption) | exact zw_p2 _ (by assumption) | exact zw_p3 _ (by assumption) | exact zw_p4 _ (by assumption)) ?_
        refine ev_iload_n (q := 55) dX8_rumour_54 rfl rfl ?_
        refine ev_dup2 (q := 56) dX8_rumour_55 rfl rfl rfl ?_
        refine ev_ialdN (q := 57) dX8_rumour_56 rfl (by first | rfl | assumption | exact zf_kd1 (by assumption) | exact zf_kd2 (by assumption) | exact zf_kd3 (by assumption) | exact zf_kd4 (by assumption) | exact zw_kd1 (by assumption) | exact zw_kd2 (by assumption) | exact zw_kd3 (by assumption) | exact zw_kd4 (by assumption)) (by first | decide | exact zf_lt (by assumption) | exact zf_lt1 (by assumption) | exact zf_lt2 (by assumption) | exact zf_lt3 (by assumption) | exact zf_lt4 (by assumption) | exact zw_lt (by assumption) | exact zw_lt1 (by assumption) | exact zw_lt2 (by assumption) | exact zw_lt3 (by assumption) | exact zw_lt4 (by assumption) | exact zt_lt (by assumption)) (by first | omega | assumption) ?_
        refine ev_iload_n (q := 58) dX8_rumour_57 rfl rfl ?_
        refine ev_iadd (q := 59) dX8_rumour_58 rfl ?_
        rw [hnt.1 128 (by decide) (by decide)]
        refine ev_iastN (q := 60) dX8_rumour_59 rfl (by first | rfl | assumption | exact zf_kd1 (by assumption) | exact zf_kd2 (by assumption) | exact zf_kd3 (by assumption) | exact zf_kd4 (by assumption) | exact zw_kd1 (by assumption) | exact zw_kd2 (by assumption) | exact zw_kd3 (by assumption) | exact zw_kd4 (by assumption)) (by first | decide | exact zf_lt (by assumption) | exact zf_lt1 (by assumption) | exact zf_lt2 (by assumption) | exact zf_lt3 (by assumption) | exact zf_lt4 (by assumption) | exact zw_lt (by assumption) | exact zw_lt1 (by assumption) | exact zw_lt2 (by assumption) | exact zw_lt3 (by assumption) | exact zw_lt4 (by assumption) | exact zt_lt (by assumption)) (by first | omega | assumption) ?_
        refine ev_aload_n (q := 61) dX8_rumour_60 rfl rfl ?_
        refine ev_getR (q := 64) (ci := 8) (f := 14) dX8_rumour_61 rfl (by first | rfl | assumption | exact zf_kd (by assumption) | exact zw_kd (by assumption) | exact zt_kd (by assumption)) (by first | decide | exact zf_lt (by assumption) | exact zf_lt1 (by assumption) | exact zf_lt2 (by assumption) | exact zf_lt3 (by assumption) | exact zf_lt4 (by assumption) | exact zw_lt (by assumption) | exact zw_lt1 (by assumption) | exact zw_lt2 (by assumption) | exact zw_lt3 (by assumption) | exact zw_lt4 (by assumption) | exact zt_lt (by assumption)) (by decide) (by decide) lfRX8_38 rfl (by first | rfl | assumption | exact zf_p4 _ (by assumption) | exact zf_p5 _ (by assumption) | exact zf_p6 _ (by assumption) | exact zf_p7 _ (by assumption) | exact zw_p1 _ (by assumption) | exact zw_p2 _ (by assumption) | exact zw_p3 _ (by assumption) | exact zw_p4 _ (by assumption)) ?_
        refine ev_iload_n (q := 65) dX8_rumour_64 rfl rfl ?_
        refine ev_ialdN (q := 66) dX8_rumour_65 rfl (by first | rfl | assumption | exact zf_kd1 (by assumption) | exact zf_kd2 (by assumption) | exact zf_kd3 (by assumption) | exact zf_kd4 (by assumption) | exact zw_kd1 (by assumption) | exact zw_kd2 (by assumption) | exact zw_kd3 (by assumption) | exact zw_kd4 (by assumption)) (by first | decide | exact zf_lt (by assumption) | exact zf_lt1 (by assumption) | exact zf_lt2 (by assumption) | exact zf_lt3 (by assumption) | exact zf_lt4 (by assumption) | exact zw_lt (by assumption) | exact zw_lt1 (by assumption) | exact zw_lt2 (by assumption) | exact zw_lt3 (by assumption) | exact zw_lt4 (by assumption) | exact zt_lt (by assumption)) (by first | omega | assumption) ?_
        rw [zu_eq]
        exact ev_iret dX8_rumour_66 rfl (by first | rfl | exact zb_nar _ | assumption) (⟨rfl, rfl, by unfold zRuR zRuB; rw [hz, Bool.and_assoc true, hn, hcx]; simp [h40], fun h => absurd h (by unfold zRuB; rw [hz, Bool.and_assoc true, hn, hcx]; simp [h40]), fun _ => ⟨_, hnt, by rw [hcx]⟩⟩)
      · refine ev_bipush (q := 45) ((-4) : Int32) dX8_rumour_43 rfl (by decide) ?_
        exact ev_iret dX8_rumour_45 rfl (by first | rfl | exact zb_nar _ | assumption) (⟨rfl, rfl, by unfold zRuR zRuB; rw [hz, Bool.and_assoc true, hn, hcx]; simp [h40], fun _ => rfl, fun h => absurd h (by unfold zRuB; rw [hz, Bool.and_assoc true, hn, hcx]; simp [h40])⟩)
    · have hn := zb_eq h24
      refine ev_bipush (q := 29) ((-2) : Int32) dX8_rumour_27 rfl (by decide) ?_
      exact ev_iret dX8_rumour_29 rfl (by first | rfl | exact zb_nar _ | assumption) (⟨rfl, rfl, by unfold zRuR; rw [hz, hn]; rfl, fun _ => rfl, fun h => absurd h (by unfold zRuB; rw [hz, Bool.and_assoc true, hn]; simp)⟩)
  · have hz : zin x (nI T) = false := by simpa using zb_ne h10
    refine ev_iconst (q := 14) ((-1) : Int32) dX8_rumour_13 rfl (by decide) ?_
    exact ev_iret dX8_rumour_14 rfl (by first | rfl | exact zb_nar _ | assumption) (⟨rfl, rfl, by simp [zRuR, hz], fun _ => rfl, fun h => absurd h (by simp [zRuB, hz])⟩)
set_option maxHeartbeats 4000000 in
set_option maxRecDepth 100000 in
theorem cm_X8_rumour (G : zq_G) (fo : Bool) (I : zq_I) {N T : Nat} (hs : zSm N T I) {an : Nat} (han : an ≤ 16) (ha : I 119 25 = nI an) (x n : Int32) : zq_Met G mX8_rumour 2 0 0 [.ref 119, .int x, .int n] 138 I (zPs fo) ((fun (I : zq_I) => fun v n' I' P' => n' = 138 ∧ P' = zPs fo ∧ v = some (.int (zRuR I T x n)) ∧ (zRuB I T x n = false → I' = I) ∧ (zRuB I T x n = true → ∃ I1, znote an I I1 ∧ I' = zu I1 128 x.toNatClampNeg (I 128 x.toNatClampNeg + n))) (zu I 119 0 0)) := by
  refine zq_Met.of okX8_rumour (Nat.le_of_ble_eq_true rfl) ?_
  show zq_E _ _ _ _ _ _ _ [some (.ref 119), some (.int x), some (.int n)] _ _ _ _ _
  refine ev_aload_n (q := 1) dX8_rumour_0 rfl rfl ?_
  refine ev_iconst (q := 2) (0 : Int32) dX8_rumour_1 rfl (by decide) ?_
  refine ev_putI (q := 5) (ci := 8) (f := 0) dX8_rumour_2 rfl (by first | rfl | assumption | exact zf_kd (by assumption) | exact zw_kd (by assumption) | exact zt_kd (by assumption)) (by first | decide | exact zf_lt (by assumption) | exact zf_lt1 (by assumption) | exact zf_lt2 (by assumption) | exact zf_lt3 (by assumption) | exact zf_lt4 (by assumption) | exact zw_lt (by assumption) | exact zw_lt1 (by assumption) | exact zw_lt2 (by assumption) | exact zw_lt3 (by assumption) | exact zw_lt4 (by assumption) | exact zt_lt (by assumption)) (by decide) (by decide) lfRX8_69 rfl rfl rfl rfl ?_
  obtain ⟨I1, hI1⟩ : ∃ I1, I1 = zu I 119 0 0 := ⟨_, rfl⟩
  rw [← hI1]
  have hFM : zFM I I1 := by rw [hI1]; exact zFM.rf.zu 119 0 0 rfl
  have hV := hFM.V
  have e2 : I1 119 2 = I 119 2 := hFM.2 2 rfl
  have e4 : I1 119 4 = I 119 4 := hFM.2 4 rfl
  have e5 : I1 119 5 = I 119 5 := hFM.2 5 rfl
  have e6 : I1 119 6 = I 119 6 := hFM.2 6 rfl
  have e15 : I1 119 15 = I 119 15 := hFM.2 15 rfl
  have e25 : I1 119 25 = I 119 25 := hFM.2 25 rfl
  have f128 : I1 128 = I 128 := hFM.1 128 rfl
  refine ev_post ?_ (km_X8_rumour G fo I1 (hFM.Sm hs) han (by rw [e25]; exact ha) x n)
  intro v n' I' P' h
  subst hI1
  exact h
set_option maxHeartbeats 4000000 in
set_option maxRecDepth 100000 in
theorem km_X8_undo (G : zq_G) (fo : Bool) (I : zq_I) {N T : Nat} (hs : zSm N T I) {an : Nat} (han : an ≤ 16) (ha : I 119 25 = nI an)  : zq_E G mX8_undo 1 0 0 false 5 [some (.ref 119)] [] 138 I (zPs fo) (fun v n' I' P' => n' = 138 ∧ P' = zPs fo ∧ (an = 0 → v = some (.int (-3)) ∧ I' = I) ∧ ∀ k, an = k + 1 → v = some (.int (nI k)) ∧ (∀ c, c ≠ 119 → c ≠ 125 → c ≠ 126 → c ≠ 127 → c ≠ 128 → I' c = I c) ∧ (∀ j, j ≠ 15 → j ≠ 25 → I' 119 j = I 119 j) ∧ I' 119 25 = nI k ∧ zpag 133 (29 * k) I' I) := by
  refine ev_aload_n (q := 6) dX8_undo_5 rfl rfl ?_
  refine ev_getI (q := 9) (ci := 8) (f := 25) dX8_undo_6 rfl (by first | rfl | assumption | exact zf_kd (by assumption) | exact zw_kd (by assumption) | exact zt_kd (by assumption)) (by first | decide | exact zf_lt (by assumption) | exact zf_lt1 (by assumption) | exact zf_lt2 (by assumption) | exact zf_lt3 (by assumption) | exact zf_lt4 (by assumption) | exact zw_lt (by assumption) | exact zw_lt1 (by assumption) | exact zw_lt2 (by assumption) | exact zw_lt3 (by assumption) | exact zw_lt4 (by assumption) | exact zt_lt (by assumption)) (by decide) (by decide) lfRX8_134 rfl ?_
  refine ev_if_ne (q := 12) (t := 15) dX8_undo_9 rfl (by decide) (fun h9 => ?_) (fun h9 => ?_)
  · obtain ⟨k, rfl⟩ : ∃ k, an = k + 1 := ⟨an - 1, by have : an ≠ 0 := (fun e => by subst e; exact h9 ha); omega⟩
    refine ev_aload_n (q := 16) dX8_undo_15 rfl rfl ?_
    refine ev_dup (q := 17) dX8_undo_16 rfl rfl ?_
    refine ev_getI (q := 20) (ci := 8) (f := 25) dX8_undo_17 rfl (by first | rfl | assumption | exact zf_kd (by assumption) | exact zw_kd (by assumption) | exact zt_kd (by assumption)) (by first | decide | exact zf_lt (by assumption) | exact zf_lt1 (by assumption) | exact zf_lt2 (by assumption) | exact zf_lt3 (by assumption) | exact zf_lt4 (by assumption) | exact zw_lt (by assumption) | exact zw_lt1 (by assumption) | exact zw_lt2 (by assumption) | exact zw_lt3 (by assumption) | exact zw_lt4 (by assumption) | exact zt_lt (by assumption)) (by decide) (by decide) lfRX8_134 rfl ?_
    refine ev_iconst (q := 21) (1 : Int32) dX8_undo_20 rfl (by decide) ?_
    refine ev_isub (q := 22) dX8_undo_21 rfl ?_
    refine ev_putI (q := 25) (ci := 8) (f := 25) dX8_undo_22 rfl (by first | rfl | assumption | exact zf_kd (by assumption) | exact zw_kd (by assumption) | exact zt_kd (by assumption)) (by first | decide | exact zf_lt (by assumption) | exact zf_lt1 (by assumption) | exact zf_lt2 (by assumption) | exact zf_lt3 (by assumption) | exact zf_lt4 (by assumption) | exact zw_lt (by assumption) | exact zw_lt1 (by assumption) | exact zw_lt2 (by assumption) | exact zw_lt3 (by assumption) | exact zw_lt4 (by assumption) | exact zt_lt (by assumption)) (by decide) (by decide) lfRX8_134 rfl rfl rfl rfl ?_
    obtain ⟨I2, hI2⟩ : ∃ I2, I2 = zu I 119 25 (I 119 25 - 1) := ⟨_, rfl⟩
    rw [← hI2]
    have g25 : I2 119 25 = nI k := by rw [hI2, zu_eq, ha, nI_pred]
    refine ev_aload_n (q := 26) dX8_undo_25 rfl rfl ?_
    refine ev_aload_n (q := 27) dX8_undo_26 rfl rfl ?_
    refine ev_getR (q := 30) (ci := 8) (f := 24) dX8_undo_27 rfl (by first | rfl | assumption | exact zf_kd (by assumption) | exact zw_kd (by assumption) | exact zt_kd (by assumption)) (by first | decide | exact zf_lt (by assumption) | exact zf_lt1 (by assumption) | exact zf_lt2 (by assumption) | exact zf_lt3 (by assumption) | exact zf_lt4 (by assumption) | exact zw_lt (by assumption) | exact zw_lt1 (by assumption) | exact zw_lt2 (by assumption) | exact zw_lt3 (by assumption) | exact zw_lt4 (by assumption) | exact zt_lt (by assumption)) (by decide) (by decide) lfRX8_53 rfl (by first | rfl | assumption | exact zf_p4 _ (by assumption) | exact zf_p5 _ (by assumption) | exact zf_p6 _ (by assumption) | exact zf_p7 _ (by assumption) | exact zw_p1 _ (by assumption) | exact zw_p2 _ (by assumption) | exact zw_p3 _ (by assumption) | exact zw_p4 _ (by assumption)) ?_
    refine ev_bipush (q := 32) (nI 29 : Int32) dX8_undo_30 rfl (by decide) ?_
    refine ev_aload_n (q := 33) dX8_undo_32 rfl rfl ?_
    refine ev_getI (q := 36) (ci := 8) (f := 25) dX8_undo_33 rfl (by first | rfl | assumption | exact zf_kd (by assumption) | exact zw_kd (by assumption) | exact zt_kd (by assumption)) (by first | decide | exact zf_lt (by assumption) | exact zf_lt1 (by assumption) | exact zf_lt2 (by assumption) | exact zf_lt3 (by assumption) | exact zf_lt4 (by assumption) | exact zw_lt (by assumption) | exact zw_lt1 (by assumption) | exact zw_lt2 (by assumption) | exact zw_lt3 (by assumption) | exact zw_lt4 (by assumption) | exact zt_lt (by assumption)) (by decide) (by decide) lfRX8_134 rfl ?_
    rw [g25]
    refine ev_imul (q := 37) dX8_undo_36 rfl ?_
    rw [pk_mul]
    refine ev_cV (q := 40) (ci := 8) dX8_undo_37 rfl okX8_takePage lmRX8_187 imX8_takePage seX8_takePage (by first | rfl | assumption | exact zf_kd (by assumption) | exact zw_kd (by assumption) | exact zt_kd (by assumption)) (by first | decide | exact zf_lt (by assumption) | exact zf_lt1 (by assumption) | exact zf_lt2 (by assumption) | exact zf_lt3 (by assumption) | exact zf_lt4 (by assumption) | exact zw_lt (by assumption) | exact zw_lt1 (by assumption) | exact zw_lt2 (by assumption) | exact zw_lt3 (by assumption) | exact zw_lt4 (by assumption) | exact zt_lt (by assumption)) (by decide) rfl (c_X8_takePage G fo I2 (pg := 133) (L := 464) (off := 29 * k) (Or.inl rfl) rfl (by omega)) (by decide) rfl rfl (Nat.le_of_ble_eq_true rfl) (fun v37 n37 I37 P37 hR37 => ?_)
    obtain ⟨rfl, rfl, rfl, hf, hk9, hp8, hp4, hpy⟩ := hR37
    refine ev_aload_n (q := 41) dX8_undo_40 rfl rfl ?_
    refine ev_getI (q := 44) (ci := 8) (f := 25) dX8_undo_41 rfl (by first | rfl | assumption | exact zf_kd (by assumption) | exact zw_kd (by assumption) | exact zt_kd (by assumption)) (by first | decide | exact zf_lt (by assumption) | exact zf_lt1 (by assumption) | exact zf_lt2 (by assumption) | exact zf_lt3 (by assumption) | exact zf_lt4 (by assumption) | exact zw_lt (by assumption) | exact zw_lt1 (by assumption) | exact zw_lt2 (by assumption) | exact zw_lt3 (by assumption) | exact zw_lt4 (by assumption) | exact zt_lt (by assumption)) (by decide) (by decide) lfRX8_134 rfl ?_
    rw [hk9 25 (by decide), g25]
    exact ev_iret dX8_undo_44 rfl (by first | rfl | exact zb_nar _ | assumption) (⟨rfl, rfl, fun h => absurd h (by omega), fun k2 hk => (show k = k2 by omega) ▸ ⟨rfl, fun c q0 q1 q2 q3 q4 => by rw [hf c q0 q1 q2 q3 q4, hI2, zu_other q0], fun j q1 q2 => by rw [hk9 j q1, hI2, zu_ne q2], by rw [hk9 25 (by decide), g25], fun p hp => by have q := hp8 p hp; rw [hI2, zu_other (by decide)] at q; exact q, fun t ht => by have q := hp4 t ht; rw [hI2, zu_other (by decide)] at q; exact q, by have q := hpy; rw [hI2, zu_other (by decide)] at q; exact q⟩⟩)
  · have hc0 : an = 0 := by rw [ha] at h9; exact (nI_eq (by omega) (by omega)).mp h9
    refine ev_bipush (q := 14) ((-3) : Int32) dX8_undo_12 rfl (by decide) ?_
    exact ev_iret dX8_undo_14 rfl (by first | rfl | exact zb_nar _ | assumption) (⟨rfl, rfl, fun _ => ⟨rfl, rfl⟩, fun k hk => absurd hk (by omega)⟩)
set_option maxHeartbeats 4000000 in
set_option maxRecDepth 100000 in
theorem cm_X8_undo (G : zq_G) (fo : Bool) (I : zq_I) {N T : Nat} (hs : zSm N T I) {an : Nat} (han : an ≤ 16) (ha : I 119 25 = nI an)  : zq_Met G mX8_undo 1 0 0 [.ref 119] 138 I (zPs fo) ((fun (I : zq_I) => fun v n' I' P' => n' = 138 ∧ P' = zPs fo ∧ (an = 0 → v = some (.int (-3)) ∧ I' = I) ∧ ∀ k, an = k + 1 → v = some (.int (nI k)) ∧ (∀ c, c ≠ 119 → c ≠ 125 → c ≠ 126 → c ≠ 127 → c ≠ 128 → I' c = I c) ∧ (∀ j, j ≠ 15 → j ≠ 25 → I' 119 j = I 119 j) ∧ I' 119 25 = nI k ∧ zpag 133 (29 * k) I' I) (zu I 119 0 0)) := by
  refine zq_Met.of okX8_undo (Nat.le_of_ble_eq_true rfl) ?_
  show zq_E _ _ _ _ _ _ _ [some (.ref 119)] _ _ _ _ _
  refine ev_aload_n (q := 1) dX8_undo_0 rfl rfl ?_
  refine ev_iconst (q := 2) (0 : Int32) dX8_undo_1 rfl (by decide) ?_
  refine ev_putI (q := 5) (ci := 8) (f := 0) dX8_undo_2 rfl (by first | rfl | assumption | exact zf_kd (by assumption) | exact zw_kd (by assumption) | exact zt_kd (by assumption)) (by first | decide | exact zf_lt (by assumption) | exact zf_lt1 (by assumption) | exact zf_lt2 (by assumption) | exact zf_lt3 (by assumption) | exact zf_lt4 (by assumption) | exact zw_lt (by assumption) | exact zw_lt1 (by assumption) | exact zw_lt2 (by assumption) | exact zw_lt3 (by assumption) | exact zw_lt4 (by assumption) | exact zt_lt (by assumption)) (by decide) (by decide) lfRX8_69 rfl rfl rfl rfl ?_
  obtain ⟨I1, hI1⟩ : ∃ I1, I1 = zu I 119 0 0 := ⟨_, rfl⟩
  rw [← hI1]
  have hFM : zFM I I1 := by rw [hI1]; exact zFM.rf.zu 119 0 0 rfl
  have hV := hFM.V
  have e2 : I1 119 2 = I 119 2 := hFM.2 2 rfl
  have e4 : I1 119 4 = I 119 4 := hFM.2 4 rfl
  have e5 : I1 119 5 = I 119 5 := hFM.2 5 rfl
  have e6 : I1 119 6 = I 119 6 := hFM.2 6 rfl
  have e15 : I1 119 15 = I 119 15 := hFM.2 15 rfl
  have e25 : I1 119 25 = I 119 25 := hFM.2 25 rfl
  have f128 : I1 128 = I 128 := hFM.1 128 rfl
  refine ev_post ?_ (km_X8_undo G fo I1 (hFM.Sm hs) han (by rw [e25]; exact ha))
  intro v n' I' P' h
  subst hI1
  exact h
set_option maxHeartbeats 4000000 in
set_option maxRecDepth 100000 in
theorem km_X8_again (G : zq_G) (fo : Bool) (I : zq_I) {N T : Nat} (hs : zSm N T I) (x : Int32) : zq_E G mX8_again 1 0 0 false 5 [some (.ref 119), some (.int x)] [] 138 I (zPs fo) (fun v n' I' P' => n' = 138 ∧ P' = zPs fo ∧ (zin x 2 = false → v = some (.int (-1)) ∧ I' = I) ∧ ∀ s, s < 2 → x = nI s → (I 135 s = 0 → v = some (.int (-3)) ∧ I' = I) ∧ (¬ I 135 s = 0 → v = some (.int (I 134 (29 * s + 28))) ∧ (∀ c, c ≠ 119 → c ≠ 125 → c ≠ 126 → c ≠ 127 → c ≠ 128 → I' c = I c) ∧ (∀ j, j ≠ 15 → j ≠ 25 → I' 119 j = I 119 j) ∧ I' 119 25 = 0 ∧ zpag 134 (29 * s) I' I)) := by
  refine ev_iload_n (q := 6) dX8_again_5 rfl rfl ?_
  refine ev_i2l (q := 7) dX8_again_6 rfl ?_
  refine ev_lconst (q := 8) (0 : Int64) dX8_again_7 rfl (by decide) ?_
  refine ev_lconst (q := 9) (1 : Int64) dX8_again_8 rfl (by decide) ?_
  refine ev_pS (q := 12) dX8_again_9 rfl okX8_in lmRX8_75 smX8_in (c_X8_in G _ _ _ _ _ _) (by decide) rfl rfl (Nat.le_of_ble_eq_true rfl) ?_
  rw [zinL_2]
  refine ev_if_ne (q := 15) (t := 17) dX8_again_12 rfl (by decide) (fun h12 => ?_) (fun h12 => ?_)
  · have hz : zin x (nI 2) = true := zb_ne h12
    obtain ⟨s, hsl, rfl⟩ := zin_t (by omega) hz
    refine ev_aload_n (q := 18) dX8_again_17 rfl rfl ?_
    refine ev_getR (q := 21) (ci := 8) (f := 27) dX8_again_18 rfl (by first | rfl | assumption | exact zf_kd (by assumption) | exact zw_kd (by assumption) | exact zt_kd (by assumption)) (by first | decide | exact zf_lt (by assumption) | exact zf_lt1 (by assumption) | exact zf_lt2 (by assumption) | exact zf_lt3 (by assumption) | exact zf_lt4 (by assumption) | exact zw_lt (by assumption) | exact zw_lt1 (by assumption) | exact zw_lt2 (by assumption) | exact zw_lt3 (by assumption) | exact zw_lt4 (by assumption) | exact zt_lt (by assumption)) (by decide) (by decide) lfRX8_59 rfl (by first | rfl | assumption | exact zf_p4 _ (by assumption) | exact zf_p5 _ (by assumption) | exact zf_p6 _ (by assumption) | exact zf_p7 _ (by assumption) | exact zw_p1 _ (by assumption) | exact zw_p2 _ (by assumption) | exact zw_p3 _ (by assumption) | exact zw_p4 _ (by assumption)) ?_
    refine ev_iload_n (q := 22) dX8_again_21 rfl rfl ?_
    refine ev_zaldN (q := 23) dX8_again_22 rfl (by first | rfl | assumption | exact zf_kd1 (by assumption) | exact zf_kd2 (by assumption) | exact zf_kd3 (by assumption) | exact zf_kd4 (by assumption) | exact zw_kd1 (by assumption) | exact zw_kd2 (by assumption) | exact zw_kd3 (by assumption) | exact zw_kd4 (by assumption)) (by first | decide | exact zf_lt (by assumption) | exact zf_lt1 (by assumption) | exact zf_lt2 (by assumption) | exact zf_lt3 (by assumption) | exact zf_lt4 (by assumption) | exact zw_lt (by assumption) | exact zw_lt1 (by assumption) | exact zw_lt2 (by assumption) | exact zw_lt3 (by assumption) | exact zw_lt4 (by assumption) | exact zt_lt (by assumption)) (by first | omega | assumption) ?_
    refine ev_if_ne (q := 26) (t := 29) dX8_again_23 rfl (by decide) (fun h23 => ?_) (fun h23 => ?_)
    · refine ev_aload_n (q := 30) dX8_again_29 rfl rfl ?_
      refine ev_aload_n (q := 31) dX8_again_30 rfl rfl ?_
      refine ev_getR (q := 34) (ci := 8) (f := 26) dX8_again_31 rfl (by first | rfl | assumption | exact zf_kd (by assumption) | exact zw_kd (by assumption) | exact zt_kd (by assumption)) (by first | decide | exact zf_lt (by assumption) | exact zf_lt1 (by assumption) | exact zf_lt2 (by assumption) | exact zf_lt3 (by assumption) | exact zf_lt4 (by assumption) | exact zw_lt (by assumption) | exact zw_lt1 (by assumption) | exact zw_lt2 (by assumption) | exact zw_lt3 (by assumption) | exact zw_lt4 (by assumption) | exact zt_lt (by assumption)) (by decide) (by decide) lfRX8_56 rfl (by first | rfl | assumption | exact zf_p4 _ (by assumption) | exact zf_p5 _ (by assumption) | exact zf_p6 _ (by assumption) | exact zf_p7 _ (by assumption) | exact zw_p1 _ (by assumption) | exact zw_p2 _ (by assumption) | exact zw_p3 _ (by assumption) | exact zw_p4 _ (by assumption)) ?_
      refine ev_bipush (q := 36) (nI 29 : Int32) dX8_again_34 rfl (by decide) ?_
      refine ev_iload_n (q := 37) dX8_again_36 rfl rfl ?_
      refine ev_imul (q := 38) dX8_again_37 rfl ?_
      rw [pk_mul]
      refine ev_cV (q := 41) (ci := 8) dX8_again_38 rfl okX8_takePage lmRX8_187 imX8_takePage seX8_takePage (by first | rfl | assumption | exact zf_kd (by assumption) | exact zw_kd (by assumption) | exact zt_kd (by assumption)) (by first | decide | exact zf_lt (by assumption) | exact zf_lt1 (by assumption) | exact zf_lt2 (by assumption) | exact zf_lt3 (by assumption) | exact zf_lt4 (by assumption) | exact zw_lt (by assumption) | exact zw_lt1 (by assumption) | exact zw_lt2 (by assumption) | exact zw_lt3 (by assumption) | exact zw_lt4 (by assumption) | exact zt_lt (by assumption)) (by decide) rfl (c_X8_takePage G fo I (pg := 134) (L := 58) (off := 29 * s) (Or.inr rfl) rfl (by omega)) (by decide) rfl rfl (Nat.le_of_ble_eq_true rfl) (fun v38 n38 I38 P38 hR38 => ?_)
      obtain ⟨rfl, rfl, rfl, hf, hk9, hp8, hp4, hpy⟩ := hR38
      refine ev_aload_n (q := 42) dX8_again_41 rfl rfl ?_
      refine ev_iconst (q := 43) (0 : Int32) dX8_again_42 rfl (by decide) ?_
      refine ev_putI (q := 46) (ci := 8) (f := 25) dX8_again_43 rfl (by first | rfl | assumption | exact zf_kd (by assumption) | exact zw_kd (by assumption) | exact zt_kd (by assumption)) (by first | decide | exact zf_lt (by assumption) | exact zf_lt1 (by assumption) | exact zf_lt2 (by assumption) | exact zf_lt3 (by assumption) | exact zf_lt4 (by assumption) | exact zw_lt (by assumption) | exact zw_lt1 (by assumption) | exact zw_lt2 (by assumption) | exact zw_lt3 (by assumption) | exact zw_lt4 (by assumption) | exact zt_lt (by assumption)) (by decide) (by decide) lfRX8_134 rfl rfl rfl rfl ?_
      refine ev_aload_n (q := 47) dX8_again_46 rfl rfl ?_
      refine ev_getI (q := 50) (ci := 8) (f := 15) dX8_again_47 rfl (by first | rfl | assumption | exact zf_kd (by assumption) | exact zw_kd (by assumption) | exact zt_kd (by assumption)) (by first | decide | exact zf_lt (by assumption) | exact zf_lt1 (by assumption) | exact zf_lt2 (by assumption) | exact zf_lt3 (by assumption) | exact zf_lt4 (by assumption) | exact zw_lt (by assumption) | exact zw_lt1 (by assumption) | exact zw_lt2 (by assumption) | exact zw_lt3 (by assumption) | exact zw_lt4 (by assumption) | exact zt_lt (by assumption)) (by decide) (by decide) lfRX8_131 rfl ?_
      rw [zu_ne (by decide), ← hpy]
      exact ev_iret dX8_again_50 rfl (by first | rfl | exact zb_nar _ | assumption) (⟨rfl, rfl, fun h => absurd h (by rw [show zin (nI s) 2 = true from hz]; decide), fun s2 hs2 e => by obtain rfl : s = s2 := (nI_eq (by omega) (by omega)).mp e; exact ⟨fun h => absurd h h23, fun _ => ⟨rfl, fun c q0 q1 q2 q3 q4 => by rw [zu_other q0]; exact hf c q0 q1 q2 q3 q4, fun j q1 q2 => by rw [zu_ne q2]; exact hk9 j q1, zu_eq, fun p hp => by rw [zu_other (by decide), zu_other (by decide), zu_other (by decide)]; exact hp8 p hp, fun t ht => by rw [zu_other (by decide)]; exact hp4 t ht, by rw [zu_ne (by decide)]; exact hpy⟩⟩⟩)
    · refine ev_bipush (q := 28) ((-3) : Int32) dX8_again_26 rfl (by decide) ?_
      exact ev_iret dX8_again_28 rfl (by first | rfl | exact zb_nar _ | assumption) (⟨rfl, rfl, fun h => absurd h (by rw [show zin (nI s) 2 = true from hz]; decide), fun s2 hs2 e => by obtain rfl : s = s2 := (nI_eq (by omega) (by omega)).mp e; exact ⟨fun _ => ⟨rfl, rfl⟩, fun h => absurd h23 h⟩⟩)
  · have hz : zin x 2 = false := zb_eq h12
    refine ev_iconst (q := 16) ((-1) : Int32) dX8_again_15 rfl (by decide) ?_
    exact ev_iret dX8_again_16 rfl (by first | rfl | exact zb_nar _ | assumption) (⟨rfl, rfl, fun _ => ⟨rfl, rfl⟩, fun s hs2 e => absurd hz (by rw [e]; rw [show zin (nI s) 2 = true from zin_of (N := 2) hs2 (by omega)]; decide)⟩)
set_option maxHeartbeats 4000000 in
set_option maxRecDepth 100000 in
theorem cm_X8_again (G : zq_G) (fo : Bool) (I : zq_I) {N T : Nat} (hs : zSm N T I) (x : Int32) : zq_Met G mX8_again 1 0 0 [.ref 119, .int x] 138 I (zPs fo) ((fun (I : zq_I) => fun v n' I' P' => n' = 138 ∧ P' = zPs fo ∧ (zin x 2 = false → v = some (.int (-1)) ∧ I' = I) ∧ ∀ s, s < 2 → x = nI s → (I 135 s = 0 → v = some (.int (-3)) ∧ I' = I) ∧ (¬ I 135 s = 0 → v = some (.int (I 134 (29 * s + 28))) ∧ (∀ c, c ≠ 119 → c ≠ 125 → c ≠ 126 → c ≠ 127 → c ≠ 128 → I' c = I c) ∧ (∀ j, j ≠ 15 → j ≠ 25 → I' 119 j = I 119 j) ∧ I' 119 25 = 0 ∧ zpag 134 (29 * s) I' I)) (zu I 119 0 0)) := by
  refine zq_Met.of okX8_again (Nat.le_of_ble_eq_true rfl) ?_
  show zq_E _ _ _ _ _ _ _ [some (.ref 119), some (.int x)] _ _ _ _ _
  refine ev_aload_n (q := 1) dX8_again_0 rfl rfl ?_
  refine ev_iconst (q := 2) (0 : Int32) dX8_again_1 rfl (by decide) ?_
  refine ev_putI (q := 5) (ci := 8) (f := 0) dX8_again_2 rfl (by first | rfl | assumption | exact zf_kd (by assumption) | exact zw_kd (by assumption) | exact zt_kd (by assumption)) (by first | decide | exact zf_lt (by assumption) | exact zf_lt1 (by assumption) | exact zf_lt2 (by assumption) | exact zf_lt3 (by assumption) | exact zf_lt4 (by assumption) | exact zw_lt (by assumption) | exact zw_lt1 (by assumption) | exact zw_lt2 (by assumption) | exact zw_lt3 (by assumption) | exact zw_lt4 (by assumption) | exact zt_lt (by assumption)) (by decide) (by decide) lfRX8_69 rfl rfl rfl rfl ?_
  obtain ⟨I1, hI1⟩ : ∃ I1, I1 = zu I 119 0 0 := ⟨_, rfl⟩
  rw [← hI1]
  have hFM : zFM I I1 := by rw [hI1]; exact zFM.rf.zu 119 0 0 rfl
  have hV := hFM.V
  have e2 : I1 119 2 = I 119 2 := hFM.2 2 rfl
  have e4 : I1 119 4 = I 119 4 := hFM.2 4 rfl
  have e5 : I1 119 5 = I 119 5 := hFM.2 5 rfl
  have e6 : I1 119 6 = I 119 6 := hFM.2 6 rfl
  have e15 : I1 119 15 = I 119 15 := hFM.2 15 rfl
  have e25 : I1 119 25 = I 119 25 := hFM.2 25 rfl
  have f128 : I1 128 = I 128 := hFM.1 128 rfl
  refine ev_post ?_ (km_X8_again G fo I1 (hFM.Sm hs) x)
  intro v n' I' P' h
  subst hI1
  exact h
