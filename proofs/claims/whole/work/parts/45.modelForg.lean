theorem zhas_or {a b k : Nat} (ha : a < 2 ^ 31) (hb : b < 2 ^ 31) (hk : k < 16) : zhas (nI a ||| nI b) k = (zhas (nI a) k || zhas (nI b) k) := by
  rw [nI_or, zhas_N (Nat.or_lt_two_pow ha hb) hk, zhas_N ha hk, zhas_N hb hk, Nat.testBit_or]
theorem zhas_zor {f : Nat → Int32} {n k : Nat} (hk : k < 16) (h : ∀ i, ∃ a, a < 2 ^ 8 ∧ f i = nI a) : zhas (zor f (fun _ => true) n) k = zany (fun i => zhas (f i) k) n := by
  induction n with
  | zero => exact zhas_0 k
  | succ n ih =>
    obtain ⟨a, ha, ea⟩ := zor_mask (f := f) (c := fun _ => true) (n := n) (w := 8) (fun i _ => h i)
    obtain ⟨b, hb, eb⟩ := h n
    unfold zor
    rw [if_pos rfl, ea, eb, zhas_or (by omega) (by omega) hk, ← ea, ih, ← eb]
    rfl
theorem zany_f {c : Nat → Bool} {n : Nat} (h : ∀ i, i < n → c i = false) : zany c n = false := by
  induction n with
  | zero => rfl
  | succ n ih => unfold zany; rw [ih (fun i hi => h i (by omega)), h n (by omega)]; rfl
/-- ten years on nobody is remembered -/
theorem zM10 {fo : Bool} {N T Y p : Nat} {I : zq_I} (h : zS fo N T Y I) (hp : p < N) : zany (fun i => zhas (zMs (zV I) N i (nI (Y + 10))) p) N = false := by
  have h8 := h.n8
  refine zany_f (fun i hi => ?_)
  unfold zMs
  rw [zhas_bits h8 (by omega)]
  have hre : zRe (zV I) i p (nI (Y + 10)) = false := by
    obtain ⟨m, hm, em⟩ := h.kR hi
    obtain ⟨-, -, -, -, -, ⟨s, hs, es⟩, -⟩ := h.2.2.2.2.2.1 p hp
    have hY := h.2.2.1
    unfold zRe
    rw [em, show vS (zV I) p = nI s from es, pk_sub (by omega)]
    exact decide_eq_false (by rw [nI_leI (by omega) (by omega)]; omega)
  simp [hre]
set_option maxHeartbeats 4000000 in
set_option maxRecDepth 100000 in
theorem lp_X8_forgotten (G : zq_G) (fo : Bool) (I : zq_I) {N T Y : Nat} (hs : zS fo N T Y I) {p : Nat} (hp : p < N) : ∀ (k j : Nat), j + k = 10 → zfst (fun k => zany (fun i => zhas (zMs (zV I) N i (nI (Y + k))) p) N) 0 10 = zfst (fun k => zany (fun i => zhas (zMs (zV I) N i (nI (Y + k))) p) N) j k → zq_E G mX8_forgotten 5 0 0 false 20 [some (.ref 119), some (.int (nI p)), some (.int (nI (Y + j)))] [] 138 I (zPs fo) (zq_fm (some (.int (nI (zForg (zV I) N Y p)))) fo I) := by
  have hN8 := hs.n8
  intro k
  induction k with
  | zero =>
      intro j hj h0
      refine ev_aload_n (q := 21) dX8_forgotten_20 rfl rfl ?_
      refine ev_iload_n (q := 22) dX8_forgotten_21 rfl rfl ?_
      refine ev_pV (q := 25) (ci := 8) dX8_forgotten_22 rfl okX8_missed lmRX8_161 imX8_missed seX8_missed (by first | rfl | assumption | exact zf_kd (by assumption) | exact zw_kd (by assumption) | exact zt_kd (by assumption)) (by first | decide | exact zf_lt (by assumption) | exact zf_lt1 (by assumption) | exact zf_lt2 (by assumption) | exact zf_lt3 (by assumption) | exact zf_lt4 (by assumption) | exact zw_lt (by assumption) | exact zw_lt1 (by assumption) | exact zw_lt2 (by assumption) | exact zw_lt3 (by assumption) | exact zw_lt4 (by assumption) | exact zt_lt (by assumption)) (by decide) rfl (c_X8_missed G fo I hs _) (by decide) rfl rfl (Nat.le_of_ble_eq_true rfl) ?_
      refine ev_iload_n (q := 26) dX8_forgotten_25 rfl rfl ?_
      
      refine ev_pS (q := 29) dX8_forgotten_26 rfl okX8_has lmRX8_101 smX8_has (c_X8_has G _ _ _ _ _) (by decide) rfl rfl (Nat.le_of_ble_eq_true rfl) ?_
      rw [zhas_zor (show p < 16 by omega) (fun i => zMs_mask hs i _)]
      refine ev_if_eq (q := 32) (t := 38) dX8_forgotten_29 rfl (by decide) (fun h29 => ?_) (fun h29 => ?_)
      · refine ev_iload_n (q := 39) dX8_forgotten_38 rfl rfl ?_
        exact ev_iret dX8_forgotten_39 rfl (by first | rfl | exact zb_nar _ | assumption) (⟨by unfold zForg; rw [h0]; rfl, rfl, rfl, zFM.rf⟩)
      · exact absurd (zb_ne h29) (by rw [show Y + j = Y + 10 by omega, zM10 hs hp]; decide)
  | succ k ih =>
      intro j hj h0
      refine ev_aload_n (q := 21) dX8_forgotten_20 rfl rfl ?_
      refine ev_iload_n (q := 22) dX8_forgotten_21 rfl rfl ?_
      refine ev_pV (q := 25) (ci := 8) dX8_forgotten_22 rfl okX8_missed lmRX8_161 imX8_missed seX8_missed (by first | rfl | assumption | exact zf_kd (by assumption) | exact zw_kd (by assumption) | exact zt_kd (by assumption)) (by first | decide | exact zf_lt (by assumption) | exact zf_lt1 (by assumption) | exact zf_lt2 (by assumption) | exact zf_lt3 (by assumption) | exact zf_lt4 (by assumption) | exact zw_lt (by assumption) | exact zw_lt1 (by assumption) | exact zw_lt2 (by assumption) | exact zw_lt3 (by assumption) | exact zw_lt4 (by assumption) | exact zt_lt (by assumption)) (by decide) rfl (c_X8_missed G fo I hs _) (by decide) rfl rfl (Nat.le_of_ble_eq_true rfl) ?_
      refine ev_iload_n (q := 26) dX8_forgotten_25 rfl rfl ?_
      
      refine ev_pS (q := 29) dX8_forgotten_26 rfl okX8_has lmRX8_101 smX8_has (c_X8_has G _ _ _ _ _) (by decide) rfl rfl (Nat.le_of_ble_eq_true rfl) ?_
      rw [zhas_zor (show p < 16 by omega) (fun i => zMs_mask hs i _)]
      refine ev_if_eq (q := 32) (t := 38) dX8_forgotten_29 rfl (by decide) (fun h29 => ?_) (fun h29 => ?_)
      · refine ev_iload_n (q := 39) dX8_forgotten_38 rfl rfl ?_
        exact ev_iret dX8_forgotten_39 rfl (by first | rfl | exact zb_nar _ | assumption) (⟨by unfold zForg; rw [h0, zfst, if_neg (by rw [zb_eq h29]; decide)], rfl, rfl, zFM.rf⟩)
      · refine ev_iincL (q := 35) (L9 := [_, _, _]) (1 : Int32) dX8_forgotten_32 rfl rfl (by decide) (by decide) rfl rfl ?_
        refine ev_goto (t := 20) dX8_forgotten_35 (by decide) ?_
        rw [nI_1]
        exact ih (j + 1) (by omega) (by rw [h0, zfst, if_pos (zb_ne h29)])
set_option maxHeartbeats 4000000 in
set_option maxRecDepth 100000 in
theorem k_X8_forgotten (G : zq_G) (fo : Bool) (I : zq_I) {N T Y : Nat} (hs : zS fo N T Y I) (x : Int32) : zq_E G mX8_forgotten 5 0 0 false 5 [some (.ref 119), some (.int x), none] [] 138 I (zPs fo) (zq_fm (some (.int (zpick x N (-1) (fun p => nI (zForg (zV I) N Y p))))) fo I) := by
  have hN8 := hs.n8
  have hN := hs.mppl
  refine ev_aload_n (q := 6) dX8_forgotten_5 rfl rfl ?_
  refine ev_iload_n (q := 7) dX8_forgotten_6 rfl rfl ?_
  refine ev_pV (q := 10) (ci := 8) dX8_forgotten_7 rfl okX8_noOne lmRX8_164 imX8_noOne seX8_noOne (by first | rfl | assumption | exact zf_kd (by assumption) | exact zw_kd (by assumption) | exact zt_kd (by assumption)) (by first | decide | exact zf_lt (by assumption) | exact zf_lt1 (by assumption) | exact zf_lt2 (by assumption) | exact zf_lt3 (by assumption) | exact zf_lt4 (by assumption) | exact zw_lt (by assumption) | exact zw_lt1 (by assumption) | exact zw_lt2 (by assumption) | exact zw_lt3 (by assumption) | exact zw_lt4 (by assumption) | exact zt_lt (by assumption)) (by decide) rfl (c_X8_noOne G fo I hs _) (by decide) rfl rfl (Nat.le_of_ble_eq_true rfl) ?_
  refine ev_if_eq (q := 13) (t := 15) dX8_forgotten_10 rfl (by decide) (fun h10 => ?_) (fun h10 => ?_)
  · have hz : zin x (nI N) = true := by simpa using zb_eq h10
    obtain ⟨p, hp, rfl⟩ := zin_t hs.n31 hz
    refine ev_aload_n (q := 16) dX8_forgotten_15 rfl rfl ?_
    refine ev_getI (q := 19) (ci := 8) (f := 15) dX8_forgotten_16 rfl (by first | rfl | assumption | exact zf_kd (by assumption) | exact zw_kd (by assumption) | exact zt_kd (by assumption)) (by first | decide | exact zf_lt (by assumption) | exact zf_lt1 (by assumption) | exact zf_lt2 (by assumption) | exact zf_lt3 (by assumption) | exact zf_lt4 (by assumption) | exact zw_lt (by assumption) | exact zw_lt1 (by assumption) | exact zw_lt2 (by assumption) | exact zw_lt3 (by assumption) | exact zw_lt4 (by assumption) | exact zt_lt (by assumption)) (by decide) (by decide) lfRX8_131 rfl ?_
    rw [hs.2.2.2.1]
    refine ev_istore_nL (q := 20) (L9 := [_, _, _]) dX8_forgotten_19 rfl (by decide) rfl rfl ?_
    rw [zpick_t hp hs.n31]
    exact lp_X8_forgotten G fo I hs hp 10 0 (by omega) rfl
  · have hz : zin x (nI N) = false := by simpa using zb_ne h10
    refine ev_iconst (q := 14) ((-1) : Int32) dX8_forgotten_13 rfl (by decide) ?_
    exact ev_iret dX8_forgotten_14 rfl (by first | rfl | exact zb_nar _ | assumption) (⟨by rw [zpick_f hz], rfl, rfl, zFM.rf⟩)
set_option maxHeartbeats 4000000 in
set_option maxRecDepth 100000 in
theorem c_X8_forgotten (G : zq_G) (fo : Bool) (I : zq_I) {N T Y : Nat} (hs : zS fo N T Y I) (x : Int32) : zq_Met G mX8_forgotten 5 0 0 [.ref 119, .int x] 138 I (zPs fo) (zq_fm (some (.int (zpick x N (-1) (fun p => nI (zForg (zV I) N Y p))))) fo I) := by
  refine zq_Met.of okX8_forgotten (Nat.le_of_ble_eq_true rfl) ?_
  show zq_E _ _ _ _ _ _ _ [some (.ref 119), some (.int x), none] _ _ _ _ _
  refine ev_aload_n (q := 1) dX8_forgotten_0 rfl rfl ?_
  refine ev_iconst (q := 2) (0 : Int32) dX8_forgotten_1 rfl (by decide) ?_
  refine ev_putI (q := 5) (ci := 8) (f := 0) dX8_forgotten_2 rfl (by first | rfl | assumption | exact zf_kd (by assumption) | exact zw_kd (by assumption) | exact zt_kd (by assumption)) (by first | decide | exact zf_lt (by assumption) | exact zf_lt1 (by assumption) | exact zf_lt2 (by assumption) | exact zf_lt3 (by assumption) | exact zf_lt4 (by assumption) | exact zw_lt (by assumption) | exact zw_lt1 (by assumption) | exact zw_lt2 (by assumption) | exact zw_lt3 (by assumption) | exact zw_lt4 (by assumption) | exact zt_lt (by assumption)) (by decide) (by decide) lfRX8_69 rfl rfl rfl rfl ?_
  obtain ⟨I1, hI1⟩ : ∃ I1, I1 = zu I 119 0 0 := ⟨_, rfl⟩
  rw [← hI1]
  have hFM : zFM I I1 := by rw [hI1]; exact zFM.rf.zu 119 0 0 rfl
  have hV := hFM.V
  have e2 : I1 119 2 = I 119 2 := hFM.2 2 rfl
  have e4 : I1 119 4 = I 119 4 := hFM.2 4 rfl
  have e5 : I1 119 5 = I 119 5 := hFM.2 5 rfl
  have e6 : I1 119 6 = I 119 6 := hFM.2 6 rfl
  have e15 : I1 119 15 = I 119 15 := hFM.2 15 rfl
  have e25 : I1 119 25 = I 119 25 := hFM.2 25 rfl
  have f128 : I1 128 = I 128 := hFM.1 128 rfl
  refine ev_post ?_ (k_X8_forgotten G fo I1 (hFM.S hs) x)
  rintro v n' I' P' ⟨rfl, rfl, rfl, hf⟩
  exact ⟨by simp only [hV, e2, e4, e5, e6, e15, e25, f128], rfl, rfl, hFM.tr hf⟩
theorem zhas_wo {h g i : Nat} (hh : h < 256) (hg : g < 256) (hi : i < 8) : zhas (nI h &&& (nI g ^^^ (-1))) i = (zhas (nI h) i && !zhas (nI g) i) := by
  have h1 : zwg h g < 256 := zwg_lt hh
  rw [zwg_eq hh, zhas_N (by omega) (by omega), zhas_N (by omega) (by omega), zhas_N (by omega) (by omega)]
  unfold zwg
  rw [Nat.testBit_and, Nat.testBit_xor, Nat.testBit_and]
  cases h.testBit i <;> cases g.testBit i <;> rfl
set_option maxHeartbeats 4000000 in
set_option maxRecDepth 100000 in
theorem c_X8_countBy (G : zq_G) (fo : Bool) (I : zq_I) {N T Y : Nat} (hs : zS fo N T Y I) {h g : Nat} (hh : h < 256) (hg : g < 256) : zq_Met G mX8_countBy 2 0 0 [.ref 119, .int (nI h), .int (nI g)] 138 I (zPs fo) (zq_pu (some (.int (zCIA (I 119 4) (zV I) N (nI h) (nI g)))) 138 I (zPs fo)) := by
  refine zq_Met.of okX8_countBy (Nat.le_of_ble_eq_true rfl) ?_
  show zq_E _ _ _ _ _ _ _ [some (.ref 119), some (.int (nI h)), some (.int (nI g)), none, none, none] _ _ _ _ _
  have hN8 := hs.n8
  have hN := hs.mppl
  have lp8 : ∀ (k i : Nat) (b e : Int32), N + 1 ≤ i + k → i ≤ N → b = zsum (fun i => zpop ((fun i => vA (zV I) i &&& nI g) i)) (fun i => zhas (nI h &&& (nI g ^^^ (-1))) i) i → e = zor (fun i => vA (zV I) i &&& nI g) (fun i => zhas (nI h &&& (nI g ^^^ (-1))) i) i → zq_E G mX8_countBy 2 0 0 false 8 [some (.ref 119), some (.int (nI h)), some (.int (nI g)), some (.int b), some (.int e), some (.int (nI i))] [] 138 I (zPs fo) (zq_pu (some (.int (zCIA (I 119 4) (zV I) N (nI h) (nI g)))) 138 I (zPs fo)) := by
    intro k
    induction k with
    | zero => intro i b e hk hi; exact absurd hk (by omega)
    | succ k ih =>
      intro i b e hk hi h0 h1
      refine ev_iload (q := 10) dX8_countBy_8 rfl rfl ?_
      refine ev_aload_n (q := 11) dX8_countBy_10 rfl rfl ?_
      refine ev_getI (q := 14) (ci := 8) (f := 6) dX8_countBy_11 rfl (by first | rfl | assumption | exact zf_kd (by assumption) | exact zw_kd (by assumption) | exact zt_kd (by assumption)) (by first | decide | exact zf_lt (by assumption) | exact zf_lt1 (by assumption) | exact zf_lt2 (by assumption) | exact zf_lt3 (by assumption) | exact zf_lt4 (by assumption) | exact zw_lt (by assumption) | exact zw_lt1 (by assumption) | exact zw_lt2 (by assumption) | exact zw_lt3 (by assumption) | exact zw_lt4 (by assumption) | exact zt_lt (by assumption)) (by decide) (by decide) lfRX8_72 rfl ?_
      refine ev_icmp_ge (q := 17) (t := 70) dX8_countBy_14 rfl (by decide) (fun h14 => ?_) (fun h14 => ?_)
      · obtain rfl : i = N := by rw [hN, nI_leI (by omega) (by omega)] at h14; omega
        obtain ⟨a, ha, ea⟩ : ∃ a, a < 2 ^ 8 ∧ e = nI a := by
          rw [h1]
          refine zor_mask (fun i hi => ?_)
          obtain ⟨a9, ha9, ea9⟩ := hs.askR hi
          exact ⟨a9 &&& g, Nat.lt_of_le_of_lt Nat.and_le_left ha9, by rw [ea9, nI_and]⟩
        subst ea
        refine ev_aload_n (q := 71) dX8_countBy_70 rfl rfl ?_
        refine ev_iload_n (q := 72) dX8_countBy_71 rfl rfl ?_
        refine ev_iload (q := 74) dX8_countBy_72 rfl rfl ?_
        refine ev_pV (q := 77) (ci := 8) dX8_countBy_74 rfl okX8_counted lmRX8_158 imX8_counted seX8_counted (by first | rfl | assumption | exact zf_kd (by assumption) | exact zw_kd (by assumption) | exact zt_kd (by assumption)) (by first | decide | exact zf_lt (by assumption) | exact zf_lt1 (by assumption) | exact zf_lt2 (by assumption) | exact zf_lt3 (by assumption) | exact zf_lt4 (by assumption) | exact zw_lt (by assumption) | exact zw_lt1 (by assumption) | exact zw_lt2 (by assumption) | exact zw_lt3 (by assumption) | exact zw_lt4 (by assumption) | exact zt_lt (by assumption)) (by decide) rfl (c_X8_counted G fo I hs _ ha) (by decide) rfl rfl (Nat.le_of_ble_eq_true rfl) ?_
        exact ev_iret dX8_countBy_77 rfl (by first | rfl | exact zb_nar _ | assumption) (⟨by unfold zCIA zCnt; rw [← h0, ← h1], rfl, rfl, rfl⟩)
      · have hlt_i : i < N := by rw [hN, nI_leI (by omega) (by omega)] at h14; omega
        refine ev_iload_n (q := 18) dX8_countBy_17 rfl rfl ?_
        refine ev_iload (q := 20) dX8_countBy_18 rfl rfl ?_
        refine ev_pS (q := 23) dX8_countBy_20 rfl okX8_has lmRX8_101 smX8_has (c_X8_has G _ _ _ _ _) (by decide) rfl rfl (Nat.le_of_ble_eq_true rfl) ?_
        refine ev_if_eq (q := 26) (t := 64) dX8_countBy_23 rfl (by decide) (fun h23 => ?_) (fun h23 => ?_)
        · refine ev_iincL (q := 67) (L9 := [_, _, _, _, _, _]) (1 : Int32) dX8_countBy_64 rfl rfl (by decide) (by decide) rfl rfl ?_
          refine ev_goto (t := 8) dX8_countBy_67 (by decide) ?_
          rw [nI_1]
          exact ih (i + 1) _ _ (by omega) (by omega) (zsum_n h0 (by rw [zhas_wo hh hg (by omega), zb_eq h23]; rfl)) (zor_n h1 (by rw [zhas_wo hh hg (by omega), zb_eq h23]; rfl))
        · refine ev_iload_n (q := 27) dX8_countBy_26 rfl rfl ?_
          refine ev_iload (q := 29) dX8_countBy_27 rfl rfl ?_
          refine ev_pS (q := 32) dX8_countBy_29 rfl okX8_has lmRX8_101 smX8_has (c_X8_has G _ _ _ _ _) (by decide) rfl rfl (Nat.le_of_ble_eq_true rfl) ?_
          refine ev_if_ne (q := 35) (t := 64) dX8_countBy_32 rfl (by decide) (fun h32 => ?_) (fun h32 => ?_)
          · refine ev_iincL (q := 67) (L9 := [_, _, _, _, _, _]) (1 : Int32) dX8_countBy_64 rfl rfl (by decide) (by decide) rfl rfl ?_
            refine ev_goto (t := 8) dX8_countBy_67 (by decide) ?_
            rw [nI_1]
            exact ih (i + 1) _ _ (by omega) (by omega) (zsum_n h0 (by rw [zhas_wo hh hg (by omega), zb_ne h32]; simp)) (zor_n h1 (by rw [zhas_wo hh hg (by omega), zb_ne h32]; simp))
          · refine ev_iload_n (q := 36) dX8_countBy_35 rfl rfl ?_
            refine ev_aload_n (q := 37) dX8_countBy_36 rfl rfl ?_
            refine ev_getR (q := 40) (ci := 8) (f := 10) dX8_countBy_37 rfl (by first | rfl | assumption | exact zf_kd (by assumption) | exact zw_kd (by assumption) | exact zt_kd (by assumption)) (by first | decide | exact zf_lt (by assumption) | exact zf_lt1 (by assumption) | exact zf_lt2 (by assumption) | exact zf_lt3 (by assumption) | exact zf_lt4 (by assumption) | exact zw_lt (by assumption) | exact zw_lt1 (by assumption) | exact zw_lt2 (by assumption) | exact zw_lt3 (by assumption) | exact zw_lt4 (by assumption) | exact zt_lt (by assumption)) (by decide) (by decide) lfRX8_26 rfl (by first | rfl | assumption | exact zf_p4 _ (by assumption) | exact zf_p5 _ (by assumption) | exact zf_p6 _ (by assumption) | exact zf_p7 _ (by assumption) | exact zw_p1 _ (by assumption) | exact zw_p2 _ (by assumption) | exact zw_p3 _ (by assumption) | exact zw_p4 _ (by assumption)) ?_
            refine ev_iload (q := 42) dX8_countBy_40 rfl rfl ?_
            refine ev_ialdN (q := 43) dX8_countBy_42 rfl (by first | rfl | assumption | exact zf_kd1 (by assumption) | exact zf_kd2 (by assumption) | exact zf_kd3 (by assumption) | exact zf_kd4 (by assumption) | exact zw_kd1 (by assumption) | exact zw_kd2 (by assumption) | exact zw_kd3 (by assumption) | exact zw_kd4 (by assumption)) (by first | decide | exact zf_lt (by assumption) | exact zf_lt1 (by assumption) | exact zf_lt2 (by assumption) | exact zf_lt3 (by assumption) | exact zf_lt4 (by assumption) | exact zw_lt (by assumption) | exact zw_lt1 (by assumption) | exact zw_lt2 (by assumption) | exact zw_lt3 (by assumption) | exact zw_lt4 (by assumption) | exact zt_lt (by assumption)) (by first | omega | assumption) ?_
            refine ev_iload_n (q := 44) dX8_countBy_43 rfl rfl ?_
            refine ev_iand (q := 45) dX8_countBy_44 rfl ?_
            refine ev_pS (q := 48) dX8_countBy_45 rfl okX8_many lmRX8_151 smX8_many (c_X8_many G _ _ _ _) (by decide) rfl rfl (Nat.le_of_ble_eq_true rfl) ?_
            obtain ⟨a9, ha9, ea9⟩ := hs.askR hlt_i
            have hmg : vA (zV I) i &&& nI g = nI (a9 &&& g) := by rw [ea9, nI_and]
            have hmlt : a9 &&& g < 256 := Nat.lt_of_le_of_lt Nat.and_le_left ha9
            rw [show I 124 i &&& nI g = nI (a9 &&& g) from hmg, zmany_pop _ hmlt, ← hmg]
            refine ev_iadd (q := 49) dX8_countBy_48 rfl ?_
            refine ev_istore_nL (q := 50) (L9 := [_, _, _, _, _, _]) dX8_countBy_49 rfl (by decide) rfl rfl ?_
            refine ev_iload (q := 52) dX8_countBy_50 rfl rfl ?_
            refine ev_aload_n (q := 53) dX8_countBy_52 rfl rfl ?_
            refine ev_getR (q := 56) (ci := 8) (f := 10) dX8_countBy_53 rfl (by first | rfl | assumption | exact zf_kd (by assumption) | exact zw_kd (by assumption) | exact zt_kd (by assumption)) (by first | decide | exact zf_lt (by assumption) | exact zf_lt1 (by assumption) | exact zf_lt2 (by assumption) | exact zf_lt3 (by assumption) | exact zf_lt4 (by assumption) | exact zw_lt (by assumption) | exact zw_lt1 (by assumption) | exact zw_lt2 (by assumption) | exact zw_lt3 (by assumption) | exact zw_lt4 (by assumption) | exact zt_lt (by assumption)) (by decide) (by decide) lfRX8_26 rfl (by first | rfl | assumption | exact zf_p4 _ (by assumption) | exact zf_p5 _ (by assumption) | exact zf_p6 _ (by assumption) | exact zf_p7 _ (by assumption) | exact zw_p1 _ (by assumption) | exact zw_p2 _ (by assumption) | exact zw_p3 _ (by assumption) | exact zw_p4 _ (by assumption)) ?_
            refine ev_iload (q := 58) dX8_countBy_56 rfl rfl ?_
            refine ev_ialdN (q := 59) dX8_countBy_58 rfl (by first | rfl | assumption | exact zf_kd1 (by assumption) | exact zf_kd2 (by assumption) | exact zf_kd3 (by assumption) | exact zf_kd4 (by assumption) | exact zw_kd1 (by assumption) | exact zw_kd2 (by assumption) | exact zw_kd3 (by assumption) | exact zw_kd4 (by assumption)) (by first | decide | exact zf_lt (by assumption) | exact zf_lt1 (by assumption) | exact zf_lt2 (by assumption) | exact zf_lt3 (by assumption) | exact zf_lt4 (by assumption) | exact zw_lt (by assumption) | exact zw_lt1 (by assumption) | exact zw_lt2 (by assumption) | exact zw_lt3 (by assumption) | exact zw_lt4 (by assumption) | exact zt_lt (by assumption)) (by first | omega | assumption) ?_
            refine ev_iload_n (q := 60) dX8_countBy_59 rfl rfl ?_
            refine ev_iand (q := 61) dX8_countBy_60 rfl ?_
            refine ev_ior (q := 62) dX8_countBy_61 rfl ?_
            refine ev_istoreL (q := 64) (L9 := [_, _, _, _, _, _]) dX8_countBy_62 rfl (by decide) rfl rfl ?_
            refine ev_iincL (q := 67) (L9 := [_, _, _, _, _, _]) (1 : Int32) dX8_countBy_64 rfl rfl (by decide) (by decide) rfl rfl ?_
            refine ev_goto (t := 8) dX8_countBy_67 (by decide) ?_
            rw [nI_1]
            exact ih (i + 1) _ _ (by omega) (by omega) (zsum_s h0 (by rw [zhas_wo hh hg (by omega), zb_ne h23, zb_eq h32]; rfl)) (zor_s h1 (by rw [zhas_wo hh hg (by omega), zb_ne h23, zb_eq h32]; rfl))
  refine ev_iconst (q := 1) (0 : Int32) dX8_countBy_0 rfl (by decide) ?_
  refine ev_istore_nL (q := 2) (L9 := [_, _, _, _, _, _]) dX8_countBy_1 rfl (by decide) rfl rfl ?_
  refine ev_iconst (q := 3) (0 : Int32) dX8_countBy_2 rfl (by decide) ?_
  refine ev_istoreL (q := 5) (L9 := [_, _, _, _, _, _]) dX8_countBy_3 rfl (by decide) rfl rfl ?_
  refine ev_iconst (q := 6) (0 : Int32) dX8_countBy_5 rfl (by decide) ?_
  refine ev_istoreL (q := 8) (L9 := [_, _, _, _, _, _]) dX8_countBy_6 rfl (by decide) rfl rfl ?_
  exact lp8 (N + 1) 0 0 0 (by omega) (by omega) rfl rfl
