theorem z30 : (1 : Int32) <<< (0 &&& 31) = 1 := by decide
theorem zle1 (w : Int32) : decide (w ≤ 1) = !decide (2 ≤ w) := by
  rw [Bool.eq_iff_iff, Bool.not_eq_true', decide_eq_true_eq, decide_eq_false_iff_not, Int32.le_iff_toInt_le, Int32.le_iff_toInt_le, show (1 : Int32).toInt = 1 from by decide, show (2 : Int32).toInt = 2 from by decide]
  omega
theorem zRok_in {nn : Nat} {told w : Int32} (h1 : 1 ≤ nn) (h3 : nn ≤ 3) : zRok (nI nn) told w = (zin told (nI (10 ^ nn)) && zin w 2) := by
  unfold zRok zin
  rw [(zpow10 nn (by omega) h1).2, zle1, decide_eq_false (show ¬ nI nn < 1 from nI_nlt (b := 1) h1 (by omega)), decide_eq_false (show ¬ (3 : Int32) < nI nn from nI_nlt (a := 3) h3 (by omega))]
  simp only [Bool.not_false, Bool.true_and, Bool.and_assoc]
theorem zRok_n {n told w : Int32} (h1 : ¬ n = 1) (h2 : ¬ n = 2) (h3 : ¬ n = 3) : zRok n told w = false := by
  unfold zRok
  by_cases q1 : n < 1
  · simp [q1]
  · by_cases q2 : 3 < n
    · simp [q2]
    · obtain ⟨nn, a1, a2, rfl⟩ := z13 q1 q2
      rcases (by omega : nn = 1 ∨ nn = 2 ∨ nn = 3) with rfl | rfl | rfl
      · exact absurd rfl h1
      · exact absurd rfl h2
      · exact absurd rfl h3
set_option maxHeartbeats 4000000 in
set_option maxRecDepth 100000 in
theorem lq_X8_retold (G : zq_G) (fo : Bool) (I : zq_I) {t nn td h : Nat} {w : Int32} {R : zq_R} (hh : h < 256) (hpc : zpc h ≤ 6) (K : zq_E G mX8_retold 3 0 0 false 127 [some (.ref 119), some (.int (nI t)), some (.int (nI nn)), some (.int (nI td)), some (.int w), some (.int (nI (10 ^ nn))), some (.int (nI h)), some (.int (nI ((nn + 1) ^ zpc h))), none, none, none, none, none, none, none, none] [] 138 I (zPs fo) R) : zq_E G mX8_retold 3 0 0 false 103 [some (.ref 119), some (.int (nI t)), some (.int (nI nn)), some (.int (nI td)), some (.int w), some (.int (nI (10 ^ nn))), some (.int (nI h)), some (.int 1), some (.int 0), none, none, none, none, none, none, none] [] 138 I (zPs fo) R := by
  have lp103 : ∀ (k i : Nat), zpc h + 1 ≤ i + k → i ≤ zpc h → zq_E G mX8_retold 3 0 0 false 103 [some (.ref 119), some (.int (nI t)), some (.int (nI nn)), some (.int (nI td)), some (.int w), some (.int (nI (10 ^ nn))), some (.int (nI h)), some (.int (nI ((nn + 1) ^ i))), some (.int (nI i)), none, none, none, none, none, none, none] [] 138 I (zPs fo) (R) := by
    intro k
    induction k with
    | zero => intro i  hk hi; exact absurd hk (by omega)
    | succ k ih =>
      intro i  hk hi 
      refine ev_iload (q := 105) dX8_retold_103 rfl rfl ?_
      refine ev_iload (q := 107) dX8_retold_105 rfl rfl ?_
      refine ev_pS (q := 110) dX8_retold_107 rfl okX8_many lmRX8_151 smX8_many (c_X8_many G _ _ _ _) (by decide) rfl rfl (Nat.le_of_ble_eq_true rfl) ?_
      rw [zmany_pop h hh, zpop_n h hh]
      refine ev_icmp_ge (q := 113) (t := 127) dX8_retold_110 rfl (by decide) (fun h110 => ?_) (fun h110 => ?_)
      · obtain rfl : i = zpc h := by rw [nI_leI (by omega) (by omega)] at h110; omega
        refine ev_wk (L' := [some (.ref 119), some (.int (nI t)), some (.int (nI nn)), some (.int (nI td)), some (.int w), some (.int (nI (10 ^ nn))), some (.int (nI h)), some (.int (nI ((nn + 1) ^ zpc h))), none, none, none, none, none, none, none, none]) ⟨rfl, rfl, rfl, rfl, rfl, rfl, rfl, rfl, trivial⟩ ?_
        exact K
      · have hlt_i : i < zpc h := by rw [nI_leI (by omega) (by omega)] at h110; omega
        refine ev_iload (q := 115) dX8_retold_113 rfl rfl ?_
        refine ev_iload_n (q := 116) dX8_retold_115 rfl rfl ?_
        refine ev_iconst (q := 117) (1 : Int32) dX8_retold_116 rfl (by decide) ?_
        refine ev_iadd (q := 118) dX8_retold_117 rfl ?_
        rw [nI_1]
        refine ev_imul (q := 119) dX8_retold_118 rfl ?_
        rw [pk_mul, ← Nat.pow_succ]
        refine ev_istoreL (q := 121) (L9 := [_, _, _, _, _, _, _, _, _, _, _, _, _, _, _, _]) dX8_retold_119 rfl (by decide) rfl rfl ?_
        refine ev_iincL (q := 124) (L9 := [_, _, _, _, _, _, _, _, _, _, _, _, _, _, _, _]) (1 : Int32) dX8_retold_121 rfl rfl (by decide) (by decide) rfl rfl ?_
        refine ev_goto (t := 103) dX8_retold_124 (by decide) ?_
        rw [nI_1]
        exact ih (i + 1) (by omega) (by omega)
  exact lp103 (zpc h + 1) 0 (by omega) (by omega)
set_option maxHeartbeats 4000000 in
set_option maxRecDepth 100000 in
theorem lr_X8_retold (G : zq_G) (fo : Bool) (I : zq_I) {N T Y : Nat} (hs : zS fo N T Y I) {t nn : Nat} {told w : Int32} (ht : t < T) (hn1 : 1 ≤ nn) (hn3 : nn ≤ 3) : zq_E G mX8_retold 3 0 0 false 47 [some (.ref 119), some (.int (nI t)), some (.int (nI nn)), some (.int told), some (.int w), none, none, none, none, none, none, none, none, none, none, none] [.int (nI (10 ^ nn))] 138 I (zPs fo) (zq_fm (some (.int (zpick (nI t) T (-1) (fun t => zRet (I 119 4) (zV I) N (nI nn) told w t)))) fo I) := by
  have hN8 := hs.n8
  have hp2 := zp2_le hN8
  have hh2 := zOHn_2 (zV I) N (nI t)
  have hh : zOHn (zV I) N (nI t) < 256 := by omega
  refine ev_istoreL (q := 49) (L9 := [_, _, _, _, _, _, _, _, _, _, _, _, _, _, _, _]) dX8_retold_47 rfl (by decide) rfl rfl ?_
  refine ev_iload_n (q := 50) dX8_retold_49 rfl rfl ?_
  refine ev_i2l (q := 51) dX8_retold_50 rfl ?_
  refine ev_lconst (q := 52) (0 : Int64) dX8_retold_51 rfl (by decide) ?_
  refine ev_iload (q := 54) dX8_retold_52 rfl rfl ?_
  refine ev_iconst (q := 55) (1 : Int32) dX8_retold_54 rfl (by decide) ?_
  refine ev_isub (q := 56) dX8_retold_55 rfl ?_
  refine ev_i2l (q := 57) dX8_retold_56 rfl ?_
  refine ev_pS (q := 60) dX8_retold_57 rfl okX8_in lmRX8_75 smX8_in (c_X8_in G _ _ _ _ _ _) (by decide) rfl rfl (Nat.le_of_ble_eq_true rfl) ?_
  rw [zinL_n (N := 10 ^ nn) (by have := z10b hn3 (Nat.le_refl nn); omega)]
  refine ev_if_eq (q := 63) (t := 74) dX8_retold_60 rfl (by decide) (fun h60 => ?_) (fun h60 => ?_)
  · have hc : zRok (nI nn) told w = false := by rw [zRok_in hn1 hn3, zb_eq h60]; rfl
    refine ev_bipush (q := 76) ((-2) : Int32) dX8_retold_74 rfl (by decide) ?_
    exact ev_iret dX8_retold_76 rfl (by first | rfl | exact zb_nar _ | assumption) (⟨by rw [zpick_t ht hs.t4']; unfold zRet; rw [hc]; rfl, rfl, rfl, zFM.rf⟩)
  · obtain ⟨td, htd, rfl⟩ := zin_t (by have := z10b hn3 (Nat.le_refl nn); omega) (zb_ne h60)
    refine ev_iload (q := 65) dX8_retold_63 rfl rfl ?_
    refine ev_i2l (q := 66) dX8_retold_65 rfl ?_
    refine ev_lconst (q := 67) (0 : Int64) dX8_retold_66 rfl (by decide) ?_
    refine ev_lconst (q := 68) (1 : Int64) dX8_retold_67 rfl (by decide) ?_
    refine ev_pS (q := 71) dX8_retold_68 rfl okX8_in lmRX8_75 smX8_in (c_X8_in G _ _ _ _ _ _) (by decide) rfl rfl (Nat.le_of_ble_eq_true rfl) ?_
    rw [zinL_2]
    refine ev_if_ne (q := 74) (t := 77) dX8_retold_71 rfl (by decide) (fun h71 => ?_) (fun h71 => ?_)
    · have hok : zRok (nI nn) (nI td) w = true := by rw [zRok_in hn1 hn3, zb_ne h60, zb_ne h71]; rfl
      refine ev_aload_n (q := 78) dX8_retold_77 rfl rfl ?_
      refine ev_iload_n (q := 79) dX8_retold_78 rfl rfl ?_
      refine ev_pV (q := 82) (ci := 8) dX8_retold_79 rfl okX8_atHome lmRX8_173 imX8_atHome seX8_atHome (by first | rfl | assumption | exact zf_kd (by assumption) | exact zw_kd (by assumption) | exact zt_kd (by assumption)) (by first | decide | exact zf_lt (by assumption) | exact zf_lt1 (by assumption) | exact zf_lt2 (by assumption) | exact zf_lt3 (by assumption) | exact zf_lt4 (by assumption) | exact zw_lt (by assumption) | exact zw_lt1 (by assumption) | exact zw_lt2 (by assumption) | exact zw_lt3 (by assumption) | exact zw_lt4 (by assumption) | exact zt_lt (by assumption)) (by decide) rfl (c_X8_atHome G fo I hs _) (by decide) rfl rfl (Nat.le_of_ble_eq_true rfl) ?_
      rw [zOH_n (zV I) hN8]
      refine ev_istoreL (q := 84) (L9 := [_, _, _, _, _, _, _, _, _, _, _, _, _, _, _, _]) dX8_retold_82 rfl (by decide) rfl rfl ?_
      refine ev_iload (q := 86) dX8_retold_84 rfl rfl ?_
      refine ev_pS (q := 89) dX8_retold_86 rfl okX8_many lmRX8_151 smX8_many (c_X8_many G _ _ _ _) (by decide) rfl rfl (Nat.le_of_ble_eq_true rfl) ?_
      refine ev_bipush (q := 91) (6 : Int32) dX8_retold_89 rfl (by decide) ?_
      rw [zmany_pop _ hh, zpop_n _ hh]
      refine ev_icmp_le (q := 94) (t := 97) dX8_retold_91 rfl (by decide) (fun h91 => ?_) (fun h91 => ?_)
      · have hpc : zpc (zOHn (zV I) N (nI t)) ≤ 6 := (nI_leI (b := 6) (by have := zpc_8 (zOHn (zV I) N (nI t)); omega) (by omega)).mp h91
        refine ev_iconst (q := 98) (1 : Int32) dX8_retold_97 rfl (by decide) ?_
        refine ev_istoreL (q := 100) (L9 := [_, _, _, _, _, _, _, _, _, _, _, _, _, _, _, _]) dX8_retold_98 rfl (by decide) rfl rfl ?_
        refine ev_iconst (q := 101) (0 : Int32) dX8_retold_100 rfl (by decide) ?_
        refine ev_istoreL (q := 103) (L9 := [_, _, _, _, _, _, _, _, _, _, _, _, _, _, _, _]) dX8_retold_101 rfl (by decide) rfl rfl ?_
        refine lq_X8_retold G fo I hh hpc ?_
        refine ev_iconst (q := 128) (0 : Int32) dX8_retold_127 rfl (by decide) ?_
        refine ev_istoreL (q := 130) (L9 := [_, _, _, _, _, _, _, _, _, _, _, _, _, _, _, _]) dX8_retold_128 rfl (by decide) rfl rfl ?_
        refine ev_bipush (q := 132) ((-9) : Int32) dX8_retold_130 rfl (by decide) ?_
        refine ev_istoreL (q := 134) (L9 := [_, _, _, _, _, _, _, _, _, _, _, _, _, _, _, _]) dX8_retold_132 rfl (by decide) rfl rfl ?_
        refine ev_iconst (q := 135) (0 : Int32) dX8_retold_134 rfl (by decide) ?_
        refine ev_istoreL (q := 137) (L9 := [_, _, _, _, _, _, _, _, _, _, _, _, _, _, _, _]) dX8_retold_135 rfl (by decide) rfl rfl ?_
        refine ev_post ?_ (lp_X8_retold G fo I hs hh hn3 (show td < 1000 by have := z10b hn3 (Nat.le_refl nn); omega) (zRt_b hn3 hpc))
        rintro v n' I' P' ⟨q1, q2, q3, q4⟩
        refine ⟨q1.trans ?_, q2, q3, q4⟩
        rw [zpick_t ht hs.t4']
        unfold zRet
        rw [hok, if_neg (show ¬ true = false by decide), if_neg (show ¬ 6 < zpop (nI (zOHn (zV I) N (nI t))) by rw [zpop_n _ hh]; exact nI_nlt (a := 6) hpc (by omega)), nI_clamp (by omega), nI_clamp (by have := z10b hn3 (Nat.le_refl nn); omega), ← zRet_model (td := td) w hs (zOHn_2 (zV I) N (nI t)) hn3 hpc]
      · refine ev_bipush (q := 96) ((-3) : Int32) dX8_retold_94 rfl (by decide) ?_
        exact ev_iret dX8_retold_96 rfl (by first | rfl | exact zb_nar _ | assumption) (⟨by rw [zpick_t ht hs.t4']; unfold zRet; rw [hok, if_neg (show ¬ true = false by decide), if_pos (show 6 < zpop (nI (zOHn (zV I) N (nI t))) by rw [zpop_n _ hh]; exact Int32.not_le.mp h91)], rfl, rfl, zFM.rf⟩)
    · have hc : zRok (nI nn) (nI td) w = false := by rw [zRok_in hn1 hn3, zb_eq h71, Bool.and_false]
      refine ev_bipush (q := 76) ((-2) : Int32) dX8_retold_74 rfl (by decide) ?_
      exact ev_iret dX8_retold_76 rfl (by first | rfl | exact zb_nar _ | assumption) (⟨by rw [zpick_t ht hs.t4']; unfold zRet; rw [hc]; rfl, rfl, rfl, zFM.rf⟩)
set_option maxHeartbeats 4000000 in
set_option maxRecDepth 100000 in
theorem k_X8_retold (G : zq_G) (fo : Bool) (I : zq_I) {N T Y : Nat} (hs : zS fo N T Y I) (x n told w : Int32) : zq_E G mX8_retold 3 0 0 false 5 [some (.ref 119), some (.int x), some (.int n), some (.int told), some (.int w), none, none, none, none, none, none, none, none, none, none, none] [] 138 I (zPs fo) (zq_fm (some (.int (zpick x T (-1) (fun t => zRet (I 119 4) (zV I) N n told w t)))) fo I) := by
  have hN8 := hs.n8
  refine ev_aload_n (q := 6) dX8_retold_5 rfl rfl ?_
  refine ev_iload_n (q := 7) dX8_retold_6 rfl rfl ?_
  refine ev_pV (q := 10) (ci := 8) dX8_retold_7 rfl okX8_noTown lmRX8_167 imX8_noTown seX8_noTown (by first | rfl | assumption | exact zf_kd (by assumption) | exact zw_kd (by assumption) | exact zt_kd (by assumption)) (by first | decide | exact zf_lt (by assumption) | exact zf_lt1 (by assumption) | exact zf_lt2 (by assumption) | exact zf_lt3 (by assumption) | exact zf_lt4 (by assumption) | exact zw_lt (by assumption) | exact zw_lt1 (by assumption) | exact zw_lt2 (by assumption) | exact zw_lt3 (by assumption) | exact zw_lt4 (by assumption) | exact zt_lt (by assumption)) (by decide) rfl (c_X8_noTown G fo I hs _) (by decide) rfl rfl (Nat.le_of_ble_eq_true rfl) ?_
  refine ev_if_eq (q := 13) (t := 15) dX8_retold_10 rfl (by decide) (fun h10 => ?_) (fun h10 => ?_)
  · have hz : zin x (nI T) = true := by simpa using zb_eq h10
    obtain ⟨t, ht, rfl⟩ := zin_t hs.t4' hz
    have ht4 : t < 4 := by have := hs.t4; omega
    refine ev_iload_n (q := 16) dX8_retold_15 rfl rfl ?_
    refine ev_iconst (q := 17) (1 : Int32) dX8_retold_16 rfl (by decide) ?_
    refine ev_icmp_ne (q := 20) (t := 25) dX8_retold_17 rfl (by decide) (fun h17 => ?_) (fun h17 => ?_)
    · refine ev_iload_n (q := 26) dX8_retold_25 rfl rfl ?_
      refine ev_iconst (q := 27) (2 : Int32) dX8_retold_26 rfl (by decide) ?_
      refine ev_icmp_ne (q := 30) (t := 35) dX8_retold_27 rfl (by decide) (fun h27 => ?_) (fun h27 => ?_)
      · refine ev_iload_n (q := 36) dX8_retold_35 rfl rfl ?_
        refine ev_iconst (q := 37) (3 : Int32) dX8_retold_36 rfl (by decide) ?_
        refine ev_icmp_ne (q := 40) (t := 46) dX8_retold_37 rfl (by decide) (fun h37 => ?_) (fun h37 => ?_)
        · refine ev_iconst (q := 47) (0 : Int32) dX8_retold_46 rfl (by decide) ?_
          refine ev_istoreL (q := 49) (L9 := [_, _, _, _, _, _, _, _, _, _, _, _, _, _, _, _]) dX8_retold_47 rfl (by decide) rfl rfl ?_
          refine ev_iload_n (q := 50) dX8_retold_49 rfl rfl ?_
          refine ev_i2l (q := 51) dX8_retold_50 rfl ?_
          refine ev_lconst (q := 52) (0 : Int64) dX8_retold_51 rfl (by decide) ?_
          refine ev_iload (q := 54) dX8_retold_52 rfl rfl ?_
          refine ev_iconst (q := 55) (1 : Int32) dX8_retold_54 rfl (by decide) ?_
          refine ev_isub (q := 56) dX8_retold_55 rfl ?_
          refine ev_i2l (q := 57) dX8_retold_56 rfl ?_
          refine ev_pS (q := 60) dX8_retold_57 rfl okX8_in lmRX8_75 smX8_in (c_X8_in G _ _ _ _ _ _) (by decide) rfl rfl (Nat.le_of_ble_eq_true rfl) ?_
          rw [show (0 : Int32) - 1 = nI 0 - 1 from rfl, zinL_n (N := 0) (by omega)]
          refine ev_if_eq (q := 63) (t := 74) dX8_retold_60 rfl (by decide) (fun h60 => ?_) (fun h60 => ?_)
          · refine ev_bipush (q := 76) ((-2) : Int32) dX8_retold_74 rfl (by decide) ?_
            exact ev_iret dX8_retold_76 rfl (by first | rfl | exact zb_nar _ | assumption) (⟨by rw [zpick_t ht hs.t4']; unfold zRet; rw [zRok_n h17 h27 h37]; rfl, rfl, rfl, zFM.rf⟩)
          · exact absurd (zb_ne h60) (by unfold zin; intro q; simp only [Bool.and_eq_true, Bool.not_eq_true', decide_eq_false_iff_not] at q; exact q.2 (Int32.not_lt.mp q.1))
        · refine ev_sipush (q := 43) (1000 : Int32) dX8_retold_40 rfl (by decide) ?_
          refine ev_goto (t := 47) dX8_retold_43 (by decide) ?_
          subst h37
          exact lr_X8_retold G fo I hs (nn := 3) ht (by omega) (by omega)
      · refine ev_bipush (q := 32) (100 : Int32) dX8_retold_30 rfl (by decide) ?_
        refine ev_goto (t := 47) dX8_retold_32 (by decide) ?_
        subst h27
        exact lr_X8_retold G fo I hs (nn := 2) ht (by omega) (by omega)
    · refine ev_bipush (q := 22) (10 : Int32) dX8_retold_20 rfl (by decide) ?_
      refine ev_goto (t := 47) dX8_retold_22 (by decide) ?_
      subst h17
      exact lr_X8_retold G fo I hs (nn := 1) ht (by omega) (by omega)
  · have hz : zin x (nI T) = false := by simpa using zb_ne h10
    refine ev_iconst (q := 14) ((-1) : Int32) dX8_retold_13 rfl (by decide) ?_
    exact ev_iret dX8_retold_14 rfl (by first | rfl | exact zb_nar _ | assumption) (⟨by rw [zpick_f hz], rfl, rfl, zFM.rf⟩)
set_option maxHeartbeats 4000000 in
set_option maxRecDepth 100000 in
theorem c_X8_retold (G : zq_G) (fo : Bool) (I : zq_I) {N T Y : Nat} (hs : zS fo N T Y I) (x n told w : Int32) : zq_Met G mX8_retold 3 0 0 [.ref 119, .int x, .int n, .int told, .int w] 138 I (zPs fo) (zq_fm (some (.int (zpick x T (-1) (fun t => zRet (I 119 4) (zV I) N n told w t)))) fo I) := by
  refine zq_Met.of okX8_retold (Nat.le_of_ble_eq_true rfl) ?_
  show zq_E _ _ _ _ _ _ _ [some (.ref 119), some (.int x), some (.int n), some (.int told), some (.int w), none, none, none, none, none, none, none, none, none, none, none] _ _ _ _ _
  refine ev_aload_n (q := 1) dX8_retold_0 rfl rfl ?_
  refine ev_iconst (q := 2) (0 : Int32) dX8_retold_1 rfl (by decide) ?_
  refine ev_putI (q := 5) (ci := 8) (f := 0) dX8_retold_2 rfl (by first | rfl | assumption | exact zf_kd (by assumption) | exact zw_kd (by assumption) | exact zt_kd (by assumption)) (by first | decide | exact zf_lt (by assumption) | exact zf_lt1 (by assumption) | exact zf_lt2 (by assumption) | exact zf_lt3 (by assumption) | exact zf_lt4 (by assumption) | exact zw_lt (by assumption) | exact zw_lt1 (by assumption) | exact zw_lt2 (by assumption) | exact zw_lt3 (by assumption) | exact zw_lt4 (by assumption) | exact zt_lt (by assumption)) (by decide) (by decide) lfRX8_69 rfl rfl rfl rfl ?_
  obtain ⟨I1, hI1⟩ : ∃ I1, I1 = zu I 119 0 0 := ⟨_, rfl⟩
  rw [← hI1]
  have hFM : zFM I I1 := by rw [hI1]; exact zFM.rf.zu 119 0 0 rfl
  have hV := hFM.V
  have e2 : I1 119 2 = I 119 2 := hFM.2 2 rfl
  have e4 : I1 119 4 = I 119 4 := hFM.2 4 rfl
  have e5 : I1 119 5 = I 119 5 := hFM.2 5 rfl
  have e6 : I1 119 6 = I 119 6 := hFM.2 6 rfl
  have e15 : I1 119 15 = I 119 15 := hFM.2 15 rfl
  have e25 : I1 119 25 = I 119 25 := hFM.2 25 rfl
  have f128 : I1 128 = I 128 := hFM.1 128 rfl
  refine ev_post ?_ (k_X8_retold G fo I1 (hFM.S hs) x n told w)
  rintro v n' I' P' ⟨rfl, rfl, rfl, hf⟩
  exact ⟨by simp only [hV, e2, e4, e5, e6, e15, e25, f128], rfl, rfl, hFM.tr hf⟩
