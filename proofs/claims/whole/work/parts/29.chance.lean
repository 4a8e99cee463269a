set_option maxHeartbeats 4000000 in
set_option maxRecDepth 100000 in
theorem lp_X7_chance (G : zq_G) (fo : Bool) (I : zq_I) {N T Y : Nat} (hs : zS fo N T Y I) {h t LN : Nat} {Z : List Nat} {c x up : Int32} (hzat : ∀ k g, Z[k]? = some g → zpq (nI h) k = nI g) (hzm : ∀ g ∈ Z, g < 256 ∧ zpc g ≤ zpc h) (hLN : LN = Z.length) (hlen : LN ≤ 256) : zq_E G mX7_chance 6 0 0 false 71 [some (.ref 0), some (.int (nI t)), some (.int c), some (.int x), some (.int up), some (.int (nI h)), some (.int (nI (zpc h))), some (.int (nI LN)), some (.long 0), none, some (.int 0), some (.int 0), none, none, none] [] 138 I (zPs fo) (zq_f4 (some (.long (zChQ up (Z.foldl (zChS (I 119 4) (zV I) N h c x) 0) (zten (zpc h))))) fo I) := by
  have hN8 := hs.n8
  have hN := hs.ppl
  have hfF := zF_is fo
  have lp71 : ∀ (k i : Nat) (I1 : zq_I) (ab : Int64) (aw : Int32), LN + 1 ≤ i + k → i ≤ LN → (∀ c, c ≠ 4 → I1 c = I c) → ab = (Z.take i).foldl (zChS (I 119 4) (zV I) N h c x) 0 → aw = zpq (nI h) i → zq_E G mX7_chance 6 0 0 false 71 [some (.ref 0), some (.int (nI t)), some (.int c), some (.int x), some (.int up), some (.int (nI h)), some (.int (nI (zpc h))), some (.int (nI LN)), some (.long ab), none, some (.int aw), some (.int (nI i)), none, none, none] [] 138 I1 (zPs fo) (zq_f4 (some (.long (zChQ up (Z.foldl (zChS (I 119 4) (zV I) N h c x) 0) (zten (zpc h))))) fo I) := by
    intro k
    induction k with
    | zero => intro i I1 ab aw hk hi; exact absurd hk (by omega)
    | succ k ih =>
      intro i I1 ab aw hk hi hf h0 haw
      have hFC : zFC fo I I1 := z4_FC hf
      have hs1 := hFC.S hs
      have hV := hFC.V
      refine ev_iload (q := 73) dX7_chance_71 rfl rfl ?_
      refine ev_iload (q := 75) dX7_chance_73 rfl rfl ?_
      refine ev_icmp_ge (q := 78) (t := 136) dX7_chance_75 rfl (by decide) (fun h75 => ?_) (fun h75 => ?_)
      · obtain rfl : i = LN := by rw [nI_leI (by omega) (by omega)] at h75; omega
        refine ev_iload (q := 138) dX7_chance_136 rfl rfl ?_
        refine ev_pS (q := 141) dX7_chance_138 rfl okX7_powerOfTen lmRX7_223 smX7_powerOfTen (c_X7_powerOfTen G _ _ _ (e := zpc h) (by have := zpc_8 h; omega)) (by decide) rfl rfl (Nat.le_of_ble_eq_true rfl) ?_
        refine ev_i2l (q := 142) dX7_chance_141 rfl ?_
        refine ev_lstoreL (q := 144) (L9 := [_, _, _, _, _, _, _, _, _, _, _, _, _, _, _]) dX7_chance_142 rfl (by decide) rfl rfl ?_
        refine ev_lconst (q := 145) (1 : Int64) dX7_chance_144 rfl (by decide) ?_
        refine ev_lload (q := 147) dX7_chance_145 rfl rfl ?_
        refine ev_lload (q := 149) dX7_chance_147 rfl rfl ?_
        refine ev_pS (q := 152) dX7_chance_149 rfl okX7_commonDivisor lmRX7_244 smX7_commonDivisor (c_X7_commonDivisor G _ _ _ _ _) (by decide) rfl rfl (Nat.le_of_ble_eq_true rfl) ?_
        refine ev_maxL (q := 155) dX7_chance_152 rfl lmRX7_248 smmaxL iniMath cdmaxL (by decide) (Nat.le_of_ble_eq_true rfl) ?_
        refine ev_lstoreL (q := 157) (L9 := [_, _, _, _, _, _, _, _, _, _, _, _, _, _, _]) dX7_chance_155 rfl (by decide) rfl rfl ?_
        refine ev_iload (q := 159) dX7_chance_157 rfl rfl ?_
        refine ev_if_eq (q := 162) (t := 167) dX7_chance_159 rfl (by decide) (fun h159 => ?_) (fun h159 => ?_)
        · refine ev_lload (q := 169) dX7_chance_167 rfl rfl ?_
          refine ev_lload (q := 171) dX7_chance_169 rfl rfl ?_
          refine ev_ldiv (q := 172) dX7_chance_171 rfl (zmax1_ne _) ?_
          exact ev_lret dX7_chance_172 rfl (⟨by rw [h0, hLN, List.take_length]; simp only [zChQ, zten, if_pos h159]; rfl, rfl, rfl, hf⟩)
        · refine ev_lload (q := 164) dX7_chance_162 rfl rfl ?_
          refine ev_goto (t := 169) dX7_chance_164 (by decide) ?_
          refine ev_lload (q := 171) dX7_chance_169 rfl rfl ?_
          refine ev_ldiv (q := 172) dX7_chance_171 rfl (zmax1_ne _) ?_
          exact ev_lret dX7_chance_172 rfl (⟨by rw [h0, hLN, List.take_length]; simp only [zChQ, zten, if_neg h159]; rfl, rfl, rfl, hf⟩)
      · have hlt_i : i < LN := by rw [nI_leI (by omega) (by omega)] at h75; omega
        obtain ⟨g, hg⟩ : ∃ g, Z[i]? = some g := ⟨_, List.getElem?_eq_getElem (by omega)⟩
        obtain rfl : aw = nI g := by rw [haw, hzat _ _ hg]
        obtain ⟨hg8, hgp⟩ := hzm g (List.mem_of_getElem? hg)
        refine ev_aload_n (q := 79) dX7_chance_78 rfl rfl ?_
        refine ev_iload (q := 81) dX7_chance_79 rfl rfl ?_
        refine ev_iload (q := 83) dX7_chance_81 rfl rfl ?_
        refine ev_cV (q := 86) (ci := 7) dX7_chance_83 rfl okX7_countIfAway lmRX7_202 imX7_countIfAway seX7_countIfAway (by first | rfl | assumption | exact zf_kd (by assumption) | exact zw_kd (by assumption) | exact zt_kd (by assumption)) (by first | decide | exact zf_lt (by assumption) | exact zf_lt1 (by assumption) | exact zf_lt2 (by assumption) | exact zf_lt3 (by assumption) | exact zf_lt4 (by assumption) | exact zw_lt (by assumption) | exact zw_lt1 (by assumption) | exact zw_lt2 (by assumption) | exact zw_lt3 (by assumption) | exact zw_lt4 (by assumption) | exact zt_lt (by assumption)) (by decide) rfl (c_X7_countIfAway G fo I1 hs1 _ _) (by decide) rfl rfl (Nat.le_of_ble_eq_true rfl) (fun v83 n83 I83 P83 hR83 => ?_)
        obtain ⟨rfl, rfl, rfl, hf2⟩ := hR83
        rw [hV, hf 119 (by decide)]
        refine ev_iload_n (q := 87) dX7_chance_86 rfl rfl ?_
        refine ev_icmp_lt (q := 90) (t := 121) dX7_chance_87 rfl (by decide) (fun h87 => ?_) (fun h87 => ?_)
        · refine ev_iload (q := 123) dX7_chance_121 rfl rfl ?_
          refine ev_iload (q := 125) dX7_chance_123 rfl rfl ?_
          refine ev_pS (q := 128) dX7_chance_125 rfl okX7_nextPart lmRX7_213 smX7_nextPart (c_X7_nextPart G _ _ _ _ _) (by decide) rfl rfl (Nat.le_of_ble_eq_true rfl) ?_
          refine ev_istoreL (q := 130) (L9 := [_, _, _, _, _, _, _, _, _, _, _, _, _, _, _]) dX7_chance_128 rfl (by decide) rfl rfl ?_
          refine ev_iincL (q := 133) (L9 := [_, _, _, _, _, _, _, _, _, _, _, _, _, _, _]) (1 : Int32) dX7_chance_130 rfl rfl (by decide) (by decide) rfl rfl ?_
          refine ev_goto (t := 71) dX7_chance_133 (by decide) ?_
          rw [nI_1]
          refine ev_wk (L' := [some (.ref 0), some (.int (nI t)), some (.int c), some (.int x), some (.int up), some (.int (nI h)), some (.int (nI (zpc h))), some (.int (nI LN)), some (.long _), none, some (.int _), some (.int _), none, none, none]) ⟨rfl, rfl, rfl, rfl, rfl, rfl, rfl, rfl, rfl, rfl, rfl, trivial⟩ ?_
          exact ih (i + 1) _ _ _ (by omega) (by omega) (fun c hc => (hf2 c hc).trans (hf c hc)) (by rw [zfold_s hg, ← h0, zChS_n h87]) (by show _ = (zpq (nI h) i - nI h) &&& nI h; rw [hzat _ _ hg])
        · refine ev_iload (q := 92) dX7_chance_90 rfl rfl ?_
          refine ev_pS (q := 95) dX7_chance_92 rfl okJ6_bitCount_0f7a4 lmRX7_197 smJ6_bitCount_0f7a4 (c_J6_bitCount_0f7a4 G _ _ _ _) (by decide) rfl rfl (Nat.le_of_ble_eq_true rfl) ?_
          rw [zpop_n g hg8]
          refine ev_istoreL (q := 97) (L9 := [_, _, _, _, _, _, _, _, _, _, _, _, _, _, _]) dX7_chance_95 rfl (by decide) rfl rfl ?_
          refine ev_lload (q := 99) dX7_chance_97 rfl rfl ?_
          refine ev_iload_n (q := 100) dX7_chance_99 rfl rfl ?_
          refine ev_iload (q := 102) dX7_chance_100 rfl rfl ?_
          refine ev_pS (q := 105) dX7_chance_102 rfl okX7_power lmRX7_240 smX7_power (c_X7_power G _ _ _ x (e := zpc g) (by have := zpc_8 g; omega)) (by decide) rfl rfl (Nat.le_of_ble_eq_true rfl) ?_
          refine ev_bipush (q := 107) (10 : Int32) dX7_chance_105 rfl (by decide) ?_
          refine ev_iload_n (q := 108) dX7_chance_107 rfl rfl ?_
          refine ev_isub (q := 109) dX7_chance_108 rfl ?_
          refine ev_iload (q := 111) dX7_chance_109 rfl rfl ?_
          refine ev_iload (q := 113) dX7_chance_111 rfl rfl ?_
          refine ev_isub (q := 114) dX7_chance_113 rfl ?_
          rw [pk_sub hgp]
          refine ev_pS (q := 117) dX7_chance_114 rfl okX7_power lmRX7_240 smX7_power (c_X7_power G _ _ _ (10 - x) (e := zpc h - zpc g) (by have := zpc_8 h; omega)) (by decide) rfl rfl (Nat.le_of_ble_eq_true rfl) ?_
          refine ev_lmul (q := 118) dX7_chance_117 rfl ?_
          refine ev_ladd (q := 119) dX7_chance_118 rfl ?_
          refine ev_lstoreL (q := 121) (L9 := [_, _, _, _, _, _, _, _, _, _, _, _, _, _, _]) dX7_chance_119 rfl (by decide) rfl rfl ?_
          refine ev_iload (q := 123) dX7_chance_121 rfl rfl ?_
          refine ev_iload (q := 125) dX7_chance_123 rfl rfl ?_
          refine ev_pS (q := 128) dX7_chance_125 rfl okX7_nextPart lmRX7_213 smX7_nextPart (c_X7_nextPart G _ _ _ _ _) (by decide) rfl rfl (Nat.le_of_ble_eq_true rfl) ?_
          refine ev_istoreL (q := 130) (L9 := [_, _, _, _, _, _, _, _, _, _, _, _, _, _, _]) dX7_chance_128 rfl (by decide) rfl rfl ?_
          refine ev_iincL (q := 133) (L9 := [_, _, _, _, _, _, _, _, _, _, _, _, _, _, _]) (1 : Int32) dX7_chance_130 rfl rfl (by decide) (by decide) rfl rfl ?_
          refine ev_goto (t := 71) dX7_chance_133 (by decide) ?_
          rw [nI_1]
          refine ev_wk (L' := [some (.ref 0), some (.int (nI t)), some (.int c), some (.int x), some (.int up), some (.int (nI h)), some (.int (nI (zpc h))), some (.int (nI LN)), some (.long _), none, some (.int _), some (.int _), none, none, none]) ⟨rfl, rfl, rfl, rfl, rfl, rfl, rfl, rfl, rfl, rfl, rfl, trivial⟩ ?_
          exact ih (i + 1) _ _ _ (by omega) (by omega) (fun c hc => (hf2 c hc).trans (hf c hc)) (by rw [zfold_s hg, ← h0, zChS_s (Int32.not_lt.mpr (Int32.not_lt.mp h87))]) (by show _ = (zpq (nI h) i - nI h) &&& nI h; rw [hzat _ _ hg])
  exact lp71 (LN + 1) 0 _ _ _ (by omega) (by omega) (fun _ _ => rfl) rfl rfl
set_option maxHeartbeats 4000000 in
set_option maxRecDepth 100000 in
theorem c_X7_chance (G : zq_G) (fo : Bool) (I : zq_I) {N T Y : Nat} (hs : zS fo N T Y I) (x0 c x up : Int32) : zq_Met G mX7_chance 6 0 0 [.ref 0, .int x0, .int c, .int x, .int up] 138 I (zPs fo) (zq_fr (some (.long (zpickL x0 T (-1) (fun t => zCh (I 119 4) (zV I) N c x up t)))) fo I) := by
  refine zq_Met.of okX7_chance (Nat.le_of_ble_eq_true rfl) ?_
  show zq_E _ _ _ _ _ _ _ [some (.ref 0), some (.int x0), some (.int c), some (.int x), some (.int up), none, none, none, none, none, none, none, none, none, none] _ _ _ _ _
  have hN8 := hs.n8
  have hN := hs.ppl
  have hfF := zF_is fo
  refine ev_aload_n (q := 1) dX7_chance_0 rfl rfl ?_
  refine ev_getR (q := 4) (ci := 7) (f := 9) dX7_chance_1 rfl (by first | rfl | assumption | exact zf_kd (by assumption) | exact zw_kd (by assumption) | exact zt_kd (by assumption)) (by first | decide | exact zf_lt (by assumption) | exact zf_lt1 (by assumption) | exact zf_lt2 (by assumption) | exact zf_lt3 (by assumption) | exact zf_lt4 (by assumption) | exact zw_lt (by assumption) | exact zw_lt1 (by assumption) | exact zw_lt2 (by assumption) | exact zw_lt3 (by assumption) | exact zw_lt4 (by assumption) | exact zt_lt (by assumption)) (by decide) (by decide) lfRX7_66 rfl (by first | rfl | assumption | exact zf_p4 _ (by assumption) | exact zf_p5 _ (by assumption) | exact zf_p6 _ (by assumption) | exact zf_p7 _ (by assumption) | exact zw_p1 _ (by assumption) | exact zw_p2 _ (by assumption) | exact zw_p3 _ (by assumption) | exact zw_p4 _ (by assumption)) ?_
  refine ev_iload_n (q := 5) dX7_chance_4 rfl rfl ?_
  refine ev_pV (q := 8) (ci := 0) dX7_chance_5 rfl okX0_hasTown lmRX7_149 imX0_hasTown seX0_hasTown (by first | rfl | assumption | exact zf_kd (by assumption) | exact zw_kd (by assumption) | exact zt_kd (by assumption)) (by first | decide | exact zf_lt (by assumption) | exact zf_lt1 (by assumption) | exact zf_lt2 (by assumption) | exact zf_lt3 (by assumption) | exact zf_lt4 (by assumption) | exact zw_lt (by assumption) | exact zw_lt1 (by assumption) | exact zw_lt2 (by assumption) | exact zw_lt3 (by assumption) | exact zw_lt4 (by assumption) | exact zt_lt (by assumption)) (by decide) rfl (c_X0_hasTown G fo I hfF _) (by decide) rfl rfl (Nat.le_of_ble_eq_true rfl) ?_
  refine ev_if_ne (q := 11) (t := 15) dX7_chance_8 rfl (by decide) (fun h8 => ?_) (fun h8 => ?_)
  · obtain ⟨t, ht, rfl⟩ := zin_t hs.t4' (show zin x0 (nI T) = true by rw [hs.twn] at h8; exact zb_ne h8)
    have ht4 : t < 4 := by have := hs.t4; omega
    refine ev_iload_n (q := 16) dX7_chance_15 rfl rfl ?_
    refine ev_if_lt (q := 19) (t := 35) dX7_chance_16 rfl (by decide) (fun h16 => ?_) (fun h16 => ?_)
    · refine ev_ldc2 (q := 38) dX7_chance_35 rfl ctRX7_238 ?_
      exact ev_lret dX7_chance_38 rfl (⟨by rw [zpickL_t ht hs.t4']; unfold zCh; rw [if_pos (by first | exact Or.inl (zm_f1 h16) | exact Or.inl (zm_f2 (Int32.not_le.mpr h22)) | exact Or.inr (Or.inl h26) | exact Or.inr (Or.inr h32))], rfl, rfl, zFC.rf⟩)
    · refine ev_iload_n (q := 20) dX7_chance_19 rfl rfl ?_
      refine ev_bipush (q := 22) (99 : Int32) dX7_chance_20 rfl (by decide) ?_
      refine ev_icmp_gt (q := 25) (t := 35) dX7_chance_22 rfl (by decide) (fun h22 => ?_) (fun h22 => ?_)
      · refine ev_ldc2 (q := 38) dX7_chance_35 rfl ctRX7_238 ?_
        exact ev_lret dX7_chance_38 rfl (⟨by rw [zpickL_t ht hs.t4']; unfold zCh; rw [if_pos (by first | exact Or.inl (zm_f1 h16) | exact Or.inl (zm_f2 (Int32.not_le.mpr h22)) | exact Or.inr (Or.inl h26) | exact Or.inr (Or.inr h32))], rfl, rfl, zFC.rf⟩)
      · refine ev_iload_n (q := 26) dX7_chance_25 rfl rfl ?_
        refine ev_if_lt (q := 29) (t := 35) dX7_chance_26 rfl (by decide) (fun h26 => ?_) (fun h26 => ?_)
        · refine ev_ldc2 (q := 38) dX7_chance_35 rfl ctRX7_238 ?_
          exact ev_lret dX7_chance_38 rfl (⟨by rw [zpickL_t ht hs.t4']; unfold zCh; rw [if_pos (by first | exact Or.inl (zm_f1 h16) | exact Or.inl (zm_f2 (Int32.not_le.mpr h22)) | exact Or.inr (Or.inl h26) | exact Or.inr (Or.inr h32))], rfl, rfl, zFC.rf⟩)
        · refine ev_iload_n (q := 30) dX7_chance_29 rfl rfl ?_
          refine ev_bipush (q := 32) (10 : Int32) dX7_chance_30 rfl (by decide) ?_
          refine ev_icmp_le (q := 35) (t := 39) dX7_chance_32 rfl (by decide) (fun h32 => ?_) (fun h32 => ?_)
          · refine ev_aload_n (q := 40) dX7_chance_39 rfl rfl ?_
            refine ev_getR (q := 43) (ci := 7) (f := 9) dX7_chance_40 rfl (by first | rfl | assumption | exact zf_kd (by assumption) | exact zw_kd (by assumption) | exact zt_kd (by assumption)) (by first | decide | exact zf_lt (by assumption) | exact zf_lt1 (by assumption) | exact zf_lt2 (by assumption) | exact zf_lt3 (by assumption) | exact zf_lt4 (by assumption) | exact zw_lt (by assumption) | exact zw_lt1 (by assumption) | exact zw_lt2 (by assumption) | exact zw_lt3 (by assumption) | exact zw_lt4 (by assumption) | exact zt_lt (by assumption)) (by decide) (by decide) lfRX7_66 rfl (by first | rfl | assumption | exact zf_p4 _ (by assumption) | exact zf_p5 _ (by assumption) | exact zf_p6 _ (by assumption) | exact zf_p7 _ (by assumption) | exact zw_p1 _ (by assumption) | exact zw_p2 _ (by assumption) | exact zw_p3 _ (by assumption) | exact zw_p4 _ (by assumption)) ?_
            refine ev_iload_n (q := 44) dX7_chance_43 rfl rfl ?_
            refine ev_pV (q := 47) (ci := 0) dX7_chance_44 rfl okX0_ofHome lmRX7_161 imX0_ofHome seX0_ofHome (by first | rfl | assumption | exact zf_kd (by assumption) | exact zw_kd (by assumption) | exact zt_kd (by assumption)) (by first | decide | exact zf_lt (by assumption) | exact zf_lt1 (by assumption) | exact zf_lt2 (by assumption) | exact zf_lt3 (by assumption) | exact zf_lt4 (by assumption) | exact zw_lt (by assumption) | exact zw_lt1 (by assumption) | exact zw_lt2 (by assumption) | exact zw_lt3 (by assumption) | exact zw_lt4 (by assumption) | exact zt_lt (by assumption)) (by decide) rfl (c_X0_ofHome G fo I (zV I) hfF hN8 hN (fun p hp => hs.hom hp) _) (by decide) rfl rfl (Nat.le_of_ble_eq_true rfl) ?_
            rw [zOH_n _ hN8]
            have hm := zOHn_lt (zV I) hN8 (nI t)
            have hd := zsub_dec _ hm
            refine ev_istoreL (q := 49) (L9 := [_, _, _, _, _, _, _, _, _, _, _, _, _, _, _]) dX7_chance_47 rfl (by decide) rfl rfl ?_
            refine ev_iload (q := 51) dX7_chance_49 rfl rfl ?_
            refine ev_pS (q := 54) dX7_chance_51 rfl okJ6_bitCount_0f7a4 lmRX7_197 smJ6_bitCount_0f7a4 (c_J6_bitCount_0f7a4 G _ _ _ _) (by decide) rfl rfl (Nat.le_of_ble_eq_true rfl) ?_
            rw [zpop_n _ hm]
            refine ev_istoreL (q := 56) (L9 := [_, _, _, _, _, _, _, _, _, _, _, _, _, _, _]) dX7_chance_54 rfl (by decide) rfl rfl ?_
            refine ev_iconst (q := 57) (1 : Int32) dX7_chance_56 rfl (by decide) ?_
            refine ev_iload (q := 59) dX7_chance_57 rfl rfl ?_
            refine ev_ishl (q := 60) dX7_chance_59 rfl ?_
            rw [← zpop_n _ hm, hd.2.2, zpop_n _ hm]
            refine ev_istoreL (q := 62) (L9 := [_, _, _, _, _, _, _, _, _, _, _, _, _, _, _]) dX7_chance_60 rfl (by decide) rfl rfl ?_
            refine ev_lconst (q := 63) (0 : Int64) dX7_chance_62 rfl (by decide) ?_
            refine ev_lstoreL (q := 65) (L9 := [_, _, _, _, _, _, _, _, _, _, _, _, _, _, _]) dX7_chance_63 rfl (by decide) rfl rfl ?_
            refine ev_iconst (q := 66) (0 : Int32) dX7_chance_65 rfl (by decide) ?_
            refine ev_istoreL (q := 68) (L9 := [_, _, _, _, _, _, _, _, _, _, _, _, _, _, _]) dX7_chance_66 rfl (by decide) rfl rfl ?_
            refine ev_iconst (q := 69) (0 : Int32) dX7_chance_68 rfl (by decide) ?_
            refine ev_istoreL (q := 71) (L9 := [_, _, _, _, _, _, _, _, _, _, _, _, _, _, _]) dX7_chance_69 rfl (by decide) rfl rfl ?_
            rw [zpickL_t ht hs.t4']
            unfold zCh
            rw [if_neg (by rw [zm_t h16 (Int32.not_lt.mp h22)]; rintro (q | q | q); cases q; exact h26 q; exact q h32)]
            refine ev_post ?_ (lp_X7_chance G fo I hs (h := zOHn (zV I) N (nI t)) (Z := zsub (zOHn (zV I) N (nI t))) (fun k g hk => zsub_at hm hk) (fun g hg => ⟨(zsub_mem hg).1, zpc_le hm hg⟩) rfl hd.2.1)
            rintro v n' I' P' ⟨rfl, rfl, rfl, hf⟩
            exact ⟨rfl, rfl, rfl, z4_FC hf⟩
          · refine ev_ldc2 (q := 38) dX7_chance_35 rfl ctRX7_238 ?_
            exact ev_lret dX7_chance_38 rfl (⟨by rw [zpickL_t ht hs.t4']; unfold zCh; rw [if_pos (by first | exact Or.inl (zm_f1 h16) | exact Or.inl (zm_f2 (Int32.not_le.mpr h22)) | exact Or.inr (Or.inl h26) | exact Or.inr (Or.inr h32))], rfl, rfl, zFC.rf⟩)
  · have hz : zin x0 (nI T) = false := by rw [hs.twn] at h8; exact zb_eq h8
    refine ev_ldc2 (q := 14) dX7_chance_11 rfl ctRX7_236 ?_
    exact ev_lret dX7_chance_14 rfl (⟨by rw [zpickL_f hz], rfl, rfl, zFC.rf⟩)
