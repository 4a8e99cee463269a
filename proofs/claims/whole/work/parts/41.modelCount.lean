set_option maxHeartbeats 4000000 in
set_option maxRecDepth 100000 in
theorem c_X8_misses (G : zq_G) (fo : Bool) (I : zq_I) {N T Y : Nat} (hs : zS fo N T Y I) {p : Nat} (hp : p < N) (y : Int32) : zq_Met G mX8_misses 2 0 0 [.ref 119, .int (nI p), .int y] 138 I (zPs fo) (zq_pu (some (.int (zMs (zV I) N p y))) 138 I (zPs fo)) := by
  refine zq_Met.of okX8_misses (Nat.le_of_ble_eq_true rfl) ?_
  show zq_E _ _ _ _ _ _ _ [some (.ref 119), some (.int (nI p)), some (.int y), none, none, none] _ _ _ _ _
  have hN8 := hs.n8
  have hN := hs.mppl
  have hp8 : p < 8 := by omega
  have lp5 : ∀ (k i : Nat) (b : Int32), N + 1 ≤ i + k → i ≤ N → b = zor zsh (fun j => zhas (vA (zV I) p) j && (vH (zV I) p == vH (zV I) j) && zTh (zV I) p && zMi (zV I) j y && zRe (zV I) p j y) i → zq_E G mX8_misses 2 0 0 false 5 [some (.ref 119), some (.int (nI p)), some (.int y), some (.int b), some (.int (nI i)), none] [] 138 I (zPs fo) (zq_pu (some (.int (zMs (zV I) N p y))) 138 I (zPs fo)) := by
    intro k
    induction k with
    | zero => intro i b hk hi; exact absurd hk (by omega)
    | succ k ih =>
      intro i b hk hi hb
      refine ev_iload (q := 7) dX8_misses_5 rfl rfl ?_
      refine ev_aload_n (q := 8) dX8_misses_7 rfl rfl ?_
      refine ev_getI (q := 11) (ci := 8) (f := 6) dX8_misses_8 rfl (by first | rfl | assumption | exact zf_kd (by assumption) | exact zw_kd (by assumption) | exact zt_kd (by assumption)) (by first | decide | exact zf_lt (by assumption) | exact zf_lt1 (by assumption) | exact zf_lt2 (by assumption) | exact zf_lt3 (by assumption) | exact zf_lt4 (by assumption) | exact zw_lt (by assumption) | exact zw_lt1 (by assumption) | exact zw_lt2 (by assumption) | exact zw_lt3 (by assumption) | exact zw_lt4 (by assumption) | exact zt_lt (by assumption)) (by decide) (by decide) lfRX8_72 rfl ?_
      refine ev_icmp_ge (q := 14) (t := 102) dX8_misses_11 rfl (by decide) (fun h11 => ?_) (fun h11 => ?_)
      · obtain rfl : i = N := by rw [hN, nI_leI (by omega) (by omega)] at h11; omega
        refine ev_iload_n (q := 103) dX8_misses_102 rfl rfl ?_
        exact ev_iret dX8_misses_103 rfl (by first | rfl | exact zb_nar _ | assumption) (⟨by subst hb; rfl, rfl, rfl, rfl⟩)
      · have hlt_i : i < N := by rw [hN, nI_leI (by omega) (by omega)] at h11; omega
        have j78 : ∀ (bv : Bool), bv = (zhas (vA (zV I) p) i && (vH (zV I) p == vH (zV I) i) && zTh (zV I) p && zMi (zV I) i y && zRe (zV I) p i y) → zq_E G mX8_misses 2 0 0 false 78 [some (.ref 119), some (.int (nI p)), some (.int y), some (.int b), some (.int (nI i)), none] [.int (zb bv)] 138 I (zPs fo) (zq_pu (some (.int (zMs (zV I) N p y))) 138 I (zPs fo)) := by
          intro bv hbv
          refine ev_istoreL (q := 80) (L9 := [_, _, _, _, _, _]) dX8_misses_78 rfl (by decide) rfl rfl ?_
          refine ev_iload_n (q := 81) dX8_misses_80 rfl rfl ?_
          refine ev_iload (q := 83) dX8_misses_81 rfl rfl ?_
          refine ev_if_eq (q := 86) (t := 93) dX8_misses_83 rfl (by decide) (fun h83 => ?_) (fun h83 => ?_)
          · refine ev_iconst (q := 94) (0 : Int32) dX8_misses_93 rfl (by decide) ?_
            refine ev_ior (q := 95) dX8_misses_94 rfl ?_
            refine ev_istore_nL (q := 96) (L9 := [_, _, _, _, _, _]) dX8_misses_95 rfl (by decide) rfl rfl ?_
            refine ev_iincL (q := 99) (L9 := [_, _, _, _, _, _]) (1 : Int32) dX8_misses_96 rfl rfl (by decide) (by decide) rfl rfl ?_
            refine ev_goto (t := 5) dX8_misses_99 (by decide) ?_
            rw [nI_1]
            refine ev_wk (L' := [some (.ref 119), some (.int (nI p)), some (.int y), some (.int _), some (.int _), none]) ⟨rfl, rfl, rfl, rfl, rfl, trivial⟩ ?_
            exact ih (i + 1) _ (by omega) (by omega) (by rw [i32_or_0]; exact zor_n hb (by rw [← hbv]; exact zb_eq h83))
          · refine ev_iconst (q := 87) (1 : Int32) dX8_misses_86 rfl (by decide) ?_
            refine ev_iload (q := 89) dX8_misses_87 rfl rfl ?_
            refine ev_ishl (q := 90) dX8_misses_89 rfl ?_
            refine ev_goto (t := 94) dX8_misses_90 (by decide) ?_
            refine ev_ior (q := 95) dX8_misses_94 rfl ?_
            refine ev_istore_nL (q := 96) (L9 := [_, _, _, _, _, _]) dX8_misses_95 rfl (by decide) rfl rfl ?_
            refine ev_iincL (q := 99) (L9 := [_, _, _, _, _, _]) (1 : Int32) dX8_misses_96 rfl rfl (by decide) (by decide) rfl rfl ?_
            refine ev_goto (t := 5) dX8_misses_99 (by decide) ?_
            rw [nI_1]
            refine ev_wk (L' := [some (.ref 119), some (.int (nI p)), some (.int y), some (.int _), some (.int _), none]) ⟨rfl, rfl, rfl, rfl, rfl, trivial⟩ ?_
            exact ih (i + 1) _ (by omega) (by omega) (zor_s hb (by rw [← hbv]; exact zb_ne h83))
        refine ev_aload_n (q := 15) dX8_misses_14 rfl rfl ?_
        refine ev_getR (q := 18) (ci := 8) (f := 10) dX8_misses_15 rfl (by first | rfl | assumption | exact zf_kd (by assumption) | exact zw_kd (by assumption) | exact zt_kd (by assumption)) (by first | decide | exact zf_lt (by assumption) | exact zf_lt1 (by assumption) | exact zf_lt2 (by assumption) | exact zf_lt3 (by assumption) | exact zf_lt4 (by assumption) | exact zw_lt (by assumption) | exact zw_lt1 (by assumption) | exact zw_lt2 (by assumption) | exact zw_lt3 (by assumption) | exact zw_lt4 (by assumption) | exact zt_lt (by assumption)) (by decide) (by decide) lfRX8_26 rfl (by first | rfl | assumption | exact zf_p4 _ (by assumption) | exact zf_p5 _ (by assumption) | exact zf_p6 _ (by assumption) | exact zf_p7 _ (by assumption) | exact zw_p1 _ (by assumption) | exact zw_p2 _ (by assumption) | exact zw_p3 _ (by assumption) | exact zw_p4 _ (by assumption)) ?_
        refine ev_iload_n (q := 19) dX8_misses_18 rfl rfl ?_
        refine ev_ialdN (q := 20) dX8_misses_19 rfl (by first | rfl | assumption | exact zf_kd1 (by assumption) | exact zf_kd2 (by assumption) | exact zf_kd3 (by assumption) | exact zf_kd4 (by assumption) | exact zw_kd1 (by assumption) | exact zw_kd2 (by assumption) | exact zw_kd3 (by assumption) | exact zw_kd4 (by assumption)) (by first | decide | exact zf_lt (by assumption) | exact zf_lt1 (by assumption) | exact zf_lt2 (by assumption) | exact zf_lt3 (by assumption) | exact zf_lt4 (by assumption) | exact zw_lt (by assumption) | exact zw_lt1 (by assumption) | exact zw_lt2 (by assumption) | exact zw_lt3 (by assumption) | exact zw_lt4 (by assumption) | exact zt_lt (by assumption)) (by first | omega | assumption) ?_
        refine ev_iload (q := 22) dX8_misses_20 rfl rfl ?_
        refine ev_pS (q := 25) dX8_misses_22 rfl okX8_has lmRX8_101 smX8_has (c_X8_has G _ _ _ _ _) (by decide) rfl rfl (Nat.le_of_ble_eq_true rfl) ?_
        rw [show I 124 p = vA (zV I) p from rfl]
        refine ev_if_eq (q := 28) (t := 77) dX8_misses_25 rfl (by decide) (fun h25 => ?_) (fun h25 => ?_)
        · have q25 := zb_eq h25
          refine ev_iconst (q := 78) (0 : Int32) dX8_misses_77 rfl (by decide) ?_
          exact j78 false (by simp [q25])
        · have q25 := zb_ne h25
          refine ev_aload_n (q := 29) dX8_misses_28 rfl rfl ?_
          refine ev_getR (q := 32) (ci := 8) (f := 7) dX8_misses_29 rfl (by first | rfl | assumption | exact zf_kd (by assumption) | exact zw_kd (by assumption) | exact zt_kd (by assumption)) (by first | decide | exact zf_lt (by assumption) | exact zf_lt1 (by assumption) | exact zf_lt2 (by assumption) | exact zf_lt3 (by assumption) | exact zf_lt4 (by assumption) | exact zw_lt (by assumption) | exact zw_lt1 (by assumption) | exact zw_lt2 (by assumption) | exact zw_lt3 (by assumption) | exact zw_lt4 (by assumption) | exact zt_lt (by assumption)) (by decide) (by decide) lfRX8_17 rfl (by first | rfl | assumption | exact zf_p4 _ (by assumption) | exact zf_p5 _ (by assumption) | exact zf_p6 _ (by assumption) | exact zf_p7 _ (by assumption) | exact zw_p1 _ (by assumption) | exact zw_p2 _ (by assumption) | exact zw_p3 _ (by assumption) | exact zw_p4 _ (by assumption)) ?_
          refine ev_iload_n (q := 33) dX8_misses_32 rfl rfl ?_
          refine ev_ialdN (q := 34) dX8_misses_33 rfl (by first | rfl | assumption | exact zf_kd1 (by assumption) | exact zf_kd2 (by assumption) | exact zf_kd3 (by assumption) | exact zf_kd4 (by assumption) | exact zw_kd1 (by assumption) | exact zw_kd2 (by assumption) | exact zw_kd3 (by assumption) | exact zw_kd4 (by assumption)) (by first | decide | exact zf_lt (by assumption) | exact zf_lt1 (by assumption) | exact zf_lt2 (by assumption) | exact zf_lt3 (by assumption) | exact zf_lt4 (by assumption) | exact zw_lt (by assumption) | exact zw_lt1 (by assumption) | exact zw_lt2 (by assumption) | exact zw_lt3 (by assumption) | exact zw_lt4 (by assumption) | exact zt_lt (by assumption)) (by first | omega | assumption) ?_
          refine ev_aload_n (q := 35) dX8_misses_34 rfl rfl ?_
          refine ev_getR (q := 38) (ci := 8) (f := 7) dX8_misses_35 rfl (by first | rfl | assumption | exact zf_kd (by assumption) | exact zw_kd (by assumption) | exact zt_kd (by assumption)) (by first | decide | exact zf_lt (by assumption) | exact zf_lt1 (by assumption) | exact zf_lt2 (by assumption) | exact zf_lt3 (by assumption) | exact zf_lt4 (by assumption) | exact zw_lt (by assumption) | exact zw_lt1 (by assumption) | exact zw_lt2 (by assumption) | exact zw_lt3 (by assumption) | exact zw_lt4 (by assumption) | exact zt_lt (by assumption)) (by decide) (by decide) lfRX8_17 rfl (by first | rfl | assumption | exact zf_p4 _ (by assumption) | exact zf_p5 _ (by assumption) | exact zf_p6 _ (by assumption) | exact zf_p7 _ (by assumption) | exact zw_p1 _ (by assumption) | exact zw_p2 _ (by assumption) | exact zw_p3 _ (by assumption) | exact zw_p4 _ (by assumption)) ?_
          refine ev_iload (q := 40) dX8_misses_38 rfl rfl ?_
          refine ev_ialdN (q := 41) dX8_misses_40 rfl (by first | rfl | assumption | exact zf_kd1 (by assumption) | exact zf_kd2 (by assumption) | exact zf_kd3 (by assumption) | exact zf_kd4 (by assumption) | exact zw_kd1 (by assumption) | exact zw_kd2 (by assumption) | exact zw_kd3 (by assumption) | exact zw_kd4 (by assumption)) (by first | decide | exact zf_lt (by assumption) | exact zf_lt1 (by assumption) | exact zf_lt2 (by assumption) | exact zf_lt3 (by assumption) | exact zf_lt4 (by assumption) | exact zw_lt (by assumption) | exact zw_lt1 (by assumption) | exact zw_lt2 (by assumption) | exact zw_lt3 (by assumption) | exact zw_lt4 (by assumption) | exact zt_lt (by assumption)) (by first | omega | assumption) ?_
          refine ev_icmp_ne (q := 44) (t := 77) dX8_misses_41 rfl (by decide) (fun h41 => ?_) (fun h41 => ?_)
          · have q41 : (vH (zV I) p == vH (zV I) i) = false := by show (I 121 p == I 121 i) = false; simpa using h41
            refine ev_iconst (q := 78) (0 : Int32) dX8_misses_77 rfl (by decide) ?_
            exact j78 false (by simp [q25, q41])
          · have q41 : (vH (zV I) p == vH (zV I) i) = true := by show (I 121 p == I 121 i) = true; simpa using h41
            refine ev_aload_n (q := 45) dX8_misses_44 rfl rfl ?_
            refine ev_iload_n (q := 46) dX8_misses_45 rfl rfl ?_
            refine ev_pV (q := 49) (ci := 8) dX8_misses_46 rfl okX8_isThere lmRX8_140 imX8_isThere seX8_isThere (by first | rfl | assumption | exact zf_kd (by assumption) | exact zw_kd (by assumption) | exact zt_kd (by assumption)) (by first | decide | exact zf_lt (by assumption) | exact zf_lt1 (by assumption) | exact zf_lt2 (by assumption) | exact zf_lt3 (by assumption) | exact zf_lt4 (by assumption) | exact zw_lt (by assumption) | exact zw_lt1 (by assumption) | exact zw_lt2 (by assumption) | exact zw_lt3 (by assumption) | exact zw_lt4 (by assumption) | exact zt_lt (by assumption)) (by decide) rfl (c_X8_isThere G fo I hp8) (by decide) rfl rfl (Nat.le_of_ble_eq_true rfl) ?_
            refine ev_if_eq (q := 52) (t := 77) dX8_misses_49 rfl (by decide) (fun h49 => ?_) (fun h49 => ?_)
            · have q49 := zb_eq h49
              refine ev_iconst (q := 78) (0 : Int32) dX8_misses_77 rfl (by decide) ?_
              exact j78 false (by simp [q25, q41, q49])
            · have q49 := zb_ne h49
              refine ev_aload_n (q := 53) dX8_misses_52 rfl rfl ?_
              refine ev_iload (q := 55) dX8_misses_53 rfl rfl ?_
              refine ev_iload_n (q := 56) dX8_misses_55 rfl rfl ?_
              refine ev_pV (q := 59) (ci := 8) dX8_misses_56 rfl okX8_isMissing lmRX8_144 imX8_isMissing seX8_isMissing (by first | rfl | assumption | exact zf_kd (by assumption) | exact zw_kd (by assumption) | exact zt_kd (by assumption)) (by first | decide | exact zf_lt (by assumption) | exact zf_lt1 (by assumption) | exact zf_lt2 (by assumption) | exact zf_lt3 (by assumption) | exact zf_lt4 (by assumption) | exact zw_lt (by assumption) | exact zw_lt1 (by assumption) | exact zw_lt2 (by assumption) | exact zw_lt3 (by assumption) | exact zw_lt4 (by assumption) | exact zt_lt (by assumption)) (by decide) rfl (c_X8_isMissing G fo I (show i < 8 by omega) _) (by decide) rfl rfl (Nat.le_of_ble_eq_true rfl) ?_
              refine ev_if_eq (q := 62) (t := 77) dX8_misses_59 rfl (by decide) (fun h59 => ?_) (fun h59 => ?_)
              · have q59 := zb_eq h59
                refine ev_iconst (q := 78) (0 : Int32) dX8_misses_77 rfl (by decide) ?_
                exact j78 false (by simp [q25, q41, q49, q59])
              · have q59 := zb_ne h59
                refine ev_aload_n (q := 63) dX8_misses_62 rfl rfl ?_
                refine ev_iload_n (q := 64) dX8_misses_63 rfl rfl ?_
                refine ev_iload (q := 66) dX8_misses_64 rfl rfl ?_
                refine ev_iload_n (q := 67) dX8_misses_66 rfl rfl ?_
                refine ev_pV (q := 70) (ci := 8) dX8_misses_67 rfl okX8_remembers lmRX8_147 imX8_remembers seX8_remembers (by first | rfl | assumption | exact zf_kd (by assumption) | exact zw_kd (by assumption) | exact zt_kd (by assumption)) (by first | decide | exact zf_lt (by assumption) | exact zf_lt1 (by assumption) | exact zf_lt2 (by assumption) | exact zf_lt3 (by assumption) | exact zf_lt4 (by assumption) | exact zw_lt (by assumption) | exact zw_lt1 (by assumption) | exact zw_lt2 (by assumption) | exact zw_lt3 (by assumption) | exact zw_lt4 (by assumption) | exact zt_lt (by assumption)) (by decide) rfl (c_X8_remembers G fo I hp8 (show i < 8 by omega) _) (by decide) rfl rfl (Nat.le_of_ble_eq_true rfl) ?_
                refine ev_if_eq (q := 73) (t := 77) dX8_misses_70 rfl (by decide) (fun h70 => ?_) (fun h70 => ?_)
                · have q70 := zb_eq h70
                  refine ev_iconst (q := 78) (0 : Int32) dX8_misses_77 rfl (by decide) ?_
                  exact j78 false (by simp [q25, q41, q49, q59, q70])
                · have q70 := zb_ne h70
                  refine ev_iconst (q := 74) (1 : Int32) dX8_misses_73 rfl (by decide) ?_
                  refine ev_goto (t := 78) dX8_misses_74 (by decide) ?_
                  exact j78 true (by simp [q25, q41, q49, q59, q70])
  refine ev_iconst (q := 1) (0 : Int32) dX8_misses_0 rfl (by decide) ?_
  refine ev_istore_nL (q := 2) (L9 := [_, _, _, _, _, _]) dX8_misses_1 rfl (by decide) rfl rfl ?_
  refine ev_iconst (q := 3) (0 : Int32) dX8_misses_2 rfl (by decide) ?_
  refine ev_istoreL (q := 5) (L9 := [_, _, _, _, _, _]) dX8_misses_3 rfl (by decide) rfl rfl ?_
  exact lp5 (N + 1) 0 0 (by omega) (by omega) rfl
set_option maxHeartbeats 4000000 in
set_option maxRecDepth 100000 in
theorem c_X8_atHome (G : zq_G) (fo : Bool) (I : zq_I) {N T Y : Nat} (hs : zS fo N T Y I) (x : Int32) : zq_Met G mX8_atHome 0 0 0 [.ref 119, .int x] 138 I (zPs fo) (zq_pu (some (.int (zOH (zV I) N x))) 138 I (zPs fo)) := by
  refine zq_Met.of okX8_atHome (Nat.le_of_ble_eq_true rfl) ?_
  show zq_E _ _ _ _ _ _ _ [some (.ref 119), some (.int x), none, none] _ _ _ _ _
  have hN8 := hs.n8
  have hN := hs.mppl
  have lp4 : ∀ (k i : Nat) (b : Int32), N + 1 ≤ i + k → i ≤ N → b = zor zsh (fun i => vH (zV I) i == x) i → zq_E G mX8_atHome 0 0 0 false 4 [some (.ref 119), some (.int x), some (.int b), some (.int (nI i))] [] 138 I (zPs fo) (zq_pu (some (.int (zOH (zV I) N x))) 138 I (zPs fo)) := by
    intro k
    induction k with
    | zero => intro i b hk hi; exact absurd hk (by omega)
    | succ k ih =>
      intro i b hk hi hb
      refine ev_iload_n (q := 5) dX8_atHome_4 rfl rfl ?_
      refine ev_aload_n (q := 6) dX8_atHome_5 rfl rfl ?_
      refine ev_getI (q := 9) (ci := 8) (f := 6) dX8_atHome_6 rfl (by first | rfl | assumption | exact zf_kd (by assumption) | exact zw_kd (by assumption) | exact zt_kd (by assumption)) (by first | decide | exact zf_lt (by assumption) | exact zf_lt1 (by assumption) | exact zf_lt2 (by assumption) | exact zf_lt3 (by assumption) | exact zf_lt4 (by assumption) | exact zw_lt (by assumption) | exact zw_lt1 (by assumption) | exact zw_lt2 (by assumption) | exact zw_lt3 (by assumption) | exact zw_lt4 (by assumption) | exact zt_lt (by assumption)) (by decide) (by decide) lfRX8_72 rfl ?_
      refine ev_icmp_ge (q := 12) (t := 38) dX8_atHome_9 rfl (by decide) (fun h9 => ?_) (fun h9 => ?_)
      · obtain rfl : i = N := by rw [hN, nI_leI (by omega) (by omega)] at h9; omega
        refine ev_iload_n (q := 39) dX8_atHome_38 rfl rfl ?_
        exact ev_iret dX8_atHome_39 rfl (by first | rfl | exact zb_nar _ | assumption) (⟨by subst hb; rfl, rfl, rfl, rfl⟩)
      · have hlt_i : i < N := by rw [hN, nI_leI (by omega) (by omega)] at h9; omega
        refine ev_iload_n (q := 13) dX8_atHome_12 rfl rfl ?_
        refine ev_aload_n (q := 14) dX8_atHome_13 rfl rfl ?_
        refine ev_getR (q := 17) (ci := 8) (f := 7) dX8_atHome_14 rfl (by first | rfl | assumption | exact zf_kd (by assumption) | exact zw_kd (by assumption) | exact zt_kd (by assumption)) (by first | decide | exact zf_lt (by assumption) | exact zf_lt1 (by assumption) | exact zf_lt2 (by assumption) | exact zf_lt3 (by assumption) | exact zf_lt4 (by assumption) | exact zw_lt (by assumption) | exact zw_lt1 (by assumption) | exact zw_lt2 (by assumption) | exact zw_lt3 (by assumption) | exact zw_lt4 (by assumption) | exact zt_lt (by assumption)) (by decide) (by decide) lfRX8_17 rfl (by first | rfl | assumption | exact zf_p4 _ (by assumption) | exact zf_p5 _ (by assumption) | exact zf_p6 _ (by assumption) | exact zf_p7 _ (by assumption) | exact zw_p1 _ (by assumption) | exact zw_p2 _ (by assumption) | exact zw_p3 _ (by assumption) | exact zw_p4 _ (by assumption)) ?_
        refine ev_iload_n (q := 18) dX8_atHome_17 rfl rfl ?_
        refine ev_ialdN (q := 19) dX8_atHome_18 rfl (by first | rfl | assumption | exact zf_kd1 (by assumption) | exact zf_kd2 (by assumption) | exact zf_kd3 (by assumption) | exact zf_kd4 (by assumption) | exact zw_kd1 (by assumption) | exact zw_kd2 (by assumption) | exact zw_kd3 (by assumption) | exact zw_kd4 (by assumption)) (by first | decide | exact zf_lt (by assumption) | exact zf_lt1 (by assumption) | exact zf_lt2 (by assumption) | exact zf_lt3 (by assumption) | exact zf_lt4 (by assumption) | exact zw_lt (by assumption) | exact zw_lt1 (by assumption) | exact zw_lt2 (by assumption) | exact zw_lt3 (by assumption) | exact zw_lt4 (by assumption) | exact zt_lt (by assumption)) (by first | omega | assumption) ?_
        refine ev_iload_n (q := 20) dX8_atHome_19 rfl rfl ?_
        refine ev_icmp_ne (q := 23) (t := 29) dX8_atHome_20 rfl (by decide) (fun h20 => ?_) (fun h20 => ?_)
        · have q : (vH (zV I) i == x) = false := by show (I 121 i == x) = false; simpa using h20
          refine ev_iconst (q := 30) (0 : Int32) dX8_atHome_29 rfl (by decide) ?_
          refine ev_ior (q := 31) dX8_atHome_30 rfl ?_
          refine ev_istore_nL (q := 32) (L9 := [_, _, _, _]) dX8_atHome_31 rfl (by decide) rfl rfl ?_
          refine ev_iincL (q := 35) (L9 := [_, _, _, _]) (1 : Int32) dX8_atHome_32 rfl rfl (by decide) (by decide) rfl rfl ?_
          refine ev_goto (t := 4) dX8_atHome_35 (by decide) ?_
          rw [nI_1]
          exact ih (i + 1) _ (by omega) (by omega) (by rw [i32_or_0]; exact zor_n hb q)
        · have q : (vH (zV I) i == x) = true := by show (I 121 i == x) = true; simpa using h20
          refine ev_iconst (q := 24) (1 : Int32) dX8_atHome_23 rfl (by decide) ?_
          refine ev_iload_n (q := 25) dX8_atHome_24 rfl rfl ?_
          refine ev_ishl (q := 26) dX8_atHome_25 rfl ?_
          refine ev_goto (t := 30) dX8_atHome_26 (by decide) ?_
          refine ev_ior (q := 31) dX8_atHome_30 rfl ?_
          refine ev_istore_nL (q := 32) (L9 := [_, _, _, _]) dX8_atHome_31 rfl (by decide) rfl rfl ?_
          refine ev_iincL (q := 35) (L9 := [_, _, _, _]) (1 : Int32) dX8_atHome_32 rfl rfl (by decide) (by decide) rfl rfl ?_
          refine ev_goto (t := 4) dX8_atHome_35 (by decide) ?_
          rw [nI_1]
          exact ih (i + 1) _ (by omega) (by omega) (zor_s hb q)
  refine ev_iconst (q := 1) (0 : Int32) dX8_atHome_0 rfl (by decide) ?_
  refine ev_istore_nL (q := 2) (L9 := [_, _, _, _]) dX8_atHome_1 rfl (by decide) rfl rfl ?_
  refine ev_iconst (q := 3) (0 : Int32) dX8_atHome_2 rfl (by decide) ?_
  refine ev_istore_nL (q := 4) (L9 := [_, _, _, _]) dX8_atHome_3 rfl (by decide) rfl rfl ?_
  exact lp4 (N + 1) 0 0 (by omega) (by omega) rfl
theorem zor_mask {f : Nat → Int32} {c : Nat → Bool} {n w : Nat} (h : ∀ i, i < n → ∃ a, a < 2 ^ w ∧ f i = nI a) : ∃ a, a < 2 ^ w ∧ zor f c n = nI a := by
  induction n with
  | zero => exact ⟨0, Nat.two_pow_pos w, rfl⟩
  | succ n ih =>
    obtain ⟨a, ha, ea⟩ := ih (fun i hi => h i (by omega))
    obtain ⟨b, hb, eb⟩ := h n (by omega)
    unfold zor
    split
    · exact ⟨a ||| b, Nat.or_lt_two_pow ha hb, by rw [ea, eb, nI_or]⟩
    · exact ⟨a, ha, ea⟩
theorem zNm_mask {fo : Bool} {N T Y : Nat} {I : zq_I} (h : zS fo N T Y I) (m : Int32) : ∃ a, a < 256 ∧ zNm (zV I) N m = nI a := by
  refine zor_mask (w := 8) (fun i hi => ?_)
  obtain ⟨-, ⟨a, ha, ea⟩, -⟩ := h.2.2.2.2.2.1 i hi
  refine ⟨2 ^ a, Nat.pow_lt_pow_right (by omega) (by omega), ?_⟩
  show (1 : Int32) <<< (I 122 i &&& 31) = _
  rw [ea]
  exact zsh_N a (by omega)
set_option maxHeartbeats 4000000 in
set_option maxRecDepth 100000 in
theorem c_X8_counted (G : zq_G) (fo : Bool) (I : zq_I) {N T Y : Nat} (hs : zS fo N T Y I) (x : Int32) {m : Nat} (hm : m < 256) : zq_Met G mX8_counted 1 0 0 [.ref 119, .int x, .int (nI m)] 138 I (zPs fo) (zq_pu (some (.int (zCt (I 119 4) (zV I) N x (nI m)))) 138 I (zPs fo)) := by
  refine zq_Met.of okX8_counted (Nat.le_of_ble_eq_true rfl) ?_
  show zq_E _ _ _ _ _ _ _ [some (.ref 119), some (.int x), some (.int (nI m)), none, none] _ _ _ _ _
  have hN8 := hs.n8
  have hN := hs.mppl
  have lp27 : ∀ (k i : Nat) (b : Int32), N + 1 ≤ i + k → i ≤ N → b = zor (fun i => (1 : Int32) <<< (vN (zV I) i &&& 31)) (fun i => zhas (nI m) i) i → ¬ I 119 4 = 0 → ¬ I 119 4 = 1 → zq_E G mX8_counted 1 0 0 false 27 [some (.ref 119), some (.int x), some (.int (nI m)), some (.int b), some (.int (nI i))] [] 138 I (zPs fo) (zq_pu (some (.int (zCt (I 119 4) (zV I) N x (nI m)))) 138 I (zPs fo)) := by
    intro k
    induction k with
    | zero => intro i b hk hi; exact absurd hk (by omega)
    | succ k ih =>
      intro i b hk hi hb hl0 hl1
      refine ev_iload (q := 29) dX8_counted_27 rfl rfl ?_
      refine ev_aload_n (q := 30) dX8_counted_29 rfl rfl ?_
      refine ev_getI (q := 33) (ci := 8) (f := 6) dX8_counted_30 rfl (by first | rfl | assumption | exact zf_kd (by assumption) | exact zw_kd (by assumption) | exact zt_kd (by assumption)) (by first | decide | exact zf_lt (by assumption) | exact zf_lt1 (by assumption) | exact zf_lt2 (by assumption) | exact zf_lt3 (by assumption) | exact zf_lt4 (by assumption) | exact zw_lt (by assumption) | exact zw_lt1 (by assumption) | exact zw_lt2 (by assumption) | exact zw_lt3 (by assumption) | exact zw_lt4 (by assumption) | exact zt_lt (by assumption)) (by decide) (by decide) lfRX8_72 rfl ?_
      refine ev_icmp_ge (q := 36) (t := 67) dX8_counted_33 rfl (by decide) (fun h33 => ?_) (fun h33 => ?_)
      · obtain rfl : i = N := by rw [hN, nI_leI (by omega) (by omega)] at h33; omega
        refine ev_iload_n (q := 68) dX8_counted_67 rfl rfl ?_
        refine ev_pS (q := 71) dX8_counted_68 rfl okX8_many lmRX8_151 smX8_many (c_X8_many G _ _ _ _) (by decide) rfl rfl (Nat.le_of_ble_eq_true rfl) ?_
        exact ev_iret dX8_counted_71 rfl (by first | rfl | exact zb_nar _ | assumption) (⟨by obtain ⟨a, ha, ea⟩ := zNm_mask hs (nI m); rw [hb, show zor _ _ _ = zNm (zV I) _ (nI m) from rfl, ea, zmany_pop a ha, ← ea]; unfold zCt; rw [if_neg hl0, if_neg hl1], rfl, rfl, rfl⟩)
      · have hlt_i : i < N := by rw [hN, nI_leI (by omega) (by omega)] at h33; omega
        refine ev_iload_n (q := 37) dX8_counted_36 rfl rfl ?_
        refine ev_iload_n (q := 38) dX8_counted_37 rfl rfl ?_
        refine ev_iload (q := 40) dX8_counted_38 rfl rfl ?_
        refine ev_pS (q := 43) dX8_counted_40 rfl okX8_has lmRX8_101 smX8_has (c_X8_has G _ _ _ _ _) (by decide) rfl rfl (Nat.le_of_ble_eq_true rfl) ?_
        refine ev_if_eq (q := 46) (t := 58) dX8_counted_43 rfl (by decide) (fun h43 => ?_) (fun h43 => ?_)
        · refine ev_iconst (q := 59) (0 : Int32) dX8_counted_58 rfl (by decide) ?_
          refine ev_ior (q := 60) dX8_counted_59 rfl ?_
          refine ev_istore_nL (q := 61) (L9 := [_, _, _, _, _]) dX8_counted_60 rfl (by decide) rfl rfl ?_
          refine ev_iincL (q := 64) (L9 := [_, _, _, _, _]) (1 : Int32) dX8_counted_61 rfl rfl (by decide) (by decide) rfl rfl ?_
          refine ev_goto (t := 27) dX8_counted_64 (by decide) ?_
          rw [nI_1]
          exact ih (i + 1) _ (by omega) (by omega) (by rw [i32_or_0]; exact zor_n hb (zb_eq h43)) hl0 hl1
        · refine ev_iconst (q := 47) (1 : Int32) dX8_counted_46 rfl (by decide) ?_
          refine ev_aload_n (q := 48) dX8_counted_47 rfl rfl ?_
          refine ev_getR (q := 51) (ci := 8) (f := 8) dX8_counted_48 rfl (by first | rfl | assumption | exact zf_kd (by assumption) | exact zw_kd (by assumption) | exact zt_kd (by assumption)) (by first | decide | exact zf_lt (by assumption) | exact zf_lt1 (by assumption) | exact zf_lt2 (by assumption) | exact zf_lt3 (by assumption) | exact zf_lt4 (by assumption) | exact zw_lt (by assumption) | exact zw_lt1 (by assumption) | exact zw_lt2 (by assumption) | exact zw_lt3 (by assumption) | exact zw_lt4 (by assumption) | exact zt_lt (by assumption)) (by decide) (by decide) lfRX8_20 rfl (by first | rfl | assumption | exact zf_p4 _ (by assumption) | exact zf_p5 _ (by assumption) | exact zf_p6 _ (by assumption) | exact zf_p7 _ (by assumption) | exact zw_p1 _ (by assumption) | exact zw_p2 _ (by assumption) | exact zw_p3 _ (by assumption) | exact zw_p4 _ (by assumption)) ?_
          refine ev_iload (q := 53) dX8_counted_51 rfl rfl ?_
          refine ev_ialdN (q := 54) dX8_counted_53 rfl (by first | rfl | assumption | exact zf_kd1 (by assumption) | exact zf_kd2 (by assumption) | exact zf_kd3 (by assumption) | exact zf_kd4 (by assumption) | exact zw_kd1 (by assumption) | exact zw_kd2 (by assumption) | exact zw_kd3 (by assumption) | exact zw_kd4 (by assumption)) (by first | decide | exact zf_lt (by assumption) | exact zf_lt1 (by assumption) | exact zf_lt2 (by assumption) | exact zf_lt3 (by assumption) | exact zf_lt4 (by assumption) | exact zw_lt (by assumption) | exact zw_lt1 (by assumption) | exact zw_lt2 (by assumption) | exact zw_lt3 (by assumption) | exact zw_lt4 (by assumption) | exact zt_lt (by assumption)) (by first | omega | assumption) ?_
          refine ev_ishl (q := 55) dX8_counted_54 rfl ?_
          refine ev_goto (t := 59) dX8_counted_55 (by decide) ?_
          refine ev_ior (q := 60) dX8_counted_59 rfl ?_
          refine ev_istore_nL (q := 61) (L9 := [_, _, _, _, _]) dX8_counted_60 rfl (by decide) rfl rfl ?_
          refine ev_iincL (q := 64) (L9 := [_, _, _, _, _]) (1 : Int32) dX8_counted_61 rfl rfl (by decide) (by decide) rfl rfl ?_
          refine ev_goto (t := 27) dX8_counted_64 (by decide) ?_
          rw [nI_1]
          exact ih (i + 1) _ (by omega) (by omega) (zor_s hb (zb_ne h43)) hl0 hl1
  refine ev_aload_n (q := 1) dX8_counted_0 rfl rfl ?_
  refine ev_getI (q := 4) (ci := 8) (f := 4) dX8_counted_1 rfl (by first | rfl | assumption | exact zf_kd (by assumption) | exact zw_kd (by assumption) | exact zt_kd (by assumption)) (by first | decide | exact zf_lt (by assumption) | exact zf_lt1 (by assumption) | exact zf_lt2 (by assumption) | exact zf_lt3 (by assumption) | exact zf_lt4 (by assumption) | exact zw_lt (by assumption) | exact zw_lt1 (by assumption) | exact zw_lt2 (by assumption) | exact zw_lt3 (by assumption) | exact zw_lt4 (by assumption) | exact zt_lt (by assumption)) (by decide) (by decide) lfRX8_128 rfl ?_
  refine ev_if_ne (q := 7) (t := 9) dX8_counted_4 rfl (by decide) (fun h4 => ?_) (fun h4 => ?_)
  · refine ev_aload_n (q := 10) dX8_counted_9 rfl rfl ?_
    refine ev_getI (q := 13) (ci := 8) (f := 4) dX8_counted_10 rfl (by first | rfl | assumption | exact zf_kd (by assumption) | exact zw_kd (by assumption) | exact zt_kd (by assumption)) (by first | decide | exact zf_lt (by assumption) | exact zf_lt1 (by assumption) | exact zf_lt2 (by assumption) | exact zf_lt3 (by assumption) | exact zf_lt4 (by assumption) | exact zw_lt (by assumption) | exact zw_lt1 (by assumption) | exact zw_lt2 (by assumption) | exact zw_lt3 (by assumption) | exact zw_lt4 (by assumption) | exact zt_lt (by assumption)) (by decide) (by decide) lfRX8_128 rfl ?_
    refine ev_iconst (q := 14) (1 : Int32) dX8_counted_13 rfl (by decide) ?_
    refine ev_icmp_ne (q := 17) (t := 22) dX8_counted_14 rfl (by decide) (fun h14 => ?_) (fun h14 => ?_)
    · refine ev_iconst (q := 23) (0 : Int32) dX8_counted_22 rfl (by decide) ?_
      refine ev_istore_nL (q := 24) (L9 := [_, _, _, _, _]) dX8_counted_23 rfl (by decide) rfl rfl ?_
      refine ev_iconst (q := 25) (0 : Int32) dX8_counted_24 rfl (by decide) ?_
      refine ev_istoreL (q := 27) (L9 := [_, _, _, _, _]) dX8_counted_25 rfl (by decide) rfl rfl ?_
      exact lp27 (N + 1) 0 0 (by omega) (by omega) rfl h4 h14
    · refine ev_iload_n (q := 18) dX8_counted_17 rfl rfl ?_
      refine ev_pS (q := 21) dX8_counted_18 rfl okX8_many lmRX8_151 smX8_many (c_X8_many G _ _ _ _) (by decide) rfl rfl (Nat.le_of_ble_eq_true rfl) ?_
      exact ev_iret dX8_counted_21 rfl (by first | rfl | exact zb_nar _ | assumption) (⟨by unfold zCt; rw [if_neg h4, if_pos h14, zmany_pop m hm], rfl, rfl, rfl⟩)
  · refine ev_iload_n (q := 8) dX8_counted_7 rfl rfl ?_
    exact ev_iret dX8_counted_8 rfl (by first | rfl | exact zb_nar _ | assumption) (⟨by unfold zCt; rw [if_pos h4], rfl, rfl, rfl⟩)
set_option maxHeartbeats 4000000 in
set_option maxRecDepth 100000 in
theorem c_X8_missed (G : zq_G) (fo : Bool) (I : zq_I) {N T Y : Nat} (hs : zS fo N T Y I) (y : Int32) : zq_Met G mX8_missed 3 0 0 [.ref 119, .int y] 138 I (zPs fo) (zq_pu (some (.int (zor (fun i => zMs (zV I) N i y) (fun _ => true) N))) 138 I (zPs fo)) := by
  refine zq_Met.of okX8_missed (Nat.le_of_ble_eq_true rfl) ?_
  show zq_E _ _ _ _ _ _ _ [some (.ref 119), some (.int y), none, none] _ _ _ _ _
  have hN8 := hs.n8
  have hN := hs.mppl
  have lp4 : ∀ (k i : Nat) (b : Int32), N + 1 ≤ i + k → i ≤ N → b = zor (fun i => zMs (zV I) N i y) (fun _ => true) i → zq_E G mX8_missed 3 0 0 false 4 [some (.ref 119), some (.int y), some (.int b), some (.int (nI i))] [] 138 I (zPs fo) (zq_pu (some (.int (zor (fun i => zMs (zV I) N i y) (fun _ => true) N))) 138 I (zPs fo)) := by
    intro k
    induction k with
    | zero => intro i b hk hi; exact absurd hk (by omega)
    | succ k ih =>
      intro i b hk hi hb
      refine ev_iload_n (q := 5) dX8_missed_4 rfl rfl ?_
      refine ev_aload_n (q := 6) dX8_missed_5 rfl rfl ?_
      refine ev_getI (q := 9) (ci := 8) (f := 6) dX8_missed_6 rfl (by first | rfl | assumption | exact zf_kd (by assumption) | exact zw_kd (by assumption) | exact zt_kd (by assumption)) (by first | decide | exact zf_lt (by assumption) | exact zf_lt1 (by assumption) | exact zf_lt2 (by assumption) | exact zf_lt3 (by assumption) | exact zf_lt4 (by assumption) | exact zw_lt (by assumption) | exact zw_lt1 (by assumption) | exact zw_lt2 (by assumption) | exact zw_lt3 (by assumption) | exact zw_lt4 (by assumption) | exact zt_lt (by assumption)) (by decide) (by decide) lfRX8_72 rfl ?_
      refine ev_icmp_ge (q := 12) (t := 27) dX8_missed_9 rfl (by decide) (fun h9 => ?_) (fun h9 => ?_)
      · obtain rfl : i = N := by rw [hN, nI_leI (by omega) (by omega)] at h9; omega
        refine ev_iload_n (q := 28) dX8_missed_27 rfl rfl ?_
        exact ev_iret dX8_missed_28 rfl (by first | rfl | exact zb_nar _ | assumption) (⟨by subst hb; rfl, rfl, rfl, rfl⟩)
      · have hlt_i : i < N := by rw [hN, nI_leI (by omega) (by omega)] at h9; omega
        refine ev_iload_n (q := 13) dX8_missed_12 rfl rfl ?_
        refine ev_aload_n (q := 14) dX8_missed_13 rfl rfl ?_
        refine ev_iload_n (q := 15) dX8_missed_14 rfl rfl ?_
        refine ev_iload_n (q := 16) dX8_missed_15 rfl rfl ?_
        refine ev_pV (q := 19) (ci := 8) dX8_missed_16 rfl okX8_misses lmRX8_154 imX8_misses seX8_misses (by first | rfl | assumption | exact zf_kd (by assumption) | exact zw_kd (by assumption) | exact zt_kd (by assumption)) (by first | decide | exact zf_lt (by assumption) | exact zf_lt1 (by assumption) | exact zf_lt2 (by assumption) | exact zf_lt3 (by assumption) | exact zf_lt4 (by assumption) | exact zw_lt (by assumption) | exact zw_lt1 (by assumption) | exact zw_lt2 (by assumption) | exact zw_lt3 (by assumption) | exact zw_lt4 (by assumption) | exact zt_lt (by assumption)) (by decide) rfl (c_X8_misses G fo I hs hlt_i _) (by decide) rfl rfl (Nat.le_of_ble_eq_true rfl) ?_
        refine ev_ior (q := 20) dX8_missed_19 rfl ?_
        refine ev_istore_nL (q := 21) (L9 := [_, _, _, _]) dX8_missed_20 rfl (by decide) rfl rfl ?_
        refine ev_iincL (q := 24) (L9 := [_, _, _, _]) (1 : Int32) dX8_missed_21 rfl rfl (by decide) (by decide) rfl rfl ?_
        refine ev_goto (t := 4) dX8_missed_24 (by decide) ?_
        rw [nI_1]
        exact ih (i + 1) _ (by omega) (by omega) (by exact zor_s hb rfl)
  refine ev_iconst (q := 1) (0 : Int32) dX8_missed_0 rfl (by decide) ?_
  refine ev_istore_nL (q := 2) (L9 := [_, _, _, _]) dX8_missed_1 rfl (by decide) rfl rfl ?_
  refine ev_iconst (q := 3) (0 : Int32) dX8_missed_2 rfl (by decide) ?_
  refine ev_istore_nL (q := 4) (L9 := [_, _, _, _]) dX8_missed_3 rfl (by decide) rfl rfl ?_
  exact lp4 (N + 1) 0 0 (by omega) (by omega) rfl
theorem zMs_mask {fo : Bool} {N T Y : Nat} {I : zq_I} (h : zS fo N T Y I) (i : Nat) (y : Int32) : ∃ a, a < 2 ^ 8 ∧ zMs (zV I) N i y = nI a := by
  obtain ⟨m, h1, -, h2, -⟩ := zbits_mask (fun j => zhas (vA (zV I) i) j && (vH (zV I) i == vH (zV I) j) && zTh (zV I) i && zMi (zV I) j y && zRe (zV I) i j y) h.n8
  exact ⟨m, h1, h2⟩
set_option maxHeartbeats 4000000 in
set_option maxRecDepth 100000 in
theorem c_X8_count (G : zq_G) (fo : Bool) (I : zq_I) {N T Y : Nat} (hs : zS fo N T Y I) (x u : Int32) : zq_Met G mX8_count 4 0 0 [.ref 119, .int x, .int u] 138 I (zPs fo) (zq_pu (some (.int (zCnt (I 119 4) (zV I) N (fun i => zMs (zV I) N i (I 119 15)) (fun i => (vH (zV I) i == x) && !(zhas u i))))) 138 I (zPs fo)) := by
  refine zq_Met.of okX8_count (Nat.le_of_ble_eq_true rfl) ?_
  show zq_E _ _ _ _ _ _ _ [some (.ref 119), some (.int x), some (.int u), none, none, none] _ _ _ _ _
  have hN8 := hs.n8
  have hN := hs.mppl
  have lp8 : ∀ (k i : Nat) (b e : Int32), N + 1 ≤ i + k → i ≤ N → b = zsum (fun i => zpop ((fun i => zMs (zV I) N i (I 119 15)) i)) (fun i => (vH (zV I) i == x) && !(zhas u i)) i → e = zor (fun i => zMs (zV I) N i (I 119 15)) (fun i => (vH (zV I) i == x) && !(zhas u i)) i → zq_E G mX8_count 4 0 0 false 8 [some (.ref 119), some (.int x), some (.int u), some (.int b), some (.int e), some (.int (nI i))] [] 138 I (zPs fo) (zq_pu (some (.int (zCnt (I 119 4) (zV I) N (fun i => zMs (zV I) N i (I 119 15)) (fun i => (vH (zV I) i == x) && !(zhas u i))))) 138 I (zPs fo)) := by
    intro k
    induction k with
    | zero => intro i b e hk hi; exact absurd hk (by omega)
    | succ k ih =>
      intro i b e hk hi h0 h1
      refine ev_iload (q := 10) dX8_count_8 rfl rfl ?_
      refine ev_aload_n (q := 11) dX8_count_10 rfl rfl ?_
      refine ev_getI (q := 14) (ci := 8) (f := 6) dX8_count_11 rfl (by first | rfl | assumption | exact zf_kd (by assumption) | exact zw_kd (by assumption) | exact zt_kd (by assumption)) (by first | decide | exact zf_lt (by assumption) | exact zf_lt1 (by assumption) | exact zf_lt2 (by assumption) | exact zf_lt3 (by assumption) | exact zf_lt4 (by assumption) | exact zw_lt (by assumption) | exact zw_lt1 (by assumption) | exact zw_lt2 (by assumption) | exact zw_lt3 (by assumption) | exact zw_lt4 (by assumption) | exact zt_lt (by assumption)) (by decide) (by decide) lfRX8_72 rfl ?_
      refine ev_icmp_ge (q := 17) (t := 74) dX8_count_14 rfl (by decide) (fun h14 => ?_) (fun h14 => ?_)
      · obtain rfl : i = N := by rw [hN, nI_leI (by omega) (by omega)] at h14; omega
        obtain ⟨a, ha, ea⟩ : ∃ a, a < 2 ^ 8 ∧ e = nI a := by rw [h1]; exact zor_mask (fun i _ => zMs_mask hs i _)
        subst ea
        refine ev_aload_n (q := 75) dX8_count_74 rfl rfl ?_
        refine ev_iload_n (q := 76) dX8_count_75 rfl rfl ?_
        refine ev_iload (q := 78) dX8_count_76 rfl rfl ?_
        refine ev_pV (q := 81) (ci := 8) dX8_count_78 rfl okX8_counted lmRX8_158 imX8_counted seX8_counted (by first | rfl | assumption | exact zf_kd (by assumption) | exact zw_kd (by assumption) | exact zt_kd (by assumption)) (by first | decide | exact zf_lt (by assumption) | exact zf_lt1 (by assumption) | exact zf_lt2 (by assumption) | exact zf_lt3 (by assumption) | exact zf_lt4 (by assumption) | exact zw_lt (by assumption) | exact zw_lt1 (by assumption) | exact zw_lt2 (by assumption) | exact zw_lt3 (by assumption) | exact zw_lt4 (by assumption) | exact zt_lt (by assumption)) (by decide) rfl (c_X8_counted G fo I hs _ ha) (by decide) rfl rfl (Nat.le_of_ble_eq_true rfl) ?_
        exact ev_iret dX8_count_81 rfl (by first | rfl | exact zb_nar _ | assumption) (⟨by unfold zCnt; rw [← h0, ← h1], rfl, rfl, rfl⟩)
      · have hlt_i : i < N := by rw [hN, nI_leI (by omega) (by omega)] at h14; omega
        refine ev_aload_n (q := 18) dX8_count_17 rfl rfl ?_
        refine ev_getR (q := 21) (ci := 8) (f := 7) dX8_count_18 rfl (by first | rfl | assumption | exact zf_kd (by assumption) | exact zw_kd (by assumption) | exact zt_kd (by assumption)) (by first | decide | exact zf_lt (by assumption) | exact zf_lt1 (by assumption) | exact zf_lt2 (by assumption) | exact zf_lt3 (by assumption) | exact zf_lt4 (by assumption) | exact zw_lt (by assumption) | exact zw_lt1 (by assumption) | exact zw_lt2 (by assumption) | exact zw_lt3 (by assumption) | exact zw_lt4 (by assumption) | exact zt_lt (by assumption)) (by decide) (by decide) lfRX8_17 rfl (by first | rfl | assumption | exact zf_p4 _ (by assumption) | exact zf_p5 _ (by assumption) | exact zf_p6 _ (by assumption) | exact zf_p7 _ (by assumption) | exact zw_p1 _ (by assumption) | exact zw_p2 _ (by assumption) | exact zw_p3 _ (by assumption) | exact zw_p4 _ (by assumption)) ?_
        refine ev_iload (q := 23) dX8_count_21 rfl rfl ?_
        refine ev_ialdN (q := 24) dX8_count_23 rfl (by first | rfl | assumption | exact zf_kd1 (by assumption) | exact zf_kd2 (by assumption) | exact zf_kd3 (by assumption) | exact zf_kd4 (by assumption) | exact zw_kd1 (by assumption) | exact zw_kd2 (by assumption) | exact zw_kd3 (by assumption) | exact zw_kd4 (by assumption)) (by first | decide | exact zf_lt (by assumption) | exact zf_lt1 (by assumption) | exact zf_lt2 (by assumption) | exact zf_lt3 (by assumption) | exact zf_lt4 (by assumption) | exact zw_lt (by assumption) | exact zw_lt1 (by assumption) | exact zw_lt2 (by assumption) | exact zw_lt3 (by assumption) | exact zw_lt4 (by assumption) | exact zt_lt (by assumption)) (by first | omega | assumption) ?_
        refine ev_iload_n (q := 25) dX8_count_24 rfl rfl ?_
        refine ev_icmp_ne (q := 28) (t := 68) dX8_count_25 rfl (by decide) (fun h25 => ?_) (fun h25 => ?_)
        · have q25 : (vH (zV I) i == x) = false := by show (I 121 i == x) = false; simpa using h25
          refine ev_iincL (q := 71) (L9 := [_, _, _, _, _, _]) (1 : Int32) dX8_count_68 rfl rfl (by decide) (by decide) rfl rfl ?_
          refine ev_goto (t := 8) dX8_count_71 (by decide) ?_
          rw [nI_1]
          exact ih (i + 1) _ _ (by omega) (by omega) (zsum_n h0 (by simp [q25])) (zor_n h1 (by simp [q25]))
        · have q25 : (vH (zV I) i == x) = true := by show (I 121 i == x) = true; simpa using h25
          refine ev_iload_n (q := 29) dX8_count_28 rfl rfl ?_
          refine ev_iload (q := 31) dX8_count_29 rfl rfl ?_
          refine ev_pS (q := 34) dX8_count_31 rfl okX8_has lmRX8_101 smX8_has (c_X8_has G _ _ _ _ _) (by decide) rfl rfl (Nat.le_of_ble_eq_true rfl) ?_
          refine ev_if_ne (q := 37) (t := 68) dX8_count_34 rfl (by decide) (fun h34 => ?_) (fun h34 => ?_)
          · have q34 := zb_ne h34
            refine ev_iincL (q := 71) (L9 := [_, _, _, _, _, _]) (1 : Int32) dX8_count_68 rfl rfl (by decide) (by decide) rfl rfl ?_
            refine ev_goto (t := 8) dX8_count_71 (by decide) ?_
            rw [nI_1]
            exact ih (i + 1) _ _ (by omega) (by omega) (zsum_n h0 (by simp [q25, q34])) (zor_n h1 (by simp [q25, q34]))
          · have q34 := zb_eq h34
            refine ev_iload_n (q := 38) dX8_count_37 rfl rfl ?_
            refine ev_aload_n (q := 39) dX8_count_38 rfl rfl ?_
            refine ev_iload (q := 41) dX8_count_39 rfl rfl ?_
            refine ev_aload_n (q := 42) dX8_count_41 rfl rfl ?_
            refine ev_getI (q := 45) (ci := 8) (f := 15) dX8_count_42 rfl (by first | rfl | assumption | exact zf_kd (by assumption) | exact zw_kd (by assumption) | exact zt_kd (by assumption)) (by first | decide | exact zf_lt (by assumption) | exact zf_lt1 (by assumption) | exact zf_lt2 (by assumption) | exact zf_lt3 (by assumption) | exact zf_lt4 (by assumption) | exact zw_lt (by assumption) | exact zw_lt1 (by assumption) | exact zw_lt2 (by assumption) | exact zw_lt3 (by assumption) | exact zw_lt4 (by assumption) | exact zt_lt (by assumption)) (by decide) (by decide) lfRX8_131 rfl ?_
            refine ev_pV (q := 48) (ci := 8) dX8_count_45 rfl okX8_misses lmRX8_154 imX8_misses seX8_misses (by first | rfl | assumption | exact zf_kd (by assumption) | exact zw_kd (by assumption) | exact zt_kd (by assumption)) (by first | decide | exact zf_lt (by assumption) | exact zf_lt1 (by assumption) | exact zf_lt2 (by assumption) | exact zf_lt3 (by assumption) | exact zf_lt4 (by assumption) | exact zw_lt (by assumption) | exact zw_lt1 (by assumption) | exact zw_lt2 (by assumption) | exact zw_lt3 (by assumption) | exact zw_lt4 (by assumption) | exact zt_lt (by assumption)) (by decide) rfl (c_X8_misses G fo I hs hlt_i _) (by decide) rfl rfl (Nat.le_of_ble_eq_true rfl) ?_
            refine ev_pS (q := 51) dX8_count_48 rfl okX8_many lmRX8_151 smX8_many (c_X8_many G _ _ _ _) (by decide) rfl rfl (Nat.le_of_ble_eq_true rfl) ?_
            obtain ⟨a9, ha9, ea9⟩ := zMs_mask hs i (I 119 15)
            rw [ea9, zmany_pop a9 (by omega), ← ea9]
            refine ev_iadd (q := 52) dX8_count_51 rfl ?_
            refine ev_istore_nL (q := 53) (L9 := [_, _, _, _, _, _]) dX8_count_52 rfl (by decide) rfl rfl ?_
            refine ev_iload (q := 55) dX8_count_53 rfl rfl ?_
            refine ev_aload_n (q := 56) dX8_count_55 rfl rfl ?_
            refine ev_iload (q := 58) dX8_count_56 rfl rfl ?_
            refine ev_aload_n (q := 59) dX8_count_58 rfl rfl ?_
            refine ev_getI (q := 62) (ci := 8) (f := 15) dX8_count_59 rfl (by first | rfl | assumption | exact zf_kd (by assumption) | exact zw_kd (by assumption) | exact zt_kd (by assumption)) (by first | decide | exact zf_lt (by assumption) | exact zf_lt1 (by assumption) | exact zf_lt2 (by assumption) | exact zf_lt3 (by assumption) | exact zf_lt4 (by assumption) | exact zw_lt (by assumption) | exact zw_lt1 (by assumption) | exact zw_lt2 (by assumption) | exact zw_lt3 (by assumption) | exact zw_lt4 (by assumption) | exact zt_lt (by assumption)) (by decide) (by decide) lfRX8_131 rfl ?_
            refine ev_pV (q := 65) (ci := 8) dX8_count_62 rfl okX8_misses lmRX8_154 imX8_misses seX8_misses (by first | rfl | assumption | exact zf_kd (by assumption) | exact zw_kd (by assumption) | exact zt_kd (by assumption)) (by first | decide | exact zf_lt (by assumption) | exact zf_lt1 (by assumption) | exact zf_lt2 (by assumption) | exact zf_lt3 (by assumption) | exact zf_lt4 (by assumption) | exact zw_lt (by assumption) | exact zw_lt1 (by assumption) | exact zw_lt2 (by assumption) | exact zw_lt3 (by assumption) | exact zw_lt4 (by assumption) | exact zt_lt (by assumption)) (by decide) rfl (c_X8_misses G fo I hs hlt_i _) (by decide) rfl rfl (Nat.le_of_ble_eq_true rfl) ?_
            refine ev_ior (q := 66) dX8_count_65 rfl ?_
            refine ev_istoreL (q := 68) (L9 := [_, _, _, _, _, _]) dX8_count_66 rfl (by decide) rfl rfl ?_
            refine ev_iincL (q := 71) (L9 := [_, _, _, _, _, _]) (1 : Int32) dX8_count_68 rfl rfl (by decide) (by decide) rfl rfl ?_
            refine ev_goto (t := 8) dX8_count_71 (by decide) ?_
            rw [nI_1]
            exact ih (i + 1) _ _ (by omega) (by omega) (zsum_s h0 (by simp [q25, q34])) (zor_s h1 (by simp [q25, q34]))
  refine ev_iconst (q := 1) (0 : Int32) dX8_count_0 rfl (by decide) ?_
  refine ev_istore_nL (q := 2) (L9 := [_, _, _, _, _, _]) dX8_count_1 rfl (by decide) rfl rfl ?_
  refine ev_iconst (q := 3) (0 : Int32) dX8_count_2 rfl (by decide) ?_
  refine ev_istoreL (q := 5) (L9 := [_, _, _, _, _, _]) dX8_count_3 rfl (by decide) rfl rfl ?_
  refine ev_iconst (q := 6) (0 : Int32) dX8_count_5 rfl (by decide) ?_
  refine ev_istoreL (q := 8) (L9 := [_, _, _, _, _, _]) dX8_count_6 rfl (by decide) rfl rfl ?_
  exact lp8 (N + 1) 0 0 0 (by omega) (by omega) rfl rfl
