set_option maxHeartbeats 4000000 in
set_option maxRecDepth 100000 in
theorem c_J6_bitCount_0f7a4 (G : zq_G) (n : Nat) (I : zq_I) (P : zq_P) (x : Int32) : zq_Met G mJ6_bitCount_0f7a4 0 0 0 [.int x] n I P (zq_pu (some (.int (zpop x))) n I P) := by
  refine zq_Met.of okJ6_bitCount_0f7a4 (Nat.le_of_ble_eq_true rfl) ?_
  refine ev_iload_n (q := 1) dJ6_bitCount_0f7a4_0 rfl rfl ?_
  refine ev_iload_n (q := 2) dJ6_bitCount_0f7a4_1 rfl rfl ?_
  refine ev_iconst (q := 3) (1 : Int32) dJ6_bitCount_0f7a4_2 rfl (by decide) ?_
  refine ev_iushr (q := 4) dJ6_bitCount_0f7a4_3 rfl ?_
  refine ev_ldcw (q := 7) dJ6_bitCount_0f7a4_4 rfl ctRJ6_265 ?_
  refine ev_iand (q := 8) dJ6_bitCount_0f7a4_7 rfl ?_
  refine ev_isub (q := 9) dJ6_bitCount_0f7a4_8 rfl ?_
  refine ev_istore_n (q := 10) dJ6_bitCount_0f7a4_9 rfl (by decide) ?_
  refine ev_iload_n (q := 11) dJ6_bitCount_0f7a4_10 rfl rfl ?_
  refine ev_ldcw (q := 14) dJ6_bitCount_0f7a4_11 rfl ctRJ6_266 ?_
  refine ev_iand (q := 15) dJ6_bitCount_0f7a4_14 rfl ?_
  refine ev_iload_n (q := 16) dJ6_bitCount_0f7a4_15 rfl rfl ?_
  refine ev_iconst (q := 17) (2 : Int32) dJ6_bitCount_0f7a4_16 rfl (by decide) ?_
  refine ev_iushr (q := 18) dJ6_bitCount_0f7a4_17 rfl ?_
  refine ev_ldcw (q := 21) dJ6_bitCount_0f7a4_18 rfl ctRJ6_266 ?_
  refine ev_iand (q := 22) dJ6_bitCount_0f7a4_21 rfl ?_
  refine ev_iadd (q := 23) dJ6_bitCount_0f7a4_22 rfl ?_
  refine ev_istore_n (q := 24) dJ6_bitCount_0f7a4_23 rfl (by decide) ?_
  refine ev_iload_n (q := 25) dJ6_bitCount_0f7a4_24 rfl rfl ?_
  refine ev_iload_n (q := 26) dJ6_bitCount_0f7a4_25 rfl rfl ?_
  refine ev_iconst (q := 27) (4 : Int32) dJ6_bitCount_0f7a4_26 rfl (by decide) ?_
  refine ev_iushr (q := 28) dJ6_bitCount_0f7a4_27 rfl ?_
  refine ev_iadd (q := 29) dJ6_bitCount_0f7a4_28 rfl ?_
  refine ev_ldcw (q := 32) dJ6_bitCount_0f7a4_29 rfl ctRJ6_267 ?_
  refine ev_iand (q := 33) dJ6_bitCount_0f7a4_32 rfl ?_
  refine ev_istore_n (q := 34) dJ6_bitCount_0f7a4_33 rfl (by decide) ?_
  refine ev_iload_n (q := 35) dJ6_bitCount_0f7a4_34 rfl rfl ?_
  refine ev_iload_n (q := 36) dJ6_bitCount_0f7a4_35 rfl rfl ?_
  refine ev_bipush (q := 38) (8 : Int32) dJ6_bitCount_0f7a4_36 rfl (by decide) ?_
  refine ev_iushr (q := 39) dJ6_bitCount_0f7a4_38 rfl ?_
  refine ev_iadd (q := 40) dJ6_bitCount_0f7a4_39 rfl ?_
  refine ev_istore_n (q := 41) dJ6_bitCount_0f7a4_40 rfl (by decide) ?_
  refine ev_iload_n (q := 42) dJ6_bitCount_0f7a4_41 rfl rfl ?_
  refine ev_iload_n (q := 43) dJ6_bitCount_0f7a4_42 rfl rfl ?_
  refine ev_bipush (q := 45) (16 : Int32) dJ6_bitCount_0f7a4_43 rfl (by decide) ?_
  refine ev_iushr (q := 46) dJ6_bitCount_0f7a4_45 rfl ?_
  refine ev_iadd (q := 47) dJ6_bitCount_0f7a4_46 rfl ?_
  refine ev_istore_n (q := 48) dJ6_bitCount_0f7a4_47 rfl (by decide) ?_
  refine ev_iload_n (q := 49) dJ6_bitCount_0f7a4_48 rfl rfl ?_
  refine ev_bipush (q := 51) (63 : Int32) dJ6_bitCount_0f7a4_49 rfl (by decide) ?_
  refine ev_iand (q := 52) dJ6_bitCount_0f7a4_51 rfl ?_
  exact ev_iret dJ6_bitCount_0f7a4_52 rfl (by first | rfl | exact zb_nar _ | assumption) (⟨rfl, rfl, rfl, rfl⟩)
set_option maxHeartbeats 4000000 in
set_option maxRecDepth 100000 in
theorem c_X7_has (G : zq_G) (n : Nat) (I : zq_I) (P : zq_P) (x : Int32) (k : Nat) : zq_Met G mX7_has 0 0 0 [.int x, .int (nI k)] n I P (zq_pu (some (.int (zb (zhas x k)))) n I P) := by
  refine zq_Met.of okX7_has (Nat.le_of_ble_eq_true rfl) ?_
  refine ev_iload_n (q := 1) dX7_has_0 rfl rfl ?_
  refine ev_iload_n (q := 2) dX7_has_1 rfl rfl ?_
  refine ev_ishr (q := 3) dX7_has_2 rfl ?_
  refine ev_iconst (q := 4) (1 : Int32) dX7_has_3 rfl (by decide) ?_
  refine ev_iand (q := 5) dX7_has_4 rfl ?_
  refine ev_if_eq (q := 8) (t := 12) dX7_has_5 rfl (by decide) (fun h5 => ?_) (fun h5 => ?_)
  · refine ev_iconst (q := 13) (0 : Int32) dX7_has_12 rfl (by decide) ?_
    exact ev_iret dX7_has_13 rfl (by first | rfl | exact zb_nar _ | assumption) (⟨by simp [zhas, zb, h5], rfl, rfl, rfl⟩)
  · refine ev_iconst (q := 9) (1 : Int32) dX7_has_8 rfl (by decide) ?_
    refine ev_goto (t := 13) dX7_has_9 (by decide) ?_
    exact ev_iret dX7_has_13 rfl (by first | rfl | exact zb_nar _ | assumption) (⟨by simp [zhas, zb, h5], rfl, rfl, rfl⟩)
set_option maxHeartbeats 4000000 in
set_option maxRecDepth 100000 in
theorem c_X7_nextPart (G : zq_G) (n : Nat) (I : zq_I) (P : zq_P) (x y : Int32) : zq_Met G mX7_nextPart 0 0 0 [.int x, .int y] n I P (zq_pu (some (.int ((x - y) &&& y))) n I P) := by
  refine zq_Met.of okX7_nextPart (Nat.le_of_ble_eq_true rfl) ?_
  refine ev_iload_n (q := 1) dX7_nextPart_0 rfl rfl ?_
  refine ev_iload_n (q := 2) dX7_nextPart_1 rfl rfl ?_
  refine ev_isub (q := 3) dX7_nextPart_2 rfl ?_
  refine ev_iload_n (q := 4) dX7_nextPart_3 rfl rfl ?_
  refine ev_iand (q := 5) dX7_nextPart_4 rfl ?_
  exact ev_iret dX7_nextPart_5 rfl (by first | rfl | exact zb_nar _ | assumption) (⟨rfl, rfl, rfl, rfl⟩)
set_option maxHeartbeats 4000000 in
set_option maxRecDepth 100000 in
theorem c_X0_hasTown (G : zq_G) (fo : Bool) (I : zq_I) {f : Nat} (hf : zq_isF f) (x : Int32) : zq_Met G mX0_hasTown 0 0 0 [.ref f, .int x] 138 I (zPs fo) (zq_pu (some (.int (zb (zin x (I f 1))))) 138 I (zPs fo)) := by
  refine zq_Met.of okX0_hasTown (Nat.le_of_ble_eq_true rfl) ?_
  refine ev_iload_n (q := 1) dX0_hasTown_0 rfl rfl ?_
  refine ev_if_lt (q := 4) (t := 16) dX0_hasTown_1 rfl (by decide) (fun h1 => ?_) (fun h1 => ?_)
  · refine ev_iconst (q := 17) (0 : Int32) dX0_hasTown_16 rfl (by decide) ?_
    exact ev_iret dX0_hasTown_17 rfl (by first | rfl | exact zb_nar _ | assumption) (⟨by simp [zin, zb, h1], rfl, rfl, rfl⟩)
  · refine ev_iload_n (q := 5) dX0_hasTown_4 rfl rfl ?_
    refine ev_aload_n (q := 6) dX0_hasTown_5 rfl rfl ?_
    refine ev_getI (q := 9) (ci := 0) (f := 1) dX0_hasTown_6 rfl (by first | rfl | assumption | exact zf_kd (by assumption) | exact zw_kd (by assumption) | exact zt_kd (by assumption)) (by first | decide | exact zf_lt (by assumption) | exact zf_lt1 (by assumption) | exact zf_lt2 (by assumption) | exact zf_lt3 (by assumption) | exact zf_lt4 (by assumption) | exact zw_lt (by assumption) | exact zw_lt1 (by assumption) | exact zw_lt2 (by assumption) | exact zw_lt3 (by assumption) | exact zw_lt4 (by assumption) | exact zt_lt (by assumption)) (by decide) (by decide) lfRX0_9 rfl ?_
    refine ev_icmp_ge (q := 12) (t := 16) dX0_hasTown_9 rfl (by decide) (fun h9 => ?_) (fun h9 => ?_)
    · refine ev_iconst (q := 17) (0 : Int32) dX0_hasTown_16 rfl (by decide) ?_
      exact ev_iret dX0_hasTown_17 rfl (by first | rfl | exact zb_nar _ | assumption) (⟨by simp [zin, zb, h1, h9], rfl, rfl, rfl⟩)
    · refine ev_iconst (q := 13) (1 : Int32) dX0_hasTown_12 rfl (by decide) ?_
      refine ev_goto (t := 17) dX0_hasTown_13 (by decide) ?_
      exact ev_iret dX0_hasTown_17 rfl (by first | rfl | exact zb_nar _ | assumption) (⟨by simp [zin, zb, h1, h9], rfl, rfl, rfl⟩)
set_option maxHeartbeats 4000000 in
set_option maxRecDepth 100000 in
theorem c_X0_hasPerson (G : zq_G) (fo : Bool) (I : zq_I) {f : Nat} (hf : zq_isF f) (x : Int32) : zq_Met G mX0_hasPerson 0 0 0 [.ref f, .int x] 138 I (zPs fo) (zq_pu (some (.int (zb (zin x (I f 2))))) 138 I (zPs fo)) := by
  refine zq_Met.of okX0_hasPerson (Nat.le_of_ble_eq_true rfl) ?_
  refine ev_iload_n (q := 1) dX0_hasPerson_0 rfl rfl ?_
  refine ev_if_lt (q := 4) (t := 16) dX0_hasPerson_1 rfl (by decide) (fun h1 => ?_) (fun h1 => ?_)
  · refine ev_iconst (q := 17) (0 : Int32) dX0_hasPerson_16 rfl (by decide) ?_
    exact ev_iret dX0_hasPerson_17 rfl (by first | rfl | exact zb_nar _ | assumption) (⟨by simp [zin, zb, h1], rfl, rfl, rfl⟩)
  · refine ev_iload_n (q := 5) dX0_hasPerson_4 rfl rfl ?_
    refine ev_aload_n (q := 6) dX0_hasPerson_5 rfl rfl ?_
    refine ev_getI (q := 9) (ci := 0) (f := 2) dX0_hasPerson_6 rfl (by first | rfl | assumption | exact zf_kd (by assumption) | exact zw_kd (by assumption) | exact zt_kd (by assumption)) (by first | decide | exact zf_lt (by assumption) | exact zf_lt1 (by assumption) | exact zf_lt2 (by assumption) | exact zf_lt3 (by assumption) | exact zf_lt4 (by assumption) | exact zw_lt (by assumption) | exact zw_lt1 (by assumption) | exact zw_lt2 (by assumption) | exact zw_lt3 (by assumption) | exact zw_lt4 (by assumption) | exact zt_lt (by assumption)) (by decide) (by decide) lfRX0_31 rfl ?_
    refine ev_icmp_ge (q := 12) (t := 16) dX0_hasPerson_9 rfl (by decide) (fun h9 => ?_) (fun h9 => ?_)
    · refine ev_iconst (q := 17) (0 : Int32) dX0_hasPerson_16 rfl (by decide) ?_
      exact ev_iret dX0_hasPerson_17 rfl (by first | rfl | exact zb_nar _ | assumption) (⟨by simp [zin, zb, h1, h9], rfl, rfl, rfl⟩)
    · refine ev_iconst (q := 13) (1 : Int32) dX0_hasPerson_12 rfl (by decide) ?_
      refine ev_goto (t := 17) dX0_hasPerson_13 (by decide) ?_
      exact ev_iret dX0_hasPerson_17 rfl (by first | rfl | exact zb_nar _ | assumption) (⟨by simp [zin, zb, h1, h9], rfl, rfl, rfl⟩)
set_option maxHeartbeats 4000000 in
set_option maxRecDepth 100000 in
theorem c_X0_ofHome (G : zq_G) (fo : Bool) (I : zq_I) {f N : Nat} (hf : zq_isF f) (hN8 : N ≤ 8) (hN : I f 2 = nI N) (x : Int32) : zq_Met G mX0_ofHome 0 0 0 [.ref f, .int x] 138 I (zPs fo) (zq_pu (some (.int (zbits (fun j => I (f + 1) j == x) N))) 138 I (zPs fo)) := by
  refine zq_Met.of okX0_ofHome (Nat.le_of_ble_eq_true rfl) ?_
  have lp4 : ∀ (k i : Nat) (b : Int32), N + 1 ≤ i + k → i ≤ N → b = zbits (fun j => I (f + 1) j == x) i → zq_E G mX0_ofHome 0 0 0 false 4 [some (.ref f), some (.int x), some (.int b), some (.int (nI i))] [] 138 I (zPs fo) (zq_pu (some (.int (zbits (fun j => I (f + 1) j == x) N))) 138 I (zPs fo)) := by
    intro k
    induction k with
    | zero => intro i b hk hi; exact absurd hk (by omega)
    | succ k ih =>
      intro i b hk hi hb
      refine ev_iload_n (q := 5) dX0_ofHome_4 rfl rfl ?_
      refine ev_aload_n (q := 6) dX0_ofHome_5 rfl rfl ?_
      refine ev_getI (q := 9) (ci := 0) (f := 2) dX0_ofHome_6 rfl (by first | rfl | assumption | exact zf_kd (by assumption) | exact zw_kd (by assumption) | exact zt_kd (by assumption)) (by first | decide | exact zf_lt (by assumption) | exact zf_lt1 (by assumption) | exact zf_lt2 (by assumption) | exact zf_lt3 (by assumption) | exact zf_lt4 (by assumption) | exact zw_lt (by assumption) | exact zw_lt1 (by assumption) | exact zw_lt2 (by assumption) | exact zw_lt3 (by assumption) | exact zw_lt4 (by assumption) | exact zt_lt (by assumption)) (by decide) (by decide) lfRX0_31 rfl ?_
      refine ev_icmp_ge (q := 12) (t := 34) dX0_ofHome_9 rfl (by decide) (fun h9 => ?_) (fun h9 => ?_)
      · obtain rfl : i = N := by rw [hN, nI_leI (by omega) (by omega)] at h9; omega
        refine ev_iload_n (q := 35) dX0_ofHome_34 rfl rfl ?_
        exact ev_iret dX0_ofHome_35 rfl (by first | rfl | exact zb_nar _ | assumption) (⟨by rw [hb], rfl, rfl, rfl⟩)
      · have hlt_i : i < N := by rw [hN, nI_leI (by omega) (by omega)] at h9; omega
        refine ev_aload_n (q := 13) dX0_ofHome_12 rfl rfl ?_
        refine ev_getR (q := 16) (ci := 0) (f := 4) dX0_ofHome_13 rfl (by first | rfl | assumption | exact zf_kd (by assumption) | exact zw_kd (by assumption) | exact zt_kd (by assumption)) (by first | decide | exact zf_lt (by assumption) | exact zf_lt1 (by assumption) | exact zf_lt2 (by assumption) | exact zf_lt3 (by assumption) | exact zf_lt4 (by assumption) | exact zw_lt (by assumption) | exact zw_lt1 (by assumption) | exact zw_lt2 (by assumption) | exact zw_lt3 (by assumption) | exact zw_lt4 (by assumption) | exact zt_lt (by assumption)) (by decide) (by decide) lfRX0_15 rfl (by first | rfl | assumption | exact zf_p4 _ (by assumption) | exact zf_p5 _ (by assumption) | exact zf_p6 _ (by assumption) | exact zf_p7 _ (by assumption) | exact zw_p1 _ (by assumption) | exact zw_p2 _ (by assumption) | exact zw_p3 _ (by assumption) | exact zw_p4 _ (by assumption)) ?_
        refine ev_iload_n (q := 17) dX0_ofHome_16 rfl rfl ?_
        refine ev_ialdN (q := 18) dX0_ofHome_17 rfl (by first | rfl | assumption | exact zf_kd1 (by assumption) | exact zf_kd2 (by assumption) | exact zf_kd3 (by assumption) | exact zf_kd4 (by assumption) | exact zw_kd1 (by assumption) | exact zw_kd2 (by assumption) | exact zw_kd3 (by assumption) | exact zw_kd4 (by assumption)) (by first | decide | exact zf_lt (by assumption) | exact zf_lt1 (by assumption) | exact zf_lt2 (by assumption) | exact zf_lt3 (by assumption) | exact zf_lt4 (by assumption) | exact zw_lt (by assumption) | exact zw_lt1 (by assumption) | exact zw_lt2 (by assumption) | exact zw_lt3 (by assumption) | exact zw_lt4 (by assumption) | exact zt_lt (by assumption)) (by first | omega | assumption) ?_
        refine ev_iload_n (q := 19) dX0_ofHome_18 rfl rfl ?_
        refine ev_icmp_ne (q := 22) (t := 28) dX0_ofHome_19 rfl (by decide) (fun h19 => ?_) (fun h19 => ?_)
        · refine ev_iinc (q := 31) (1 : Int32) dX0_ofHome_28 rfl rfl (by decide) (by decide) ?_
          refine ev_goto (t := 4) dX0_ofHome_31 (by decide) ?_
          rw [nI_1]
          exact ih (i + 1) _ (by omega) (by omega) (by simp [zbits, zsh, hb, h9, h19])
        · refine ev_iload_n (q := 23) dX0_ofHome_22 rfl rfl ?_
          refine ev_iconst (q := 24) (1 : Int32) dX0_ofHome_23 rfl (by decide) ?_
          refine ev_iload_n (q := 25) dX0_ofHome_24 rfl rfl ?_
          refine ev_ishl (q := 26) dX0_ofHome_25 rfl ?_
          refine ev_ior (q := 27) dX0_ofHome_26 rfl ?_
          refine ev_istore_n (q := 28) dX0_ofHome_27 rfl (by decide) ?_
          refine ev_iinc (q := 31) (1 : Int32) dX0_ofHome_28 rfl rfl (by decide) (by decide) ?_
          refine ev_goto (t := 4) dX0_ofHome_31 (by decide) ?_
          rw [nI_1]
          exact ih (i + 1) _ (by omega) (by omega) (by simp [zbits, zsh, hb, h9, h19])
  refine ev_iconst (q := 1) (0 : Int32) dX0_ofHome_0 rfl (by decide) ?_
  refine ev_istore_n (q := 2) dX0_ofHome_1 rfl (by decide) ?_
  refine ev_iconst (q := 3) (0 : Int32) dX0_ofHome_2 rfl (by decide) ?_
  refine ev_istore_n (q := 4) dX0_ofHome_3 rfl (by decide) ?_
  exact lp4 (N + 1) 0 0 (by omega) (by omega) rfl
