def zFs (I : zq_I) (N m : Nat) (mc : Int32) (b g : Nat) : Nat := if zpop (nI g) < zpop (nI b) then (if mc < zCM (I 119 4) (zV I) N (I 119 15) (nI m &&& (nI g ^^^ (-1))) then b else g) else b
theorem zFs_1 {I : zq_I} {N m : Nat} {mc : Int32} {b g : Nat} (h : ¬ zpop (nI g) < zpop (nI b)) : zFs I N m mc b g = b := by unfold zFs; rw [if_neg h]
theorem zFs_2 {I : zq_I} {N m : Nat} {mc : Int32} {b g : Nat} (h : zpop (nI g) < zpop (nI b)) (h2 : mc < zCM (I 119 4) (zV I) N (I 119 15) (nI m &&& (nI g ^^^ (-1)))) : zFs I N m mc b g = b := by unfold zFs; rw [if_pos h, if_pos h2]
theorem zFs_3 {I : zq_I} {N m : Nat} {mc : Int32} {b g : Nat} (h : zpop (nI g) < zpop (nI b)) (h2 : ¬ mc < zCM (I 119 4) (zV I) N (I 119 15) (nI m &&& (nI g ^^^ (-1)))) : zFs I N m mc b g = g := by unfold zFs; rw [if_pos h, if_neg h2]
noncomputable def zFew (I : zq_I) (N m : Nat) (mc : Int32) : Nat := (zsub m).foldl (zFs I N m mc) m
set_option maxHeartbeats 4000000 in
set_option maxRecDepth 100000 in
theorem c_X7_fewestToLeave (G : zq_G) (fo : Bool) (I : zq_I) {N T Y : Nat} (hs : zS fo N T Y I) {m : Nat} (hm : m < 256) (mc : Int32) : zq_Met G mX7_fewestToLeave 6 0 0 [.ref 0, .int (nI m), .int mc] 138 I (zPs fo) (zq_fr (some (.int (nI (zFew I N m mc)))) fo I) := by
  refine zq_Met.of okX7_fewestToLeave (Nat.le_of_ble_eq_true rfl) ?_
  show zq_E _ _ _ _ _ _ _ [some (.ref 0), some (.int (nI m)), some (.int mc), none, none, none, none] _ _ _ _ _
  have hN8 := hs.n8
  have hN := hs.ppl
  have hfF := zF_is fo
  have hd3 := (zsub_dec m hm).2.2
  have hlen := (zsub_dec m hm).2.1
  have hzat : ∀ k g, (zsub m)[k]? = some g → zpq (nI m) k = nI g := fun k g h => zsub_at hm h
  unfold zFew
  generalize zsub m = Z at hd3 hlen hzat ⊢
  obtain ⟨LN, hLN⟩ : ∃ n, n = Z.length := ⟨_, rfl⟩
  rw [← hLN] at hd3 hlen
  have lp20 : ∀ (k i : Nat) (I1 : zq_I) (bst aw : Int32), LN + 1 ≤ i + k → i ≤ LN → (∀ c, c ≠ 4 → c ≠ 108 → I1 c = I c) → (∀ j, j < N → I1 108 j = zMs (zV I) N j (I 119 15)) → bst = nI ((Z.take i).foldl (zFs I N m mc) m) → aw = zpq (nI m) i → zq_E G mX7_fewestToLeave 6 0 0 false 20 [some (.ref 0), some (.int (nI m)), some (.int mc), some (.int (nI LN)), some (.int bst), some (.int aw), some (.int (nI i))] [] 138 I1 (zPs fo) (zq_fr (some (.int (nI (Z.foldl (zFs I N m mc) m)))) fo I) := by
    intro k
    induction k with
    | zero => intro i I1 bst aw hk hi; exact absurd hk (by omega)
    | succ k ih =>
      intro i I1 bst aw hk hi hg0 hm1 h0 haw
      have hFC : zFC fo I I1 := fun c hc => hg0 c (fun e => by subst e; simp [zsc] at hc) (fun e => by subst e; simp [zsc] at hc)
      have hs1 := hFC.S hs
      have hV := hFC.V
      refine ev_iload (q := 22) dX7_fewestToLeave_20 rfl rfl ?_
      refine ev_iload_n (q := 23) dX7_fewestToLeave_22 rfl rfl ?_
      refine ev_icmp_ge (q := 26) (t := 71) dX7_fewestToLeave_23 rfl (by decide) (fun h23 => ?_) (fun h23 => ?_)
      · obtain rfl : i = LN := by rw [nI_leI (by omega) (by omega)] at h23; omega
        refine ev_iload (q := 73) dX7_fewestToLeave_71 rfl rfl ?_
        exact ev_iret dX7_fewestToLeave_73 rfl (by first | rfl | exact zb_nar _ | assumption) (⟨by rw [h0, hLN, List.take_length], rfl, rfl, fun c hc => hg0 c (fun e => by subst e; simp [zsc] at hc) (fun e => by subst e; simp [zsc] at hc)⟩)
      · have hlt_i : i < LN := by rw [nI_leI (by omega) (by omega)] at h23; omega
        obtain ⟨g, hg⟩ : ∃ g, Z[i]? = some g := ⟨_, List.getElem?_eq_getElem (by omega)⟩
        obtain rfl : aw = nI g := by rw [haw, hzat _ _ hg]
        subst h0
        refine ev_iload (q := 28) dX7_fewestToLeave_26 rfl rfl ?_
        refine ev_pS (q := 31) dX7_fewestToLeave_28 rfl okJ6_bitCount_0f7a4 lmRX7_197 smJ6_bitCount_0f7a4 (c_J6_bitCount_0f7a4 G _ _ _ _) (by decide) rfl rfl (Nat.le_of_ble_eq_true rfl) ?_
        refine ev_iload (q := 33) dX7_fewestToLeave_31 rfl rfl ?_
        refine ev_pS (q := 36) dX7_fewestToLeave_33 rfl okJ6_bitCount_0f7a4 lmRX7_197 smJ6_bitCount_0f7a4 (c_J6_bitCount_0f7a4 G _ _ _ _) (by decide) rfl rfl (Nat.le_of_ble_eq_true rfl) ?_
        refine ev_icmp_ge (q := 39) (t := 57) dX7_fewestToLeave_36 rfl (by decide) (fun h36 => ?_) (fun h36 => ?_)
        · refine ev_iload (q := 59) dX7_fewestToLeave_57 rfl rfl ?_
          refine ev_iload_n (q := 60) dX7_fewestToLeave_59 rfl rfl ?_
          refine ev_pS (q := 63) dX7_fewestToLeave_60 rfl okX7_nextPart lmRX7_213 smX7_nextPart (c_X7_nextPart G _ _ _ _ _) (by decide) rfl rfl (Nat.le_of_ble_eq_true rfl) ?_
          refine ev_istoreL (q := 65) (L9 := [_, _, _, _, _, _, _]) dX7_fewestToLeave_63 rfl (by decide) rfl rfl ?_
          refine ev_iincL (q := 68) (L9 := [_, _, _, _, _, _, _]) (1 : Int32) dX7_fewestToLeave_65 rfl rfl (by decide) (by decide) rfl rfl ?_
          refine ev_goto (t := 20) dX7_fewestToLeave_68 (by decide) ?_
          rw [nI_1]
          exact ih (i + 1) _ _ _ (by omega) (by omega) hg0 hm1 (by rw [zfold_s hg, zFs_1 (Int32.not_lt.mpr h36)]) (by show _ = (zpq (nI m) i - nI m) &&& nI m; rw [hzat _ _ hg])
        · refine ev_aload_n (q := 40) dX7_fewestToLeave_39 rfl rfl ?_
          refine ev_iload_n (q := 41) dX7_fewestToLeave_40 rfl rfl ?_
          refine ev_iload (q := 43) dX7_fewestToLeave_41 rfl rfl ?_
          refine ev_iconst (q := 44) ((-1) : Int32) dX7_fewestToLeave_43 rfl (by decide) ?_
          refine ev_ixor (q := 45) dX7_fewestToLeave_44 rfl ?_
          refine ev_iand (q := 46) dX7_fewestToLeave_45 rfl ?_
          refine ev_cV (q := 49) (ci := 7) dX7_fewestToLeave_46 rfl okX7_countMissedBy lmRX7_265 imX7_countMissedBy seX7_countMissedBy (by first | rfl | assumption | exact zf_kd (by assumption) | exact zw_kd (by assumption) | exact zt_kd (by assumption)) (by first | decide | exact zf_lt (by assumption) | exact zf_lt1 (by assumption) | exact zf_lt2 (by assumption) | exact zf_lt3 (by assumption) | exact zf_lt4 (by assumption) | exact zw_lt (by assumption) | exact zw_lt1 (by assumption) | exact zw_lt2 (by assumption) | exact zw_lt3 (by assumption) | exact zw_lt4 (by assumption) | exact zt_lt (by assumption)) (by decide) rfl (c_X7_countMissedBy G fo I1 hs1 _) (by decide) rfl rfl (Nat.le_of_ble_eq_true rfl) (fun v46 n46 I46 P46 hR46 => ?_)
          obtain ⟨rfl, rfl, rfl, hf2⟩ := hR46
          rw [hV, hg0 119 (by decide) (by decide), zCnt_congr (fun i hi => rfl) (fun i hi _ => hm1 i hi)]
          refine ev_iload_n (q := 50) dX7_fewestToLeave_49 rfl rfl ?_
          refine ev_icmp_gt (q := 53) (t := 57) dX7_fewestToLeave_50 rfl (by decide) (fun h50 => ?_) (fun h50 => ?_)
          · refine ev_iload (q := 59) dX7_fewestToLeave_57 rfl rfl ?_
            refine ev_iload_n (q := 60) dX7_fewestToLeave_59 rfl rfl ?_
            refine ev_pS (q := 63) dX7_fewestToLeave_60 rfl okX7_nextPart lmRX7_213 smX7_nextPart (c_X7_nextPart G _ _ _ _ _) (by decide) rfl rfl (Nat.le_of_ble_eq_true rfl) ?_
            refine ev_istoreL (q := 65) (L9 := [_, _, _, _, _, _, _]) dX7_fewestToLeave_63 rfl (by decide) rfl rfl ?_
            refine ev_iincL (q := 68) (L9 := [_, _, _, _, _, _, _]) (1 : Int32) dX7_fewestToLeave_65 rfl rfl (by decide) (by decide) rfl rfl ?_
            refine ev_goto (t := 20) dX7_fewestToLeave_68 (by decide) ?_
            rw [nI_1]
            exact ih (i + 1) _ _ _ (by omega) (by omega) (fun c h4 h8 => (hf2 c h4).trans (hg0 c h4 h8)) (fun j hj => by rw [hf2 108 (by decide)]; exact hm1 j hj) (by rw [zfold_s hg, zFs_2 (Int32.not_le.mp h36) h50]) (by show _ = (zpq (nI m) i - nI m) &&& nI m; rw [hzat _ _ hg])
          · refine ev_iload (q := 55) dX7_fewestToLeave_53 rfl rfl ?_
            refine ev_istoreL (q := 57) (L9 := [_, _, _, _, _, _, _]) dX7_fewestToLeave_55 rfl (by decide) rfl rfl ?_
            refine ev_iload (q := 59) dX7_fewestToLeave_57 rfl rfl ?_
            refine ev_iload_n (q := 60) dX7_fewestToLeave_59 rfl rfl ?_
            refine ev_pS (q := 63) dX7_fewestToLeave_60 rfl okX7_nextPart lmRX7_213 smX7_nextPart (c_X7_nextPart G _ _ _ _ _) (by decide) rfl rfl (Nat.le_of_ble_eq_true rfl) ?_
            refine ev_istoreL (q := 65) (L9 := [_, _, _, _, _, _, _]) dX7_fewestToLeave_63 rfl (by decide) rfl rfl ?_
            refine ev_iincL (q := 68) (L9 := [_, _, _, _, _, _, _]) (1 : Int32) dX7_fewestToLeave_65 rfl rfl (by decide) (by decide) rfl rfl ?_
            refine ev_goto (t := 20) dX7_fewestToLeave_68 (by decide) ?_
            rw [nI_1]
            exact ih (i + 1) _ _ _ (by omega) (by omega) (fun c h4 h8 => (hf2 c h4).trans (hg0 c h4 h8)) (fun j hj => by rw [hf2 108 (by decide)]; exact hm1 j hj) (by rw [zfold_s hg, zFs_3 (Int32.not_le.mp h36) h50]) (by show _ = (zpq (nI m) i - nI m) &&& nI m; rw [hzat _ _ hg])
  refine ev_aload_n (q := 1) dX7_fewestToLeave_0 rfl rfl ?_
  refine ev_cV (q := 4) (ci := 7) dX7_fewestToLeave_1 rfl okX7_fillMisses lmRX7_262 imX7_fillMisses seX7_fillMisses (by first | rfl | assumption | exact zf_kd (by assumption) | exact zw_kd (by assumption) | exact zt_kd (by assumption)) (by first | decide | exact zf_lt (by assumption) | exact zf_lt1 (by assumption) | exact zf_lt2 (by assumption) | exact zf_lt3 (by assumption) | exact zf_lt4 (by assumption) | exact zw_lt (by assumption) | exact zw_lt1 (by assumption) | exact zw_lt2 (by assumption) | exact zw_lt3 (by assumption) | exact zw_lt4 (by assumption) | exact zt_lt (by assumption)) (by decide) rfl (c_X7_fillMisses G fo I hs) (by decide) rfl rfl (Nat.le_of_ble_eq_true rfl) (fun v1 n1 I1 P1 hR1 => ?_)
  obtain ⟨rfl, rfl, rfl, hf0, hm0⟩ := hR1
  refine ev_iconst (q := 5) (1 : Int32) dX7_fewestToLeave_4 rfl (by decide) ?_
  refine ev_iload_n (q := 6) dX7_fewestToLeave_5 rfl rfl ?_
  refine ev_pS (q := 9) dX7_fewestToLeave_6 rfl okJ6_bitCount_0f7a4 lmRX7_197 smJ6_bitCount_0f7a4 (c_J6_bitCount_0f7a4 G _ _ _ _) (by decide) rfl rfl (Nat.le_of_ble_eq_true rfl) ?_
  refine ev_ishl (q := 10) dX7_fewestToLeave_9 rfl ?_
  rw [hd3]
  refine ev_istore_nL (q := 11) (L9 := [_, _, _, _, _, _, _]) dX7_fewestToLeave_10 rfl (by decide) rfl rfl ?_
  refine ev_iload_n (q := 12) dX7_fewestToLeave_11 rfl rfl ?_
  refine ev_istoreL (q := 14) (L9 := [_, _, _, _, _, _, _]) dX7_fewestToLeave_12 rfl (by decide) rfl rfl ?_
  refine ev_iconst (q := 15) (0 : Int32) dX7_fewestToLeave_14 rfl (by decide) ?_
  refine ev_istoreL (q := 17) (L9 := [_, _, _, _, _, _, _]) dX7_fewestToLeave_15 rfl (by decide) rfl rfl ?_
  refine ev_iconst (q := 18) (0 : Int32) dX7_fewestToLeave_17 rfl (by decide) ?_
  refine ev_istoreL (q := 20) (L9 := [_, _, _, _, _, _, _]) dX7_fewestToLeave_18 rfl (by decide) rfl rfl ?_
  exact lp20 (LN + 1) 0 _ _ _ (by omega) (by omega) (fun c _ h8 => hf0 c h8) hm0 rfl rfl
