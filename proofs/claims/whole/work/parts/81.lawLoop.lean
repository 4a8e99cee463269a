theorem zREL.up {B : Nat} {fo : Bool} {I : zq_I} (h : zREL B fo I) : zREL (B + 1) fo I := by
  obtain ⟨N, T, Y, fs, cn, len, h⟩ := h
  exact h.q zFC.rf zFM.rf
theorem zhead {L i : Nat} (hL : L ≤ 2560) (hi : i ≤ 2600) (h : ¬ nI L - nI 5 < nI i) : i + 5 ≤ L := by
  by_cases h5 : 5 ≤ L
  · rw [pk_sub h5, nI_ltI (by omega) (by omega)] at h
    omega
  · exact absurd (Int32.lt_of_lt_of_le (pk_sneg (by omega) (by omega)) (nI_pos' (by omega))) h
set_option maxHeartbeats 4000000 in
set_option maxRecDepth 100000 in
theorem law_loop (G : zq_G) (hL : G.2.2.2.2.1 ≤ 2560) : ∀ (m i B : Nat) (fo : Bool) (I : zq_I), G.2.2.2.2.1 ≤ i + 5 * m → i = 5 * B → i ≤ 2570 → zREL B fo I → zq_E G mL_law 30 0 0 true 18 [some (.ref zq_sc), some (.ref 0), some (.ref 119), some (.int (nI i))] [] 138 I (zPs fo) (fun v _ _ _ => v = some (.int 1)) := by
  intro m
  induction m with
  | zero =>
    intro i B fo I hm hiB hi hr
    refine ev_iload_n (q := 19) dL_law_18 rfl rfl ?_
    refine ev_aload_n (q := 20) dL_law_19 rfl rfl ?_
    refine ev_slen (q := 21) dL_law_20 rfl rfl ?_
    refine ev_iconst (q := 22) (nI 5 : Int32) dL_law_21 rfl (by decide) ?_
    refine ev_isub (q := 23) dL_law_22 rfl ?_
    refine ev_icmp_gt (q := 26) (t := 805) dL_law_23 rfl (by decide) (fun h23 => ?_) (fun h23 => ?_)
    · refine ev_iconst (q := 806) (1 : Int32) dL_law_805 rfl (by decide) ?_
      exact ev_iret dL_law_806 rfl (by first | rfl | exact zb_nar _ | assumption) (rfl)
    · exact absurd (zhead hL (by omega) h23) (by omega)
  | succ m ih =>
    intro i B fo I hm hiB hi hr
    refine ev_iload_n (q := 19) dL_law_18 rfl rfl ?_
    refine ev_aload_n (q := 20) dL_law_19 rfl rfl ?_
    refine ev_slen (q := 21) dL_law_20 rfl rfl ?_
    refine ev_iconst (q := 22) (nI 5 : Int32) dL_law_21 rfl (by decide) ?_
    refine ev_isub (q := 23) dL_law_22 rfl ?_
    refine ev_icmp_gt (q := 26) (t := 805) dL_law_23 rfl (by decide) (fun h23 => ?_) (fun h23 => ?_)
    · refine ev_iconst (q := 806) (1 : Int32) dL_law_805 rfl (by decide) ?_
      exact ev_iret dL_law_806 rfl (by first | rfl | exact zb_nar _ | assumption) (rfl)
    · have hlt : i + 5 ≤ G.2.2.2.2.1 := zhead hL (by omega) h23
      have hin : ∀ j, j < i + 5 → vp_in (nI j) G.2.2.2.2.1 := fun j hj => vp_in_nI (by omega) (by omega)
      have K : ∀ (fo2 : Bool) (I2 : zq_I), zREL (B + 1) fo2 I2 → zq_E G mL_law 30 0 0 true 799 [some (.ref zq_sc), some (.ref 0), some (.ref 119), some (.int (nI i))] [] 138 I2 (zPs fo2) (fun v _ _ _ => v = some (.int 1)) := by
        intro fo2 I2 h2
        refine ev_iincL (q := 802) (L9 := [_, _, _, _]) (5 : Int32) dL_law_799 rfl rfl (by decide) (by decide) rfl rfl ?_
        refine ev_goto (t := 18) dL_law_802 (by decide) ?_
        rw [show nI i + 5 = nI (i + 5) from nI_add i 5]
        exact ih (i + 5) (B + 1) fo2 I2 (by omega) (by omega) (by omega) h2
      refine ev_aload_n (q := 27) dL_law_26 rfl rfl ?_
      refine ev_iload_n (q := 28) dL_law_27 rfl rfl ?_
      refine ev_sald (q := 29) dL_law_28 rfl rfl (hin _ (by omega)) ?_
      refine ev_bipush (q := 31) (31 : Int32) dL_law_29 rfl (by decide) ?_
      refine ev_iand (q := 32) dL_law_31 rfl ?_
      generalize G.2.2.2.2.2 (nI i).toNatClampNeg &&& 31 = x
      rcases zsw_c x (n := 22) (by omega) with hsw | ⟨k9, hk9, rfl⟩
      · refine ev_swOut (t := 799) dL_law_32 (by exact hsw) (by decide) ?_
        exact K _ _ hr.up
      · obtain ⟨N, T, Y, fs, cn, len, h⟩ := hr
        rcases (by omega : k9 = 0 ∨ k9 = 1 ∨ k9 = 2 ∨ k9 = 3 ∨ k9 = 4 ∨ k9 = 5 ∨ k9 = 6 ∨ k9 = 7 ∨ k9 = 8 ∨ k9 = 9 ∨ k9 = 10 ∨ k9 = 11 ∨ k9 = 12 ∨ k9 = 13 ∨ k9 = 14 ∨ k9 = 15 ∨ k9 = 16 ∨ k9 = 17 ∨ k9 = 18 ∨ k9 = 19 ∨ k9 = 20 ∨ k9 = 21) with rfl | rfl | rfl | rfl | rfl | rfl | rfl | rfl | rfl | rfl | rfl | rfl | rfl | rfl | rfl | rfl | rfl | rfl | rfl | rfl | rfl | rfl
        · refine ev_swIn (off := 104) (t := 136) dL_law_32 (by decide) (by decide) (by decide) (by decide) ?_
          exact law_0 G fo I h (by omega) hlt hL K
        · refine ev_swIn (off := 167) (t := 199) dL_law_32 (by decide) (by decide) (by decide) (by decide) ?_
          exact law_1 G fo I h (by omega) hlt hL K
        · refine ev_swIn (off := 180) (t := 212) dL_law_32 (by decide) (by decide) (by decide) (by decide) ?_
          exact law_2 G fo I h (by omega) hlt hL K
        · refine ev_swIn (off := 193) (t := 225) dL_law_32 (by decide) (by decide) (by decide) (by decide) ?_
          exact law_3 G fo I h (by omega) hlt hL K
        · refine ev_swIn (off := 206) (t := 238) dL_law_32 (by decide) (by decide) (by decide) (by decide) ?_
          exact law_4 G fo I h (by omega) hlt hL K
        · refine ev_swIn (off := 229) (t := 261) dL_law_32 (by decide) (by decide) (by decide) (by decide) ?_
          exact law_5 G fo I h (by omega) hlt hL K
        · refine ev_swIn (off := 262) (t := 294) dL_law_32 (by decide) (by decide) (by decide) (by decide) ?_
          exact law_6 G fo I h (by omega) hlt hL K
        · refine ev_swIn (off := 295) (t := 327) dL_law_32 (by decide) (by decide) (by decide) (by decide) ?_
          exact law_7 G fo I h (by omega) hlt hL K
        · refine ev_swIn (off := 318) (t := 350) dL_law_32 (by decide) (by decide) (by decide) (by decide) ?_
          exact law_8 G fo I h (by omega) hlt hL K
        · refine ev_swIn (off := 351) (t := 383) dL_law_32 (by decide) (by decide) (by decide) (by decide) ?_
          exact law_9 G fo I h (by omega) hlt hL K
        · refine ev_swIn (off := 374) (t := 406) dL_law_32 (by decide) (by decide) (by decide) (by decide) ?_
          exact law_10 G fo I h (by omega) hlt hL K
        · refine ev_swIn (off := 387) (t := 419) dL_law_32 (by decide) (by decide) (by decide) (by decide) ?_
          exact law_11 G fo I h (by omega) hlt hL K
        · refine ev_swIn (off := 420) (t := 452) dL_law_32 (by decide) (by decide) (by decide) (by decide) ?_
          exact law_12 G fo I h (by omega) hlt hL K
        · refine ev_swIn (off := 433) (t := 465) dL_law_32 (by decide) (by decide) (by decide) (by decide) ?_
          exact law_13 G fo I h (by omega) hlt hL K
        · refine ev_swIn (off := 456) (t := 488) dL_law_32 (by decide) (by decide) (by decide) (by decide) ?_
          exact law_14 G fo I h (by omega) hlt hL K
        · refine ev_swIn (off := 489) (t := 521) dL_law_32 (by decide) (by decide) (by decide) (by decide) ?_
          exact law_15 G fo I h (by omega) hlt hL K
        · refine ev_swIn (off := 522) (t := 554) dL_law_32 (by decide) (by decide) (by decide) (by decide) ?_
          exact law_16 G fo I h (by omega) hlt hL K
        · refine ev_swIn (off := 565) (t := 597) dL_law_32 (by decide) (by decide) (by decide) (by decide) ?_
          exact law_17 G fo I h (by omega) hlt hL K
        · refine ev_swIn (off := 598) (t := 630) dL_law_32 (by decide) (by decide) (by decide) (by decide) ?_
          exact law_18 G fo I h (by omega) hlt hL K
        · refine ev_swIn (off := 651) (t := 683) dL_law_32 (by decide) (by decide) (by decide) (by decide) ?_
          exact law_19 G fo I h (by omega) hlt hL K
        · refine ev_swIn (off := 721) (t := 753) dL_law_32 (by decide) (by decide) (by decide) (by decide) ?_
          exact law_20 G fo I h (by omega) hlt hL K
        · refine ev_swIn (off := 744) (t := 776) dL_law_32 (by decide) (by decide) (by decide) (by decide) ?_
          exact law_21 G fo I h (by omega) hlt hL K
theorem zREL_0 {I : zq_I} (hf : ∀ c, (c < 91 ∨ 95 < c) → I c = zu (zu (fun _ _ => 0) 109 1 1) 114 1 1 c) (h0 : I 91 0 = 0) (h4 : ∀ t, t < 4 → I 95 t = 0) : zREL 0 false (zu I 119 5 1) := by
  have e : ∀ c k, (c < 91 ∨ 95 < c) → c ≠ 109 → c ≠ 114 → c ≠ 119 → zu I 119 5 1 c k = 0 := fun c k a1 a2 a3 a4 => by rw [zu_other a4, hf c a1, zu_other a3, zu_other a2]
  have e119 : ∀ k, k ≠ 5 → zu I 119 5 1 119 k = 0 := fun k hk => by rw [zu_ne hk, hf 119 (by omega), zu_other (by omega), zu_other (by omega)]
  have e5 : zu I 119 5 1 119 5 = nI 1 := zu_eq
  have e109 : ∀ k, k ≠ 1 → zu I 119 5 1 109 k = 0 := fun k hk => by rw [zu_other (by omega), hf 109 (by omega), zu_other (by omega), zu_ne hk]
  have e1 : zu I 119 5 1 109 1 = nI 1 := by rw [zu_other (by omega), hf 109 (by omega), zu_other (by omega), zu_eq]; rfl
  have hs : zS false 0 1 0 (zu I 119 5 1) := by
    refine ⟨⟨by omega, by omega, by omega, (e119 6 (by omega)).trans rfl, e5, (e109 2 (by omega)).trans rfl, e1, ?_, fun p hp => absurd hp (by omega)⟩, ⟨?_, fun p hp => absurd hp (by omega), fun t ht => ?_⟩, ⟨by omega, (e119 15 (by omega)).trans rfl, Or.inl (e119 4 (by omega)), fun p hp => absurd hp (by omega), fun t ht => ⟨0, by omega, (e 128 t (by omega) (by omega) (by omega) (by omega)).trans rfl⟩⟩⟩
    · show zu I 119 5 1 109 0 = _
      rw [e109 0 (by omega), e119 4 (by omega)]
    · rw [zu_other (by omega), h0, e119 15 (by omega)]
    · rw [show (91 + 4 : Nat) = 95 from rfl, zu_other (by omega), h4 t ht, e 128 t (by omega) (by omega) (by omega) (by omega)]
  refine ⟨0, 1, 0, 0, 0, 0, hs, by omega, ?_, ⟨by omega, (e 1 1 (by omega) (by omega) (by omega) (by omega)).trans rfl, (e119 2 (by omega)).trans rfl, fun j hj => absurd hj (by omega)⟩, ⟨by omega, by omega, (e 9 1 (by omega) (by omega) (by omega) (by omega)).trans rfl, (e 9 2 (by omega) (by omega) (by omega) (by omega)).trans rfl, (e119 25 (by omega)).trans rfl, fun k hk => absurd hk (by omega)⟩, fun s hs => ?_⟩
  · show zu I 119 5 1 109 3 = _
    rw [e109 3 (by omega)]; rfl
  · rw [e 107 s (by omega) (by omega) (by omega) (by omega), e 135 s (by omega) (by omega) (by omega) (by omega)]
    exact ⟨rfl, fun q => absurd rfl q⟩
set_option maxHeartbeats 4000000 in
set_option maxRecDepth 100000 in
theorem law_all (G : zq_G) (hL : G.2.2.2.2.1 ≤ 2560) : zq_E G mL_law 30 138 2000 true 0 [some (.ref zq_sc), none, none, none] [] 0 (fun _ _ => 0) (fun _ _ => none) (fun v _ _ _ => v = some (.int 1)) := by
  have hI : zIin 0 (fun _ _ => 0) := fun _ _ _ => rfl
  have hp : zPin 0 [] (fun _ _ => none) := ⟨fun _ _ _ => rfl, fun c k hc => absurd hc (by omega)⟩
  refine ev_room (kc := 137 + 1) (ks := 1989 + (zq_cls 7).2.2) (by decide) (by decide) ?_
  refine ev_new (q := 3) (ci := 7) dL_law_0 rfl rfl (by decide) lcRL_7 itRX7 iniRX7 (by decide) (fun f => hI _ f (Nat.le_refl _)) (fun f => hp.1 _ f (Nat.le_refl _)) ?_
  refine (show zq_E _ _ _ 137 1989 _ _ _ _ (1) _ _ _ from ?_)
  have hI : zIin (1) _ := zIin.s hI
  have hp : zPin (1) ([(0, 0), (0, 1), (0, 2), (0, 3), (0, 4), (0, 5), (0, 6), (0, 7), (0, 8), (0, 9), (0, 10)]) _ := zPin.new [0, 1, 2, 3, 4, 5, 6, 7, 8, 9, 10] (zrow_of (by decide +kernel)) hp
  refine ev_dup (q := 4) dL_law_3 rfl rfl ?_
  refine ev_room (kc := 19 + 118) (ks := 1151 + 838) (by decide) (by decide) ?_
  refine ev_callI (q := 7) dL_law_4 rfl okX7_init lmRL_9 imX7_init rfl rfl (c_X7_init G hp) (by decide) rfl rfl (Nat.le_of_ble_eq_true rfl) (fun v4 n4 I4 P4 hR4 => ?_)
  obtain ⟨rfl, rfl, hp, hf, h0, h4⟩ := hR4
  have hI9 : zIin 119 I4 := fun c k hc => by rw [hf c (by omega), zu_other (by omega), zu_other (by omega)]
  refine (show zq_E _ _ _ 19 1151 _ _ _ _ (119) _ _ _ from ?_)
  have hp : zPin (119) ([]) _ := hp
  have hI : zIin (119) I4 := fun c k hc => by rw [hf c (by omega), zu_other (by omega), zu_other (by omega)]
  refine ev_astore_nL (q := 8) (L9 := [_, _, _, _]) dL_law_7 rfl (by decide) rfl rfl ?_
  refine ev_room (kc := 18 + 1) (ks := 1118 + (zq_cls 8).2.2) (by decide) (by decide) ?_
  refine ev_new (q := 11) (ci := 8) dL_law_8 rfl rfl (by decide) lcRL_10 itRX8 iniRX8 (by decide) (fun f => hI _ f (Nat.le_refl _)) (fun f => hp.1 _ f (Nat.le_refl _)) ?_
  refine (show zq_E _ _ _ 18 1118 _ _ _ _ (120) _ _ _ from ?_)
  have hI : zIin (120) _ := zIin.s hI
  have hp : zPin (120) ([(119, 1), (119, 7), (119, 8), (119, 9), (119, 10), (119, 11), (119, 12), (119, 13), (119, 14), (119, 20), (119, 21), (119, 22), (119, 23), (119, 24), (119, 26), (119, 27), (119, 29), (119, 32)]) _ := zPin.new [1, 7, 8, 9, 10, 11, 12, 13, 14, 20, 21, 22, 23, 24, 26, 27, 29, 32] (zrow_of (by decide +kernel)) hp
  refine ev_dup (q := 12) dL_law_11 rfl rfl ?_
  refine ev_room (kc := 0 + 18) (ks := 406 + 712) (by decide) (by decide) ?_
  refine ev_callI (q := 15) dL_law_12 rfl okX8_init lmRL_12 imX8_init rfl rfl (c_X8_init G hI9 hp) (by decide) rfl rfl (Nat.le_of_ble_eq_true rfl) (fun v12 n12 I12 P12 hR12 => ?_)
  obtain ⟨rfl, rfl, rfl, hp⟩ := hR12
  have hPall := hp.all
  subst hPall
  refine (show zq_E _ _ _ 0 406 _ _ _ _ (138) _ _ _ from ?_)
  have hp : zPin (138) ([]) _ := hp
  have hI := hI
  refine ev_astore_nL (q := 16) (L9 := [_, _, _, _]) dL_law_15 rfl (by decide) rfl rfl ?_
  refine ev_iconst (q := 17) (nI 0 : Int32) dL_law_16 rfl (by decide) ?_
  refine ev_istore_nL (q := 18) (L9 := [_, _, _, _]) dL_law_17 rfl (by decide) rfl rfl ?_
  refine ev_room (kc := 0) (ks := 0) (by decide) (by decide) ?_
  exact law_loop G hL 600 0 0 false _ (by omega) (by omega) (by omega) (zREL_0 hf h0 h4)
