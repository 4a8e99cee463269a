def zcop (w o : Nat) (I I' : zq_I) : Prop := I' w 0 = I o 0 ∧ (∀ p, p < 8 → I' (w + 1) p = I (o + 1) p ∧ I' (w + 2) p = I (o + 2) p ∧ I' (w + 3) p = I (o + 3) p) ∧ ∀ t, t < 4 → I' (w + 4) t = I (o + 4) t
/-- cells aside the five of w -/
def zaw (w : Nat) (I I' : zq_I) : Prop := ∀ c, (c < w ∨ w + 4 < c) → I' c = I c
theorem zwl_ap : ∀ w ∈ zq_wl, ∀ o ∈ zq_wl, w ≠ o → w + 4 < o ∨ o + 4 < w := by decide +kernel
theorem zPs_ah (fo : Bool) {j : Nat} (h : j < 16) : zPs fo 10 j = some (11 + 5 * j) := by
  have h1 : ∀ fo, ∀ j, j < 16 → zPs fo 10 j = some (11 + 5 * j) := by decide +kernel
  exact h1 fo j h
theorem zW_ah {j : Nat} (h : j < 16) : zq_isW (11 + 5 * j) := by
  have h1 : ∀ j, j < 16 → 11 + 5 * j ∈ zq_wl := by decide +kernel
  exact h1 j h
theorem zW_97 : zq_isW 97 := by unfold zq_isW; decide
theorem zW_102 : zq_isW 102 := by unfold zq_isW; decide
set_option maxHeartbeats 4000000 in
set_option maxRecDepth 100000 in
theorem c_X6_clearRumours (G : zq_G) (fo : Bool) (I : zq_I) {w : Nat} (hw : zq_isW w) : zq_Met G mX6_clearRumours 0 0 0 [.ref w] 138 I (zPs fo) (fun v n' I' P' => v = none ∧ n' = 138 ∧ P' = zPs fo ∧ (∀ c, c ≠ w + 4 → I' c = I c) ∧ ∀ t, t < 4 → I' (w + 4) t = 0) := by
  refine zq_Met.of okX6_clearRumours (Nat.le_of_ble_eq_true rfl) ?_
  show zq_E _ _ _ _ _ _ _ [some (.ref w), none] _ _ _ _ _
  have lp2 : ∀ (k i : Nat) (I1 : zq_I), 4 + 1 ≤ i + k → i ≤ 4 → (∀ c, c ≠ w + 4 → I1 c = I c) → (∀ t, t < i → I1 (w + 4) t = 0) → zq_E G mX6_clearRumours 0 0 0 false 2 [some (.ref w), some (.int (nI i))] [] 138 I1 (zPs fo) (fun v n' I' P' => v = none ∧ n' = 138 ∧ P' = zPs fo ∧ (∀ c, c ≠ w + 4 → I' c = I c) ∧ ∀ t, t < 4 → I' (w + 4) t = 0) := by
    intro k
    induction k with
    | zero => intro i I1 hk hi; exact absurd hk (by omega)
    | succ k ih =>
      intro i I1 hk hi hf h0
      refine ev_iload_n (q := 3) dX6_clearRumours_2 rfl rfl ?_
      refine ev_iconst (q := 4) (nI 4 : Int32) dX6_clearRumours_3 rfl (by decide) ?_
      refine ev_icmp_ge (q := 7) (t := 20) dX6_clearRumours_4 rfl (by decide) (fun h4 => ?_) (fun h4 => ?_)
      · obtain rfl : i = 4 := by rw [nI_leI (by omega) (by omega)] at h4; omega
        exact ev_vret dX6_clearRumours_20 rfl (⟨rfl, rfl, rfl, hf, h0⟩)
      · have hlt_i : i < 4 := by rw [nI_leI (by omega) (by omega)] at h4; omega
        refine ev_aload_n (q := 8) dX6_clearRumours_7 rfl rfl ?_
        refine ev_getR (q := 11) (ci := 6) (f := 4) dX6_clearRumours_8 rfl (by first | rfl | assumption | exact zf_kd (by assumption) | exact zw_kd (by assumption) | exact zt_kd (by assumption)) (by first | decide | exact zf_lt (by assumption) | exact zf_lt1 (by assumption) | exact zf_lt2 (by assumption) | exact zf_lt3 (by assumption) | exact zf_lt4 (by assumption) | exact zw_lt (by assumption) | exact zw_lt1 (by assumption) | exact zw_lt2 (by assumption) | exact zw_lt3 (by assumption) | exact zw_lt4 (by assumption) | exact zt_lt (by assumption)) (by decide) (by decide) lfRX6_21 rfl (by first | rfl | assumption | exact zf_p4 _ (by assumption) | exact zf_p5 _ (by assumption) | exact zf_p6 _ (by assumption) | exact zf_p7 _ (by assumption) | exact zw_p1 _ (by assumption) | exact zw_p2 _ (by assumption) | exact zw_p3 _ (by assumption) | exact zw_p4 _ (by assumption)) ?_
        refine ev_iload_n (q := 12) dX6_clearRumours_11 rfl rfl ?_
        refine ev_iconst (q := 13) (0 : Int32) dX6_clearRumours_12 rfl (by decide) ?_
        refine ev_iastN (q := 14) dX6_clearRumours_13 rfl (by first | rfl | assumption | exact zf_kd1 (by assumption) | exact zf_kd2 (by assumption) | exact zf_kd3 (by assumption) | exact zf_kd4 (by assumption) | exact zw_kd1 (by assumption) | exact zw_kd2 (by assumption) | exact zw_kd3 (by assumption) | exact zw_kd4 (by assumption)) (by first | decide | exact zf_lt (by assumption) | exact zf_lt1 (by assumption) | exact zf_lt2 (by assumption) | exact zf_lt3 (by assumption) | exact zf_lt4 (by assumption) | exact zw_lt (by assumption) | exact zw_lt1 (by assumption) | exact zw_lt2 (by assumption) | exact zw_lt3 (by assumption) | exact zw_lt4 (by assumption) | exact zt_lt (by assumption)) (by first | omega | assumption) ?_
        refine ev_iincL (q := 17) (L9 := [_, _]) (1 : Int32) dX6_clearRumours_14 rfl rfl (by decide) (by decide) rfl rfl ?_
        refine ev_goto (t := 2) dX6_clearRumours_17 (by decide) ?_
        rw [nI_1]
        exact ih (i + 1) _ (by omega) (by omega) (fun c hc => by rw [zu_other hc]; exact hf c hc) (fun t ht => by
          by_cases hti : t = i
          · subst hti; simp [zu]
          · simp [zu, hti]; exact h0 t (by omega))
  refine ev_iconst (q := 1) (0 : Int32) dX6_clearRumours_0 rfl (by decide) ?_
  refine ev_istore_nL (q := 2) (L9 := [_, _]) dX6_clearRumours_1 rfl (by decide) rfl rfl ?_
  exact lp2 5 0 _ (by omega) (by omega) (fun _ _ => rfl) (fun t ht => absurd ht (by omega))
set_option maxHeartbeats 4000000 in
set_option maxRecDepth 100000 in
theorem c_X6_passYear (G : zq_G) (fo : Bool) (I : zq_I) {w : Nat} (hw : zq_isW w) : zq_Met G mX6_passYear 1 0 0 [.ref w] 138 I (zPs fo) (fun v n' I' P' => v = none ∧ n' = 138 ∧ P' = zPs fo ∧ (∀ c, c ≠ w → c ≠ w + 4 → I' c = I c) ∧ I' w 0 = I w 0 + 1 ∧ ∀ t, t < 4 → I' (w + 4) t = 0) := by
  refine zq_Met.of okX6_passYear (Nat.le_of_ble_eq_true rfl) ?_
  show zq_E _ _ _ _ _ _ _ [some (.ref w)] _ _ _ _ _
  refine ev_aload_n (q := 1) dX6_passYear_0 rfl rfl ?_
  refine ev_dup (q := 2) dX6_passYear_1 rfl rfl ?_
  refine ev_getI (q := 5) (ci := 6) (f := 0) dX6_passYear_2 rfl (by first | rfl | assumption | exact zf_kd (by assumption) | exact zw_kd (by assumption) | exact zt_kd (by assumption)) (by first | decide | exact zf_lt (by assumption) | exact zf_lt1 (by assumption) | exact zf_lt2 (by assumption) | exact zf_lt3 (by assumption) | exact zf_lt4 (by assumption) | exact zw_lt (by assumption) | exact zw_lt1 (by assumption) | exact zw_lt2 (by assumption) | exact zw_lt3 (by assumption) | exact zw_lt4 (by assumption) | exact zt_lt (by assumption)) (by decide) (by decide) lfRX6_24 rfl ?_
  refine ev_iconst (q := 6) (1 : Int32) dX6_passYear_5 rfl (by decide) ?_
  refine ev_iadd (q := 7) dX6_passYear_6 rfl ?_
  refine ev_putI (q := 10) (ci := 6) (f := 0) dX6_passYear_7 rfl (by first | rfl | assumption | exact zf_kd (by assumption) | exact zw_kd (by assumption) | exact zt_kd (by assumption)) (by first | decide | exact zf_lt (by assumption) | exact zf_lt1 (by assumption) | exact zf_lt2 (by assumption) | exact zf_lt3 (by assumption) | exact zf_lt4 (by assumption) | exact zw_lt (by assumption) | exact zw_lt1 (by assumption) | exact zw_lt2 (by assumption) | exact zw_lt3 (by assumption) | exact zw_lt4 (by assumption) | exact zt_lt (by assumption)) (by decide) (by decide) lfRX6_24 rfl rfl rfl rfl ?_
  refine ev_aload_n (q := 11) dX6_passYear_10 rfl rfl ?_
  refine ev_cV (q := 14) (ci := 6) dX6_passYear_11 rfl okX6_clearRumours lmRX6_33 imX6_clearRumours seX6_clearRumours (by first | rfl | assumption | exact zf_kd (by assumption) | exact zw_kd (by assumption) | exact zt_kd (by assumption)) (by first | decide | exact zf_lt (by assumption) | exact zf_lt1 (by assumption) | exact zf_lt2 (by assumption) | exact zf_lt3 (by assumption) | exact zf_lt4 (by assumption) | exact zw_lt (by assumption) | exact zw_lt1 (by assumption) | exact zw_lt2 (by assumption) | exact zw_lt3 (by assumption) | exact zw_lt4 (by assumption) | exact zt_lt (by assumption)) (by decide) rfl (c_X6_clearRumours G fo _ hw) (by decide) rfl rfl (Nat.le_of_ble_eq_true rfl) (fun v11 n11 I11 P11 hR11 => ?_)
  obtain ⟨rfl, rfl, rfl, hf, h0⟩ := hR11
  exact ev_vret dX6_passYear_14 rfl (⟨rfl, rfl, rfl, fun c h1 h2 => by rw [hf c h2, zu_other h1], by rw [hf w (by omega)]; simp [zu], h0⟩)
set_option maxHeartbeats 4000000 in
set_option maxRecDepth 100000 in
theorem c_X6_begin (G : zq_G) (fo : Bool) (I : zq_I) {w f : Nat} (hw : zq_isW w) (hfF : zq_isF f) : zq_Met G mX6_begin 1 0 0 [.ref w, .ref f] 138 I (zPs fo) (fun v n' I' P' => v = none ∧ n' = 138 ∧ P' = zPs fo ∧ zaw w I I' ∧ I' w 0 = 0 ∧ (∀ p, p < 8 → I' (w + 1) p = I (f + 1) p ∧ I' (w + 2) p = 0 ∧ I' (w + 3) p = -9) ∧ ∀ t, t < 4 → I' (w + 4) t = 0) := by
  refine zq_Met.of okX6_begin (Nat.le_of_ble_eq_true rfl) ?_
  show zq_E _ _ _ _ _ _ _ [some (.ref w), some (.ref f), none] _ _ _ _ _
  have hwf : w + 4 < 109 ∧ (f = 109 ∨ f = 114) := ⟨(by decide +kernel : ∀ w ∈ zq_wl, w + 4 < 109) w hw, hfF⟩
  have lp7 : ∀ (k i : Nat) (I1 : zq_I), 8 + 1 ≤ i + k → i ≤ 8 → (∀ c, (c < w ∨ w + 4 < c) → I1 c = I c) → I1 w 0 = 0 → (∀ p, p < i → I1 (w + 1) p = I (f + 1) p ∧ I1 (w + 2) p = 0 ∧ I1 (w + 3) p = -9) → zq_E G mX6_begin 1 0 0 false 7 [some (.ref w), some (.ref f), some (.int (nI i))] [] 138 I1 (zPs fo) (fun v n' I' P' => v = none ∧ n' = 138 ∧ P' = zPs fo ∧ zaw w I I' ∧ I' w 0 = 0 ∧ (∀ p, p < 8 → I' (w + 1) p = I (f + 1) p ∧ I' (w + 2) p = 0 ∧ I' (w + 3) p = -9) ∧ ∀ t, t < 4 → I' (w + 4) t = 0) := by
    intro k
    induction k with
    | zero => intro i I1 hk hi; exact absurd hk (by omega)
    | succ k ih =>
      intro i I1 hk hi hf hy h0
      refine ev_iload_n (q := 8) dX6_begin_7 rfl rfl ?_
      refine ev_bipush (q := 10) (nI 8 : Int32) dX6_begin_8 rfl (by decide) ?_
      refine ev_icmp_ge (q := 13) (t := 46) dX6_begin_10 rfl (by decide) (fun h10 => ?_) (fun h10 => ?_)
      · obtain rfl : i = 8 := by rw [nI_leI (by omega) (by omega)] at h10; omega
        refine ev_aload_n (q := 47) dX6_begin_46 rfl rfl ?_
        refine ev_cV (q := 50) (ci := 6) dX6_begin_47 rfl okX6_clearRumours lmRX6_33 imX6_clearRumours seX6_clearRumours (by first | rfl | assumption | exact zf_kd (by assumption) | exact zw_kd (by assumption) | exact zt_kd (by assumption)) (by first | decide | exact zf_lt (by assumption) | exact zf_lt1 (by assumption) | exact zf_lt2 (by assumption) | exact zf_lt3 (by assumption) | exact zf_lt4 (by assumption) | exact zw_lt (by assumption) | exact zw_lt1 (by assumption) | exact zw_lt2 (by assumption) | exact zw_lt3 (by assumption) | exact zw_lt4 (by assumption) | exact zt_lt (by assumption)) (by decide) rfl (c_X6_clearRumours G fo _ hw) (by decide) rfl rfl (Nat.le_of_ble_eq_true rfl) (fun v47 n47 I47 P47 hR47 => ?_)
        obtain ⟨rfl, rfl, rfl, hf2, h02⟩ := hR47
        exact ev_vret dX6_begin_50 rfl (⟨rfl, rfl, rfl, fun c hc => by rw [hf2 c (by omega)]; exact hf c hc, by rw [hf2 w (by omega)]; exact hy, fun p hp => by rw [hf2 (w + 1) (by omega), hf2 (w + 2) (by omega), hf2 (w + 3) (by omega)]; exact h0 p hp, h02⟩)
      · have hlt_i : i < 8 := by rw [nI_leI (by omega) (by omega)] at h10; omega
        refine ev_aload_n (q := 14) dX6_begin_13 rfl rfl ?_
        refine ev_getR (q := 17) (ci := 6) (f := 1) dX6_begin_14 rfl (by first | rfl | assumption | exact zf_kd (by assumption) | exact zw_kd (by assumption) | exact zt_kd (by assumption)) (by first | decide | exact zf_lt (by assumption) | exact zf_lt1 (by assumption) | exact zf_lt2 (by assumption) | exact zf_lt3 (by assumption) | exact zf_lt4 (by assumption) | exact zw_lt (by assumption) | exact zw_lt1 (by assumption) | exact zw_lt2 (by assumption) | exact zw_lt3 (by assumption) | exact zw_lt4 (by assumption) | exact zt_lt (by assumption)) (by decide) (by decide) lfRX6_9 rfl (by first | rfl | assumption | exact zf_p4 _ (by assumption) | exact zf_p5 _ (by assumption) | exact zf_p6 _ (by assumption) | exact zf_p7 _ (by assumption) | exact zw_p1 _ (by assumption) | exact zw_p2 _ (by assumption) | exact zw_p3 _ (by assumption) | exact zw_p4 _ (by assumption)) ?_
        refine ev_iload_n (q := 18) dX6_begin_17 rfl rfl ?_
        refine ev_aload_n (q := 19) dX6_begin_18 rfl rfl ?_
        refine ev_getR (q := 22) (ci := 0) (f := 4) dX6_begin_19 rfl (by first | rfl | assumption | exact zf_kd (by assumption) | exact zw_kd (by assumption) | exact zt_kd (by assumption)) (by first | decide | exact zf_lt (by assumption) | exact zf_lt1 (by assumption) | exact zf_lt2 (by assumption) | exact zf_lt3 (by assumption) | exact zf_lt4 (by assumption) | exact zw_lt (by assumption) | exact zw_lt1 (by assumption) | exact zw_lt2 (by assumption) | exact zw_lt3 (by assumption) | exact zw_lt4 (by assumption) | exact zt_lt (by assumption)) (by decide) (by decide) lfRX6_28 rfl (by first | rfl | assumption | exact zf_p4 _ (by assumption) | exact zf_p5 _ (by assumption) | exact zf_p6 _ (by assumption) | exact zf_p7 _ (by assumption) | exact zw_p1 _ (by assumption) | exact zw_p2 _ (by assumption) | exact zw_p3 _ (by assumption) | exact zw_p4 _ (by assumption)) ?_
        refine ev_iload_n (q := 23) dX6_begin_22 rfl rfl ?_
        refine ev_ialdN (q := 24) dX6_begin_23 rfl (by first | rfl | assumption | exact zf_kd1 (by assumption) | exact zf_kd2 (by assumption) | exact zf_kd3 (by assumption) | exact zf_kd4 (by assumption) | exact zw_kd1 (by assumption) | exact zw_kd2 (by assumption) | exact zw_kd3 (by assumption) | exact zw_kd4 (by assumption)) (by first | decide | exact zf_lt (by assumption) | exact zf_lt1 (by assumption) | exact zf_lt2 (by assumption) | exact zf_lt3 (by assumption) | exact zf_lt4 (by assumption) | exact zw_lt (by assumption) | exact zw_lt1 (by assumption) | exact zw_lt2 (by assumption) | exact zw_lt3 (by assumption) | exact zw_lt4 (by assumption) | exact zt_lt (by assumption)) (by first | omega | assumption) ?_
        rw [show I1 (f + 1) i = I (f + 1) i by rw [hf (f + 1) (by omega)]]
        refine ev_iastN (q := 25) dX6_begin_24 rfl (by first | rfl | assumption | exact zf_kd1 (by assumption) | exact zf_kd2 (by assumption) | exact zf_kd3 (by assumption) | exact zf_kd4 (by assumption) | exact zw_kd1 (by assumption) | exact zw_kd2 (by assumption) | exact zw_kd3 (by assumption) | exact zw_kd4 (by assumption)) (by first | decide | exact zf_lt (by assumption) | exact zf_lt1 (by assumption) | exact zf_lt2 (by assumption) | exact zf_lt3 (by assumption) | exact zf_lt4 (by assumption) | exact zw_lt (by assumption) | exact zw_lt1 (by assumption) | exact zw_lt2 (by assumption) | exact zw_lt3 (by assumption) | exact zw_lt4 (by assumption) | exact zt_lt (by assumption)) (by first | omega | assumption) ?_
        refine ev_aload_n (q := 26) dX6_begin_25 rfl rfl ?_
        refine ev_getR (q := 29) (ci := 6) (f := 2) dX6_begin_26 rfl (by first | rfl | assumption | exact zf_kd (by assumption) | exact zw_kd (by assumption) | exact zt_kd (by assumption)) (by first | decide | exact zf_lt (by assumption) | exact zf_lt1 (by assumption) | exact zf_lt2 (by assumption) | exact zf_lt3 (by assumption) | exact zf_lt4 (by assumption) | exact zw_lt (by assumption) | exact zw_lt1 (by assumption) | exact zw_lt2 (by assumption) | exact zw_lt3 (by assumption) | exact zw_lt4 (by assumption) | exact zt_lt (by assumption)) (by decide) (by decide) lfRX6_15 rfl (by first | rfl | assumption | exact zf_p4 _ (by assumption) | exact zf_p5 _ (by assumption) | exact zf_p6 _ (by assumption) | exact zf_p7 _ (by assumption) | exact zw_p1 _ (by assumption) | exact zw_p2 _ (by assumption) | exact zw_p3 _ (by assumption) | exact zw_p4 _ (by assumption)) ?_
        refine ev_iload_n (q := 30) dX6_begin_29 rfl rfl ?_
        refine ev_iconst (q := 31) (0 : Int32) dX6_begin_30 rfl (by decide) ?_
        refine ev_iastN (q := 32) dX6_begin_31 rfl (by first | rfl | assumption | exact zf_kd1 (by assumption) | exact zf_kd2 (by assumption) | exact zf_kd3 (by assumption) | exact zf_kd4 (by assumption) | exact zw_kd1 (by assumption) | exact zw_kd2 (by assumption) | exact zw_kd3 (by assumption) | exact zw_kd4 (by assumption)) (by first | decide | exact zf_lt (by assumption) | exact zf_lt1 (by assumption) | exact zf_lt2 (by assumption) | exact zf_lt3 (by assumption) | exact zf_lt4 (by assumption) | exact zw_lt (by assumption) | exact zw_lt1 (by assumption) | exact zw_lt2 (by assumption) | exact zw_lt3 (by assumption) | exact zw_lt4 (by assumption) | exact zt_lt (by assumption)) (by first | omega | assumption) ?_
        refine ev_aload_n (q := 33) dX6_begin_32 rfl rfl ?_
        refine ev_getR (q := 36) (ci := 6) (f := 3) dX6_begin_33 rfl (by first | rfl | assumption | exact zf_kd (by assumption) | exact zw_kd (by assumption) | exact zt_kd (by assumption)) (by first | decide | exact zf_lt (by assumption) | exact zf_lt1 (by assumption) | exact zf_lt2 (by assumption) | exact zf_lt3 (by assumption) | exact zf_lt4 (by assumption) | exact zw_lt (by assumption) | exact zw_lt1 (by assumption) | exact zw_lt2 (by assumption) | exact zw_lt3 (by assumption) | exact zw_lt4 (by assumption) | exact zt_lt (by assumption)) (by decide) (by decide) lfRX6_18 rfl (by first | rfl | assumption | exact zf_p4 _ (by assumption) | exact zf_p5 _ (by assumption) | exact zf_p6 _ (by assumption) | exact zf_p7 _ (by assumption) | exact zw_p1 _ (by assumption) | exact zw_p2 _ (by assumption) | exact zw_p3 _ (by assumption) | exact zw_p4 _ (by assumption)) ?_
        refine ev_iload_n (q := 37) dX6_begin_36 rfl rfl ?_
        refine ev_bipush (q := 39) ((-9) : Int32) dX6_begin_37 rfl (by decide) ?_
        refine ev_iastN (q := 40) dX6_begin_39 rfl (by first | rfl | assumption | exact zf_kd1 (by assumption) | exact zf_kd2 (by assumption) | exact zf_kd3 (by assumption) | exact zf_kd4 (by assumption) | exact zw_kd1 (by assumption) | exact zw_kd2 (by assumption) | exact zw_kd3 (by assumption) | exact zw_kd4 (by assumption)) (by first | decide | exact zf_lt (by assumption) | exact zf_lt1 (by assumption) | exact zf_lt2 (by assumption) | exact zf_lt3 (by assumption) | exact zf_lt4 (by assumption) | exact zw_lt (by assumption) | exact zw_lt1 (by assumption) | exact zw_lt2 (by assumption) | exact zw_lt3 (by assumption) | exact zw_lt4 (by assumption) | exact zt_lt (by assumption)) (by first | omega | assumption) ?_
        refine ev_iincL (q := 43) (L9 := [_, _, _]) (1 : Int32) dX6_begin_40 rfl rfl (by decide) (by decide) rfl rfl ?_
        refine ev_goto (t := 7) dX6_begin_43 (by decide) ?_
        rw [nI_1]
        exact ih (i + 1) _ (by omega) (by omega) (fun c hc => by rw [zu_other (by omega), zu_other (by omega), zu_other (by omega)]; exact hf c hc) (by simp [zu]; exact hy) (fun p hp => by
          by_cases hpi : p = i
          · subst hpi; simp [zu]
          · simp [zu, hpi]; exact h0 p (by omega))
  refine ev_aload_n (q := 1) dX6_begin_0 rfl rfl ?_
  refine ev_iconst (q := 2) (0 : Int32) dX6_begin_1 rfl (by decide) ?_
  refine ev_putI (q := 5) (ci := 6) (f := 0) dX6_begin_2 rfl (by first | rfl | assumption | exact zf_kd (by assumption) | exact zw_kd (by assumption) | exact zt_kd (by assumption)) (by first | decide | exact zf_lt (by assumption) | exact zf_lt1 (by assumption) | exact zf_lt2 (by assumption) | exact zf_lt3 (by assumption) | exact zf_lt4 (by assumption) | exact zw_lt (by assumption) | exact zw_lt1 (by assumption) | exact zw_lt2 (by assumption) | exact zw_lt3 (by assumption) | exact zw_lt4 (by assumption) | exact zt_lt (by assumption)) (by decide) (by decide) lfRX6_24 rfl rfl rfl rfl ?_
  refine ev_iconst (q := 6) (0 : Int32) dX6_begin_5 rfl (by decide) ?_
  refine ev_istore_nL (q := 7) (L9 := [_, _, _]) dX6_begin_6 rfl (by decide) rfl rfl ?_
  exact lp7 9 0 _ (by omega) (by omega) (fun c hc => zu_other (by omega)) (by simp [zu]) (fun p hp => absurd hp (by omega))
set_option maxHeartbeats 4000000 in
set_option maxRecDepth 100000 in
theorem c_X6_copyFrom (G : zq_G) (fo : Bool) (I : zq_I) {w u : Nat} (hw : zq_isW w) (hu : zq_isW u) (hne : w ≠ u) : zq_Met G mX6_copyFrom 0 0 0 [.ref w, .ref u] 138 I (zPs fo) (fun v n' I' P' => v = none ∧ n' = 138 ∧ P' = zPs fo ∧ zaw w I I' ∧ zcop w u I I') := by
  refine zq_Met.of okX6_copyFrom (Nat.le_of_ble_eq_true rfl) ?_
  show zq_E _ _ _ _ _ _ _ [some (.ref w), some (.ref u), none] _ _ _ _ _
  have hap := zwl_ap w hw u hu hne
  have lp60 : ∀ (k i : Nat) (I1 : zq_I), 4 + 1 ≤ i + k → i ≤ 4 → (∀ c, (c < w ∨ w + 4 < c) → I1 c = I c) → I1 w 0 = I u 0 → (∀ p, p < 8 → I1 (w + 1) p = I (u + 1) p ∧ I1 (w + 2) p = I (u + 2) p ∧ I1 (w + 3) p = I (u + 3) p) → (∀ t, t < i → I1 (w + 4) t = I (u + 4) t) → zq_E G mX6_copyFrom 0 0 0 false 60 [some (.ref w), some (.ref u), some (.int (nI i))] [] 138 I1 (zPs fo) (fun v n' I' P' => v = none ∧ n' = 138 ∧ P' = zPs fo ∧ zaw w I I' ∧ zcop w u I I') := by
    intro k
    induction k with
    | zero => intro i I1 hk hi; exact absurd hk (by omega)
    | succ k ih =>
      intro i I1 hk hi hf hy h0 h4
      refine ev_iload_n (q := 61) dX6_copyFrom_60 rfl rfl ?_
      refine ev_iconst (q := 62) (nI 4 : Int32) dX6_copyFrom_61 rfl (by decide) ?_
      refine ev_icmp_ge (q := 65) (t := 83) dX6_copyFrom_62 rfl (by decide) (fun h62 => ?_) (fun h62 => ?_)
      · obtain rfl : i = 4 := by rw [nI_leI (by omega) (by omega)] at h62; omega
        exact ev_vret dX6_copyFrom_83 rfl (⟨rfl, rfl, rfl, hf, hy, h0, h4⟩)
      · have hlt_i : i < 4 := by rw [nI_leI (by omega) (by omega)] at h62; omega
        refine ev_aload_n (q := 66) dX6_copyFrom_65 rfl rfl ?_
        refine ev_getR (q := 69) (ci := 6) (f := 4) dX6_copyFrom_66 rfl (by first | rfl | assumption | exact zf_kd (by assumption) | exact zw_kd (by assumption) | exact zt_kd (by assumption)) (by first | decide | exact zf_lt (by assumption) | exact zf_lt1 (by assumption) | exact zf_lt2 (by assumption) | exact zf_lt3 (by assumption) | exact zf_lt4 (by assumption) | exact zw_lt (by assumption) | exact zw_lt1 (by assumption) | exact zw_lt2 (by assumption) | exact zw_lt3 (by assumption) | exact zw_lt4 (by assumption) | exact zt_lt (by assumption)) (by decide) (by decide) lfRX6_21 rfl (by first | rfl | assumption | exact zf_p4 _ (by assumption) | exact zf_p5 _ (by assumption) | exact zf_p6 _ (by assumption) | exact zf_p7 _ (by assumption) | exact zw_p1 _ (by assumption) | exact zw_p2 _ (by assumption) | exact zw_p3 _ (by assumption) | exact zw_p4 _ (by assumption)) ?_
        refine ev_iload_n (q := 70) dX6_copyFrom_69 rfl rfl ?_
        refine ev_aload_n (q := 71) dX6_copyFrom_70 rfl rfl ?_
        refine ev_getR (q := 74) (ci := 6) (f := 4) dX6_copyFrom_71 rfl (by first | rfl | assumption | exact zf_kd (by assumption) | exact zw_kd (by assumption) | exact zt_kd (by assumption)) (by first | decide | exact zf_lt (by assumption) | exact zf_lt1 (by assumption) | exact zf_lt2 (by assumption) | exact zf_lt3 (by assumption) | exact zf_lt4 (by assumption) | exact zw_lt (by assumption) | exact zw_lt1 (by assumption) | exact zw_lt2 (by assumption) | exact zw_lt3 (by assumption) | exact zw_lt4 (by assumption) | exact zt_lt (by assumption)) (by decide) (by decide) lfRX6_21 rfl (by first | rfl | assumption | exact zf_p4 _ (by assumption) | exact zf_p5 _ (by assumption) | exact zf_p6 _ (by assumption) | exact zf_p7 _ (by assumption) | exact zw_p1 _ (by assumption) | exact zw_p2 _ (by assumption) | exact zw_p3 _ (by assumption) | exact zw_p4 _ (by assumption)) ?_
        refine ev_iload_n (q := 75) dX6_copyFrom_74 rfl rfl ?_
        refine ev_ialdN (q := 76) dX6_copyFrom_75 rfl (by first | rfl | assumption | exact zf_kd1 (by assumption) | exact zf_kd2 (by assumption) | exact zf_kd3 (by assumption) | exact zf_kd4 (by assumption) | exact zw_kd1 (by assumption) | exact zw_kd2 (by assumption) | exact zw_kd3 (by assumption) | exact zw_kd4 (by assumption)) (by first | decide | exact zf_lt (by assumption) | exact zf_lt1 (by assumption) | exact zf_lt2 (by assumption) | exact zf_lt3 (by assumption) | exact zf_lt4 (by assumption) | exact zw_lt (by assumption) | exact zw_lt1 (by assumption) | exact zw_lt2 (by assumption) | exact zw_lt3 (by assumption) | exact zw_lt4 (by assumption) | exact zt_lt (by assumption)) (by first | omega | assumption) ?_
        rw [show I1 (u + 4) i = I (u + 4) i by rw [hf (u + 4) (by omega)]]
        refine ev_iastN (q := 77) dX6_copyFrom_76 rfl (by first | rfl | assumption | exact zf_kd1 (by assumption) | exact zf_kd2 (by assumption) | exact zf_kd3 (by assumption) | exact zf_kd4 (by assumption) | exact zw_kd1 (by assumption) | exact zw_kd2 (by assumption) | exact zw_kd3 (by assumption) | exact zw_kd4 (by assumption)) (by first | decide | exact zf_lt (by assumption) | exact zf_lt1 (by assumption) | exact zf_lt2 (by assumption) | exact zf_lt3 (by assumption) | exact zf_lt4 (by assumption) | exact zw_lt (by assumption) | exact zw_lt1 (by assumption) | exact zw_lt2 (by assumption) | exact zw_lt3 (by assumption) | exact zw_lt4 (by assumption) | exact zt_lt (by assumption)) (by first | omega | assumption) ?_
        refine ev_iincL (q := 80) (L9 := [_, _, _]) (1 : Int32) dX6_copyFrom_77 rfl rfl (by decide) (by decide) rfl rfl ?_
        refine ev_goto (t := 60) dX6_copyFrom_80 (by decide) ?_
        rw [nI_1]
        exact ih (i + 1) _ (by omega) (by omega) (fun c hc => by rw [zu_other (by omega)]; exact hf c hc) (by rw [zu_other (by omega)]; exact hy) (fun p hp => by rw [zu_other (by omega), zu_other (by omega), zu_other (by omega)]; exact h0 p hp) (fun t ht => by
          by_cases hti : t = i
          · subst hti; simp [zu]
          · simp [zu, hti]; exact h4 t (by omega))
  have lp10 : ∀ (k i : Nat) (I1 : zq_I), 8 + 1 ≤ i + k → i ≤ 8 → (∀ c, (c < w ∨ w + 4 < c) → I1 c = I c) → I1 w 0 = I u 0 → (∀ p, p < i → I1 (w + 1) p = I (u + 1) p ∧ I1 (w + 2) p = I (u + 2) p ∧ I1 (w + 3) p = I (u + 3) p) → zq_E G mX6_copyFrom 0 0 0 false 10 [some (.ref w), some (.ref u), some (.int (nI i))] [] 138 I1 (zPs fo) (fun v n' I' P' => v = none ∧ n' = 138 ∧ P' = zPs fo ∧ zaw w I I' ∧ zcop w u I I') := by
    intro k
    induction k with
    | zero => intro i I1 hk hi; exact absurd hk (by omega)
    | succ k ih =>
      intro i I1 hk hi hf hy h0
      refine ev_iload_n (q := 11) dX6_copyFrom_10 rfl rfl ?_
      refine ev_bipush (q := 13) (nI 8 : Int32) dX6_copyFrom_11 rfl (by decide) ?_
      refine ev_icmp_ge (q := 16) (t := 58) dX6_copyFrom_13 rfl (by decide) (fun h13 => ?_) (fun h13 => ?_)
      · obtain rfl : i = 8 := by rw [nI_leI (by omega) (by omega)] at h13; omega
        refine ev_iconst (q := 59) (0 : Int32) dX6_copyFrom_58 rfl (by decide) ?_
        refine ev_istore_nL (q := 60) (L9 := [_, _, _]) dX6_copyFrom_59 rfl (by decide) rfl rfl ?_
        exact lp60 5 0 _ (by omega) (by omega) hf hy h0 (fun t ht => absurd ht (by omega))
      · have hlt_i : i < 8 := by rw [nI_leI (by omega) (by omega)] at h13; omega
        refine ev_aload_n (q := 17) dX6_copyFrom_16 rfl rfl ?_
        refine ev_getR (q := 20) (ci := 6) (f := 1) dX6_copyFrom_17 rfl (by first | rfl | assumption | exact zf_kd (by assumption) | exact zw_kd (by assumption) | exact zt_kd (by assumption)) (by first | decide | exact zf_lt (by assumption) | exact zf_lt1 (by assumption) | exact zf_lt2 (by assumption) | exact zf_lt3 (by assumption) | exact zf_lt4 (by assumption) | exact zw_lt (by assumption) | exact zw_lt1 (by assumption) | exact zw_lt2 (by assumption) | exact zw_lt3 (by assumption) | exact zw_lt4 (by assumption) | exact zt_lt (by assumption)) (by decide) (by decide) lfRX6_9 rfl (by first | rfl | assumption | exact zf_p4 _ (by assumption) | exact zf_p5 _ (by assumption) | exact zf_p6 _ (by assumption) | exact zf_p7 _ (by assumption) | exact zw_p1 _ (by assumption) | exact zw_p2 _ (by assumption) | exact zw_p3 _ (by assumption) | exact zw_p4 _ (by assumption)) ?_
        refine ev_iload_n (q := 21) dX6_copyFrom_20 rfl rfl ?_
        refine ev_aload_n (q := 22) dX6_copyFrom_21 rfl rfl ?_
        refine ev_getR (q := 25) (ci := 6) (f := 1) dX6_copyFrom_22 rfl (by first | rfl | assumption | exact zf_kd (by assumption) | exact zw_kd (by assumption) | exact zt_kd (by assumption)) (by first | decide | exact zf_lt (by assumption) | exact zf_lt1 (by assumption) | exact zf_lt2 (by assumption) | exact zf_lt3 (by assumption) | exact zf_lt4 (by assumption) | exact zw_lt (by assumption) | exact zw_lt1 (by assumption) | exact zw_lt2 (by assumption) | exact zw_lt3 (by assumption) | exact zw_lt4 (by assumption) | exact zt_lt (by assumption)) (by decide) (by decide) lfRX6_9 rfl (by first | rfl | assumption | exact zf_p4 _ (by assumption) | exact zf_p5 _ (by assumption) | exact zf_p6 _ (by assumption) | exact zf_p7 _ (by assumption) | exact zw_p1 _ (by assumption) | exact zw_p2 _ (by assumption) | exact zw_p3 _ (by assumption) | exact zw_p4 _ (by assumption)) ?_
        refine ev_iload_n (q := 26) dX6_copyFrom_25 rfl rfl ?_
        refine ev_ialdN (q := 27) dX6_copyFrom_26 rfl (by first | rfl | assumption | exact zf_kd1 (by assumption) | exact zf_kd2 (by assumption) | exact zf_kd3 (by assumption) | exact zf_kd4 (by assumption) | exact zw_kd1 (by assumption) | exact zw_kd2 (by assumption) | exact zw_kd3 (by assumption) | exact zw_kd4 (by assumption)) (by first | decide | exact zf_lt (by assumption) | exact zf_lt1 (by assumption) | exact zf_lt2 (by assumption) | exact zf_lt3 (by assumption) | exact zf_lt4 (by assumption) | exact zw_lt (by assumption) | exact zw_lt1 (by assumption) | exact zw_lt2 (by assumption) | exact zw_lt3 (by assumption) | exact zw_lt4 (by assumption) | exact zt_lt (by assumption)) (by first | omega | assumption) ?_
        rw [show I1 (u + 1) i = I (u + 1) i by rw [hf (u + 1) (by omega)]]
        refine ev_iastN (q := 28) dX6_copyFrom_27 rfl (by first | rfl | assumption | exact zf_kd1 (by assumption) | exact zf_kd2 (by assumption) | exact zf_kd3 (by assumption) | exact zf_kd4 (by assumption) | exact zw_kd1 (by assumption) | exact zw_kd2 (by assumption) | exact zw_kd3 (by assumption) | exact zw_kd4 (by assumption)) (by first | decide | exact zf_lt (by assumption) | exact zf_lt1 (by assumption) | exact zf_lt2 (by assumption) | exact zf_lt3 (by assumption) | exact zf_lt4 (by assumption) | exact zw_lt (by assumption) | exact zw_lt1 (by assumption) | exact zw_lt2 (by assumption) | exact zw_lt3 (by assumption) | exact zw_lt4 (by assumption) | exact zt_lt (by assumption)) (by first | omega | assumption) ?_
        refine ev_aload_n (q := 29) dX6_copyFrom_28 rfl rfl ?_
        refine ev_getR (q := 32) (ci := 6) (f := 2) dX6_copyFrom_29 rfl (by first | rfl | assumption | exact zf_kd (by assumption) | exact zw_kd (by assumption) | exact zt_kd (by assumption)) (by first | decide | exact zf_lt (by assumption) | exact zf_lt1 (by assumption) | exact zf_lt2 (by assumption) | exact zf_lt3 (by assumption) | exact zf_lt4 (by assumption) | exact zw_lt (by assumption) | exact zw_lt1 (by assumption) | exact zw_lt2 (by assumption) | exact zw_lt3 (by assumption) | exact zw_lt4 (by assumption) | exact zt_lt (by assumption)) (by decide) (by decide) lfRX6_15 rfl (by first | rfl | assumption | exact zf_p4 _ (by assumption) | exact zf_p5 _ (by assumption) | exact zf_p6 _ (by assumption) | exact zf_p7 _ (by assumption) | exact zw_p1 _ (by assumption) | exact zw_p2 _ (by assumption) | exact zw_p3 _ (by assumption) | exact zw_p4 _ (by assumption)) ?_
        refine ev_iload_n (q := 33) dX6_copyFrom_32 rfl rfl ?_
        refine ev_aload_n (q := 34) dX6_copyFrom_33 rfl rfl ?_
        refine ev_getR (q := 37) (ci := 6) (f := 2) dX6_copyFrom_34 rfl (by first | rfl | assumption | exact zf_kd (by assumption) | exact zw_kd (by assumption) | exact zt_kd (by assumption)) (by first | decide | exact zf_lt (by assumption) | exact zf_lt1 (by assumption) | exact zf_lt2 (by assumption) | exact zf_lt3 (by assumption) | exact zf_lt4 (by assumption) | exact zw_lt (by assumption) | exact zw_lt1 (by assumption) | exact zw_lt2 (by assumption) | exact zw_lt3 (by assumption) | exact zw_lt4 (by assumption) | exact zt_lt (by assumption)) (by decide) (by decide) lfRX6_15 rfl (by first | rfl | assumption | exact zf_p4 _ (by assumption) | exact zf_p5 _ (by assumption) | exact zf_p6 _ (by assumption) | exact zf_p7 _ (by assumption) | exact zw_p1 _ (by assumption) | exact zw_p2 _ (by assumption) | exact zw_p3 _ (by assumption) | exact zw_p4 _ (by assumption)) ?_
        refine ev_iload_n (q := 38) dX6_copyFrom_37 rfl rfl ?_
        refine ev_ialdN (q := 39) dX6_copyFrom_38 rfl (by first | rfl | assumption | exact zf_kd1 (by assumption) | exact zf_kd2 (by assumption) | exact zf_kd3 (by assumption) | exact zf_kd4 (by assumption) | exact zw_kd1 (by assumption) | exact zw_kd2 (by assumption) | exact zw_kd3 (by assumption) | exact zw_kd4 (by assumption)) (by first | decide | exact zf_lt (by assumption) | exact zf_lt1 (by assumption) | exact zf_lt2 (by assumption) | exact zf_lt3 (by assumption) | exact zf_lt4 (by assumption) | exact zw_lt (by assumption) | exact zw_lt1 (by assumption) | exact zw_lt2 (by assumption) | exact zw_lt3 (by assumption) | exact zw_lt4 (by assumption) | exact zt_lt (by assumption)) (by first | omega | assumption) ?_
        rw [show zu I1 (w + 1) i (I (u + 1) i) (u + 2) i = I (u + 2) i by rw [zu_other (by omega), hf (u + 2) (by omega)]]
        refine ev_iastN (q := 40) dX6_copyFrom_39 rfl (by first | rfl | assumption | exact zf_kd1 (by assumption) | exact zf_kd2 (by assumption) | exact zf_kd3 (by assumption) | exact zf_kd4 (by assumption) | exact zw_kd1 (by assumption) | exact zw_kd2 (by assumption) | exact zw_kd3 (by assumption) | exact zw_kd4 (by assumption)) (by first | decide | exact zf_lt (by assumption) | exact zf_lt1 (by assumption) | exact zf_lt2 (by assumption) | exact zf_lt3 (by assumption) | exact zf_lt4 (by assumption) | exact zw_lt (by assumption) | exact zw_lt1 (by assumption) | exact zw_lt2 (by assumption) | exact zw_lt3 (by assumption) | exact zw_lt4 (by assumption) | exact zt_lt (by assumption)) (by first | omega | assumption) ?_
        refine ev_aload_n (q := 41) dX6_copyFrom_40 rfl rfl ?_
        refine ev_getR (q := 44) (ci := 6) (f := 3) dX6_copyFrom_41 rfl (by first | rfl | assumption | exact zf_kd (by assumption) | exact zw_kd (by assumption) | exact zt_kd (by assumption)) (by first | decide | exact zf_lt (by assumption) | exact zf_lt1 (by assumption) | exact zf_lt2 (by assumption) | exact zf_lt3 (by assumption) | exact zf_lt4 (by assumption) | exact zw_lt (by assumption) | exact zw_lt1 (by assumption) | exact zw_lt2 (by assumption) | exact zw_lt3 (by assumption) | exact zw_lt4 (by assumption) | exact zt_lt (by assumption)) (by decide) (by decide) lfRX6_18 rfl (by first | rfl | assumption | exact zf_p4 _ (by assumption) | exact zf_p5 _ (by assumption) | exact zf_p6 _ (by assumption) | exact zf_p7 _ (by assumption) | exact zw_p1 _ (by assumption) | exact zw_p2 _ (by assumption) | exact zw_p3 _ (by assumption) | exact zw_p4 _ (by assumption)) ?_
        refine ev_iload_n (q := 45) dX6_copyFrom_44 rfl rfl ?_
        refine ev_aload_n (q := 46) dX6_copyFrom_45 rfl rfl ?_
        refine ev_getR (q := 49) (ci := 6) (f := 3) dX6_copyFrom_46 rfl (by first | rfl | assumption | exact zf_kd (by assumption) | exact zw_kd (by assumption) | exact zt_kd (by assumption)) (by first | decide | exact zf_lt (by assumption) | exact zf_lt1 (by assumption) | exact zf_lt2 (by assumption) | exact zf_lt3 (by assumption) | exact zf_lt4 (by assumption) | exact zw_lt (by assumption) | exact zw_lt1 (by assumption) | exact zw_lt2 (by assumption) | exact zw_lt3 (by assumption) | exact zw_lt4 (by assumption) | exact zt_lt (by assumption)) (by decide) (by decide) lfRX6_18 rfl (by first | rfl | assumption | exact zf_p4 _ (by assumption) | exact zf_p5 _ (by assumption) | exact zf_p6 _ (by assumption) | exact zf_p7 _ (by assumption) | exact zw_p1 _ (by assumption) | exact zw_p2 _ (by assumption) | exact zw_p3 _ (by assumption) | exact zw_p4 _ (by assumption)) ?_
        refine ev_iload_n (q := 50) dX6_copyFrom_49 rfl rfl ?_
        refine ev_ialdN (q := 51) dX6_copyFrom_50 rfl (by first | rfl | assumption | exact zf_kd1 (by assumption) | exact zf_kd2 (by assumption) | exact zf_kd3 (by assumption) | exact zf_kd4 (by assumption) | exact zw_kd1 (by assumption) | exact zw_kd2 (by assumption) | exact zw_kd3 (by assumption) | exact zw_kd4 (by assumption)) (by first | decide | exact zf_lt (by assumption) | exact zf_lt1 (by assumption) | exact zf_lt2 (by assumption) | exact zf_lt3 (by assumption) | exact zf_lt4 (by assumption) | exact zw_lt (by assumption) | exact zw_lt1 (by assumption) | exact zw_lt2 (by assumption) | exact zw_lt3 (by assumption) | exact zw_lt4 (by assumption) | exact zt_lt (by assumption)) (by first | omega | assumption) ?_
        rw [show zu (zu I1 (w + 1) i (I (u + 1) i)) (w + 2) i (I (u + 2) i) (u + 3) i = I (u + 3) i by rw [zu_other (by omega), zu_other (by omega), hf (u + 3) (by omega)]]
        refine ev_iastN (q := 52) dX6_copyFrom_51 rfl (by first | rfl | assumption | exact zf_kd1 (by assumption) | exact zf_kd2 (by assumption) | exact zf_kd3 (by assumption) | exact zf_kd4 (by assumption) | exact zw_kd1 (by assumption) | exact zw_kd2 (by assumption) | exact zw_kd3 (by assumption) | exact zw_kd4 (by assumption)) (by first | decide | exact zf_lt (by assumption) | exact zf_lt1 (by assumption) | exact zf_lt2 (by assumption) | exact zf_lt3 (by assumption) | exact zf_lt4 (by assumption) | exact zw_lt (by assumption) | exact zw_lt1 (by assumption) | exact zw_lt2 (by assumption) | exact zw_lt3 (by assumption) | exact zw_lt4 (by assumption) | exact zt_lt (by assumption)) (by first | omega | assumption) ?_
        refine ev_iincL (q := 55) (L9 := [_, _, _]) (1 : Int32) dX6_copyFrom_52 rfl rfl (by decide) (by decide) rfl rfl ?_
        refine ev_goto (t := 10) dX6_copyFrom_55 (by decide) ?_
        rw [nI_1]
        exact ih (i + 1) _ (by omega) (by omega) (fun c hc => by rw [zu_other (by omega), zu_other (by omega), zu_other (by omega)]; exact hf c hc) (by rw [zu_other (by omega), zu_other (by omega), zu_other (by omega)]; exact hy) (fun p hp => by
          by_cases hpi : p = i
          · subst hpi; simp [zu]
          · simp [zu, hpi]; exact h0 p (by omega))
  refine ev_aload_n (q := 1) dX6_copyFrom_0 rfl rfl ?_
  refine ev_aload_n (q := 2) dX6_copyFrom_1 rfl rfl ?_
  refine ev_getI (q := 5) (ci := 6) (f := 0) dX6_copyFrom_2 rfl (by first | rfl | assumption | exact zf_kd (by assumption) | exact zw_kd (by assumption) | exact zt_kd (by assumption)) (by first | decide | exact zf_lt (by assumption) | exact zf_lt1 (by assumption) | exact zf_lt2 (by assumption) | exact zf_lt3 (by assumption) | exact zf_lt4 (by assumption) | exact zw_lt (by assumption) | exact zw_lt1 (by assumption) | exact zw_lt2 (by assumption) | exact zw_lt3 (by assumption) | exact zw_lt4 (by assumption) | exact zt_lt (by assumption)) (by decide) (by decide) lfRX6_24 rfl ?_
  refine ev_putI (q := 8) (ci := 6) (f := 0) dX6_copyFrom_5 rfl (by first | rfl | assumption | exact zf_kd (by assumption) | exact zw_kd (by assumption) | exact zt_kd (by assumption)) (by first | decide | exact zf_lt (by assumption) | exact zf_lt1 (by assumption) | exact zf_lt2 (by assumption) | exact zf_lt3 (by assumption) | exact zf_lt4 (by assumption) | exact zw_lt (by assumption) | exact zw_lt1 (by assumption) | exact zw_lt2 (by assumption) | exact zw_lt3 (by assumption) | exact zw_lt4 (by assumption) | exact zt_lt (by assumption)) (by decide) (by decide) lfRX6_24 rfl rfl rfl rfl ?_
  refine ev_iconst (q := 9) (0 : Int32) dX6_copyFrom_8 rfl (by decide) ?_
  refine ev_istore_nL (q := 10) (L9 := [_, _, _]) dX6_copyFrom_9 rfl (by decide) rfl rfl ?_
  exact lp10 9 0 _ (by omega) (by omega) (fun c hc => zu_other (by omega)) (by simp [zu]) (fun p hp => absurd hp (by omega))
set_option maxHeartbeats 4000000 in
set_option maxRecDepth 100000 in
theorem c_X1_size (G : zq_G) (fo : Bool) (I : zq_I)  : zq_Met G mX1_size 0 0 0 [.ref 9] 138 I (zPs fo) (zq_pu (some (.int (I 9 2))) 138 I (zPs fo)) := by
  refine zq_Met.of okX1_size (Nat.le_of_ble_eq_true rfl) ?_
  show zq_E _ _ _ _ _ _ _ [some (.ref 9)] _ _ _ _ _
  refine ev_aload_n (q := 1) dX1_size_0 rfl rfl ?_
  refine ev_getI (q := 4) (ci := 1) (f := 2) dX1_size_1 rfl (by first | rfl | assumption | exact zf_kd (by assumption) | exact zw_kd (by assumption) | exact zt_kd (by assumption)) (by first | decide | exact zf_lt (by assumption) | exact zf_lt1 (by assumption) | exact zf_lt2 (by assumption) | exact zf_lt3 (by assumption) | exact zf_lt4 (by assumption) | exact zw_lt (by assumption) | exact zw_lt1 (by assumption) | exact zw_lt2 (by assumption) | exact zw_lt3 (by assumption) | exact zw_lt4 (by assumption) | exact zt_lt (by assumption)) (by decide) (by decide) lfRX1_18 rfl ?_
  exact ev_iret dX1_size_4 rfl (by first | rfl | exact zb_nar _ | assumption) (⟨rfl, rfl, rfl, rfl⟩)
set_option maxHeartbeats 4000000 in
set_option maxRecDepth 100000 in
theorem c_X1_clear (G : zq_G) (fo : Bool) (I : zq_I)  : zq_Met G mX1_clear 0 0 0 [.ref 9] 138 I (zPs fo) (fun v n' I' P' => v = none ∧ n' = 138 ∧ P' = zPs fo ∧ I' = zu I 9 2 0) := by
  refine zq_Met.of okX1_clear (Nat.le_of_ble_eq_true rfl) ?_
  show zq_E _ _ _ _ _ _ _ [some (.ref 9)] _ _ _ _ _
  refine ev_aload_n (q := 1) dX1_clear_0 rfl rfl ?_
  refine ev_iconst (q := 2) (0 : Int32) dX1_clear_1 rfl (by decide) ?_
  refine ev_putI (q := 5) (ci := 1) (f := 2) dX1_clear_2 rfl (by first | rfl | assumption | exact zf_kd (by assumption) | exact zw_kd (by assumption) | exact zt_kd (by assumption)) (by first | decide | exact zf_lt (by assumption) | exact zf_lt1 (by assumption) | exact zf_lt2 (by assumption) | exact zf_lt3 (by assumption) | exact zf_lt4 (by assumption) | exact zw_lt (by assumption) | exact zw_lt1 (by assumption) | exact zw_lt2 (by assumption) | exact zw_lt3 (by assumption) | exact zw_lt4 (by assumption) | exact zt_lt (by assumption)) (by decide) (by decide) lfRX1_18 rfl rfl rfl rfl ?_
  exact ev_vret dX1_clear_5 rfl (⟨rfl, rfl, rfl, rfl⟩)
def zhf (fs cn : Nat) : Nat := if cn = 16 then (fs + 1) % 16 else fs
def zhc (cn : Nat) : Nat := if cn = 16 then 15 else cn
def zhs (fs cn : Nat) : Nat := 11 + 5 * ((zhf fs cn + zhc cn) % 16)
/-- all but the history's numbers, and the World that it writes -/
def zrem (I I' : zq_I) (fs cn : Nat) : Prop := (∀ c, c ≠ 9 → (c < zhs fs cn ∨ zhs fs cn + 4 < c) → I' c = I c) ∧ I' 9 1 = nI (zhf fs cn) ∧ I' 9 2 = nI (zhc cn + 1) ∧ zcop (zhs fs cn) 91 I I' 
theorem zcop_zu9 {I I2 I3 : zq_I} {w : Nat} {j : Nat} {v : Int32} (hg : ∀ c, c ≠ 9 → I2 c = I c) (h : zcop w 91 I2 I3) (hw : 9 < w := by unfold zhs; omega) : zcop w 91 I (zu I3 9 j v) := by
  obtain ⟨h1, h2, h3⟩ := h
  refine ⟨?_, fun p hp => ?_, fun t ht => ?_⟩
  · rw [zu_other (by omega), h1, hg 91 (by decide)]
  · rw [zu_other (by omega), zu_other (by omega), zu_other (by omega), ← hg (91 + 1) (by decide), ← hg (91 + 2) (by decide), ← hg (91 + 3) (by decide)]; exact h2 p hp
  · rw [zu_other (by omega), ← hg (91 + 4) (by decide)]; exact h3 t ht
set_option maxHeartbeats 4000000 in
set_option maxRecDepth 100000 in
theorem c_X1_remember (G : zq_G) (fo : Bool) (I : zq_I) {fs cn : Nat} (hfs : fs < 16) (hcn : cn ≤ 16) (h1 : I 9 1 = nI fs) (h2 : I 9 2 = nI cn) : zq_Met G mX1_remember 1 0 0 [.ref 9, .ref 91] 138 I (zPs fo) (fun v n' I' P' => v = none ∧ n' = 138 ∧ P' = zPs fo ∧ zrem I I' fs cn) := by
  refine zq_Met.of okX1_remember (Nat.le_of_ble_eq_true rfl) ?_
  show zq_E _ _ _ _ _ _ _ [some (.ref 9), some (.ref 91)] _ _ _ _ _
  refine ev_aload_n (q := 1) dX1_remember_0 rfl rfl ?_
  refine ev_getI (q := 4) (ci := 1) (f := 2) dX1_remember_1 rfl (by first | rfl | assumption | exact zf_kd (by assumption) | exact zw_kd (by assumption) | exact zt_kd (by assumption)) (by first | decide | exact zf_lt (by assumption) | exact zf_lt1 (by assumption) | exact zf_lt2 (by assumption) | exact zf_lt3 (by assumption) | exact zf_lt4 (by assumption) | exact zw_lt (by assumption) | exact zw_lt1 (by assumption) | exact zw_lt2 (by assumption) | exact zw_lt3 (by assumption) | exact zw_lt4 (by assumption) | exact zt_lt (by assumption)) (by decide) (by decide) lfRX1_18 rfl ?_
  refine ev_bipush (q := 6) (nI 16 : Int32) dX1_remember_4 rfl (by decide) ?_
  refine ev_icmp_ne (q := 9) (t := 32) dX1_remember_6 rfl (by decide) (fun h6 => ?_) (fun h6 => ?_)
  · have hc : cn ≠ 16 := by rw [h2, nI_eq (by omega) (by omega)] at h6; exact h6
    have g1 : I 9 1 = nI (zhf fs cn) := by rw [h1]; simp [zhf, hc]
    have g2 : I 9 2 = nI (zhc cn) := by rw [h2]; simp [zhc, hc]
    have gf : ∀ c, c ≠ 9 → I c = I c := fun _ _ => rfl
    have hzf : zhf fs cn < 16 := by unfold zhf; split <;> omega
    have hzc : zhc cn < 16 := by unfold zhc; split <;> omega
    refine ev_aload_n (q := 33) dX1_remember_32 rfl rfl ?_
    refine ev_getR (q := 36) (ci := 1) (f := 0) dX1_remember_33 rfl (by first | rfl | assumption | exact zf_kd (by assumption) | exact zw_kd (by assumption) | exact zt_kd (by assumption)) (by first | decide | exact zf_lt (by assumption) | exact zf_lt1 (by assumption) | exact zf_lt2 (by assumption) | exact zf_lt3 (by assumption) | exact zf_lt4 (by assumption) | exact zw_lt (by assumption) | exact zw_lt1 (by assumption) | exact zw_lt2 (by assumption) | exact zw_lt3 (by assumption) | exact zw_lt4 (by assumption) | exact zt_lt (by assumption)) (by decide) (by decide) lfRX1_11 rfl (by first | rfl | assumption | exact zf_p4 _ (by assumption) | exact zf_p5 _ (by assumption) | exact zf_p6 _ (by assumption) | exact zf_p7 _ (by assumption) | exact zw_p1 _ (by assumption) | exact zw_p2 _ (by assumption) | exact zw_p3 _ (by assumption) | exact zw_p4 _ (by assumption)) ?_
    refine ev_aload_n (q := 37) dX1_remember_36 rfl rfl ?_
    refine ev_getI (q := 40) (ci := 1) (f := 1) dX1_remember_37 rfl (by first | rfl | assumption | exact zf_kd (by assumption) | exact zw_kd (by assumption) | exact zt_kd (by assumption)) (by first | decide | exact zf_lt (by assumption) | exact zf_lt1 (by assumption) | exact zf_lt2 (by assumption) | exact zf_lt3 (by assumption) | exact zf_lt4 (by assumption) | exact zw_lt (by assumption) | exact zw_lt1 (by assumption) | exact zw_lt2 (by assumption) | exact zw_lt3 (by assumption) | exact zw_lt4 (by assumption) | exact zt_lt (by assumption)) (by decide) (by decide) lfRX1_22 rfl ?_
    refine ev_aload_n (q := 41) dX1_remember_40 rfl rfl ?_
    refine ev_getI (q := 44) (ci := 1) (f := 2) dX1_remember_41 rfl (by first | rfl | assumption | exact zf_kd (by assumption) | exact zw_kd (by assumption) | exact zt_kd (by assumption)) (by first | decide | exact zf_lt (by assumption) | exact zf_lt1 (by assumption) | exact zf_lt2 (by assumption) | exact zf_lt3 (by assumption) | exact zf_lt4 (by assumption) | exact zw_lt (by assumption) | exact zw_lt1 (by assumption) | exact zw_lt2 (by assumption) | exact zw_lt3 (by assumption) | exact zw_lt4 (by assumption) | exact zt_lt (by assumption)) (by decide) (by decide) lfRX1_18 rfl ?_
    rw [g1, g2]
    refine ev_iadd (q := 45) dX1_remember_44 rfl ?_
    rw [nI_add]
    refine ev_bipush (q := 47) (nI 16 : Int32) dX1_remember_45 rfl (by decide) ?_
    refine ev_irem (q := 48) dX1_remember_47 rfl (by decide) ?_
    rw [pk_rem (by omega) (by omega) (by omega)]
    refine ev_aaldN (q := 49) dX1_remember_48 rfl (by first | rfl | assumption | exact zf_kd1 (by assumption) | exact zf_kd2 (by assumption) | exact zf_kd3 (by assumption) | exact zf_kd4 (by assumption) | exact zw_kd1 (by assumption) | exact zw_kd2 (by assumption) | exact zw_kd3 (by assumption) | exact zw_kd4 (by assumption)) (by first | decide | exact zf_lt (by assumption) | exact zf_lt1 (by assumption) | exact zf_lt2 (by assumption) | exact zf_lt3 (by assumption) | exact zf_lt4 (by assumption) | exact zw_lt (by assumption) | exact zw_lt1 (by assumption) | exact zw_lt2 (by assumption) | exact zw_lt3 (by assumption) | exact zw_lt4 (by assumption) | exact zt_lt (by assumption)) (Nat.mod_lt _ (by omega)) (zPs_ah fo (Nat.mod_lt _ (by omega))) ?_
    refine ev_aload_n (q := 50) dX1_remember_49 rfl rfl ?_
    refine ev_cV (q := 53) (ci := 6) dX1_remember_50 rfl okX6_copyFrom lmRX1_25 imX6_copyFrom seX6_copyFrom (zw_kd (zW_ah (Nat.mod_lt _ (by omega)))) (zw_lt (zW_ah (Nat.mod_lt _ (by omega)))) (by decide) rfl (c_X6_copyFrom G fo I (zW_ah (Nat.mod_lt _ (by omega))) zW_now (by omega)) (by decide) rfl rfl (Nat.le_of_ble_eq_true rfl) (fun v50 n50 I50 P50 hR50 => ?_)
    obtain ⟨rfl, rfl, rfl, haw, hcp⟩ := hR50
    refine ev_aload_n (q := 54) dX1_remember_53 rfl rfl ?_
    refine ev_dup (q := 55) dX1_remember_54 rfl rfl ?_
    refine ev_getI (q := 58) (ci := 1) (f := 2) dX1_remember_55 rfl (by first | rfl | assumption | exact zf_kd (by assumption) | exact zw_kd (by assumption) | exact zt_kd (by assumption)) (by first | decide | exact zf_lt (by assumption) | exact zf_lt1 (by assumption) | exact zf_lt2 (by assumption) | exact zf_lt3 (by assumption) | exact zf_lt4 (by assumption) | exact zw_lt (by assumption) | exact zw_lt1 (by assumption) | exact zw_lt2 (by assumption) | exact zw_lt3 (by assumption) | exact zw_lt4 (by assumption) | exact zt_lt (by assumption)) (by decide) (by decide) lfRX1_18 rfl ?_
    refine ev_iconst (q := 59) (1 : Int32) dX1_remember_58 rfl (by decide) ?_
    refine ev_iadd (q := 60) dX1_remember_59 rfl ?_
    refine ev_putI (q := 63) (ci := 1) (f := 2) dX1_remember_60 rfl (by first | rfl | assumption | exact zf_kd (by assumption) | exact zw_kd (by assumption) | exact zt_kd (by assumption)) (by first | decide | exact zf_lt (by assumption) | exact zf_lt1 (by assumption) | exact zf_lt2 (by assumption) | exact zf_lt3 (by assumption) | exact zf_lt4 (by assumption) | exact zw_lt (by assumption) | exact zw_lt1 (by assumption) | exact zw_lt2 (by assumption) | exact zw_lt3 (by assumption) | exact zw_lt4 (by assumption) | exact zt_lt (by assumption)) (by decide) (by decide) lfRX1_18 rfl rfl rfl rfl ?_
    exact ev_vret dX1_remember_63 rfl (⟨rfl, rfl, rfl, fun c h9 hc => (zu_other h9).trans ((haw c hc).trans (gf c h9)), by rw [show zu I50 9 2 (I50 9 2 + 1) 9 1 = I50 9 1 by simp [zu], haw 9 (Or.inl (by omega))]; exact g1, by rw [show zu I50 9 2 (I50 9 2 + 1) 9 2 = I50 9 2 + 1 by simp [zu], haw 9 (Or.inl (by omega)), g2, nI_1], zcop_zu9 (fun c h => gf c h) hcp⟩)
  · obtain rfl : cn = 16 := by rw [h2, nI_eq (by omega) (by omega)] at h6; exact h6
    refine ev_aload_n (q := 10) dX1_remember_9 rfl rfl ?_
    refine ev_aload_n (q := 11) dX1_remember_10 rfl rfl ?_
    refine ev_getI (q := 14) (ci := 1) (f := 1) dX1_remember_11 rfl (by first | rfl | assumption | exact zf_kd (by assumption) | exact zw_kd (by assumption) | exact zt_kd (by assumption)) (by first | decide | exact zf_lt (by assumption) | exact zf_lt1 (by assumption) | exact zf_lt2 (by assumption) | exact zf_lt3 (by assumption) | exact zf_lt4 (by assumption) | exact zw_lt (by assumption) | exact zw_lt1 (by assumption) | exact zw_lt2 (by assumption) | exact zw_lt3 (by assumption) | exact zw_lt4 (by assumption) | exact zt_lt (by assumption)) (by decide) (by decide) lfRX1_22 rfl ?_
    rw [h1]
    refine ev_iconst (q := 15) (1 : Int32) dX1_remember_14 rfl (by decide) ?_
    refine ev_iadd (q := 16) dX1_remember_15 rfl ?_
    refine ev_bipush (q := 18) (nI 16 : Int32) dX1_remember_16 rfl (by decide) ?_
    rw [nI_1]
    refine ev_irem (q := 19) dX1_remember_18 rfl (by decide) ?_
    rw [pk_rem (by omega) (by omega) (by omega)]
    refine ev_putI (q := 22) (ci := 1) (f := 1) dX1_remember_19 rfl (by first | rfl | assumption | exact zf_kd (by assumption) | exact zw_kd (by assumption) | exact zt_kd (by assumption)) (by first | decide | exact zf_lt (by assumption) | exact zf_lt1 (by assumption) | exact zf_lt2 (by assumption) | exact zf_lt3 (by assumption) | exact zf_lt4 (by assumption) | exact zw_lt (by assumption) | exact zw_lt1 (by assumption) | exact zw_lt2 (by assumption) | exact zw_lt3 (by assumption) | exact zw_lt4 (by assumption) | exact zt_lt (by assumption)) (by decide) (by decide) lfRX1_22 rfl rfl rfl rfl ?_
    refine ev_aload_n (q := 23) dX1_remember_22 rfl rfl ?_
    refine ev_dup (q := 24) dX1_remember_23 rfl rfl ?_
    refine ev_getI (q := 27) (ci := 1) (f := 2) dX1_remember_24 rfl (by first | rfl | assumption | exact zf_kd (by assumption) | exact zw_kd (by assumption) | exact zt_kd (by assumption)) (by first | decide | exact zf_lt (by assumption) | exact zf_lt1 (by assumption) | exact zf_lt2 (by assumption) | exact zf_lt3 (by assumption) | exact zf_lt4 (by assumption) | exact zw_lt (by assumption) | exact zw_lt1 (by assumption) | exact zw_lt2 (by assumption) | exact zw_lt3 (by assumption) | exact zw_lt4 (by assumption) | exact zt_lt (by assumption)) (by decide) (by decide) lfRX1_18 rfl ?_
    refine ev_iconst (q := 28) (1 : Int32) dX1_remember_27 rfl (by decide) ?_
    refine ev_isub (q := 29) dX1_remember_28 rfl ?_
    refine ev_putI (q := 32) (ci := 1) (f := 2) dX1_remember_29 rfl (by first | rfl | assumption | exact zf_kd (by assumption) | exact zw_kd (by assumption) | exact zt_kd (by assumption)) (by first | decide | exact zf_lt (by assumption) | exact zf_lt1 (by assumption) | exact zf_lt2 (by assumption) | exact zf_lt3 (by assumption) | exact zf_lt4 (by assumption) | exact zw_lt (by assumption) | exact zw_lt1 (by assumption) | exact zw_lt2 (by assumption) | exact zw_lt3 (by assumption) | exact zw_lt4 (by assumption) | exact zt_lt (by assumption)) (by decide) (by decide) lfRX1_18 rfl rfl rfl rfl ?_
    obtain ⟨I2, hI2⟩ : ∃ I2, I2 = zu (zu I 9 1 (nI ((fs + 1) % 16))) 9 2 (zu I 9 1 (nI ((fs + 1) % 16)) 9 2 - 1) := ⟨_, rfl⟩
    rw [← hI2]
    have g1 : I2 9 1 = nI (zhf fs 16) := by rw [hI2]; first | (simp [zu, zhf]; done) | (simp [zu, zhc, h2]; decide)
    have g2 : I2 9 2 = nI (zhc 16) := by rw [hI2]; first | (simp [zu, zhf]; done) | (simp [zu, zhc, h2]; decide)
    have gf : ∀ c, c ≠ 9 → I2 c = I c := fun c hc => by rw [hI2]; first | rw [zu_other hc, zu_other hc] | rfl
    have hzf : zhf fs 16 < 16 := by unfold zhf; split <;> omega
    have hzc : zhc 16 < 16 := by unfold zhc; split <;> omega
    refine ev_aload_n (q := 33) dX1_remember_32 rfl rfl ?_
    refine ev_getR (q := 36) (ci := 1) (f := 0) dX1_remember_33 rfl (by first | rfl | assumption | exact zf_kd (by assumption) | exact zw_kd (by assumption) | exact zt_kd (by assumption)) (by first | decide | exact zf_lt (by assumption) | exact zf_lt1 (by assumption) | exact zf_lt2 (by assumption) | exact zf_lt3 (by assumption) | exact zf_lt4 (by assumption) | exact zw_lt (by assumption) | exact zw_lt1 (by assumption) | exact zw_lt2 (by assumption) | exact zw_lt3 (by assumption) | exact zw_lt4 (by assumption) | exact zt_lt (by assumption)) (by decide) (by decide) lfRX1_11 rfl (by first | rfl | assumption | exact zf_p4 _ (by assumption) | exact zf_p5 _ (by assumption) | exact zf_p6 _ (by assumption) | exact zf_p7 _ (by assumption) | exact zw_p1 _ (by assumption) | exact zw_p2 _ (by assumption) | exact zw_p3 _ (by assumption) | exact zw_p4 _ (by assumption)) ?_
    refine ev_aload_n (q := 37) dX1_remember_36 rfl rfl ?_
    refine ev_getI (q := 40) (ci := 1) (f := 1) dX1_remember_37 rfl (by first | rfl | assumption | exact zf_kd (by assumption) | exact zw_kd (by assumption) | exact zt_kd (by assumption)) (by first | decide | exact zf_lt (by assumption) | exact zf_lt1 (by assumption) | exact zf_lt2 (by assumption) | exact zf_lt3 (by assumption) | exact zf_lt4 (by assumption) | exact zw_lt (by assumption) | exact zw_lt1 (by assumption) | exact zw_lt2 (by assumption) | exact zw_lt3 (by assumption) | exact zw_lt4 (by assumption) | exact zt_lt (by assumption)) (by decide) (by decide) lfRX1_22 rfl ?_
    refine ev_aload_n (q := 41) dX1_remember_40 rfl rfl ?_
    refine ev_getI (q := 44) (ci := 1) (f := 2) dX1_remember_41 rfl (by first | rfl | assumption | exact zf_kd (by assumption) | exact zw_kd (by assumption) | exact zt_kd (by assumption)) (by first | decide | exact zf_lt (by assumption) | exact zf_lt1 (by assumption) | exact zf_lt2 (by assumption) | exact zf_lt3 (by assumption) | exact zf_lt4 (by assumption) | exact zw_lt (by assumption) | exact zw_lt1 (by assumption) | exact zw_lt2 (by assumption) | exact zw_lt3 (by assumption) | exact zw_lt4 (by assumption) | exact zt_lt (by assumption)) (by decide) (by decide) lfRX1_18 rfl ?_
    rw [g1, g2]
    refine ev_iadd (q := 45) dX1_remember_44 rfl ?_
    rw [nI_add]
    refine ev_bipush (q := 47) (nI 16 : Int32) dX1_remember_45 rfl (by decide) ?_
    refine ev_irem (q := 48) dX1_remember_47 rfl (by decide) ?_
    rw [pk_rem (by omega) (by omega) (by omega)]
    refine ev_aaldN (q := 49) dX1_remember_48 rfl (by first | rfl | assumption | exact zf_kd1 (by assumption) | exact zf_kd2 (by assumption) | exact zf_kd3 (by assumption) | exact zf_kd4 (by assumption) | exact zw_kd1 (by assumption) | exact zw_kd2 (by assumption) | exact zw_kd3 (by assumption) | exact zw_kd4 (by assumption)) (by first | decide | exact zf_lt (by assumption) | exact zf_lt1 (by assumption) | exact zf_lt2 (by assumption) | exact zf_lt3 (by assumption) | exact zf_lt4 (by assumption) | exact zw_lt (by assumption) | exact zw_lt1 (by assumption) | exact zw_lt2 (by assumption) | exact zw_lt3 (by assumption) | exact zw_lt4 (by assumption) | exact zt_lt (by assumption)) (Nat.mod_lt _ (by omega)) (zPs_ah fo (Nat.mod_lt _ (by omega))) ?_
    refine ev_aload_n (q := 50) dX1_remember_49 rfl rfl ?_
    refine ev_cV (q := 53) (ci := 6) dX1_remember_50 rfl okX6_copyFrom lmRX1_25 imX6_copyFrom seX6_copyFrom (zw_kd (zW_ah (Nat.mod_lt _ (by omega)))) (zw_lt (zW_ah (Nat.mod_lt _ (by omega)))) (by decide) rfl (c_X6_copyFrom G fo I2 (zW_ah (Nat.mod_lt _ (by omega))) zW_now (by omega)) (by decide) rfl rfl (Nat.le_of_ble_eq_true rfl) (fun v50 n50 I50 P50 hR50 => ?_)
    obtain ⟨rfl, rfl, rfl, haw, hcp⟩ := hR50
    refine ev_aload_n (q := 54) dX1_remember_53 rfl rfl ?_
    refine ev_dup (q := 55) dX1_remember_54 rfl rfl ?_
    refine ev_getI (q := 58) (ci := 1) (f := 2) dX1_remember_55 rfl (by first | rfl | assumption | exact zf_kd (by assumption) | exact zw_kd (by assumption) | exact zt_kd (by assumption)) (by first | decide | exact zf_lt (by assumption) | exact zf_lt1 (by assumption) | exact zf_lt2 (by assumption) | exact zf_lt3 (by assumption) | exact zf_lt4 (by assumption) | exact zw_lt (by assumption) | exact zw_lt1 (by assumption) | exact zw_lt2 (by assumption) | exact zw_lt3 (by assumption) | exact zw_lt4 (by assumption) | exact zt_lt (by assumption)) (by decide) (by decide) lfRX1_18 rfl ?_
    refine ev_iconst (q := 59) (1 : Int32) dX1_remember_58 rfl (by decide) ?_
    refine ev_iadd (q := 60) dX1_remember_59 rfl ?_
    refine ev_putI (q := 63) (ci := 1) (f := 2) dX1_remember_60 rfl (by first | rfl | assumption | exact zf_kd (by assumption) | exact zw_kd (by assumption) | exact zt_kd (by assumption)) (by first | decide | exact zf_lt (by assumption) | exact zf_lt1 (by assumption) | exact zf_lt2 (by assumption) | exact zf_lt3 (by assumption) | exact zf_lt4 (by assumption) | exact zw_lt (by assumption) | exact zw_lt1 (by assumption) | exact zw_lt2 (by assumption) | exact zw_lt3 (by assumption) | exact zw_lt4 (by assumption) | exact zt_lt (by assumption)) (by decide) (by decide) lfRX1_18 rfl rfl rfl rfl ?_
    exact ev_vret dX1_remember_63 rfl (⟨rfl, rfl, rfl, fun c h9 hc => (zu_other h9).trans ((haw c hc).trans (gf c h9)), by rw [show zu I50 9 2 (I50 9 2 + 1) 9 1 = I50 9 1 by simp [zu], haw 9 (Or.inl (by omega))]; exact g1, by rw [show zu I50 9 2 (I50 9 2 + 1) 9 2 = I50 9 2 + 1 by simp [zu], haw 9 (Or.inl (by omega)), g2, nI_1], zcop_zu9 (fun c h => gf c h) hcp⟩)
theorem zcop_from {I I2 I3 : zq_I} {w u : Nat} (hg : ∀ c, c ≠ 9 → I2 c = I c) (hu : 9 < u) (h : zcop w u I2 I3) : zcop w u I I3 := by
  obtain ⟨h1, h2, h3⟩ := h
  refine ⟨by rw [h1, hg u (by omega)], fun p hp => ?_, fun t ht => ?_⟩
  · rw [← hg (u + 1) (by omega), ← hg (u + 2) (by omega), ← hg (u + 3) (by omega)]; exact h2 p hp
  · rw [← hg (u + 4) (by omega)]; exact h3 t ht
set_option maxHeartbeats 4000000 in
set_option maxRecDepth 100000 in
theorem c_X1_bringBack (G : zq_G) (fo : Bool) (I : zq_I) {fs cn : Nat} (hfs : fs < 16) (hcn : cn < 16) (h1 : I 9 1 = nI fs) (h2 : I 9 2 = nI (cn + 1)) : zq_Met G mX1_bringBack 1 0 0 [.ref 9, .ref 91] 138 I (zPs fo) (fun v n' I' P' => v = none ∧ n' = 138 ∧ P' = zPs fo ∧ (∀ c, c ≠ 9 → (c < 91 ∨ 95 < c) → I' c = I c) ∧ I' 9 1 = nI fs ∧ I' 9 2 = nI cn ∧ zcop 91 (11 + 5 * ((fs + cn) % 16)) I I') := by
  refine zq_Met.of okX1_bringBack (Nat.le_of_ble_eq_true rfl) ?_
  show zq_E _ _ _ _ _ _ _ [some (.ref 9), some (.ref 91)] _ _ _ _ _
  refine ev_aload_n (q := 1) dX1_bringBack_0 rfl rfl ?_
  refine ev_getI (q := 4) (ci := 1) (f := 2) dX1_bringBack_1 rfl (by first | rfl | assumption | exact zf_kd (by assumption) | exact zw_kd (by assumption) | exact zt_kd (by assumption)) (by first | decide | exact zf_lt (by assumption) | exact zf_lt1 (by assumption) | exact zf_lt2 (by assumption) | exact zf_lt3 (by assumption) | exact zf_lt4 (by assumption) | exact zw_lt (by assumption) | exact zw_lt1 (by assumption) | exact zw_lt2 (by assumption) | exact zw_lt3 (by assumption) | exact zw_lt4 (by assumption) | exact zt_lt (by assumption)) (by decide) (by decide) lfRX1_18 rfl ?_
  refine ev_if_le (q := 7) (t := 38) dX1_bringBack_4 rfl (by decide) (fun h4 => ?_) (fun h4 => ?_)
  · exact absurd h4 (by rw [h2]; exact nI_nle (by omega) (by omega))
  · refine ev_aload_n (q := 8) dX1_bringBack_7 rfl rfl ?_
    refine ev_dup (q := 9) dX1_bringBack_8 rfl rfl ?_
    refine ev_getI (q := 12) (ci := 1) (f := 2) dX1_bringBack_9 rfl (by first | rfl | assumption | exact zf_kd (by assumption) | exact zw_kd (by assumption) | exact zt_kd (by assumption)) (by first | decide | exact zf_lt (by assumption) | exact zf_lt1 (by assumption) | exact zf_lt2 (by assumption) | exact zf_lt3 (by assumption) | exact zf_lt4 (by assumption) | exact zw_lt (by assumption) | exact zw_lt1 (by assumption) | exact zw_lt2 (by assumption) | exact zw_lt3 (by assumption) | exact zw_lt4 (by assumption) | exact zt_lt (by assumption)) (by decide) (by decide) lfRX1_18 rfl ?_
    refine ev_iconst (q := 13) (1 : Int32) dX1_bringBack_12 rfl (by decide) ?_
    refine ev_isub (q := 14) dX1_bringBack_13 rfl ?_
    refine ev_putI (q := 17) (ci := 1) (f := 2) dX1_bringBack_14 rfl (by first | rfl | assumption | exact zf_kd (by assumption) | exact zw_kd (by assumption) | exact zt_kd (by assumption)) (by first | decide | exact zf_lt (by assumption) | exact zf_lt1 (by assumption) | exact zf_lt2 (by assumption) | exact zf_lt3 (by assumption) | exact zf_lt4 (by assumption) | exact zw_lt (by assumption) | exact zw_lt1 (by assumption) | exact zw_lt2 (by assumption) | exact zw_lt3 (by assumption) | exact zw_lt4 (by assumption) | exact zt_lt (by assumption)) (by decide) (by decide) lfRX1_18 rfl rfl rfl rfl ?_
    obtain ⟨I2, hI2⟩ : ∃ I2, I2 = zu I 9 2 (I 9 2 - 1) := ⟨_, rfl⟩
    rw [← hI2]
    have g1 : I2 9 1 = nI fs := by rw [hI2]; simp [zu, h1]
    have g2 : I2 9 2 = nI cn := by rw [hI2]; simp only [zu]; rw [if_pos ⟨trivial, trivial⟩, h2, nI_pred]
    have gf : ∀ c, c ≠ 9 → I2 c = I c := fun c hc => by rw [hI2, zu_other hc]
    refine ev_aload_n (q := 18) dX1_bringBack_17 rfl rfl ?_
    refine ev_aload_n (q := 19) dX1_bringBack_18 rfl rfl ?_
    refine ev_getR (q := 22) (ci := 1) (f := 0) dX1_bringBack_19 rfl (by first | rfl | assumption | exact zf_kd (by assumption) | exact zw_kd (by assumption) | exact zt_kd (by assumption)) (by first | decide | exact zf_lt (by assumption) | exact zf_lt1 (by assumption) | exact zf_lt2 (by assumption) | exact zf_lt3 (by assumption) | exact zf_lt4 (by assumption) | exact zw_lt (by assumption) | exact zw_lt1 (by assumption) | exact zw_lt2 (by assumption) | exact zw_lt3 (by assumption) | exact zw_lt4 (by assumption) | exact zt_lt (by assumption)) (by decide) (by decide) lfRX1_11 rfl (by first | rfl | assumption | exact zf_p4 _ (by assumption) | exact zf_p5 _ (by assumption) | exact zf_p6 _ (by assumption) | exact zf_p7 _ (by assumption) | exact zw_p1 _ (by assumption) | exact zw_p2 _ (by assumption) | exact zw_p3 _ (by assumption) | exact zw_p4 _ (by assumption)) ?_
    refine ev_aload_n (q := 23) dX1_bringBack_22 rfl rfl ?_
    refine ev_getI (q := 26) (ci := 1) (f := 1) dX1_bringBack_23 rfl (by first | rfl | assumption | exact zf_kd (by assumption) | exact zw_kd (by assumption) | exact zt_kd (by assumption)) (by first | decide | exact zf_lt (by assumption) | exact zf_lt1 (by assumption) | exact zf_lt2 (by assumption) | exact zf_lt3 (by assumption) | exact zf_lt4 (by assumption) | exact zw_lt (by assumption) | exact zw_lt1 (by assumption) | exact zw_lt2 (by assumption) | exact zw_lt3 (by assumption) | exact zw_lt4 (by assumption) | exact zt_lt (by assumption)) (by decide) (by decide) lfRX1_22 rfl ?_
    refine ev_aload_n (q := 27) dX1_bringBack_26 rfl rfl ?_
    refine ev_getI (q := 30) (ci := 1) (f := 2) dX1_bringBack_27 rfl (by first | rfl | assumption | exact zf_kd (by assumption) | exact zw_kd (by assumption) | exact zt_kd (by assumption)) (by first | decide | exact zf_lt (by assumption) | exact zf_lt1 (by assumption) | exact zf_lt2 (by assumption) | exact zf_lt3 (by assumption) | exact zf_lt4 (by assumption) | exact zw_lt (by assumption) | exact zw_lt1 (by assumption) | exact zw_lt2 (by assumption) | exact zw_lt3 (by assumption) | exact zw_lt4 (by assumption) | exact zt_lt (by assumption)) (by decide) (by decide) lfRX1_18 rfl ?_
    rw [g1, g2]
    refine ev_iadd (q := 31) dX1_bringBack_30 rfl ?_
    rw [nI_add]
    refine ev_bipush (q := 33) (nI 16 : Int32) dX1_bringBack_31 rfl (by decide) ?_
    refine ev_irem (q := 34) dX1_bringBack_33 rfl (by decide) ?_
    rw [pk_rem (by omega) (by omega) (by omega)]
    refine ev_aaldN (q := 35) dX1_bringBack_34 rfl (by first | rfl | assumption | exact zf_kd1 (by assumption) | exact zf_kd2 (by assumption) | exact zf_kd3 (by assumption) | exact zf_kd4 (by assumption) | exact zw_kd1 (by assumption) | exact zw_kd2 (by assumption) | exact zw_kd3 (by assumption) | exact zw_kd4 (by assumption)) (by first | decide | exact zf_lt (by assumption) | exact zf_lt1 (by assumption) | exact zf_lt2 (by assumption) | exact zf_lt3 (by assumption) | exact zf_lt4 (by assumption) | exact zw_lt (by assumption) | exact zw_lt1 (by assumption) | exact zw_lt2 (by assumption) | exact zw_lt3 (by assumption) | exact zw_lt4 (by assumption) | exact zt_lt (by assumption)) (Nat.mod_lt _ (by omega)) (zPs_ah fo (Nat.mod_lt _ (by omega))) ?_
    refine ev_cV (q := 38) (ci := 6) dX1_bringBack_35 rfl okX6_copyFrom lmRX1_25 imX6_copyFrom seX6_copyFrom (by first | rfl | assumption | exact zf_kd (by assumption) | exact zw_kd (by assumption) | exact zt_kd (by assumption)) (by first | decide | exact zf_lt (by assumption) | exact zf_lt1 (by assumption) | exact zf_lt2 (by assumption) | exact zf_lt3 (by assumption) | exact zf_lt4 (by assumption) | exact zw_lt (by assumption) | exact zw_lt1 (by assumption) | exact zw_lt2 (by assumption) | exact zw_lt3 (by assumption) | exact zw_lt4 (by assumption) | exact zt_lt (by assumption)) (by decide) rfl (c_X6_copyFrom G fo I2 zW_now (zW_ah (j := (fs + cn) % 16) (Nat.mod_lt _ (by omega))) (by have : (fs + cn) % 16 < 16 := Nat.mod_lt _ (by omega); omega)) (by decide) rfl rfl (Nat.le_of_ble_eq_true rfl) (fun v35 n35 I35 P35 hR35 => ?_)
    obtain ⟨rfl, rfl, rfl, haw, hcp⟩ := hR35
    exact ev_vret dX1_bringBack_38 rfl (⟨rfl, rfl, rfl, fun c h9 hc => by rw [haw c (by omega)]; exact gf c h9, by rw [haw 9 (by omega)]; exact g1, by rw [haw 9 (by omega)]; exact g2, zcop_from gf (by omega) hcp⟩)
