theorem z18L (x : Int32) : zinL x.toInt64 1 8 = z18 x := zinL_c x 1 8
def zwrM (len m : Nat) (v : Int64) (I I' : zq_I) : Prop := (∀ c, c ≠ 119 → c ≠ 120 → I' c = I c) ∧ (∀ k, k ≠ 2 → I' 119 k = I 119 k) ∧ I' 119 2 = nI (len + m) ∧ (∀ j, j < len → I' 120 j = I 120 j) ∧ ∀ q, q < m → I' 120 (len + q) = zbyt v (m - 1 - q) &&& 255
set_option maxHeartbeats 4000000 in
set_option maxRecDepth 100000 in
theorem lp_X8_write (G : zq_G) (fo : Bool) (I : zq_I) {len m : Nat} {v : Int64} (hlen : len + m ≤ 80) (hm1 : 1 ≤ m) (hm8 : m ≤ 8) (hl : I 119 2 = nI len) : zq_E G mX8_write 1 0 0 false 39 [some (.ref 119), some (.int (nI m)), some (.long v), none, some (.int (nI m - 1))] [] 138 I (zPs fo) (fun v' n' I' P' => n' = 138 ∧ P' = zPs fo ∧ v' = some (.int (nI (len + m))) ∧ zwrM len m v I I') := by
  have lp39 : ∀ (k i : Nat) (I1 : zq_I), m + 1 ≤ i + k → i ≤ m → (∀ c, c ≠ 119 → c ≠ 120 → I1 c = I c) → (∀ k, k ≠ 2 → I1 119 k = I 119 k) → I1 119 2 = nI (len + i) → (∀ j, j < len → I1 120 j = I 120 j) → (∀ q, q < i → I1 120 (len + q) = zbyt v (m - 1 - q) &&& 255) → zq_E G mX8_write 1 0 0 false 39 [some (.ref 119), some (.int (nI m)), some (.long v), none, some (.int (nI (m - i) - 1))] [] 138 I1 (zPs fo) (fun v' n' I' P' => n' = 138 ∧ P' = zPs fo ∧ v' = some (.int (nI (len + m))) ∧ zwrM len m v I I') := by
    intro k
    induction k with
    | zero => intro i I1 hk hi; exact absurd hk (by omega)
    | succ k ih =>
      intro i I1 hk hi hf hk9 h1 h2 h3
      refine ev_iload (q := 41) dX8_write_39 rfl rfl ?_
      refine ev_if_lt (q := 44) (t := 81) dX8_write_41 rfl (by decide) (fun h41 => ?_) (fun h41 => ?_)
      · obtain rfl : i = m := by have := (z1lt (m - i) (by omega)).mp h41; omega
        refine ev_aload_n (q := 82) dX8_write_81 rfl rfl ?_
        refine ev_getI (q := 85) (ci := 8) (f := 2) dX8_write_82 rfl (by first | rfl | assumption | exact zf_kd (by assumption) | exact zw_kd (by assumption) | exact zt_kd (by assumption)) (by first | decide | exact zf_lt (by assumption) | exact zf_lt1 (by assumption) | exact zf_lt2 (by assumption) | exact zf_lt3 (by assumption) | exact zf_lt4 (by assumption) | exact zw_lt (by assumption) | exact zw_lt1 (by assumption) | exact zw_lt2 (by assumption) | exact zw_lt3 (by assumption) | exact zw_lt4 (by assumption) | exact zt_lt (by assumption)) (by decide) (by decide) lfRX8_81 rfl ?_
        rw [h1]
        exact ev_iret dX8_write_85 rfl (by first | rfl | exact zb_nar _ | assumption) (⟨rfl, rfl, rfl, hf, hk9, h1, h2, h3⟩)
      · have hlt_i : i < m := by have := mt (z1lt (m - i) (by omega)).mpr h41; omega
        have hj : nI (m - i) - 1 = nI (m - 1 - i) := by rw [show m - i = (m - 1 - i) + 1 by omega, nI_pred]
        rw [hj]
        refine ev_aload_n (q := 45) dX8_write_44 rfl rfl ?_
        refine ev_getR (q := 48) (ci := 8) (f := 1) dX8_write_45 rfl (by first | rfl | assumption | exact zf_kd (by assumption) | exact zw_kd (by assumption) | exact zt_kd (by assumption)) (by first | decide | exact zf_lt (by assumption) | exact zf_lt1 (by assumption) | exact zf_lt2 (by assumption) | exact zf_lt3 (by assumption) | exact zf_lt4 (by assumption) | exact zw_lt (by assumption) | exact zw_lt1 (by assumption) | exact zw_lt2 (by assumption) | exact zw_lt3 (by assumption) | exact zw_lt4 (by assumption) | exact zt_lt (by assumption)) (by decide) (by decide) lfRX8_7 rfl (by first | rfl | assumption | exact zf_p4 _ (by assumption) | exact zf_p5 _ (by assumption) | exact zf_p6 _ (by assumption) | exact zf_p7 _ (by assumption) | exact zw_p1 _ (by assumption) | exact zw_p2 _ (by assumption) | exact zw_p3 _ (by assumption) | exact zw_p4 _ (by assumption)) ?_
        refine ev_aload_n (q := 49) dX8_write_48 rfl rfl ?_
        refine ev_getI (q := 52) (ci := 8) (f := 2) dX8_write_49 rfl (by first | rfl | assumption | exact zf_kd (by assumption) | exact zw_kd (by assumption) | exact zt_kd (by assumption)) (by first | decide | exact zf_lt (by assumption) | exact zf_lt1 (by assumption) | exact zf_lt2 (by assumption) | exact zf_lt3 (by assumption) | exact zf_lt4 (by assumption) | exact zw_lt (by assumption) | exact zw_lt1 (by assumption) | exact zw_lt2 (by assumption) | exact zw_lt3 (by assumption) | exact zw_lt4 (by assumption) | exact zt_lt (by assumption)) (by decide) (by decide) lfRX8_81 rfl ?_
        rw [h1]
        refine ev_lload_n (q := 53) dX8_write_52 rfl rfl ?_
        refine ev_bipush (q := 55) (8 : Int32) dX8_write_53 rfl (by decide) ?_
        refine ev_iload (q := 57) dX8_write_55 rfl rfl ?_
        refine ev_imul (q := 58) dX8_write_57 rfl ?_
        refine ev_lshr (q := 59) dX8_write_58 rfl ?_
        refine ev_l2i (q := 60) dX8_write_59 rfl ?_
        refine ev_sipush (q := 63) (255 : Int32) dX8_write_60 rfl (by decide) ?_
        refine ev_iand (q := 64) dX8_write_63 rfl ?_
        refine ev_iastN (q := 65) dX8_write_64 rfl rfl (by first | decide | exact zf_lt (by assumption) | exact zf_lt1 (by assumption) | exact zf_lt2 (by assumption) | exact zf_lt3 (by assumption) | exact zf_lt4 (by assumption) | exact zw_lt (by assumption) | exact zw_lt1 (by assumption) | exact zw_lt2 (by assumption) | exact zw_lt3 (by assumption) | exact zw_lt4 (by assumption) | exact zt_lt (by assumption)) (by first | omega | assumption) ?_
        refine ev_aload_n (q := 66) dX8_write_65 rfl rfl ?_
        refine ev_dup (q := 67) dX8_write_66 rfl rfl ?_
        refine ev_getI (q := 70) (ci := 8) (f := 2) dX8_write_67 rfl (by first | rfl | assumption | exact zf_kd (by assumption) | exact zw_kd (by assumption) | exact zt_kd (by assumption)) (by first | decide | exact zf_lt (by assumption) | exact zf_lt1 (by assumption) | exact zf_lt2 (by assumption) | exact zf_lt3 (by assumption) | exact zf_lt4 (by assumption) | exact zw_lt (by assumption) | exact zw_lt1 (by assumption) | exact zw_lt2 (by assumption) | exact zw_lt3 (by assumption) | exact zw_lt4 (by assumption) | exact zt_lt (by assumption)) (by decide) (by decide) lfRX8_81 rfl ?_
        rw [zu_nn (by omega), h1]
        refine ev_iconst (q := 71) (1 : Int32) dX8_write_70 rfl (by decide) ?_
        refine ev_iadd (q := 72) dX8_write_71 rfl ?_
        rw [nI_1]
        refine ev_putI (q := 75) (ci := 8) (f := 2) dX8_write_72 rfl (by first | rfl | assumption | exact zf_kd (by assumption) | exact zw_kd (by assumption) | exact zt_kd (by assumption)) (by first | decide | exact zf_lt (by assumption) | exact zf_lt1 (by assumption) | exact zf_lt2 (by assumption) | exact zf_lt3 (by assumption) | exact zf_lt4 (by assumption) | exact zw_lt (by assumption) | exact zw_lt1 (by assumption) | exact zw_lt2 (by assumption) | exact zw_lt3 (by assumption) | exact zw_lt4 (by assumption) | exact zt_lt (by assumption)) (by decide) (by decide) lfRX8_81 rfl rfl rfl rfl ?_
        refine ev_iincL (q := 78) (L9 := [_, _, _, _, _]) ((-1) : Int32) dX8_write_75 rfl rfl (by decide) (by decide) rfl rfl ?_
        refine ev_goto (t := 39) dX8_write_78 (by decide) ?_
        rw [nI_m1', show m - 1 - i = m - (i + 1) by omega]
        exact ih (i + 1) _ (by omega) (by omega) (fun c q1 q2 => by rw [zu_other q1, zu_other q2]; exact hf c q1 q2) (fun k hk => by rw [zu_ne hk, zu_other (by decide)]; exact hk9 k hk) zu_eq (fun j hj => by rw [zu_nn (by omega), zu_nn (by omega)]; exact h2 j hj) (fun q hq => by
          by_cases hqi : q = i
          · subst hqi; rw [zu_nn (by omega), zu_eq, show m - 1 - q = m - (q + 1) by omega]; rfl
          · rw [zu_nn (by omega), zu_nn (by omega)]; exact h3 q (by omega))
  exact lp39 (m + 1) 0 _ (by omega) (by omega) (fun _ _ _ => rfl) (fun _ _ => rfl) hl (fun _ _ => rfl) (fun q hq => absurd hq (by omega))
set_option maxHeartbeats 4000000 in
set_option maxRecDepth 100000 in
theorem k_X8_write (G : zq_G) (fo : Bool) (I : zq_I) {len : Nat} (hlen : len ≤ 80) (hl : I 119 2 = nI len) (x : Int32) (v : Int64) : zq_E G mX8_write 1 0 0 false 5 [some (.ref 119), some (.int x), some (.long v), none, none] [] 138 I (zPs fo) (fun v' n' I' P' => n' = 138 ∧ P' = zPs fo ∧ (z18 x = false → v' = some (.int (-2)) ∧ I' = I) ∧ ∀ m, 1 ≤ m → m ≤ 8 → x = nI m → (80 < len + m → v' = some (.int (-4)) ∧ I' = I) ∧ (len + m ≤ 80 → v' = some (.int (nI (len + m))) ∧ zwrM len m v I I')) := by
  refine ev_iload_n (q := 6) dX8_write_5 rfl rfl ?_
  refine ev_i2l (q := 7) dX8_write_6 rfl ?_
  refine ev_lconst (q := 8) (1 : Int64) dX8_write_7 rfl (by decide) ?_
  refine ev_ldc2 (q := 11) dX8_write_8 rfl ctRX8_79 ?_
  refine ev_pS (q := 14) dX8_write_11 rfl okX8_in lmRX8_75 smX8_in (c_X8_in G _ _ _ _ _ _) (by decide) rfl rfl (Nat.le_of_ble_eq_true rfl) ?_
  rw [z18L]
  refine ev_if_ne (q := 17) (t := 20) dX8_write_14 rfl (by decide) (fun h14 => ?_) (fun h14 => ?_)
  · have hz : z18 x = true := zb_ne h14
    obtain ⟨m, hm1, hm8, rfl⟩ : ∃ m, 1 ≤ m ∧ m ≤ 8 ∧ x = nI m := by
      have q := hz
      unfold z18 at q
      simp only [Bool.and_eq_true, Bool.not_eq_true', decide_eq_true_eq, decide_eq_false_iff_not] at q
      exact z18_t q.1 q.2
    refine ev_aload_n (q := 21) dX8_write_20 rfl rfl ?_
    refine ev_getI (q := 24) (ci := 8) (f := 2) dX8_write_21 rfl (by first | rfl | assumption | exact zf_kd (by assumption) | exact zw_kd (by assumption) | exact zt_kd (by assumption)) (by first | decide | exact zf_lt (by assumption) | exact zf_lt1 (by assumption) | exact zf_lt2 (by assumption) | exact zf_lt3 (by assumption) | exact zf_lt4 (by assumption) | exact zw_lt (by assumption) | exact zw_lt1 (by assumption) | exact zw_lt2 (by assumption) | exact zw_lt3 (by assumption) | exact zw_lt4 (by assumption) | exact zt_lt (by assumption)) (by decide) (by decide) lfRX8_81 rfl ?_
    rw [hl]
    refine ev_iload_n (q := 25) dX8_write_24 rfl rfl ?_
    refine ev_iadd (q := 26) dX8_write_25 rfl ?_
    rw [nI_add]
    refine ev_bipush (q := 28) (nI 80 : Int32) dX8_write_26 rfl (by decide) ?_
    refine ev_icmp_le (q := 31) (t := 34) dX8_write_28 rfl (by decide) (fun h28 => ?_) (fun h28 => ?_)
    · rw [nI_leI (by omega) (by omega)] at h28
      refine ev_iload_n (q := 35) dX8_write_34 rfl rfl ?_
      refine ev_iconst (q := 36) (1 : Int32) dX8_write_35 rfl (by decide) ?_
      refine ev_isub (q := 37) dX8_write_36 rfl ?_
      refine ev_istoreL (q := 39) (L9 := [_, _, _, _, _]) dX8_write_37 rfl (by decide) rfl rfl ?_
      refine ev_post ?_ (lp_X8_write G fo I (len := len) (m := m) (by omega) hm1 hm8 hl)
      rintro v' n' I' P' ⟨q1, q2, q3, q4⟩
      exact ⟨q1, q2, fun q => absurd q (by rw [hz]; decide), fun m2 _ h8 e => by
        obtain rfl : m = m2 := (nI_eq (by omega) (by omega)).mp e
        exact ⟨fun q => absurd q (by omega), fun _ => ⟨q3, q4⟩⟩⟩
    · rw [nI_leI (by omega) (by omega)] at h28
      refine ev_bipush (q := 33) ((-4) : Int32) dX8_write_31 rfl (by decide) ?_
      exact ev_iret dX8_write_33 rfl (by first | rfl | exact zb_nar _ | assumption) (⟨rfl, rfl, fun q => absurd q (by rw [hz]; decide), fun m2 _ h8 e => by
        obtain rfl : m = m2 := (nI_eq (by omega) (by omega)).mp e
        exact ⟨fun _ => ⟨rfl, rfl⟩, fun q => absurd q (by omega)⟩⟩)
  · have hz : z18 x = false := zb_eq h14
    refine ev_bipush (q := 19) ((-2) : Int32) dX8_write_17 rfl (by decide) ?_
    exact ev_iret dX8_write_19 rfl (by first | rfl | exact zb_nar _ | assumption) (⟨rfl, rfl, fun _ => ⟨rfl, rfl⟩, fun m h1 h8 e => absurd hz (by rw [e]; unfold z18; rw [decide_eq_false (show ¬ nI m < 1 from nI_nlt (b := 1) h1 (by omega)), decide_eq_true (show nI m ≤ 8 from nI_le (b := 8) h8 (by omega))]; decide)⟩)
set_option maxHeartbeats 4000000 in
set_option maxRecDepth 100000 in
theorem c_X8_write (G : zq_G) (fo : Bool) (I : zq_I) {len : Nat} (hlen : len ≤ 80) (hl : I 119 2 = nI len) (x : Int32) (v : Int64) : zq_Met G mX8_write 1 0 0 [.ref 119, .int x, .long v] 138 I (zPs fo) ((fun (I : zq_I) => fun v' n' I' P' => n' = 138 ∧ P' = zPs fo ∧ (z18 x = false → v' = some (.int (-2)) ∧ I' = I) ∧ ∀ m, 1 ≤ m → m ≤ 8 → x = nI m → (80 < len + m → v' = some (.int (-4)) ∧ I' = I) ∧ (len + m ≤ 80 → v' = some (.int (nI (len + m))) ∧ zwrM len m v I I')) (zu I 119 0 0)) := by
  refine zq_Met.of okX8_write (Nat.le_of_ble_eq_true rfl) ?_
  show zq_E _ _ _ _ _ _ _ [some (.ref 119), some (.int x), some (.long v), none, none] _ _ _ _ _
  refine ev_aload_n (q := 1) dX8_write_0 rfl rfl ?_
  refine ev_iconst (q := 2) (0 : Int32) dX8_write_1 rfl (by decide) ?_
  refine ev_putI (q := 5) (ci := 8) (f := 0) dX8_write_2 rfl (by first | rfl | assumption | exact zf_kd (by assumption) | exact zw_kd (by assumption) | exact zt_kd (by assumption)) (by first | decide | exact zf_lt (by assumption) | exact zf_lt1 (by assumption) | exact zf_lt2 (by assumption) | exact zf_lt3 (by assumption) | exact zf_lt4 (by assumption) | exact zw_lt (by assumption) | exact zw_lt1 (by assumption) | exact zw_lt2 (by assumption) | exact zw_lt3 (by assumption) | exact zw_lt4 (by assumption) | exact zt_lt (by assumption)) (by decide) (by decide) lfRX8_69 rfl rfl rfl rfl ?_
  exact k_X8_write G fo (zu I 119 0 0) hlen (by rw [zu_nn (by omega)]; exact hl) x v
set_option maxHeartbeats 4000000 in
set_option maxRecDepth 100000 in
theorem k_X8_fault (G : zq_G) (fo : Bool) (I : zq_I) {n : Nat} {b : Nat → Nat} (hb : zpuM I b n) : zq_E G mX8_fault 5 0 0 false 5 [some (.ref 119)] [] 138 I (zPs fo) (fun v' n' I' P' => v' = some (.int (zpF b n)) ∧ n' = 138 ∧ P' = zPs fo ∧ zFM I I') := by
  refine ev_aload_n (q := 6) dX8_fault_5 rfl rfl ?_
  refine ev_cV (q := 9) (ci := 8) dX8_fault_6 rfl okX8_readCensus lmRX8_124 imX8_readCensus seX8_readCensus (by first | rfl | assumption | exact zf_kd (by assumption) | exact zw_kd (by assumption) | exact zt_kd (by assumption)) (by first | decide | exact zf_lt (by assumption) | exact zf_lt1 (by assumption) | exact zf_lt2 (by assumption) | exact zf_lt3 (by assumption) | exact zf_lt4 (by assumption) | exact zw_lt (by assumption) | exact zw_lt1 (by assumption) | exact zw_lt2 (by assumption) | exact zw_lt3 (by assumption) | exact zw_lt4 (by assumption) | exact zt_lt (by assumption)) (by decide) rfl (c_X8_readCensus G fo I hb) (by decide) rfl rfl (Nat.le_of_ble_eq_true rfl) (fun v6 n6 I6 P6 hR6 => ?_)
  obtain ⟨rfl, rfl, hf9, rfl, hzr⟩ := hR6
  exact ev_iret dX8_fault_9 rfl (by first | rfl | exact zb_nar _ | assumption) (⟨rfl, rfl, rfl, hf9⟩)
set_option maxHeartbeats 4000000 in
set_option maxRecDepth 100000 in
theorem c_X8_fault (G : zq_G) (fo : Bool) (I : zq_I) {n : Nat} {b : Nat → Nat} (hb : zpuM I b n) : zq_Met G mX8_fault 5 0 0 [.ref 119] 138 I (zPs fo) ((fun (I : zq_I) => fun v' n' I' P' => v' = some (.int (zpF b n)) ∧ n' = 138 ∧ P' = zPs fo ∧ zFM I I') (zu I 119 0 0)) := by
  refine zq_Met.of okX8_fault (Nat.le_of_ble_eq_true rfl) ?_
  show zq_E _ _ _ _ _ _ _ [some (.ref 119)] _ _ _ _ _
  refine ev_aload_n (q := 1) dX8_fault_0 rfl rfl ?_
  refine ev_iconst (q := 2) (0 : Int32) dX8_fault_1 rfl (by decide) ?_
  refine ev_putI (q := 5) (ci := 8) (f := 0) dX8_fault_2 rfl (by first | rfl | assumption | exact zf_kd (by assumption) | exact zw_kd (by assumption) | exact zt_kd (by assumption)) (by first | decide | exact zf_lt (by assumption) | exact zf_lt1 (by assumption) | exact zf_lt2 (by assumption) | exact zf_lt3 (by assumption) | exact zf_lt4 (by assumption) | exact zw_lt (by assumption) | exact zw_lt1 (by assumption) | exact zw_lt2 (by assumption) | exact zw_lt3 (by assumption) | exact zw_lt4 (by assumption) | exact zt_lt (by assumption)) (by decide) (by decide) lfRX8_69 rfl rfl rfl rfl ?_
  exact k_X8_fault G fo (zu I 119 0 0) (hb.of (zFM.rf.zu 119 0 0 rfl))
def zcenM (I I' : zq_I) : zpS → Prop
  | (_, _, l, T, N, _, H, A, K, S) => I' 119 4 = nI l ∧ I' 119 5 = nI T ∧ I' 119 6 = nI N ∧ (∀ p, p < N → (I' 121 p = nI (H p) ∧ I' 122 p = nI (A p) ∧ I' 123 p = nI (K p) ∧ I' 124 p = nI (S p)) ∧ I' 125 p = nI (H p) ∧ I' 126 p = 0 ∧ I' 127 p = -9) ∧ (∀ t, t < 4 → I' 128 t = 0) ∧ I' 119 15 = 0 ∧ I' 119 25 = 0 ∧ (∀ s, s < 2 → I' 135 s = 0) ∧ I' 119 2 = I 119 2 ∧ ∀ c, c ≠ 119 → (c < 121 ∨ 132 < c) → c ≠ 135 → c ≠ 136 → c ≠ 137 → I' c = I c
def zlay (N i : Nat) (H A K S : Nat → Nat) (I0 I1 : zq_I) : Prop := (∀ c, (c < 121 ∨ 127 < c) → I1 c = I0 c) ∧ ∀ p, p < i → (I1 121 p = nI (H p) ∧ I1 122 p = nI (A p) ∧ I1 123 p = nI (K p) ∧ I1 124 p = nI (S p)) ∧ I1 125 p = nI (H p) ∧ I1 126 p = 0 ∧ I1 127 p = -9
theorem zlay_s {N i : Nat} {H A K S : Nat → Nat} {I0 I1 : zq_I} (h : zlay N i H A K S I0 I1) : zlay N (i + 1) H A K S I0 (zu (zu (zu (zu (zu (zu (zu I1 121 i (nI (H i))) 122 i (nI (A i))) 123 i (nI (K i))) 124 i (nI (S i))) 125 i (nI (H i))) 126 i 0) 127 i (-9)) := by
  refine ⟨fun c hc => ?_, fun p hp => ?_⟩
  · rw [zu_other (by omega), zu_other (by omega), zu_other (by omega), zu_other (by omega), zu_other (by omega), zu_other (by omega), zu_other (by omega)]
    exact h.1 c hc
  · by_cases hpi : p = i
    · subst hpi
      simp [zu]
    · obtain ⟨⟨h1, h2, h3, h4⟩, h5, h6, h7⟩ := h.2 p (by omega)
      simp [zu, hpi, h1, h2, h3, h4, h5, h6, h7]
set_option maxHeartbeats 4000000 in
set_option maxRecDepth 100000 in
theorem lp_X8_census (G : zq_G) (fo : Bool) (I0 : zq_I) {N : Nat} {H A K S : Nat → Nat} {R : zq_R} (hN8 : N ≤ 8) (h3 : I0 119 6 = nI N) (h5 : ∀ p, p < N → I0 129 p = nI (H p) ∧ I0 130 p = nI (A p) ∧ I0 131 p = nI (K p) ∧ I0 132 p = nI (S p)) (Kk : ∀ I1 : zq_I, zlay N N H A K S I0 I1 → zq_E G mX8_census 5 0 0 false 132 [some (.ref 119), none] [] 138 I1 (zPs fo) R) : zq_E G mX8_census 5 0 0 false 43 [some (.ref 119), some (.int 0)] [] 138 I0 (zPs fo) R := by
  have lp43 : ∀ (k i : Nat) (I1 : zq_I), N + 1 ≤ i + k → i ≤ N → zlay N i H A K S I0 I1 → zq_E G mX8_census 5 0 0 false 43 [some (.ref 119), some (.int (nI i))] [] 138 I1 (zPs fo) (R) := by
    intro k
    induction k with
    | zero => intro i I1 hk hi; exact absurd hk (by omega)
    | succ k ih =>
      intro i I1 hk hi hl
      have hN1 : I1 119 6 = nI N := by rw [hl.1 119 (by omega)]; exact h3
      refine ev_iload_n (q := 44) dX8_census_43 rfl rfl ?_
      refine ev_aload_n (q := 45) dX8_census_44 rfl rfl ?_
      refine ev_getI (q := 48) (ci := 8) (f := 6) dX8_census_45 rfl (by first | rfl | assumption | exact zf_kd (by assumption) | exact zw_kd (by assumption) | exact zt_kd (by assumption)) (by first | decide | exact zf_lt (by assumption) | exact zf_lt1 (by assumption) | exact zf_lt2 (by assumption) | exact zf_lt3 (by assumption) | exact zf_lt4 (by assumption) | exact zw_lt (by assumption) | exact zw_lt1 (by assumption) | exact zw_lt2 (by assumption) | exact zw_lt3 (by assumption) | exact zw_lt4 (by assumption) | exact zt_lt (by assumption)) (by decide) (by decide) lfRX8_72 rfl ?_
      refine ev_icmp_ge (q := 51) (t := 132) dX8_census_48 rfl (by decide) (fun h48 => ?_) (fun h48 => ?_)
      · rw [hN1] at h48
        obtain rfl : i = N := by rw [nI_leI (by omega) (by omega)] at h48; omega
        refine ev_wk (L' := [some (.ref 119), none]) ⟨rfl, trivial⟩ ?_
        exact Kk I1 hl
      · rw [hN1] at h48
        have hlt_i : i < N := by rw [nI_leI (by omega) (by omega)] at h48; omega
        obtain ⟨s1, s2, s3, s4⟩ := h5 i hlt_i
        have hi8 : i < 8 := by omega
        refine ev_aload_n (q := 52) dX8_census_51 rfl rfl ?_
        refine ev_getR (q := 55) (ci := 8) (f := 7) dX8_census_52 rfl (by first | rfl | assumption | exact zf_kd (by assumption) | exact zw_kd (by assumption) | exact zt_kd (by assumption)) (by first | decide | exact zf_lt (by assumption) | exact zf_lt1 (by assumption) | exact zf_lt2 (by assumption) | exact zf_lt3 (by assumption) | exact zf_lt4 (by assumption) | exact zw_lt (by assumption) | exact zw_lt1 (by assumption) | exact zw_lt2 (by assumption) | exact zw_lt3 (by assumption) | exact zw_lt4 (by assumption) | exact zt_lt (by assumption)) (by decide) (by decide) lfRX8_17 rfl (by first | rfl | assumption | exact zf_p4 _ (by assumption) | exact zf_p5 _ (by assumption) | exact zf_p6 _ (by assumption) | exact zf_p7 _ (by assumption) | exact zw_p1 _ (by assumption) | exact zw_p2 _ (by assumption) | exact zw_p3 _ (by assumption) | exact zw_p4 _ (by assumption)) ?_
        refine ev_iload_n (q := 56) dX8_census_55 rfl rfl ?_
        refine ev_aload_n (q := 57) dX8_census_56 rfl rfl ?_
        refine ev_getR (q := 60) (ci := 8) (f := 20) dX8_census_57 rfl (by first | rfl | assumption | exact zf_kd (by assumption) | exact zw_kd (by assumption) | exact zt_kd (by assumption)) (by first | decide | exact zf_lt (by assumption) | exact zf_lt1 (by assumption) | exact zf_lt2 (by assumption) | exact zf_lt3 (by assumption) | exact zf_lt4 (by assumption) | exact zw_lt (by assumption) | exact zw_lt1 (by assumption) | exact zw_lt2 (by assumption) | exact zw_lt3 (by assumption) | exact zw_lt4 (by assumption) | exact zt_lt (by assumption)) (by decide) (by decide) lfRX8_41 rfl (by first | rfl | assumption | exact zf_p4 _ (by assumption) | exact zf_p5 _ (by assumption) | exact zf_p6 _ (by assumption) | exact zf_p7 _ (by assumption) | exact zw_p1 _ (by assumption) | exact zw_p2 _ (by assumption) | exact zw_p3 _ (by assumption) | exact zw_p4 _ (by assumption)) ?_
        refine ev_iload_n (q := 61) dX8_census_60 rfl rfl ?_
        refine ev_ialdN (q := 62) dX8_census_61 rfl rfl (by first | decide | exact zf_lt (by assumption) | exact zf_lt1 (by assumption) | exact zf_lt2 (by assumption) | exact zf_lt3 (by assumption) | exact zf_lt4 (by assumption) | exact zw_lt (by assumption) | exact zw_lt1 (by assumption) | exact zw_lt2 (by assumption) | exact zw_lt3 (by assumption) | exact zw_lt4 (by assumption) | exact zt_lt (by assumption)) (by first | omega | assumption) ?_
        rw [hl.1 129 (by omega), s1]
        refine ev_iastN (q := 63) dX8_census_62 rfl rfl (by first | decide | exact zf_lt (by assumption) | exact zf_lt1 (by assumption) | exact zf_lt2 (by assumption) | exact zf_lt3 (by assumption) | exact zf_lt4 (by assumption) | exact zw_lt (by assumption) | exact zw_lt1 (by assumption) | exact zw_lt2 (by assumption) | exact zw_lt3 (by assumption) | exact zw_lt4 (by assumption) | exact zt_lt (by assumption)) (by first | omega | assumption) ?_
        refine ev_aload_n (q := 64) dX8_census_63 rfl rfl ?_
        refine ev_getR (q := 67) (ci := 8) (f := 8) dX8_census_64 rfl (by first | rfl | assumption | exact zf_kd (by assumption) | exact zw_kd (by assumption) | exact zt_kd (by assumption)) (by first | decide | exact zf_lt (by assumption) | exact zf_lt1 (by assumption) | exact zf_lt2 (by assumption) | exact zf_lt3 (by assumption) | exact zf_lt4 (by assumption) | exact zw_lt (by assumption) | exact zw_lt1 (by assumption) | exact zw_lt2 (by assumption) | exact zw_lt3 (by assumption) | exact zw_lt4 (by assumption) | exact zt_lt (by assumption)) (by decide) (by decide) lfRX8_20 rfl (by first | rfl | assumption | exact zf_p4 _ (by assumption) | exact zf_p5 _ (by assumption) | exact zf_p6 _ (by assumption) | exact zf_p7 _ (by assumption) | exact zw_p1 _ (by assumption) | exact zw_p2 _ (by assumption) | exact zw_p3 _ (by assumption) | exact zw_p4 _ (by assumption)) ?_
        refine ev_iload_n (q := 68) dX8_census_67 rfl rfl ?_
        refine ev_aload_n (q := 69) dX8_census_68 rfl rfl ?_
        refine ev_getR (q := 72) (ci := 8) (f := 21) dX8_census_69 rfl (by first | rfl | assumption | exact zf_kd (by assumption) | exact zw_kd (by assumption) | exact zt_kd (by assumption)) (by first | decide | exact zf_lt (by assumption) | exact zf_lt1 (by assumption) | exact zf_lt2 (by assumption) | exact zf_lt3 (by assumption) | exact zf_lt4 (by assumption) | exact zw_lt (by assumption) | exact zw_lt1 (by assumption) | exact zw_lt2 (by assumption) | exact zw_lt3 (by assumption) | exact zw_lt4 (by assumption) | exact zt_lt (by assumption)) (by decide) (by decide) lfRX8_44 rfl (by first | rfl | assumption | exact zf_p4 _ (by assumption) | exact zf_p5 _ (by assumption) | exact zf_p6 _ (by assumption) | exact zf_p7 _ (by assumption) | exact zw_p1 _ (by assumption) | exact zw_p2 _ (by assumption) | exact zw_p3 _ (by assumption) | exact zw_p4 _ (by assumption)) ?_
        refine ev_iload_n (q := 73) dX8_census_72 rfl rfl ?_
        refine ev_ialdN (q := 74) dX8_census_73 rfl rfl (by first | decide | exact zf_lt (by assumption) | exact zf_lt1 (by assumption) | exact zf_lt2 (by assumption) | exact zf_lt3 (by assumption) | exact zf_lt4 (by assumption) | exact zw_lt (by assumption) | exact zw_lt1 (by assumption) | exact zw_lt2 (by assumption) | exact zw_lt3 (by assumption) | exact zw_lt4 (by assumption) | exact zt_lt (by assumption)) (by first | omega | assumption) ?_
        rw [zu_other (by decide), hl.1 130 (by omega), s2]
        refine ev_iastN (q := 75) dX8_census_74 rfl rfl (by first | decide | exact zf_lt (by assumption) | exact zf_lt1 (by assumption) | exact zf_lt2 (by assumption) | exact zf_lt3 (by assumption) | exact zf_lt4 (by assumption) | exact zw_lt (by assumption) | exact zw_lt1 (by assumption) | exact zw_lt2 (by assumption) | exact zw_lt3 (by assumption) | exact zw_lt4 (by assumption) | exact zt_lt (by assumption)) (by first | omega | assumption) ?_
        refine ev_aload_n (q := 76) dX8_census_75 rfl rfl ?_
        refine ev_getR (q := 79) (ci := 8) (f := 9) dX8_census_76 rfl (by first | rfl | assumption | exact zf_kd (by assumption) | exact zw_kd (by assumption) | exact zt_kd (by assumption)) (by first | decide | exact zf_lt (by assumption) | exact zf_lt1 (by assumption) | exact zf_lt2 (by assumption) | exact zf_lt3 (by assumption) | exact zf_lt4 (by assumption) | exact zw_lt (by assumption) | exact zw_lt1 (by assumption) | exact zw_lt2 (by assumption) | exact zw_lt3 (by assumption) | exact zw_lt4 (by assumption) | exact zt_lt (by assumption)) (by decide) (by decide) lfRX8_23 rfl (by first | rfl | assumption | exact zf_p4 _ (by assumption) | exact zf_p5 _ (by assumption) | exact zf_p6 _ (by assumption) | exact zf_p7 _ (by assumption) | exact zw_p1 _ (by assumption) | exact zw_p2 _ (by assumption) | exact zw_p3 _ (by assumption) | exact zw_p4 _ (by assumption)) ?_
        refine ev_iload_n (q := 80) dX8_census_79 rfl rfl ?_
        refine ev_aload_n (q := 81) dX8_census_80 rfl rfl ?_
        refine ev_getR (q := 84) (ci := 8) (f := 22) dX8_census_81 rfl (by first | rfl | assumption | exact zf_kd (by assumption) | exact zw_kd (by assumption) | exact zt_kd (by assumption)) (by first | decide | exact zf_lt (by assumption) | exact zf_lt1 (by assumption) | exact zf_lt2 (by assumption) | exact zf_lt3 (by assumption) | exact zf_lt4 (by assumption) | exact zw_lt (by assumption) | exact zw_lt1 (by assumption) | exact zw_lt2 (by assumption) | exact zw_lt3 (by assumption) | exact zw_lt4 (by assumption) | exact zt_lt (by assumption)) (by decide) (by decide) lfRX8_47 rfl (by first | rfl | assumption | exact zf_p4 _ (by assumption) | exact zf_p5 _ (by assumption) | exact zf_p6 _ (by assumption) | exact zf_p7 _ (by assumption) | exact zw_p1 _ (by assumption) | exact zw_p2 _ (by assumption) | exact zw_p3 _ (by assumption) | exact zw_p4 _ (by assumption)) ?_
        refine ev_iload_n (q := 85) dX8_census_84 rfl rfl ?_
        refine ev_ialdN (q := 86) dX8_census_85 rfl rfl (by first | decide | exact zf_lt (by assumption) | exact zf_lt1 (by assumption) | exact zf_lt2 (by assumption) | exact zf_lt3 (by assumption) | exact zf_lt4 (by assumption) | exact zw_lt (by assumption) | exact zw_lt1 (by assumption) | exact zw_lt2 (by assumption) | exact zw_lt3 (by assumption) | exact zw_lt4 (by assumption) | exact zt_lt (by assumption)) (by first | omega | assumption) ?_
        rw [zu_other (by decide), zu_other (by decide), hl.1 131 (by omega), s3]
        refine ev_iastN (q := 87) dX8_census_86 rfl rfl (by first | decide | exact zf_lt (by assumption) | exact zf_lt1 (by assumption) | exact zf_lt2 (by assumption) | exact zf_lt3 (by assumption) | exact zf_lt4 (by assumption) | exact zw_lt (by assumption) | exact zw_lt1 (by assumption) | exact zw_lt2 (by assumption) | exact zw_lt3 (by assumption) | exact zw_lt4 (by assumption) | exact zt_lt (by assumption)) (by first | omega | assumption) ?_
        refine ev_aload_n (q := 88) dX8_census_87 rfl rfl ?_
        refine ev_getR (q := 91) (ci := 8) (f := 10) dX8_census_88 rfl (by first | rfl | assumption | exact zf_kd (by assumption) | exact zw_kd (by assumption) | exact zt_kd (by assumption)) (by first | decide | exact zf_lt (by assumption) | exact zf_lt1 (by assumption) | exact zf_lt2 (by assumption) | exact zf_lt3 (by assumption) | exact zf_lt4 (by assumption) | exact zw_lt (by assumption) | exact zw_lt1 (by assumption) | exact zw_lt2 (by assumption) | exact zw_lt3 (by assumption) | exact zw_lt4 (by assumption) | exact zt_lt (by assumption)) (by decide) (by decide) lfRX8_26 rfl (by first | rfl | assumption | exact zf_p4 _ (by assumption) | exact zf_p5 _ (by assumption) | exact zf_p6 _ (by assumption) | exact zf_p7 _ (by assumption) | exact zw_p1 _ (by assumption) | exact zw_p2 _ (by assumption) | exact zw_p3 _ (by assumption) | exact zw_p4 _ (by assumption)) ?_
        refine ev_iload_n (q := 92) dX8_census_91 rfl rfl ?_
        refine ev_aload_n (q := 93) dX8_census_92 rfl rfl ?_
        refine ev_getR (q := 96) (ci := 8) (f := 23) dX8_census_93 rfl (by first | rfl | assumption | exact zf_kd (by assumption) | exact zw_kd (by assumption) | exact zt_kd (by assumption)) (by first | decide | exact zf_lt (by assumption) | exact zf_lt1 (by assumption) | exact zf_lt2 (by assumption) | exact zf_lt3 (by assumption) | exact zf_lt4 (by assumption) | exact zw_lt (by assumption) | exact zw_lt1 (by assumption) | exact zw_lt2 (by assumption) | exact zw_lt3 (by assumption) | exact zw_lt4 (by assumption) | exact zt_lt (by assumption)) (by decide) (by decide) lfRX8_50 rfl (by first | rfl | assumption | exact zf_p4 _ (by assumption) | exact zf_p5 _ (by assumption) | exact zf_p6 _ (by assumption) | exact zf_p7 _ (by assumption) | exact zw_p1 _ (by assumption) | exact zw_p2 _ (by assumption) | exact zw_p3 _ (by assumption) | exact zw_p4 _ (by assumption)) ?_
        refine ev_iload_n (q := 97) dX8_census_96 rfl rfl ?_
        refine ev_ialdN (q := 98) dX8_census_97 rfl rfl (by first | decide | exact zf_lt (by assumption) | exact zf_lt1 (by assumption) | exact zf_lt2 (by assumption) | exact zf_lt3 (by assumption) | exact zf_lt4 (by assumption) | exact zw_lt (by assumption) | exact zw_lt1 (by assumption) | exact zw_lt2 (by assumption) | exact zw_lt3 (by assumption) | exact zw_lt4 (by assumption) | exact zt_lt (by assumption)) (by first | omega | assumption) ?_
        rw [zu_other (by decide), zu_other (by decide), zu_other (by decide), hl.1 132 (by omega), s4]
        refine ev_iastN (q := 99) dX8_census_98 rfl rfl (by first | decide | exact zf_lt (by assumption) | exact zf_lt1 (by assumption) | exact zf_lt2 (by assumption) | exact zf_lt3 (by assumption) | exact zf_lt4 (by assumption) | exact zw_lt (by assumption) | exact zw_lt1 (by assumption) | exact zw_lt2 (by assumption) | exact zw_lt3 (by assumption) | exact zw_lt4 (by assumption) | exact zt_lt (by assumption)) (by first | omega | assumption) ?_
        refine ev_aload_n (q := 100) dX8_census_99 rfl rfl ?_
        refine ev_getR (q := 103) (ci := 8) (f := 11) dX8_census_100 rfl (by first | rfl | assumption | exact zf_kd (by assumption) | exact zw_kd (by assumption) | exact zt_kd (by assumption)) (by first | decide | exact zf_lt (by assumption) | exact zf_lt1 (by assumption) | exact zf_lt2 (by assumption) | exact zf_lt3 (by assumption) | exact zf_lt4 (by assumption) | exact zw_lt (by assumption) | exact zw_lt1 (by assumption) | exact zw_lt2 (by assumption) | exact zw_lt3 (by assumption) | exact zw_lt4 (by assumption) | exact zt_lt (by assumption)) (by decide) (by decide) lfRX8_29 rfl (by first | rfl | assumption | exact zf_p4 _ (by assumption) | exact zf_p5 _ (by assumption) | exact zf_p6 _ (by assumption) | exact zf_p7 _ (by assumption) | exact zw_p1 _ (by assumption) | exact zw_p2 _ (by assumption) | exact zw_p3 _ (by assumption) | exact zw_p4 _ (by assumption)) ?_
        refine ev_iload_n (q := 104) dX8_census_103 rfl rfl ?_
        refine ev_aload_n (q := 105) dX8_census_104 rfl rfl ?_
        refine ev_getR (q := 108) (ci := 8) (f := 7) dX8_census_105 rfl (by first | rfl | assumption | exact zf_kd (by assumption) | exact zw_kd (by assumption) | exact zt_kd (by assumption)) (by first | decide | exact zf_lt (by assumption) | exact zf_lt1 (by assumption) | exact zf_lt2 (by assumption) | exact zf_lt3 (by assumption) | exact zf_lt4 (by assumption) | exact zw_lt (by assumption) | exact zw_lt1 (by assumption) | exact zw_lt2 (by assumption) | exact zw_lt3 (by assumption) | exact zw_lt4 (by assumption) | exact zt_lt (by assumption)) (by decide) (by decide) lfRX8_17 rfl (by first | rfl | assumption | exact zf_p4 _ (by assumption) | exact zf_p5 _ (by assumption) | exact zf_p6 _ (by assumption) | exact zf_p7 _ (by assumption) | exact zw_p1 _ (by assumption) | exact zw_p2 _ (by assumption) | exact zw_p3 _ (by assumption) | exact zw_p4 _ (by assumption)) ?_
        refine ev_iload_n (q := 109) dX8_census_108 rfl rfl ?_
        refine ev_ialdN (q := 110) dX8_census_109 rfl rfl (by first | decide | exact zf_lt (by assumption) | exact zf_lt1 (by assumption) | exact zf_lt2 (by assumption) | exact zf_lt3 (by assumption) | exact zf_lt4 (by assumption) | exact zw_lt (by assumption) | exact zw_lt1 (by assumption) | exact zw_lt2 (by assumption) | exact zw_lt3 (by assumption) | exact zw_lt4 (by assumption) | exact zt_lt (by assumption)) (by first | omega | assumption) ?_
        rw [zu_other (by decide), zu_other (by decide), zu_other (by decide), zu_eq]
        refine ev_iastN (q := 111) dX8_census_110 rfl rfl (by first | decide | exact zf_lt (by assumption) | exact zf_lt1 (by assumption) | exact zf_lt2 (by assumption) | exact zf_lt3 (by assumption) | exact zf_lt4 (by assumption) | exact zw_lt (by assumption) | exact zw_lt1 (by assumption) | exact zw_lt2 (by assumption) | exact zw_lt3 (by assumption) | exact zw_lt4 (by assumption) | exact zt_lt (by assumption)) (by first | omega | assumption) ?_
        refine ev_aload_n (q := 112) dX8_census_111 rfl rfl ?_
        refine ev_getR (q := 115) (ci := 8) (f := 12) dX8_census_112 rfl (by first | rfl | assumption | exact zf_kd (by assumption) | exact zw_kd (by assumption) | exact zt_kd (by assumption)) (by first | decide | exact zf_lt (by assumption) | exact zf_lt1 (by assumption) | exact zf_lt2 (by assumption) | exact zf_lt3 (by assumption) | exact zf_lt4 (by assumption) | exact zw_lt (by assumption) | exact zw_lt1 (by assumption) | exact zw_lt2 (by assumption) | exact zw_lt3 (by assumption) | exact zw_lt4 (by assumption) | exact zt_lt (by assumption)) (by decide) (by decide) lfRX8_32 rfl (by first | rfl | assumption | exact zf_p4 _ (by assumption) | exact zf_p5 _ (by assumption) | exact zf_p6 _ (by assumption) | exact zf_p7 _ (by assumption) | exact zw_p1 _ (by assumption) | exact zw_p2 _ (by assumption) | exact zw_p3 _ (by assumption) | exact zw_p4 _ (by assumption)) ?_
        refine ev_iload_n (q := 116) dX8_census_115 rfl rfl ?_
        refine ev_iconst (q := 117) (0 : Int32) dX8_census_116 rfl (by decide) ?_
        refine ev_iastN (q := 118) dX8_census_117 rfl rfl (by first | decide | exact zf_lt (by assumption) | exact zf_lt1 (by assumption) | exact zf_lt2 (by assumption) | exact zf_lt3 (by assumption) | exact zf_lt4 (by assumption) | exact zw_lt (by assumption) | exact zw_lt1 (by assumption) | exact zw_lt2 (by assumption) | exact zw_lt3 (by assumption) | exact zw_lt4 (by assumption) | exact zt_lt (by assumption)) (by first | omega | assumption) ?_
        refine ev_aload_n (q := 119) dX8_census_118 rfl rfl ?_
        refine ev_getR (q := 122) (ci := 8) (f := 13) dX8_census_119 rfl (by first | rfl | assumption | exact zf_kd (by assumption) | exact zw_kd (by assumption) | exact zt_kd (by assumption)) (by first | decide | exact zf_lt (by assumption) | exact zf_lt1 (by assumption) | exact zf_lt2 (by assumption) | exact zf_lt3 (by assumption) | exact zf_lt4 (by assumption) | exact zw_lt (by assumption) | exact zw_lt1 (by assumption) | exact zw_lt2 (by assumption) | exact zw_lt3 (by assumption) | exact zw_lt4 (by assumption) | exact zt_lt (by assumption)) (by decide) (by decide) lfRX8_35 rfl (by first | rfl | assumption | exact zf_p4 _ (by assumption) | exact zf_p5 _ (by assumption) | exact zf_p6 _ (by assumption) | exact zf_p7 _ (by assumption) | exact zw_p1 _ (by assumption) | exact zw_p2 _ (by assumption) | exact zw_p3 _ (by assumption) | exact zw_p4 _ (by assumption)) ?_
        refine ev_iload_n (q := 123) dX8_census_122 rfl rfl ?_
        refine ev_bipush (q := 125) ((-9) : Int32) dX8_census_123 rfl (by decide) ?_
        refine ev_iastN (q := 126) dX8_census_125 rfl rfl (by first | decide | exact zf_lt (by assumption) | exact zf_lt1 (by assumption) | exact zf_lt2 (by assumption) | exact zf_lt3 (by assumption) | exact zf_lt4 (by assumption) | exact zw_lt (by assumption) | exact zw_lt1 (by assumption) | exact zw_lt2 (by assumption) | exact zw_lt3 (by assumption) | exact zw_lt4 (by assumption) | exact zt_lt (by assumption)) (by first | omega | assumption) ?_
        refine ev_iincL (q := 129) (L9 := [_, _]) (1 : Int32) dX8_census_126 rfl rfl (by decide) (by decide) rfl rfl ?_
        refine ev_goto (t := 43) dX8_census_129 (by decide) ?_
        rw [nI_1]
        exact ih (i + 1) _ (by omega) (by omega) (zlay_s hl)
  exact lp43 (N + 1) 0 _ (by omega) (by omega) ⟨fun _ _ => rfl, fun p hp => absurd hp (by omega)⟩
set_option maxHeartbeats 4000000 in
set_option maxRecDepth 100000 in
theorem lq_X8_census (G : zq_G) (fo : Bool) (I0 : zq_I) {R : zq_R} (Kk : ∀ I1 : zq_I, (∀ c, c ≠ 128 → I1 c = I0 c) → (∀ t, t < 4 → I1 128 t = 0) → zq_E G mX8_census 5 0 0 false 152 [some (.ref 119), none] [] 138 I1 (zPs fo) R) : zq_E G mX8_census 5 0 0 false 134 [some (.ref 119), some (.int 0)] [] 138 I0 (zPs fo) R := by
  have lp134 : ∀ (k i : Nat) (I1 : zq_I), 4 + 1 ≤ i + k → i ≤ 4 → (∀ c, c ≠ 128 → I1 c = I0 c) → (∀ t, t < i → I1 128 t = 0) → zq_E G mX8_census 5 0 0 false 134 [some (.ref 119), some (.int (nI i))] [] 138 I1 (zPs fo) (R) := by
    intro k
    induction k with
    | zero => intro i I1 hk hi; exact absurd hk (by omega)
    | succ k ih =>
      intro i I1 hk hi hf h0
      refine ev_iload_n (q := 135) dX8_census_134 rfl rfl ?_
      refine ev_iconst (q := 136) (nI 4 : Int32) dX8_census_135 rfl (by decide) ?_
      refine ev_icmp_ge (q := 139) (t := 152) dX8_census_136 rfl (by decide) (fun h136 => ?_) (fun h136 => ?_)
      · obtain rfl : i = 4 := by rw [nI_leI (by omega) (by omega)] at h136; omega
        refine ev_wk (L' := [some (.ref 119), none]) ⟨rfl, trivial⟩ ?_
        exact Kk I1 hf h0
      · have hlt_i : i < 4 := by rw [nI_leI (by omega) (by omega)] at h136; omega
        refine ev_aload_n (q := 140) dX8_census_139 rfl rfl ?_
        refine ev_getR (q := 143) (ci := 8) (f := 14) dX8_census_140 rfl (by first | rfl | assumption | exact zf_kd (by assumption) | exact zw_kd (by assumption) | exact zt_kd (by assumption)) (by first | decide | exact zf_lt (by assumption) | exact zf_lt1 (by assumption) | exact zf_lt2 (by assumption) | exact zf_lt3 (by assumption) | exact zf_lt4 (by assumption) | exact zw_lt (by assumption) | exact zw_lt1 (by assumption) | exact zw_lt2 (by assumption) | exact zw_lt3 (by assumption) | exact zw_lt4 (by assumption) | exact zt_lt (by assumption)) (by decide) (by decide) lfRX8_38 rfl (by first | rfl | assumption | exact zf_p4 _ (by assumption) | exact zf_p5 _ (by assumption) | exact zf_p6 _ (by assumption) | exact zf_p7 _ (by assumption) | exact zw_p1 _ (by assumption) | exact zw_p2 _ (by assumption) | exact zw_p3 _ (by assumption) | exact zw_p4 _ (by assumption)) ?_
        refine ev_iload_n (q := 144) dX8_census_143 rfl rfl ?_
        refine ev_iconst (q := 145) (0 : Int32) dX8_census_144 rfl (by decide) ?_
        refine ev_iastN (q := 146) dX8_census_145 rfl rfl (by first | decide | exact zf_lt (by assumption) | exact zf_lt1 (by assumption) | exact zf_lt2 (by assumption) | exact zf_lt3 (by assumption) | exact zf_lt4 (by assumption) | exact zw_lt (by assumption) | exact zw_lt1 (by assumption) | exact zw_lt2 (by assumption) | exact zw_lt3 (by assumption) | exact zw_lt4 (by assumption) | exact zt_lt (by assumption)) (by first | omega | assumption) ?_
        refine ev_iincL (q := 149) (L9 := [_, _]) (1 : Int32) dX8_census_146 rfl rfl (by decide) (by decide) rfl rfl ?_
        refine ev_goto (t := 134) dX8_census_149 (by decide) ?_
        rw [nI_1]
        exact ih (i + 1) _ (by omega) (by omega) (fun c q => by rw [zu_other q]; exact hf c q) (fun t ht => by
          by_cases hti : t = i
          · subst hti; exact zu_eq
          · rw [zu_ne hti]; exact h0 t (by omega))
  exact lp134 5 0 _ (by omega) (by omega) (fun _ _ => rfl) (fun t ht => absurd ht (by omega))
set_option maxHeartbeats 4000000 in
set_option maxRecDepth 100000 in
theorem k_X8_census (G : zq_G) (fo : Bool) (I : zq_I) {n : Nat} {b : Nat → Nat} (hb : zpuM I b n) : zq_E G mX8_census 5 0 0 false 5 [some (.ref 119), none] [] 138 I (zPs fo) (fun v' n' I' P' => n' = 138 ∧ P' = zPs fo ∧ (¬ zpF b n = -9 → v' = some (.int (-3)) ∧ zFM I I') ∧ ∀ s, zpR b n = some s → s.1 = 3 → v' = some (.int (nI s.2.2.2.2.1)) ∧ zcenM I I' s) := by
  refine ev_aload_n (q := 6) dX8_census_5 rfl rfl ?_
  refine ev_cV (q := 9) (ci := 8) dX8_census_6 rfl okX8_readCensus lmRX8_124 imX8_readCensus seX8_readCensus (by first | rfl | assumption | exact zf_kd (by assumption) | exact zw_kd (by assumption) | exact zt_kd (by assumption)) (by first | decide | exact zf_lt (by assumption) | exact zf_lt1 (by assumption) | exact zf_lt2 (by assumption) | exact zf_lt3 (by assumption) | exact zf_lt4 (by assumption) | exact zw_lt (by assumption) | exact zw_lt1 (by assumption) | exact zw_lt2 (by assumption) | exact zw_lt3 (by assumption) | exact zw_lt4 (by assumption) | exact zt_lt (by assumption)) (by decide) rfl (c_X8_readCensus G fo I hb) (by decide) rfl rfl (Nat.le_of_ble_eq_true rfl) (fun v6 n6 I6 P6 hR6 => ?_)
  obtain ⟨rfl, rfl, hf9, rfl, hzr⟩ := hR6
  refine ev_bipush (q := 11) ((-9) : Int32) dX8_census_9 rfl (by decide) ?_
  refine ev_icmp_eq (q := 14) (t := 17) dX8_census_11 rfl (by decide) (fun h11 => ?_) (fun h11 => ?_)
  · obtain ⟨s, hz, hs3⟩ := zpF_3 (by have := hb.1; omega) h11
    obtain ⟨w, ak, l, T, N, M, H, A, K, S⟩ := s
    obtain rfl : w = 3 := hs3
    have hok := zpR_ok _ _ hz
    obtain ⟨c1, c2, c3, c4, c5, c6, c7, c8, c9, c10, c11, c12, c13, c14⟩ := hok
    obtain ⟨e1, e2, e3, e4, e5⟩ := hzr _ hz rfl
    refine ev_aload_n (q := 18) dX8_census_17 rfl rfl ?_
    refine ev_aload_n (q := 19) dX8_census_18 rfl rfl ?_
    refine ev_getI (q := 22) (ci := 8) (f := 16) dX8_census_19 rfl (by first | rfl | assumption | exact zf_kd (by assumption) | exact zw_kd (by assumption) | exact zt_kd (by assumption)) (by first | decide | exact zf_lt (by assumption) | exact zf_lt1 (by assumption) | exact zf_lt2 (by assumption) | exact zf_lt3 (by assumption) | exact zf_lt4 (by assumption) | exact zw_lt (by assumption) | exact zw_lt1 (by assumption) | exact zw_lt2 (by assumption) | exact zw_lt3 (by assumption) | exact zw_lt4 (by assumption) | exact zt_lt (by assumption)) (by decide) (by decide) lfRX8_118 rfl ?_
    refine ev_putI (q := 25) (ci := 8) (f := 4) dX8_census_22 rfl (by first | rfl | assumption | exact zf_kd (by assumption) | exact zw_kd (by assumption) | exact zt_kd (by assumption)) (by first | decide | exact zf_lt (by assumption) | exact zf_lt1 (by assumption) | exact zf_lt2 (by assumption) | exact zf_lt3 (by assumption) | exact zf_lt4 (by assumption) | exact zw_lt (by assumption) | exact zw_lt1 (by assumption) | exact zw_lt2 (by assumption) | exact zw_lt3 (by assumption) | exact zw_lt4 (by assumption) | exact zt_lt (by assumption)) (by decide) (by decide) lfRX8_128 rfl rfl rfl rfl ?_
    refine ev_aload_n (q := 26) dX8_census_25 rfl rfl ?_
    refine ev_aload_n (q := 27) dX8_census_26 rfl rfl ?_
    refine ev_getI (q := 30) (ci := 8) (f := 17) dX8_census_27 rfl (by first | rfl | assumption | exact zf_kd (by assumption) | exact zw_kd (by assumption) | exact zt_kd (by assumption)) (by first | decide | exact zf_lt (by assumption) | exact zf_lt1 (by assumption) | exact zf_lt2 (by assumption) | exact zf_lt3 (by assumption) | exact zf_lt4 (by assumption) | exact zw_lt (by assumption) | exact zw_lt1 (by assumption) | exact zw_lt2 (by assumption) | exact zw_lt3 (by assumption) | exact zw_lt4 (by assumption) | exact zt_lt (by assumption)) (by decide) (by decide) lfRX8_87 rfl ?_
    refine ev_putI (q := 33) (ci := 8) (f := 5) dX8_census_30 rfl (by first | rfl | assumption | exact zf_kd (by assumption) | exact zw_kd (by assumption) | exact zt_kd (by assumption)) (by first | decide | exact zf_lt (by assumption) | exact zf_lt1 (by assumption) | exact zf_lt2 (by assumption) | exact zf_lt3 (by assumption) | exact zf_lt4 (by assumption) | exact zw_lt (by assumption) | exact zw_lt1 (by assumption) | exact zw_lt2 (by assumption) | exact zw_lt3 (by assumption) | exact zw_lt4 (by assumption) | exact zt_lt (by assumption)) (by decide) (by decide) lfRX8_13 rfl rfl rfl rfl ?_
    rw [show zu I6 119 4 (I6 119 16) 119 17 = I6 119 17 by rw [zu_nn (by omega)]]
    refine ev_aload_n (q := 34) dX8_census_33 rfl rfl ?_
    refine ev_aload_n (q := 35) dX8_census_34 rfl rfl ?_
    refine ev_getI (q := 38) (ci := 8) (f := 18) dX8_census_35 rfl (by first | rfl | assumption | exact zf_kd (by assumption) | exact zw_kd (by assumption) | exact zt_kd (by assumption)) (by first | decide | exact zf_lt (by assumption) | exact zf_lt1 (by assumption) | exact zf_lt2 (by assumption) | exact zf_lt3 (by assumption) | exact zf_lt4 (by assumption) | exact zw_lt (by assumption) | exact zw_lt1 (by assumption) | exact zw_lt2 (by assumption) | exact zw_lt3 (by assumption) | exact zw_lt4 (by assumption) | exact zt_lt (by assumption)) (by decide) (by decide) lfRX8_94 rfl ?_
    refine ev_putI (q := 41) (ci := 8) (f := 6) dX8_census_38 rfl (by first | rfl | assumption | exact zf_kd (by assumption) | exact zw_kd (by assumption) | exact zt_kd (by assumption)) (by first | decide | exact zf_lt (by assumption) | exact zf_lt1 (by assumption) | exact zf_lt2 (by assumption) | exact zf_lt3 (by assumption) | exact zf_lt4 (by assumption) | exact zw_lt (by assumption) | exact zw_lt1 (by assumption) | exact zw_lt2 (by assumption) | exact zw_lt3 (by assumption) | exact zw_lt4 (by assumption) | exact zt_lt (by assumption)) (by decide) (by decide) lfRX8_72 rfl rfl rfl rfl ?_
    rw [show zu (zu I6 119 4 (I6 119 16)) 119 5 (I6 119 17) 119 18 = I6 119 18 by rw [zu_nn (by omega), zu_nn (by omega)]]
    refine ev_iconst (q := 42) (0 : Int32) dX8_census_41 rfl (by decide) ?_
    refine ev_istore_nL (q := 43) (L9 := [_, _]) dX8_census_42 rfl (by decide) rfl rfl ?_
    obtain ⟨I0, hI0⟩ : ∃ I0, I0 = zu (zu (zu I6 119 4 (I6 119 16)) 119 5 (I6 119 17)) 119 6 (I6 119 18) := ⟨_, rfl⟩
    rw [show zu (zu (zu I6 119 4 (I6 119 16)) 119 5 (I6 119 17)) 119 6 (I6 119 18) = I0 from hI0.symm]
    have g1 : I0 119 4 = nI l := by rw [hI0, zu_nn (by omega), zu_nn (by omega), zu_eq]; exact e1
    have g2 : I0 119 5 = nI T := by rw [hI0, zu_nn (by omega), zu_eq]; exact e2
    have g3 : I0 119 6 = nI N := by rw [hI0, zu_eq]; exact e3
    refine lp_X8_census G fo I0 c5 g3 (fun p hp => by rw [hI0, zu_other (by decide), zu_other (by decide), zu_other (by decide), zu_other (by decide), zu_other (by decide), zu_other (by decide), zu_other (by decide), zu_other (by decide), zu_other (by decide), zu_other (by decide), zu_other (by decide), zu_other (by decide)]; exact e5 p hp) (fun I1 hl1 => ?_)
    refine ev_iconst (q := 133) (0 : Int32) dX8_census_132 rfl (by decide) ?_
    refine ev_istore_nL (q := 134) (L9 := [_, _]) dX8_census_133 rfl (by decide) rfl rfl ?_
    refine lq_X8_census G fo I1 (fun I2 hr2 hr0 => ?_)
    refine ev_aload_n (q := 153) dX8_census_152 rfl rfl ?_
    refine ev_iconst (q := 154) (0 : Int32) dX8_census_153 rfl (by decide) ?_
    refine ev_putI (q := 157) (ci := 8) (f := 15) dX8_census_154 rfl (by first | rfl | assumption | exact zf_kd (by assumption) | exact zw_kd (by assumption) | exact zt_kd (by assumption)) (by first | decide | exact zf_lt (by assumption) | exact zf_lt1 (by assumption) | exact zf_lt2 (by assumption) | exact zf_lt3 (by assumption) | exact zf_lt4 (by assumption) | exact zw_lt (by assumption) | exact zw_lt1 (by assumption) | exact zw_lt2 (by assumption) | exact zw_lt3 (by assumption) | exact zw_lt4 (by assumption) | exact zt_lt (by assumption)) (by decide) (by decide) lfRX8_131 rfl rfl rfl rfl ?_
    refine ev_aload_n (q := 158) dX8_census_157 rfl rfl ?_
    refine ev_iconst (q := 159) (0 : Int32) dX8_census_158 rfl (by decide) ?_
    refine ev_putI (q := 162) (ci := 8) (f := 25) dX8_census_159 rfl (by first | rfl | assumption | exact zf_kd (by assumption) | exact zw_kd (by assumption) | exact zt_kd (by assumption)) (by first | decide | exact zf_lt (by assumption) | exact zf_lt1 (by assumption) | exact zf_lt2 (by assumption) | exact zf_lt3 (by assumption) | exact zf_lt4 (by assumption) | exact zw_lt (by assumption) | exact zw_lt1 (by assumption) | exact zw_lt2 (by assumption) | exact zw_lt3 (by assumption) | exact zw_lt4 (by assumption) | exact zt_lt (by assumption)) (by decide) (by decide) lfRX8_134 rfl rfl rfl rfl ?_
    refine ev_aload_n (q := 163) dX8_census_162 rfl rfl ?_
    refine ev_getR (q := 166) (ci := 8) (f := 27) dX8_census_163 rfl (by first | rfl | assumption | exact zf_kd (by assumption) | exact zw_kd (by assumption) | exact zt_kd (by assumption)) (by first | decide | exact zf_lt (by assumption) | exact zf_lt1 (by assumption) | exact zf_lt2 (by assumption) | exact zf_lt3 (by assumption) | exact zf_lt4 (by assumption) | exact zw_lt (by assumption) | exact zw_lt1 (by assumption) | exact zw_lt2 (by assumption) | exact zw_lt3 (by assumption) | exact zw_lt4 (by assumption) | exact zt_lt (by assumption)) (by decide) (by decide) lfRX8_59 rfl (by first | rfl | assumption | exact zf_p4 _ (by assumption) | exact zf_p5 _ (by assumption) | exact zf_p6 _ (by assumption) | exact zf_p7 _ (by assumption) | exact zw_p1 _ (by assumption) | exact zw_p2 _ (by assumption) | exact zw_p3 _ (by assumption) | exact zw_p4 _ (by assumption)) ?_
    refine ev_iconst (q := 167) (0 : Int32) dX8_census_166 rfl (by decide) ?_
    refine ev_iconst (q := 168) (0 : Int32) dX8_census_167 rfl (by decide) ?_
    refine ev_zastN (q := 169) dX8_census_168 rfl rfl (by first | decide | exact zf_lt (by assumption) | exact zf_lt1 (by assumption) | exact zf_lt2 (by assumption) | exact zf_lt3 (by assumption) | exact zf_lt4 (by assumption) | exact zw_lt (by assumption) | exact zw_lt1 (by assumption) | exact zw_lt2 (by assumption) | exact zw_lt3 (by assumption) | exact zw_lt4 (by assumption) | exact zt_lt (by assumption)) (by decide) ?_
    refine ev_aload_n (q := 170) dX8_census_169 rfl rfl ?_
    refine ev_getR (q := 173) (ci := 8) (f := 27) dX8_census_170 rfl (by first | rfl | assumption | exact zf_kd (by assumption) | exact zw_kd (by assumption) | exact zt_kd (by assumption)) (by first | decide | exact zf_lt (by assumption) | exact zf_lt1 (by assumption) | exact zf_lt2 (by assumption) | exact zf_lt3 (by assumption) | exact zf_lt4 (by assumption) | exact zw_lt (by assumption) | exact zw_lt1 (by assumption) | exact zw_lt2 (by assumption) | exact zw_lt3 (by assumption) | exact zw_lt4 (by assumption) | exact zt_lt (by assumption)) (by decide) (by decide) lfRX8_59 rfl (by first | rfl | assumption | exact zf_p4 _ (by assumption) | exact zf_p5 _ (by assumption) | exact zf_p6 _ (by assumption) | exact zf_p7 _ (by assumption) | exact zw_p1 _ (by assumption) | exact zw_p2 _ (by assumption) | exact zw_p3 _ (by assumption) | exact zw_p4 _ (by assumption)) ?_
    refine ev_iconst (q := 174) (1 : Int32) dX8_census_173 rfl (by decide) ?_
    refine ev_iconst (q := 175) (0 : Int32) dX8_census_174 rfl (by decide) ?_
    refine ev_zastN (q := 176) dX8_census_175 rfl rfl (by first | decide | exact zf_lt (by assumption) | exact zf_lt1 (by assumption) | exact zf_lt2 (by assumption) | exact zf_lt3 (by assumption) | exact zf_lt4 (by assumption) | exact zw_lt (by assumption) | exact zw_lt1 (by assumption) | exact zw_lt2 (by assumption) | exact zw_lt3 (by assumption) | exact zw_lt4 (by assumption) | exact zt_lt (by assumption)) (by decide) ?_
    obtain ⟨I4, hI4⟩ : ∃ I4, I4 = zu (zu (zu (zu I2 119 15 0) 119 25 0) 135 0 (0 &&& 1)) 135 1 (0 &&& 1) := ⟨_, rfl⟩
    rw [show zu (zu (zu (zu I2 119 15 0) 119 25 0) 135 0 (0 &&& 1)) 135 1 (0 &&& 1) = I4 from hI4.symm]
    refine ev_aload_n (q := 177) dX8_census_176 rfl rfl ?_
    refine ev_getI (q := 180) (ci := 8) (f := 6) dX8_census_177 rfl (by first | rfl | assumption | exact zf_kd (by assumption) | exact zw_kd (by assumption) | exact zt_kd (by assumption)) (by first | decide | exact zf_lt (by assumption) | exact zf_lt1 (by assumption) | exact zf_lt2 (by assumption) | exact zf_lt3 (by assumption) | exact zf_lt4 (by assumption) | exact zw_lt (by assumption) | exact zw_lt1 (by assumption) | exact zw_lt2 (by assumption) | exact zw_lt3 (by assumption) | exact zw_lt4 (by assumption) | exact zt_lt (by assumption)) (by decide) (by decide) lfRX8_72 rfl ?_
    rw [show I4 119 6 = nI N by rw [hI4, zu_nn (by omega), zu_nn (by omega), zu_nn (by omega), zu_nn (by omega), hr2 119 (by decide), hl1.1 119 (by omega)]; exact g3]
    have hU : ∀ c, c ≠ 119 → c ≠ 135 → I4 c = I2 c := fun c q1 q2 => by rw [hI4, zu_other q2, zu_other q2, zu_other q1, zu_other q1]
    have hK : ∀ k, k ≠ 15 → k ≠ 25 → I4 119 k = I0 119 k := fun k q1 q2 => by rw [hI4, zu_other (by decide), zu_other (by decide), zu_ne q2, zu_ne q1, hr2 119 (by decide), hl1.1 119 (by omega)]
    have hfin : zcenM I I4 (3, ak, l, T, N, M, H, A, K, S) := by
      refine ⟨by rw [hK 4 (by decide) (by decide)]; exact g1, by rw [hK 5 (by decide) (by decide)]; exact g2, by rw [hK 6 (by decide) (by decide)]; exact g3, fun p hp => ?_, fun t ht => ?_, by rw [hI4, zu_other (by decide), zu_other (by decide), zu_ne (by decide), zu_eq], by rw [hI4, zu_other (by decide), zu_other (by decide), zu_eq], fun s hs => ?_, by rw [hK 2 (by decide) (by decide), hI0, zu_nn (by omega), zu_nn (by omega), zu_nn (by omega)]; exact hf9.2 2 rfl, fun c q1 q2 q3 q4 q5 => ?_⟩
      · have q := hl1.2 p hp
        rw [hU 121 (by decide) (by decide), hU 122 (by decide) (by decide), hU 123 (by decide) (by decide), hU 124 (by decide) (by decide), hU 125 (by decide) (by decide), hU 126 (by decide) (by decide), hU 127 (by decide) (by decide), hr2 121 (by decide), hr2 122 (by decide), hr2 123 (by decide), hr2 124 (by decide), hr2 125 (by decide), hr2 126 (by decide), hr2 127 (by decide)]
        exact q
      · rw [hU 128 (by decide) (by decide)]; exact hr0 t ht
      · rcases (by omega : s = 0 ∨ s = 1) with rfl | rfl
        · rw [hI4, zu_ne (by decide), zu_eq]; decide
        · rw [hI4, zu_eq]; decide
      · rw [hU c q1 q3, hr2 c (by omega), hl1.1 c (by omega), hI0, zu_other q1, zu_other q1, zu_other q1]
        exact hf9.1 c (by unfold zsm; simp [q1]; omega)
    exact ev_iret dX8_census_180 rfl (by first | rfl | exact zb_nar _ | assumption) (⟨rfl, rfl, fun q => absurd (by rw [zpF_at hz]; rfl) q, fun s hs _ => by
      rw [hz] at hs; cases hs
      exact ⟨rfl, hfin⟩⟩)
  · refine ev_bipush (q := 16) ((-3) : Int32) dX8_census_14 rfl (by decide) ?_
    exact ev_iret dX8_census_16 rfl (by first | rfl | exact zb_nar _ | assumption) (⟨rfl, rfl, fun _ => ⟨rfl, hf9⟩, fun s hs hs3 => absurd (by rw [zpF_at hs, if_pos hs3]) h11⟩)
set_option maxHeartbeats 4000000 in
set_option maxRecDepth 100000 in
theorem c_X8_census (G : zq_G) (fo : Bool) (I : zq_I) {n : Nat} {b : Nat → Nat} (hb : zpuM I b n) : zq_Met G mX8_census 5 0 0 [.ref 119] 138 I (zPs fo) ((fun (I : zq_I) => fun v' n' I' P' => n' = 138 ∧ P' = zPs fo ∧ (¬ zpF b n = -9 → v' = some (.int (-3)) ∧ zFM I I') ∧ ∀ s, zpR b n = some s → s.1 = 3 → v' = some (.int (nI s.2.2.2.2.1)) ∧ zcenM I I' s) (zu I 119 0 0)) := by
  refine zq_Met.of okX8_census (Nat.le_of_ble_eq_true rfl) ?_
  show zq_E _ _ _ _ _ _ _ [some (.ref 119), none] _ _ _ _ _
  refine ev_aload_n (q := 1) dX8_census_0 rfl rfl ?_
  refine ev_iconst (q := 2) (0 : Int32) dX8_census_1 rfl (by decide) ?_
  refine ev_putI (q := 5) (ci := 8) (f := 0) dX8_census_2 rfl (by first | rfl | assumption | exact zf_kd (by assumption) | exact zw_kd (by assumption) | exact zt_kd (by assumption)) (by first | decide | exact zf_lt (by assumption) | exact zf_lt1 (by assumption) | exact zf_lt2 (by assumption) | exact zf_lt3 (by assumption) | exact zf_lt4 (by assumption) | exact zw_lt (by assumption) | exact zw_lt1 (by assumption) | exact zw_lt2 (by assumption) | exact zw_lt3 (by assumption) | exact zw_lt4 (by assumption) | exact zt_lt (by assumption)) (by decide) (by decide) lfRX8_69 rfl rfl rfl rfl ?_
  exact k_X8_census G fo (zu I 119 0 0) (hb.of (zFM.rf.zu 119 0 0 rfl))
