/-- the byte of v that e others come behind -/
def zbyt (v : Int64) (e : Nat) : Int32 := (v >>> (((8 : Int32) * nI e).toInt64 &&& 63)).toInt32
theorem zb255 (x : Int32) : x.toInt8.toInt32 &&& 255 = x &&& 255 := by
  apply Int32.toBitVec_inj.mp
  apply BitVec.eq_of_getLsbD_eq
  intro i hi
  have h1 : ∀ i, i < 32 → 8 ≤ i → (255 : Int32).toBitVec.getLsbD i = false := by decide +kernel
  rw [Int32.toBitVec_and, Int32.toBitVec_and, BitVec.getLsbD_and, BitVec.getLsbD_and]
  by_cases h8 : i < 8
  · congr 1
    rw [Int8.toBitVec_toInt32, Int32.toBitVec_toInt8, BitVec.getLsbD_signExtend, if_pos h8, BitVec.getLsbD_signExtend, if_pos hi, decide_eq_true hi, decide_eq_true h8]
    rfl
  · rw [h1 i hi (by omega), Bool.and_false, Bool.and_false]
theorem z1lt : ∀ j, j < 9 → (nI j - 1 < 0 ↔ j = 0) := by decide +kernel
def z18 (x : Int32) : Bool := !decide (x < 1) && decide (x ≤ 8)
theorem z18_t {x : Int32} (h1 : ¬ x < 1) (h2 : x ≤ 8) : ∃ m, 1 ≤ m ∧ m ≤ 8 ∧ x = nI m := by
  have h0 : ¬ x < 0 := fun q => h1 (Int32.lt_trans q (by decide))
  obtain ⟨m, hm, rfl⟩ := nI_of2 (n := 8) (by decide) h0 h2
  refine ⟨m, ?_, hm, rfl⟩
  rcases Nat.eq_zero_or_pos m with q | q
  · subst q; exact absurd (by decide) h1
  · exact q
def zwrC (len m : Nat) (v : Int64) (I I' : zq_I) : Prop := (∀ c, c ≠ 1 → c ≠ 2 → I' c = I c) ∧ I' 1 1 = nI (len + m) ∧ (∀ j, j < len → I' 2 j = I 2 j) ∧ ∀ q, q < m → I' 2 (len + q) &&& 255 = zbyt v (m - 1 - q) &&& 255
theorem zPs_96 (fo : Bool) {s : Nat} (h : s < 2) : zPs fo 96 s = some (97 + 5 * s) := by
  rcases (by omega : s = 0 ∨ s = 1) with rfl | rfl <;> cases fo <;> rfl
theorem zW_s {s : Nat} (h : s < 2) : zq_isW (97 + 5 * s) := by
  rcases (by omega : s = 0 ∨ s = 1) with rfl | rfl
  · exact zW_97
  · exact zW_102
theorem zF_not (fo : Bool) : zF (!fo) = zD fo ∧ zD (!fo) = zF fo := by cases fo <;> exact ⟨rfl, rfl⟩
theorem zP_sw (fo : Bool) : zp (zp (zPs fo) 0 9 (some (zD fo))) 0 10 (some (zF fo)) = zPs (!fo) := by
  funext c k
  unfold zp zPs
  by_cases h1 : c = 0 ∧ k = 10
  · obtain ⟨rfl, rfl⟩ := h1; cases fo <;> rfl
  · by_cases h2 : c = 0 ∧ k = 9
    · obtain ⟨rfl, rfl⟩ := h2; cases fo <;> rfl
    · rw [if_neg h1, if_neg h2, if_neg h2, if_neg h1, if_neg h2, if_neg h1]
theorem zu_nn {I : zq_I} {c k c' k' : Nat} {v : Int32} (h : ¬ (c' = c ∧ k' = k)) : zu I c k v c' k' = I c' k' := if_neg h
set_option maxHeartbeats 4000000 in
set_option maxRecDepth 100000 in
theorem c_X4_takeBytes (G : zq_G) (fo : Bool) (I : zq_I) {len m : Nat} {v : Int64} (hlen : len ≤ 80) (hm1 : 1 ≤ m) (hm8 : m ≤ 8) (hl : I 1 1 = nI len) : zq_Met G mX4_takeBytes 0 0 0 [.ref 1, .int (nI m), .long v] 138 I (zPs fo) (fun v' n' I' P' => n' = 138 ∧ P' = zPs fo ∧ (80 < len + m → v' = some (.int 0) ∧ I' = I) ∧ (len + m ≤ 80 → v' = some (.int 1) ∧ zwrC len m v I I')) := by
  refine zq_Met.of okX4_takeBytes (Nat.le_of_ble_eq_true rfl) ?_
  show zq_E _ _ _ _ _ _ _ [some (.ref 1), some (.int (nI m)), some (.long v), none, none] _ _ _ _ _
  refine ev_aload_n (q := 1) dX4_takeBytes_0 rfl rfl ?_
  refine ev_getI (q := 4) (ci := 4) (f := 1) dX4_takeBytes_1 rfl (by first | rfl | assumption | exact zf_kd (by assumption) | exact zw_kd (by assumption) | exact zt_kd (by assumption)) (by first | decide | exact zf_lt (by assumption) | exact zf_lt1 (by assumption) | exact zf_lt2 (by assumption) | exact zf_lt3 (by assumption) | exact zf_lt4 (by assumption) | exact zw_lt (by assumption) | exact zw_lt1 (by assumption) | exact zw_lt2 (by assumption) | exact zw_lt3 (by assumption) | exact zw_lt4 (by assumption) | exact zt_lt (by assumption)) (by decide) (by decide) lfRX4_15 rfl ?_
  refine ev_iload_n (q := 5) dX4_takeBytes_4 rfl rfl ?_
  rw [hl]
  refine ev_iadd (q := 6) dX4_takeBytes_5 rfl ?_
  rw [nI_add]
  refine ev_bipush (q := 8) (nI 80 : Int32) dX4_takeBytes_6 rfl (by decide) ?_
  refine ev_icmp_le (q := 11) (t := 13) dX4_takeBytes_8 rfl (by decide) (fun h8 => ?_) (fun h8 => ?_)
  · rw [nI_leI (by omega) (by omega)] at h8
    refine ev_iload_n (q := 14) dX4_takeBytes_13 rfl rfl ?_
    refine ev_iconst (q := 15) (1 : Int32) dX4_takeBytes_14 rfl (by decide) ?_
    refine ev_isub (q := 16) dX4_takeBytes_15 rfl ?_
    refine ev_istoreL (q := 18) (L9 := [_, _, _, _, _]) dX4_takeBytes_16 rfl (by decide) rfl rfl ?_
    have lp18 : ∀ (k i : Nat) (I1 : zq_I), m + 1 ≤ i + k → i ≤ m → (∀ c, c ≠ 1 → c ≠ 2 → I1 c = I c) → I1 1 1 = nI (len + i) → (∀ j, j < len → I1 2 j = I 2 j) → (∀ q, q < i → I1 2 (len + q) &&& 255 = zbyt v (m - 1 - q) &&& 255) → zq_E G mX4_takeBytes 0 0 0 false 18 [some (.ref 1), some (.int (nI m)), some (.long v), none, some (.int (nI (m - i) - 1))] [] 138 I1 (zPs fo) (fun v' n' I' P' => n' = 138 ∧ P' = zPs fo ∧ (80 < len + m → v' = some (.int 0) ∧ I' = I) ∧ (len + m ≤ 80 → v' = some (.int 1) ∧ zwrC len m v I I')) := by
        intro k
        induction k with
        | zero => intro i I1 hk hi; exact absurd hk (by omega)
        | succ k ih =>
          intro i I1 hk hi hf h1 h2 h3
          refine ev_iload (q := 20) dX4_takeBytes_18 rfl rfl ?_
          refine ev_if_lt (q := 23) (t := 57) dX4_takeBytes_20 rfl (by decide) (fun h20 => ?_) (fun h20 => ?_)
          · obtain rfl : i = m := by have := (z1lt (m - i) (by omega)).mp h20; omega
            refine ev_iconst (q := 58) (1 : Int32) dX4_takeBytes_57 rfl (by decide) ?_
            exact ev_iret dX4_takeBytes_58 rfl (by first | rfl | exact zb_nar _ | assumption) (⟨rfl, rfl, fun q => absurd q (by omega), fun _ => ⟨rfl, hf, h1, h2, h3⟩⟩)
          · have hlt_i : i < m := by have := mt (z1lt (m - i) (by omega)).mpr h20; omega
            have hj : nI (m - i) - 1 = nI (m - 1 - i) := by rw [show m - i = (m - 1 - i) + 1 by omega, nI_pred]
            rw [hj]
            refine ev_aload_n (q := 24) dX4_takeBytes_23 rfl rfl ?_
            refine ev_getR (q := 27) (ci := 4) (f := 0) dX4_takeBytes_24 rfl (by first | rfl | assumption | exact zf_kd (by assumption) | exact zw_kd (by assumption) | exact zt_kd (by assumption)) (by first | decide | exact zf_lt (by assumption) | exact zf_lt1 (by assumption) | exact zf_lt2 (by assumption) | exact zf_lt3 (by assumption) | exact zf_lt4 (by assumption) | exact zw_lt (by assumption) | exact zw_lt1 (by assumption) | exact zw_lt2 (by assumption) | exact zw_lt3 (by assumption) | exact zw_lt4 (by assumption) | exact zt_lt (by assumption)) (by decide) (by decide) lfRX4_9 rfl (by first | rfl | assumption | exact zf_p4 _ (by assumption) | exact zf_p5 _ (by assumption) | exact zf_p6 _ (by assumption) | exact zf_p7 _ (by assumption) | exact zw_p1 _ (by assumption) | exact zw_p2 _ (by assumption) | exact zw_p3 _ (by assumption) | exact zw_p4 _ (by assumption)) ?_
            refine ev_aload_n (q := 28) dX4_takeBytes_27 rfl rfl ?_
            refine ev_getI (q := 31) (ci := 4) (f := 1) dX4_takeBytes_28 rfl (by first | rfl | assumption | exact zf_kd (by assumption) | exact zw_kd (by assumption) | exact zt_kd (by assumption)) (by first | decide | exact zf_lt (by assumption) | exact zf_lt1 (by assumption) | exact zf_lt2 (by assumption) | exact zf_lt3 (by assumption) | exact zf_lt4 (by assumption) | exact zw_lt (by assumption) | exact zw_lt1 (by assumption) | exact zw_lt2 (by assumption) | exact zw_lt3 (by assumption) | exact zw_lt4 (by assumption) | exact zt_lt (by assumption)) (by decide) (by decide) lfRX4_15 rfl ?_
            rw [h1]
            refine ev_lload_n (q := 32) dX4_takeBytes_31 rfl rfl ?_
            refine ev_bipush (q := 34) (8 : Int32) dX4_takeBytes_32 rfl (by decide) ?_
            refine ev_iload (q := 36) dX4_takeBytes_34 rfl rfl ?_
            refine ev_imul (q := 37) dX4_takeBytes_36 rfl ?_
            refine ev_lshr (q := 38) dX4_takeBytes_37 rfl ?_
            refine ev_l2i (q := 39) dX4_takeBytes_38 rfl ?_
            refine ev_i2b (q := 40) dX4_takeBytes_39 rfl ?_
            refine ev_bastN (q := 41) dX4_takeBytes_40 rfl rfl (by first | decide | exact zf_lt (by assumption) | exact zf_lt1 (by assumption) | exact zf_lt2 (by assumption) | exact zf_lt3 (by assumption) | exact zf_lt4 (by assumption) | exact zw_lt (by assumption) | exact zw_lt1 (by assumption) | exact zw_lt2 (by assumption) | exact zw_lt3 (by assumption) | exact zw_lt4 (by assumption) | exact zt_lt (by assumption)) (by first | omega | assumption) ?_
            refine ev_aload_n (q := 42) dX4_takeBytes_41 rfl rfl ?_
            refine ev_dup (q := 43) dX4_takeBytes_42 rfl rfl ?_
            refine ev_getI (q := 46) (ci := 4) (f := 1) dX4_takeBytes_43 rfl (by first | rfl | assumption | exact zf_kd (by assumption) | exact zw_kd (by assumption) | exact zt_kd (by assumption)) (by first | decide | exact zf_lt (by assumption) | exact zf_lt1 (by assumption) | exact zf_lt2 (by assumption) | exact zf_lt3 (by assumption) | exact zf_lt4 (by assumption) | exact zw_lt (by assumption) | exact zw_lt1 (by assumption) | exact zw_lt2 (by assumption) | exact zw_lt3 (by assumption) | exact zw_lt4 (by assumption) | exact zt_lt (by assumption)) (by decide) (by decide) lfRX4_15 rfl ?_
            rw [zu_nn (by omega), h1]
            refine ev_iconst (q := 47) (1 : Int32) dX4_takeBytes_46 rfl (by decide) ?_
            refine ev_iadd (q := 48) dX4_takeBytes_47 rfl ?_
            rw [nI_1]
            refine ev_putI (q := 51) (ci := 4) (f := 1) dX4_takeBytes_48 rfl (by first | rfl | assumption | exact zf_kd (by assumption) | exact zw_kd (by assumption) | exact zt_kd (by assumption)) (by first | decide | exact zf_lt (by assumption) | exact zf_lt1 (by assumption) | exact zf_lt2 (by assumption) | exact zf_lt3 (by assumption) | exact zf_lt4 (by assumption) | exact zw_lt (by assumption) | exact zw_lt1 (by assumption) | exact zw_lt2 (by assumption) | exact zw_lt3 (by assumption) | exact zw_lt4 (by assumption) | exact zt_lt (by assumption)) (by decide) (by decide) lfRX4_15 rfl rfl rfl rfl ?_
            refine ev_iincL (q := 54) (L9 := [_, _, _, _, _]) ((-1) : Int32) dX4_takeBytes_51 rfl rfl (by decide) (by decide) rfl rfl ?_
            refine ev_goto (t := 18) dX4_takeBytes_54 (by decide) ?_
            rw [nI_m1', show m - 1 - i = m - (i + 1) by omega]
            exact ih (i + 1) _ (by omega) (by omega) (fun c q1 q2 => by rw [zu_other q1, zu_other q2]; exact hf c q1 q2) zu_eq (fun j hj => by rw [zu_nn (by omega), zu_nn (by omega)]; exact h2 j hj) (fun q hq => by
              by_cases hqi : q = i
              · subst hqi; rw [zu_nn (by omega), zu_eq, zb255, zb255, show m - 1 - q = m - (q + 1) by omega]; rfl
              · rw [zu_nn (by omega), zu_nn (by omega)]; exact h3 q (by omega))
    exact lp18 (m + 1) 0 _ (by omega) (by omega) (fun _ _ _ => rfl) hl (fun _ _ => rfl) (fun q hq => absurd hq (by omega))
  · rw [nI_leI (by omega) (by omega)] at h8
    refine ev_iconst (q := 12) (0 : Int32) dX4_takeBytes_11 rfl (by decide) ?_
    exact ev_iret dX4_takeBytes_12 rfl (by first | rfl | exact zb_nar _ | assumption) (⟨rfl, rfl, fun _ => ⟨rfl, rfl⟩, fun q => absurd q (by omega)⟩)
set_option maxHeartbeats 4000000 in
set_option maxRecDepth 100000 in
theorem c_X7_write (G : zq_G) (fo : Bool) (I : zq_I) {len : Nat} (hlen : len ≤ 80) (hl : I 1 1 = nI len) (x : Int32) (v : Int64) : zq_Met G mX7_write 1 0 0 [.ref 0, .int x, .long v] 138 I (zPs fo) (fun v' n' I' P' => n' = 138 ∧ P' = zPs fo ∧ (z18 x = false → v' = some (.int (-2)) ∧ I' = I) ∧ ∀ m, 1 ≤ m → m ≤ 8 → x = nI m → (80 < len + m → v' = some (.int (-4)) ∧ I' = I) ∧ (len + m ≤ 80 → v' = some (.int (nI (len + m))) ∧ zwrC len m v I I')) := by
  refine zq_Met.of okX7_write (Nat.le_of_ble_eq_true rfl) ?_
  show zq_E _ _ _ _ _ _ _ [some (.ref 0), some (.int x), some (.long v), none] _ _ _ _ _
  refine ev_iload_n (q := 1) dX7_write_0 rfl rfl ?_
  refine ev_iconst (q := 2) (1 : Int32) dX7_write_1 rfl (by decide) ?_
  refine ev_icmp_lt (q := 5) (t := 11) dX7_write_2 rfl (by decide) (fun h2 => ?_) (fun h2 => ?_)
  · have hz : z18 x = false := by unfold z18; rw [decide_eq_true h2]; rfl
    refine ev_bipush (q := 13) ((-2) : Int32) dX7_write_11 rfl (by decide) ?_
    exact ev_iret dX7_write_13 rfl (by first | rfl | exact zb_nar _ | assumption) (⟨rfl, rfl, fun _ => ⟨rfl, rfl⟩, fun m h1 h8 e => absurd hz (by rw [e]; unfold z18; rw [decide_eq_false (show ¬ nI m < 1 from nI_nlt (b := 1) h1 (by omega)), decide_eq_true (show nI m ≤ 8 from nI_le (b := 8) h8 (by omega))]; decide)⟩)
  · refine ev_iload_n (q := 6) dX7_write_5 rfl rfl ?_
    refine ev_bipush (q := 8) (8 : Int32) dX7_write_6 rfl (by decide) ?_
    refine ev_icmp_le (q := 11) (t := 14) dX7_write_8 rfl (by decide) (fun h8 => ?_) (fun h8 => ?_)
    · have hz : z18 x = true := by unfold z18; rw [decide_eq_false h2, decide_eq_true h8]; rfl
      obtain ⟨m, hm1, hm8, rfl⟩ := z18_t h2 h8
      refine ev_aload_n (q := 15) dX7_write_14 rfl rfl ?_
      refine ev_getR (q := 18) (ci := 7) (f := 0) dX7_write_15 rfl (by first | rfl | assumption | exact zf_kd (by assumption) | exact zw_kd (by assumption) | exact zt_kd (by assumption)) (by first | decide | exact zf_lt (by assumption) | exact zf_lt1 (by assumption) | exact zf_lt2 (by assumption) | exact zf_lt3 (by assumption) | exact zf_lt4 (by assumption) | exact zw_lt (by assumption) | exact zw_lt1 (by assumption) | exact zw_lt2 (by assumption) | exact zw_lt3 (by assumption) | exact zw_lt4 (by assumption) | exact zt_lt (by assumption)) (by decide) (by decide) lfRX7_10 rfl (by first | rfl | assumption | exact zf_p4 _ (by assumption) | exact zf_p5 _ (by assumption) | exact zf_p6 _ (by assumption) | exact zf_p7 _ (by assumption) | exact zw_p1 _ (by assumption) | exact zw_p2 _ (by assumption) | exact zw_p3 _ (by assumption) | exact zw_p4 _ (by assumption)) ?_
      refine ev_iload_n (q := 19) dX7_write_18 rfl rfl ?_
      refine ev_lload_n (q := 20) dX7_write_19 rfl rfl ?_
      refine ev_cV (q := 23) (ci := 4) dX7_write_20 rfl okX4_takeBytes lmRX7_77 imX4_takeBytes seX4_takeBytes (by first | rfl | assumption | exact zf_kd (by assumption) | exact zw_kd (by assumption) | exact zt_kd (by assumption)) (by first | decide | exact zf_lt (by assumption) | exact zf_lt1 (by assumption) | exact zf_lt2 (by assumption) | exact zf_lt3 (by assumption) | exact zf_lt4 (by assumption) | exact zw_lt (by assumption) | exact zw_lt1 (by assumption) | exact zw_lt2 (by assumption) | exact zw_lt3 (by assumption) | exact zw_lt4 (by assumption) | exact zt_lt (by assumption)) (by decide) rfl (c_X4_takeBytes G fo I hlen hm1 hm8 hl) (by decide) rfl rfl (Nat.le_of_ble_eq_true rfl) (fun v20 n20 I20 P20 hR20 => ?_)
      obtain ⟨rfl, rfl, hA, hB⟩ := hR20
      rcases Nat.lt_or_ge 80 (len + m) with hfu | hfu
      · obtain ⟨rfl, rfl⟩ := hA hfu
        refine ev_if_eq (q := 26) (t := 36) dX7_write_23 rfl (by decide) (fun h23 => ?_) (fun h23 => ?_)
        · refine ev_bipush (q := 38) ((-4) : Int32) dX7_write_36 rfl (by decide) ?_
          exact ev_iret dX7_write_38 rfl (by first | rfl | exact zb_nar _ | assumption) (⟨rfl, rfl, fun q => absurd q (by rw [hz]; decide), fun m2 _ h8 e => by
            obtain rfl : m = m2 := (nI_eq (by omega) (by omega)).mp e
            exact ⟨fun _ => ⟨rfl, rfl⟩, fun q => absurd q (by omega)⟩⟩)
        · exact absurd rfl h23
      · obtain ⟨rfl, hw⟩ := hB hfu
        refine ev_if_eq (q := 26) (t := 36) dX7_write_23 rfl (by decide) (fun h23 => ?_) (fun h23 => ?_)
        · exact absurd h23 (by decide)
        · refine ev_aload_n (q := 27) dX7_write_26 rfl rfl ?_
          refine ev_getR (q := 30) (ci := 7) (f := 0) dX7_write_27 rfl (by first | rfl | assumption | exact zf_kd (by assumption) | exact zw_kd (by assumption) | exact zt_kd (by assumption)) (by first | decide | exact zf_lt (by assumption) | exact zf_lt1 (by assumption) | exact zf_lt2 (by assumption) | exact zf_lt3 (by assumption) | exact zf_lt4 (by assumption) | exact zw_lt (by assumption) | exact zw_lt1 (by assumption) | exact zw_lt2 (by assumption) | exact zw_lt3 (by assumption) | exact zw_lt4 (by assumption) | exact zt_lt (by assumption)) (by decide) (by decide) lfRX7_10 rfl (by first | rfl | assumption | exact zf_p4 _ (by assumption) | exact zf_p5 _ (by assumption) | exact zf_p6 _ (by assumption) | exact zf_p7 _ (by assumption) | exact zw_p1 _ (by assumption) | exact zw_p2 _ (by assumption) | exact zw_p3 _ (by assumption) | exact zw_p4 _ (by assumption)) ?_
          refine ev_pV (q := 33) (ci := 4) dX7_write_30 rfl okX4_size lmRX7_81 imX4_size seX4_size (by first | rfl | assumption | exact zf_kd (by assumption) | exact zw_kd (by assumption) | exact zt_kd (by assumption)) (by first | decide | exact zf_lt (by assumption) | exact zf_lt1 (by assumption) | exact zf_lt2 (by assumption) | exact zf_lt3 (by assumption) | exact zf_lt4 (by assumption) | exact zw_lt (by assumption) | exact zw_lt1 (by assumption) | exact zw_lt2 (by assumption) | exact zw_lt3 (by assumption) | exact zw_lt4 (by assumption) | exact zt_lt (by assumption)) (by decide) rfl (c_X4_size G fo _) (by decide) rfl rfl (Nat.le_of_ble_eq_true rfl) ?_
          rw [hw.2.1]
          refine ev_goto (t := 38) dX7_write_33 (by decide) ?_
          exact ev_iret dX7_write_38 rfl (by first | rfl | exact zb_nar _ | assumption) (⟨rfl, rfl, fun q => absurd q (by rw [hz]; decide), fun m2 _ h8 e => by
            obtain rfl : m = m2 := (nI_eq (by omega) (by omega)).mp e
            exact ⟨fun q => absurd q (by omega), fun _ => ⟨rfl, hw⟩⟩⟩)
    · have hz : z18 x = false := by unfold z18; rw [decide_eq_false h8, Bool.and_false]
      refine ev_bipush (q := 13) ((-2) : Int32) dX7_write_11 rfl (by decide) ?_
      exact ev_iret dX7_write_13 rfl (by first | rfl | exact zb_nar _ | assumption) (⟨rfl, rfl, fun _ => ⟨rfl, rfl⟩, fun m h1 h8 e => absurd hz (by rw [e]; unfold z18; rw [decide_eq_false (show ¬ nI m < 1 from nI_nlt (b := 1) h1 (by omega)), decide_eq_true (show nI m ≤ 8 from nI_le (b := 8) h8 (by omega))]; decide)⟩)
set_option maxHeartbeats 4000000 in
set_option maxRecDepth 100000 in
theorem c_X7_wipe (G : zq_G) (fo : Bool) (I : zq_I)  : zq_Met G mX7_wipe 1 0 0 [.ref 0] 138 I (zPs fo) (fun v' n' I' P' => v' = some (.int (I 1 1)) ∧ n' = 138 ∧ P' = zPs fo ∧ I' = zu I 1 1 0) := by
  refine zq_Met.of okX7_wipe (Nat.le_of_ble_eq_true rfl) ?_
  show zq_E _ _ _ _ _ _ _ [some (.ref 0), none] _ _ _ _ _
  refine ev_aload_n (q := 1) dX7_wipe_0 rfl rfl ?_
  refine ev_getR (q := 4) (ci := 7) (f := 0) dX7_wipe_1 rfl (by first | rfl | assumption | exact zf_kd (by assumption) | exact zw_kd (by assumption) | exact zt_kd (by assumption)) (by first | decide | exact zf_lt (by assumption) | exact zf_lt1 (by assumption) | exact zf_lt2 (by assumption) | exact zf_lt3 (by assumption) | exact zf_lt4 (by assumption) | exact zw_lt (by assumption) | exact zw_lt1 (by assumption) | exact zw_lt2 (by assumption) | exact zw_lt3 (by assumption) | exact zw_lt4 (by assumption) | exact zt_lt (by assumption)) (by decide) (by decide) lfRX7_10 rfl (by first | rfl | assumption | exact zf_p4 _ (by assumption) | exact zf_p5 _ (by assumption) | exact zf_p6 _ (by assumption) | exact zf_p7 _ (by assumption) | exact zw_p1 _ (by assumption) | exact zw_p2 _ (by assumption) | exact zw_p3 _ (by assumption) | exact zw_p4 _ (by assumption)) ?_
  refine ev_pV (q := 7) (ci := 4) dX7_wipe_4 rfl okX4_size lmRX7_81 imX4_size seX4_size (by first | rfl | assumption | exact zf_kd (by assumption) | exact zw_kd (by assumption) | exact zt_kd (by assumption)) (by first | decide | exact zf_lt (by assumption) | exact zf_lt1 (by assumption) | exact zf_lt2 (by assumption) | exact zf_lt3 (by assumption) | exact zf_lt4 (by assumption) | exact zw_lt (by assumption) | exact zw_lt1 (by assumption) | exact zw_lt2 (by assumption) | exact zw_lt3 (by assumption) | exact zw_lt4 (by assumption) | exact zt_lt (by assumption)) (by decide) rfl (c_X4_size G fo _) (by decide) rfl rfl (Nat.le_of_ble_eq_true rfl) ?_
  refine ev_istore_nL (q := 8) (L9 := [_, _]) dX7_wipe_7 rfl (by decide) rfl rfl ?_
  refine ev_aload_n (q := 9) dX7_wipe_8 rfl rfl ?_
  refine ev_getR (q := 12) (ci := 7) (f := 0) dX7_wipe_9 rfl (by first | rfl | assumption | exact zf_kd (by assumption) | exact zw_kd (by assumption) | exact zt_kd (by assumption)) (by first | decide | exact zf_lt (by assumption) | exact zf_lt1 (by assumption) | exact zf_lt2 (by assumption) | exact zf_lt3 (by assumption) | exact zf_lt4 (by assumption) | exact zw_lt (by assumption) | exact zw_lt1 (by assumption) | exact zw_lt2 (by assumption) | exact zw_lt3 (by assumption) | exact zw_lt4 (by assumption) | exact zt_lt (by assumption)) (by decide) (by decide) lfRX7_10 rfl (by first | rfl | assumption | exact zf_p4 _ (by assumption) | exact zf_p5 _ (by assumption) | exact zf_p6 _ (by assumption) | exact zf_p7 _ (by assumption) | exact zw_p1 _ (by assumption) | exact zw_p2 _ (by assumption) | exact zw_p3 _ (by assumption) | exact zw_p4 _ (by assumption)) ?_
  refine ev_cV (q := 15) (ci := 4) dX7_wipe_12 rfl okX4_clear lmRX7_85 imX4_clear seX4_clear (by first | rfl | assumption | exact zf_kd (by assumption) | exact zw_kd (by assumption) | exact zt_kd (by assumption)) (by first | decide | exact zf_lt (by assumption) | exact zf_lt1 (by assumption) | exact zf_lt2 (by assumption) | exact zf_lt3 (by assumption) | exact zf_lt4 (by assumption) | exact zw_lt (by assumption) | exact zw_lt1 (by assumption) | exact zw_lt2 (by assumption) | exact zw_lt3 (by assumption) | exact zw_lt4 (by assumption) | exact zt_lt (by assumption)) (by decide) rfl (c_X4_clear G fo I) (by decide) rfl rfl (Nat.le_of_ble_eq_true rfl) (fun v12 n12 I12 P12 hR12 => ?_)
  obtain ⟨rfl, rfl, rfl, rfl⟩ := hR12
  refine ev_iload_n (q := 16) dX7_wipe_15 rfl rfl ?_
  exact ev_iret dX7_wipe_16 rfl (by first | rfl | exact zb_nar _ | assumption) (⟨rfl, rfl, rfl, rfl⟩)
set_option maxHeartbeats 4000000 in
set_option maxRecDepth 100000 in
theorem c_X7_fault (G : zq_G) (fo : Bool) (I : zq_I) {n : Nat} {b : Nat → Nat} (hb : zpub I b n) : zq_Met G mX7_fault 5 0 0 [.ref 0] 138 I (zPs fo) (fun v' n' I' P' => v' = some (.int (zpF b n)) ∧ n' = 138 ∧ P' = zPs fo ∧ zof3 (zD fo) I I') := by
  refine zq_Met.of okX7_fault (Nat.le_of_ble_eq_true rfl) ?_
  show zq_E _ _ _ _ _ _ _ [some (.ref 0)] _ _ _ _ _
  refine ev_aload_n (q := 1) dX7_fault_0 rfl rfl ?_
  refine ev_getR (q := 4) (ci := 7) (f := 1) dX7_fault_1 rfl (by first | rfl | assumption | exact zf_kd (by assumption) | exact zw_kd (by assumption) | exact zt_kd (by assumption)) (by first | decide | exact zf_lt (by assumption) | exact zf_lt1 (by assumption) | exact zf_lt2 (by assumption) | exact zf_lt3 (by assumption) | exact zf_lt4 (by assumption) | exact zw_lt (by assumption) | exact zw_lt1 (by assumption) | exact zw_lt2 (by assumption) | exact zw_lt3 (by assumption) | exact zw_lt4 (by assumption) | exact zt_lt (by assumption)) (by decide) (by decide) lfRX7_19 rfl (by first | rfl | assumption | exact zf_p4 _ (by assumption) | exact zf_p5 _ (by assumption) | exact zf_p6 _ (by assumption) | exact zf_p7 _ (by assumption) | exact zw_p1 _ (by assumption) | exact zw_p2 _ (by assumption) | exact zw_p3 _ (by assumption) | exact zw_p4 _ (by assumption)) ?_
  refine ev_aload_n (q := 5) dX7_fault_4 rfl rfl ?_
  refine ev_getR (q := 8) (ci := 7) (f := 0) dX7_fault_5 rfl (by first | rfl | assumption | exact zf_kd (by assumption) | exact zw_kd (by assumption) | exact zt_kd (by assumption)) (by first | decide | exact zf_lt (by assumption) | exact zf_lt1 (by assumption) | exact zf_lt2 (by assumption) | exact zf_lt3 (by assumption) | exact zf_lt4 (by assumption) | exact zw_lt (by assumption) | exact zw_lt1 (by assumption) | exact zw_lt2 (by assumption) | exact zw_lt3 (by assumption) | exact zw_lt4 (by assumption) | exact zt_lt (by assumption)) (by decide) (by decide) lfRX7_10 rfl (by first | rfl | assumption | exact zf_p4 _ (by assumption) | exact zf_p5 _ (by assumption) | exact zf_p6 _ (by assumption) | exact zf_p7 _ (by assumption) | exact zw_p1 _ (by assumption) | exact zw_p2 _ (by assumption) | exact zw_p3 _ (by assumption) | exact zw_p4 _ (by assumption)) ?_
  refine ev_aload_n (q := 9) dX7_fault_8 rfl rfl ?_
  refine ev_getR (q := 12) (ci := 7) (f := 10) dX7_fault_9 rfl (by first | rfl | assumption | exact zf_kd (by assumption) | exact zw_kd (by assumption) | exact zt_kd (by assumption)) (by first | decide | exact zf_lt (by assumption) | exact zf_lt1 (by assumption) | exact zf_lt2 (by assumption) | exact zf_lt3 (by assumption) | exact zf_lt4 (by assumption) | exact zw_lt (by assumption) | exact zw_lt1 (by assumption) | exact zw_lt2 (by assumption) | exact zw_lt3 (by assumption) | exact zw_lt4 (by assumption) | exact zt_lt (by assumption)) (by decide) (by decide) lfRX7_70 rfl (by first | rfl | assumption | exact zf_p4 _ (by assumption) | exact zf_p5 _ (by assumption) | exact zf_p6 _ (by assumption) | exact zf_p7 _ (by assumption) | exact zw_p1 _ (by assumption) | exact zw_p2 _ (by assumption) | exact zw_p3 _ (by assumption) | exact zw_p4 _ (by assumption)) ?_
  refine ev_cV (q := 15) (ci := 2) dX7_fault_12 rfl okX2_faultOf lmRX7_88 imX2_faultOf seX2_faultOf (by first | rfl | assumption | exact zf_kd (by assumption) | exact zw_kd (by assumption) | exact zt_kd (by assumption)) (by first | decide | exact zf_lt (by assumption) | exact zf_lt1 (by assumption) | exact zf_lt2 (by assumption) | exact zf_lt3 (by assumption) | exact zf_lt4 (by assumption) | exact zw_lt (by assumption) | exact zw_lt1 (by assumption) | exact zw_lt2 (by assumption) | exact zw_lt3 (by assumption) | exact zw_lt4 (by assumption) | exact zt_lt (by assumption)) (by decide) rfl (c_X2_faultOf G fo I (zD_is fo) hb) (by decide) rfl rfl (Nat.le_of_ble_eq_true rfl) (fun v12 n12 I12 P12 hR12 => ?_)
  obtain ⟨rfl, rfl, hof, rfl, hz⟩ := hR12
  exact ev_iret dX7_fault_15 rfl (by first | rfl | exact zb_nar _ | assumption) (⟨rfl, rfl, rfl, hof⟩)
def zcenC (fo : Bool) (I I' : zq_I) (s : zpS) : Prop := zRdC (zD fo) I' s ∧ I' 91 0 = 0 ∧ (∀ p, p < 8 → I' 92 p = I' (zD fo + 1) p ∧ I' 93 p = 0 ∧ I' 94 p = -9) ∧ (∀ t, t < 4 → I' 95 t = 0) ∧ I' 9 1 = I 9 1 ∧ I' 9 2 = 0 ∧ (∀ s, s < 2 → I' 107 s = 0) ∧ ∀ c, c ≠ 3 → (c < zD fo ∨ zD fo + 4 < c) → (c < 91 ∨ 95 < c) → c ≠ 9 → c ≠ 107 → I' c = I c
set_option maxHeartbeats 4000000 in
set_option maxRecDepth 100000 in
theorem lp_X7_census (G : zq_G) (fo : Bool) (I I0 : zq_I) {n N : Nat} {b : Nat → Nat} (hN : I0 (zD fo) 2 = nI N) (hend : ∀ I1 : zq_I, (∀ c, c ≠ 107 → I1 c = I0 c) → (∀ s, s < 2 → I1 107 s = 0) → (fun v' n' I' P' => n' = 138 ∧ (¬ zpF b n = -9 → P' = zPs fo ∧ v' = some (.int (-3)) ∧ zof3 (zD fo) I I') ∧ ∀ s, zpR b n = some s → s.1 = 3 → P' = zPs (!fo) ∧ v' = some (.int (nI s.2.2.2.2.1)) ∧ zcenC fo I I' s : zq_R) (some (.int (nI N))) 138 I1 (zPs (!fo))) : zq_E G mX7_census 5 0 0 false 61 [some (.ref 0), some (.ref (zF fo)), some (.int 0)] [] 138 I0 (zPs (!fo)) (fun v' n' I' P' => n' = 138 ∧ (¬ zpF b n = -9 → P' = zPs fo ∧ v' = some (.int (-3)) ∧ zof3 (zD fo) I I') ∧ ∀ s, zpR b n = some s → s.1 = 3 → P' = zPs (!fo) ∧ v' = some (.int (nI s.2.2.2.2.1)) ∧ zcenC fo I I' s) := by
  have lp61 : ∀ (k i : Nat) (I1 : zq_I), 2 + 1 ≤ i + k → i ≤ 2 → (∀ c, c ≠ 107 → I1 c = I0 c) → (∀ s, s < i → I1 107 s = 0) → zq_E G mX7_census 5 0 0 false 61 [some (.ref 0), some (.ref (zF fo)), some (.int (nI i))] [] 138 I1 (zPs (!fo)) (fun v' n' I' P' => n' = 138 ∧ (¬ zpF b n = -9 → P' = zPs fo ∧ v' = some (.int (-3)) ∧ zof3 (zD fo) I I') ∧ ∀ s, zpR b n = some s → s.1 = 3 → P' = zPs (!fo) ∧ v' = some (.int (nI s.2.2.2.2.1)) ∧ zcenC fo I I' s) := by
    intro k
    induction k with
    | zero => intro i I1 hk hi; exact absurd hk (by omega)
    | succ k ih =>
      intro i I1 hk hi hf h0
      refine ev_iload_n (q := 62) dX7_census_61 rfl rfl ?_
      refine ev_iconst (q := 63) (nI 2 : Int32) dX7_census_62 rfl (by decide) ?_
      refine ev_icmp_ge (q := 66) (t := 79) dX7_census_63 rfl (by decide) (fun h63 => ?_) (fun h63 => ?_)
      · obtain rfl : i = 2 := by rw [nI_leI (by omega) (by omega)] at h63; omega
        refine ev_aload_n (q := 80) dX7_census_79 rfl rfl ?_
        refine ev_getR (q := 83) (ci := 7) (f := 9) dX7_census_80 rfl (by first | rfl | assumption | exact zf_kd (by assumption) | exact zw_kd (by assumption) | exact zt_kd (by assumption)) (by first | decide | exact zf_lt (by assumption) | exact zf_lt1 (by assumption) | exact zf_lt2 (by assumption) | exact zf_lt3 (by assumption) | exact zf_lt4 (by assumption) | exact zw_lt (by assumption) | exact zw_lt1 (by assumption) | exact zw_lt2 (by assumption) | exact zw_lt3 (by assumption) | exact zw_lt4 (by assumption) | exact zt_lt (by assumption)) (by decide) (by decide) lfRX7_66 rfl (show zPs (!fo) 0 9 = some (zF (!fo)) from rfl) ?_
        have hfN := zF_is (!fo)
        refine ev_getI (q := 86) (ci := 0) (f := 2) dX7_census_83 rfl (by first | rfl | assumption | exact zf_kd (by assumption) | exact zw_kd (by assumption) | exact zt_kd (by assumption)) (by first | decide | exact zf_lt (by assumption) | exact zf_lt1 (by assumption) | exact zf_lt2 (by assumption) | exact zf_lt3 (by assumption) | exact zf_lt4 (by assumption) | exact zw_lt (by assumption) | exact zw_lt1 (by assumption) | exact zw_lt2 (by assumption) | exact zw_lt3 (by assumption) | exact zw_lt4 (by assumption) | exact zt_lt (by assumption)) (by decide) (by decide) lfRX7_93 rfl ?_
        rw [(zF_not fo).1, hf _ (by rcases zD_is fo with q | q <;> rw [q] <;> decide), hN]
        exact ev_iret dX7_census_86 rfl (by first | rfl | exact zb_nar _ | assumption) (hend _ hf h0)
      · have hlt_i : i < 2 := by rw [nI_leI (by omega) (by omega)] at h63; omega
        refine ev_aload_n (q := 67) dX7_census_66 rfl rfl ?_
        refine ev_getR (q := 70) (ci := 7) (f := 7) dX7_census_67 rfl (by first | rfl | assumption | exact zf_kd (by assumption) | exact zw_kd (by assumption) | exact zt_kd (by assumption)) (by first | decide | exact zf_lt (by assumption) | exact zf_lt1 (by assumption) | exact zf_lt2 (by assumption) | exact zf_lt3 (by assumption) | exact zf_lt4 (by assumption) | exact zw_lt (by assumption) | exact zw_lt1 (by assumption) | exact zw_lt2 (by assumption) | exact zw_lt3 (by assumption) | exact zw_lt4 (by assumption) | exact zt_lt (by assumption)) (by decide) (by decide) lfRX7_55 rfl (by first | rfl | assumption | exact zf_p4 _ (by assumption) | exact zf_p5 _ (by assumption) | exact zf_p6 _ (by assumption) | exact zf_p7 _ (by assumption) | exact zw_p1 _ (by assumption) | exact zw_p2 _ (by assumption) | exact zw_p3 _ (by assumption) | exact zw_p4 _ (by assumption)) ?_
        refine ev_iload_n (q := 71) dX7_census_70 rfl rfl ?_
        refine ev_iconst (q := 72) (0 : Int32) dX7_census_71 rfl (by decide) ?_
        refine ev_zastN (q := 73) dX7_census_72 rfl rfl (by first | decide | exact zf_lt (by assumption) | exact zf_lt1 (by assumption) | exact zf_lt2 (by assumption) | exact zf_lt3 (by assumption) | exact zf_lt4 (by assumption) | exact zw_lt (by assumption) | exact zw_lt1 (by assumption) | exact zw_lt2 (by assumption) | exact zw_lt3 (by assumption) | exact zw_lt4 (by assumption) | exact zt_lt (by assumption)) (by first | omega | assumption) ?_
        refine ev_iincL (q := 76) (L9 := [_, _, _]) (1 : Int32) dX7_census_73 rfl rfl (by decide) (by decide) rfl rfl ?_
        refine ev_goto (t := 61) dX7_census_76 (by decide) ?_
        rw [nI_1]
        exact ih (i + 1) _ (by omega) (by omega) (fun c q => by rw [zu_other q]; exact hf c q) (fun s hs => by
          by_cases hsi : s = i
          · subst hsi; rw [zu_eq]; decide
          · rw [zu_ne hsi]; exact h0 s (by omega))
  exact lp61 3 0 _ (by omega) (by omega) (fun _ _ => rfl) (fun s hs => absurd hs (by omega))
set_option maxHeartbeats 4000000 in
set_option maxRecDepth 100000 in
theorem c_X7_census (G : zq_G) (fo : Bool) (I : zq_I) {n : Nat} {b : Nat → Nat} (hb : zpub I b n) : zq_Met G mX7_census 5 0 0 [.ref 0] 138 I (zPs fo) (fun v' n' I' P' => n' = 138 ∧ (¬ zpF b n = -9 → P' = zPs fo ∧ v' = some (.int (-3)) ∧ zof3 (zD fo) I I') ∧ ∀ s, zpR b n = some s → s.1 = 3 → P' = zPs (!fo) ∧ v' = some (.int (nI s.2.2.2.2.1)) ∧ zcenC fo I I' s) := by
  refine zq_Met.of okX7_census (Nat.le_of_ble_eq_true rfl) ?_
  show zq_E _ _ _ _ _ _ _ [some (.ref 0), none, none] _ _ _ _ _
  refine ev_aload_n (q := 1) dX7_census_0 rfl rfl ?_
  refine ev_getR (q := 4) (ci := 7) (f := 1) dX7_census_1 rfl (by first | rfl | assumption | exact zf_kd (by assumption) | exact zw_kd (by assumption) | exact zt_kd (by assumption)) (by first | decide | exact zf_lt (by assumption) | exact zf_lt1 (by assumption) | exact zf_lt2 (by assumption) | exact zf_lt3 (by assumption) | exact zf_lt4 (by assumption) | exact zw_lt (by assumption) | exact zw_lt1 (by assumption) | exact zw_lt2 (by assumption) | exact zw_lt3 (by assumption) | exact zw_lt4 (by assumption) | exact zt_lt (by assumption)) (by decide) (by decide) lfRX7_19 rfl (by first | rfl | assumption | exact zf_p4 _ (by assumption) | exact zf_p5 _ (by assumption) | exact zf_p6 _ (by assumption) | exact zf_p7 _ (by assumption) | exact zw_p1 _ (by assumption) | exact zw_p2 _ (by assumption) | exact zw_p3 _ (by assumption) | exact zw_p4 _ (by assumption)) ?_
  refine ev_aload_n (q := 5) dX7_census_4 rfl rfl ?_
  refine ev_getR (q := 8) (ci := 7) (f := 0) dX7_census_5 rfl (by first | rfl | assumption | exact zf_kd (by assumption) | exact zw_kd (by assumption) | exact zt_kd (by assumption)) (by first | decide | exact zf_lt (by assumption) | exact zf_lt1 (by assumption) | exact zf_lt2 (by assumption) | exact zf_lt3 (by assumption) | exact zf_lt4 (by assumption) | exact zw_lt (by assumption) | exact zw_lt1 (by assumption) | exact zw_lt2 (by assumption) | exact zw_lt3 (by assumption) | exact zw_lt4 (by assumption) | exact zt_lt (by assumption)) (by decide) (by decide) lfRX7_10 rfl (by first | rfl | assumption | exact zf_p4 _ (by assumption) | exact zf_p5 _ (by assumption) | exact zf_p6 _ (by assumption) | exact zf_p7 _ (by assumption) | exact zw_p1 _ (by assumption) | exact zw_p2 _ (by assumption) | exact zw_p3 _ (by assumption) | exact zw_p4 _ (by assumption)) ?_
  refine ev_aload_n (q := 9) dX7_census_8 rfl rfl ?_
  refine ev_getR (q := 12) (ci := 7) (f := 10) dX7_census_9 rfl (by first | rfl | assumption | exact zf_kd (by assumption) | exact zw_kd (by assumption) | exact zt_kd (by assumption)) (by first | decide | exact zf_lt (by assumption) | exact zf_lt1 (by assumption) | exact zf_lt2 (by assumption) | exact zf_lt3 (by assumption) | exact zf_lt4 (by assumption) | exact zw_lt (by assumption) | exact zw_lt1 (by assumption) | exact zw_lt2 (by assumption) | exact zw_lt3 (by assumption) | exact zw_lt4 (by assumption) | exact zt_lt (by assumption)) (by decide) (by decide) lfRX7_70 rfl (by first | rfl | assumption | exact zf_p4 _ (by assumption) | exact zf_p5 _ (by assumption) | exact zf_p6 _ (by assumption) | exact zf_p7 _ (by assumption) | exact zw_p1 _ (by assumption) | exact zw_p2 _ (by assumption) | exact zw_p3 _ (by assumption) | exact zw_p4 _ (by assumption)) ?_
  refine ev_cV (q := 15) (ci := 2) dX7_census_12 rfl okX2_faultOf lmRX7_88 imX2_faultOf seX2_faultOf (by first | rfl | assumption | exact zf_kd (by assumption) | exact zw_kd (by assumption) | exact zt_kd (by assumption)) (by first | decide | exact zf_lt (by assumption) | exact zf_lt1 (by assumption) | exact zf_lt2 (by assumption) | exact zf_lt3 (by assumption) | exact zf_lt4 (by assumption) | exact zw_lt (by assumption) | exact zw_lt1 (by assumption) | exact zw_lt2 (by assumption) | exact zw_lt3 (by assumption) | exact zw_lt4 (by assumption) | exact zt_lt (by assumption)) (by decide) rfl (c_X2_faultOf G fo I (zD_is fo) hb) (by decide) rfl rfl (Nat.le_of_ble_eq_true rfl) (fun v12 n12 I12 P12 hR12 => ?_)
  obtain ⟨rfl, rfl, hof, rfl, hz0⟩ := hR12
  refine ev_bipush (q := 17) ((-9) : Int32) dX7_census_15 rfl (by decide) ?_
  refine ev_icmp_eq (q := 20) (t := 23) dX7_census_17 rfl (by decide) (fun h17 => ?_) (fun h17 => ?_)
  · obtain ⟨s, hz, hs3⟩ := zpF_3 (by have := hb.1; omega) h17
    have hr := hz0 s hz
    obtain ⟨w, ak, l, T, N, M, H, A, K, S⟩ := s
    obtain rfl : w = 3 := hs3
    refine ev_aload_n (q := 24) dX7_census_23 rfl rfl ?_
    refine ev_getR (q := 27) (ci := 7) (f := 9) dX7_census_24 rfl (by first | rfl | assumption | exact zf_kd (by assumption) | exact zw_kd (by assumption) | exact zt_kd (by assumption)) (by first | decide | exact zf_lt (by assumption) | exact zf_lt1 (by assumption) | exact zf_lt2 (by assumption) | exact zf_lt3 (by assumption) | exact zf_lt4 (by assumption) | exact zw_lt (by assumption) | exact zw_lt1 (by assumption) | exact zw_lt2 (by assumption) | exact zw_lt3 (by assumption) | exact zw_lt4 (by assumption) | exact zt_lt (by assumption)) (by decide) (by decide) lfRX7_66 rfl (by first | rfl | assumption | exact zf_p4 _ (by assumption) | exact zf_p5 _ (by assumption) | exact zf_p6 _ (by assumption) | exact zf_p7 _ (by assumption) | exact zw_p1 _ (by assumption) | exact zw_p2 _ (by assumption) | exact zw_p3 _ (by assumption) | exact zw_p4 _ (by assumption)) ?_
    refine ev_astore_nL (q := 28) (L9 := [_, _, _]) dX7_census_27 rfl (by decide) rfl rfl ?_
    refine ev_aload_n (q := 29) dX7_census_28 rfl rfl ?_
    refine ev_aload_n (q := 30) dX7_census_29 rfl rfl ?_
    refine ev_getR (q := 33) (ci := 7) (f := 10) dX7_census_30 rfl (by first | rfl | assumption | exact zf_kd (by assumption) | exact zw_kd (by assumption) | exact zt_kd (by assumption)) (by first | decide | exact zf_lt (by assumption) | exact zf_lt1 (by assumption) | exact zf_lt2 (by assumption) | exact zf_lt3 (by assumption) | exact zf_lt4 (by assumption) | exact zw_lt (by assumption) | exact zw_lt1 (by assumption) | exact zw_lt2 (by assumption) | exact zw_lt3 (by assumption) | exact zw_lt4 (by assumption) | exact zt_lt (by assumption)) (by decide) (by decide) lfRX7_70 rfl (by first | rfl | assumption | exact zf_p4 _ (by assumption) | exact zf_p5 _ (by assumption) | exact zf_p6 _ (by assumption) | exact zf_p7 _ (by assumption) | exact zw_p1 _ (by assumption) | exact zw_p2 _ (by assumption) | exact zw_p3 _ (by assumption) | exact zw_p4 _ (by assumption)) ?_
    refine ev_putR (q := 36) (ci := 7) (f := 9) dX7_census_33 rfl (by first | rfl | assumption | exact zf_kd (by assumption) | exact zw_kd (by assumption) | exact zt_kd (by assumption)) (by first | decide | exact zf_lt (by assumption) | exact zf_lt1 (by assumption) | exact zf_lt2 (by assumption) | exact zf_lt3 (by assumption) | exact zf_lt4 (by assumption) | exact zw_lt (by assumption) | exact zw_lt1 (by assumption) | exact zw_lt2 (by assumption) | exact zw_lt3 (by assumption) | exact zw_lt4 (by assumption) | exact zt_lt (by assumption)) (by decide) (by decide) lfRX7_66 rfl rfl (fun _ => rfl) (fun _ => rfl) ?_
    refine ev_aload_n (q := 37) dX7_census_36 rfl rfl ?_
    refine ev_aload_n (q := 38) dX7_census_37 rfl rfl ?_
    refine ev_putR (q := 41) (ci := 7) (f := 10) dX7_census_38 rfl (by first | rfl | assumption | exact zf_kd (by assumption) | exact zw_kd (by assumption) | exact zt_kd (by assumption)) (by first | decide | exact zf_lt (by assumption) | exact zf_lt1 (by assumption) | exact zf_lt2 (by assumption) | exact zf_lt3 (by assumption) | exact zf_lt4 (by assumption) | exact zw_lt (by assumption) | exact zw_lt1 (by assumption) | exact zw_lt2 (by assumption) | exact zw_lt3 (by assumption) | exact zw_lt4 (by assumption) | exact zt_lt (by assumption)) (by decide) (by decide) lfRX7_70 rfl rfl (fun _ => rfl) (fun _ => rfl) ?_
    rw [zP_sw]
    refine ev_aload_n (q := 42) dX7_census_41 rfl rfl ?_
    refine ev_getR (q := 45) (ci := 7) (f := 5) dX7_census_42 rfl (by first | rfl | assumption | exact zf_kd (by assumption) | exact zw_kd (by assumption) | exact zt_kd (by assumption)) (by first | decide | exact zf_lt (by assumption) | exact zf_lt1 (by assumption) | exact zf_lt2 (by assumption) | exact zf_lt3 (by assumption) | exact zf_lt4 (by assumption) | exact zw_lt (by assumption) | exact zw_lt1 (by assumption) | exact zw_lt2 (by assumption) | exact zw_lt3 (by assumption) | exact zw_lt4 (by assumption) | exact zt_lt (by assumption)) (by decide) (by decide) lfRX7_47 rfl (by first | rfl | assumption | exact zf_p4 _ (by assumption) | exact zf_p5 _ (by assumption) | exact zf_p6 _ (by assumption) | exact zf_p7 _ (by assumption) | exact zw_p1 _ (by assumption) | exact zw_p2 _ (by assumption) | exact zw_p3 _ (by assumption) | exact zw_p4 _ (by assumption)) ?_
    refine ev_aload_n (q := 46) dX7_census_45 rfl rfl ?_
    refine ev_getR (q := 49) (ci := 7) (f := 9) dX7_census_46 rfl (by first | rfl | assumption | exact zf_kd (by assumption) | exact zw_kd (by assumption) | exact zt_kd (by assumption)) (by first | decide | exact zf_lt (by assumption) | exact zf_lt1 (by assumption) | exact zf_lt2 (by assumption) | exact zf_lt3 (by assumption) | exact zf_lt4 (by assumption) | exact zw_lt (by assumption) | exact zw_lt1 (by assumption) | exact zw_lt2 (by assumption) | exact zw_lt3 (by assumption) | exact zw_lt4 (by assumption) | exact zt_lt (by assumption)) (by decide) (by decide) lfRX7_66 rfl (show zPs (!fo) 0 9 = some (zF (!fo)) from rfl) ?_
    refine ev_cV (q := 52) (ci := 6) dX7_census_49 rfl okX6_begin lmRX7_73 imX6_begin seX6_begin (by first | rfl | assumption | exact zf_kd (by assumption) | exact zw_kd (by assumption) | exact zt_kd (by assumption)) (by first | decide | exact zf_lt (by assumption) | exact zf_lt1 (by assumption) | exact zf_lt2 (by assumption) | exact zf_lt3 (by assumption) | exact zf_lt4 (by assumption) | exact zw_lt (by assumption) | exact zw_lt1 (by assumption) | exact zw_lt2 (by assumption) | exact zw_lt3 (by assumption) | exact zw_lt4 (by assumption) | exact zt_lt (by assumption)) (by decide) rfl (c_X6_begin G (!fo) I12 zW_now (zF_is (!fo))) (by decide) rfl rfl (Nat.le_of_ble_eq_true rfl) (fun v49 n49 I49 P49 hR49 => ?_)
    obtain ⟨rfl, rfl, rfl, haw, b0, b1, b2⟩ := hR49
    refine ev_aload_n (q := 53) dX7_census_52 rfl rfl ?_
    refine ev_getR (q := 56) (ci := 7) (f := 4) dX7_census_53 rfl (by first | rfl | assumption | exact zf_kd (by assumption) | exact zw_kd (by assumption) | exact zt_kd (by assumption)) (by first | decide | exact zf_lt (by assumption) | exact zf_lt1 (by assumption) | exact zf_lt2 (by assumption) | exact zf_lt3 (by assumption) | exact zf_lt4 (by assumption) | exact zw_lt (by assumption) | exact zw_lt1 (by assumption) | exact zw_lt2 (by assumption) | exact zw_lt3 (by assumption) | exact zw_lt4 (by assumption) | exact zt_lt (by assumption)) (by decide) (by decide) lfRX7_40 rfl (by first | rfl | assumption | exact zf_p4 _ (by assumption) | exact zf_p5 _ (by assumption) | exact zf_p6 _ (by assumption) | exact zf_p7 _ (by assumption) | exact zw_p1 _ (by assumption) | exact zw_p2 _ (by assumption) | exact zw_p3 _ (by assumption) | exact zw_p4 _ (by assumption)) ?_
    refine ev_cV (q := 59) (ci := 1) dX7_census_56 rfl okX1_clear lmRX7_92 imX1_clear seX1_clear (by first | rfl | assumption | exact zf_kd (by assumption) | exact zw_kd (by assumption) | exact zt_kd (by assumption)) (by first | decide | exact zf_lt (by assumption) | exact zf_lt1 (by assumption) | exact zf_lt2 (by assumption) | exact zf_lt3 (by assumption) | exact zf_lt4 (by assumption) | exact zw_lt (by assumption) | exact zw_lt1 (by assumption) | exact zw_lt2 (by assumption) | exact zw_lt3 (by assumption) | exact zw_lt4 (by assumption) | exact zt_lt (by assumption)) (by decide) rfl (c_X1_clear G (!fo) I49) (by decide) rfl rfl (Nat.le_of_ble_eq_true rfl) (fun v56 n56 I56 P56 hR56 => ?_)
    obtain ⟨rfl, rfl, rfl, rfl⟩ := hR56
    refine ev_iconst (q := 60) (0 : Int32) dX7_census_59 rfl (by decide) ?_
    refine ev_istore_nL (q := 61) (L9 := [_, _, _]) dX7_census_60 rfl (by decide) rfl rfl ?_
    refine lp_X7_census G fo I _ (N := N) (by rw [zu_other (by rcases zD_is fo with q | q <;> rw [q] <;> decide), haw _ (by rcases zD_is fo with q | q <;> rw [q] <;> decide)]; exact hr.2.2.2.2.1) (fun I1 hf h0 => ?_)
    have hD := zD_is fo
    have hDn : zD fo = 109 ∨ zD fo = 114 := hD
    have hU : ∀ c, c ≠ 107 → c ≠ 9 → (c < 91 ∨ 95 < c) → I1 c = I12 c := fun c q1 q2 q3 => by rw [hf c q1, zu_other q2, haw c (by omega)]
    have hW : ∀ c, 91 ≤ c → c ≤ 95 → I1 c = I49 c := fun c q1 q2 => by rw [hf c (by omega), zu_other (by omega)]
    refine ⟨rfl, fun q => absurd (by rw [zpF_at hz]; rfl) q, fun s hs hs3 => ?_⟩
    rw [hz] at hs
    cases hs
    refine ⟨rfl, rfl, ?_, ?_, ?_, ?_, ?_, ?_, ?_, ?_⟩
    · obtain ⟨r1, r2, r3, r4, r5, r6, r7, r8, r9⟩ := hr
      have e0 := hU (zD fo) (by omega) (by omega) (by omega)
      have e1 := hU (zD fo + 1) (by omega) (by omega) (by omega)
      have e2 := hU (zD fo + 2) (by omega) (by omega) (by omega)
      have e3 := hU (zD fo + 3) (by omega) (by omega) (by omega)
      have e4 := hU (zD fo + 4) (by omega) (by omega) (by omega)
      have e5 := hU 3 (by omega) (by omega) (by omega)
      unfold zRdC
      rw [e0, e1, e2, e3, e4, e5]
      exact ⟨r1, r2, r3, r4, r5, r6, r7, r8, r9⟩
    · rw [hW 91 (by omega) (by omega)]; exact b0
    · intro p hp
      obtain ⟨q1, q2, q3⟩ := b1 p hp
      rw [hW 92 (by omega) (by omega), hW 93 (by omega) (by omega), hW 94 (by omega) (by omega), hU (zD fo + 1) (by omega) (by omega) (by omega)]
      refine ⟨?_, q2, q3⟩
      rw [(zF_not fo).1] at q1
      exact q1
    · intro t ht
      rw [hW 95 (by omega) (by omega)]; exact b2 t ht
    · rw [hf 9 (by omega), zu_ne (by decide), haw 9 (by omega), hof 9 (by omega) (by omega)]
    · rw [hf 9 (by omega), zu_eq]
    · exact h0
    · intro c q1 q2 q3 q4 q5
      rw [hU c q5 q4 q3]; exact hof c q1 q2
  · refine ev_bipush (q := 22) ((-3) : Int32) dX7_census_20 rfl (by decide) ?_
    exact ev_iret dX7_census_22 rfl (by first | rfl | exact zb_nar _ | assumption) (⟨rfl, fun _ => ⟨rfl, rfl, hof⟩, fun s hs hs3 => absurd (by rw [zpF_at hs, if_pos hs3]) h17⟩)
set_option maxHeartbeats 4000000 in
set_option maxRecDepth 100000 in
theorem c_X7_keep (G : zq_G) (fo : Bool) (I : zq_I) (x : Int32) : zq_Met G mX7_keep 1 0 0 [.ref 0, .int x] 138 I (zPs fo) (fun v' n' I' P' => n' = 138 ∧ P' = zPs fo ∧ (zin x 2 = false → v' = some (.int (-1)) ∧ I' = I) ∧ ∀ s, s < 2 → x = nI s → v' = some (.int (I 91 0)) ∧ (∀ c, c ≠ 107 → (c < 97 + 5 * s ∨ 97 + 5 * s + 4 < c) → I' c = I c) ∧ I' 107 s = 1 ∧ (∀ j, j ≠ s → I' 107 j = I 107 j) ∧ zcop (97 + 5 * s) 91 I I') := by
  refine zq_Met.of okX7_keep (Nat.le_of_ble_eq_true rfl) ?_
  show zq_E _ _ _ _ _ _ _ [some (.ref 0), some (.int x)] _ _ _ _ _
  refine ev_iload_n (q := 1) dX7_keep_0 rfl rfl ?_
  refine ev_if_lt (q := 4) (t := 9) dX7_keep_1 rfl (by decide) (fun h1 => ?_) (fun h1 => ?_)
  · have hz : zin x 2 = false := by unfold zin; rw [decide_eq_true h1]; rfl
    refine ev_iconst (q := 10) ((-1) : Int32) dX7_keep_9 rfl (by decide) ?_
    exact ev_iret dX7_keep_10 rfl (by first | rfl | exact zb_nar _ | assumption) (⟨rfl, rfl, fun _ => ⟨rfl, rfl⟩, fun s hs2 e => absurd hz (by rw [e]; rw [show zin (nI s) 2 = true from zin_of (N := 2) hs2 (by omega)]; decide)⟩)
  · refine ev_iload_n (q := 5) dX7_keep_4 rfl rfl ?_
    refine ev_iconst (q := 6) (nI 2 : Int32) dX7_keep_5 rfl (by decide) ?_
    refine ev_icmp_lt (q := 9) (t := 11) dX7_keep_6 rfl (by decide) (fun h6 => ?_) (fun h6 => ?_)
    · have hz : zin x (nI 2) = true := by unfold zin; rw [decide_eq_false h1, decide_eq_false (Int32.not_le.mpr h6)]; rfl
      obtain ⟨s, hsl, rfl⟩ := zin_t (by omega) hz
      have hws := zW_s hsl
      refine ev_aload_n (q := 12) dX7_keep_11 rfl rfl ?_
      refine ev_getR (q := 15) (ci := 7) (f := 6) dX7_keep_12 rfl (by first | rfl | assumption | exact zf_kd (by assumption) | exact zw_kd (by assumption) | exact zt_kd (by assumption)) (by first | decide | exact zf_lt (by assumption) | exact zf_lt1 (by assumption) | exact zf_lt2 (by assumption) | exact zf_lt3 (by assumption) | exact zf_lt4 (by assumption) | exact zw_lt (by assumption) | exact zw_lt1 (by assumption) | exact zw_lt2 (by assumption) | exact zw_lt3 (by assumption) | exact zw_lt4 (by assumption) | exact zt_lt (by assumption)) (by decide) (by decide) lfRX7_51 rfl (by first | rfl | assumption | exact zf_p4 _ (by assumption) | exact zf_p5 _ (by assumption) | exact zf_p6 _ (by assumption) | exact zf_p7 _ (by assumption) | exact zw_p1 _ (by assumption) | exact zw_p2 _ (by assumption) | exact zw_p3 _ (by assumption) | exact zw_p4 _ (by assumption)) ?_
      refine ev_iload_n (q := 16) dX7_keep_15 rfl rfl ?_
      refine ev_aaldN (q := 17) dX7_keep_16 rfl rfl (by first | decide | exact zf_lt (by assumption) | exact zf_lt1 (by assumption) | exact zf_lt2 (by assumption) | exact zf_lt3 (by assumption) | exact zf_lt4 (by assumption) | exact zw_lt (by assumption) | exact zw_lt1 (by assumption) | exact zw_lt2 (by assumption) | exact zw_lt3 (by assumption) | exact zw_lt4 (by assumption) | exact zt_lt (by assumption)) (by first | omega | assumption) (zPs_96 fo hsl) ?_
      refine ev_aload_n (q := 18) dX7_keep_17 rfl rfl ?_
      refine ev_getR (q := 21) (ci := 7) (f := 5) dX7_keep_18 rfl (by first | rfl | assumption | exact zf_kd (by assumption) | exact zw_kd (by assumption) | exact zt_kd (by assumption)) (by first | decide | exact zf_lt (by assumption) | exact zf_lt1 (by assumption) | exact zf_lt2 (by assumption) | exact zf_lt3 (by assumption) | exact zf_lt4 (by assumption) | exact zw_lt (by assumption) | exact zw_lt1 (by assumption) | exact zw_lt2 (by assumption) | exact zw_lt3 (by assumption) | exact zw_lt4 (by assumption) | exact zt_lt (by assumption)) (by decide) (by decide) lfRX7_47 rfl (by first | rfl | assumption | exact zf_p4 _ (by assumption) | exact zf_p5 _ (by assumption) | exact zf_p6 _ (by assumption) | exact zf_p7 _ (by assumption) | exact zw_p1 _ (by assumption) | exact zw_p2 _ (by assumption) | exact zw_p3 _ (by assumption) | exact zw_p4 _ (by assumption)) ?_
      refine ev_cV (q := 24) (ci := 6) dX7_keep_21 rfl okX6_copyFrom lmRX7_250 imX6_copyFrom seX6_copyFrom (by first | rfl | assumption | exact zf_kd (by assumption) | exact zw_kd (by assumption) | exact zt_kd (by assumption)) (by first | decide | exact zf_lt (by assumption) | exact zf_lt1 (by assumption) | exact zf_lt2 (by assumption) | exact zf_lt3 (by assumption) | exact zf_lt4 (by assumption) | exact zw_lt (by assumption) | exact zw_lt1 (by assumption) | exact zw_lt2 (by assumption) | exact zw_lt3 (by assumption) | exact zw_lt4 (by assumption) | exact zt_lt (by assumption)) (by decide) rfl (c_X6_copyFrom G fo I hws zW_now (by omega)) (by decide) rfl rfl (Nat.le_of_ble_eq_true rfl) (fun v21 n21 I21 P21 hR21 => ?_)
      obtain ⟨rfl, rfl, rfl, haw, hcp⟩ := hR21
      refine ev_aload_n (q := 25) dX7_keep_24 rfl rfl ?_
      refine ev_getR (q := 28) (ci := 7) (f := 7) dX7_keep_25 rfl (by first | rfl | assumption | exact zf_kd (by assumption) | exact zw_kd (by assumption) | exact zt_kd (by assumption)) (by first | decide | exact zf_lt (by assumption) | exact zf_lt1 (by assumption) | exact zf_lt2 (by assumption) | exact zf_lt3 (by assumption) | exact zf_lt4 (by assumption) | exact zw_lt (by assumption) | exact zw_lt1 (by assumption) | exact zw_lt2 (by assumption) | exact zw_lt3 (by assumption) | exact zw_lt4 (by assumption) | exact zt_lt (by assumption)) (by decide) (by decide) lfRX7_55 rfl (by first | rfl | assumption | exact zf_p4 _ (by assumption) | exact zf_p5 _ (by assumption) | exact zf_p6 _ (by assumption) | exact zf_p7 _ (by assumption) | exact zw_p1 _ (by assumption) | exact zw_p2 _ (by assumption) | exact zw_p3 _ (by assumption) | exact zw_p4 _ (by assumption)) ?_
      refine ev_iload_n (q := 29) dX7_keep_28 rfl rfl ?_
      refine ev_iconst (q := 30) (1 : Int32) dX7_keep_29 rfl (by decide) ?_
      refine ev_zastN (q := 31) dX7_keep_30 rfl rfl (by first | decide | exact zf_lt (by assumption) | exact zf_lt1 (by assumption) | exact zf_lt2 (by assumption) | exact zf_lt3 (by assumption) | exact zf_lt4 (by assumption) | exact zw_lt (by assumption) | exact zw_lt1 (by assumption) | exact zw_lt2 (by assumption) | exact zw_lt3 (by assumption) | exact zw_lt4 (by assumption) | exact zt_lt (by assumption)) (by first | omega | assumption) ?_
      refine ev_aload_n (q := 32) dX7_keep_31 rfl rfl ?_
      refine ev_getR (q := 35) (ci := 7) (f := 5) dX7_keep_32 rfl (by first | rfl | assumption | exact zf_kd (by assumption) | exact zw_kd (by assumption) | exact zt_kd (by assumption)) (by first | decide | exact zf_lt (by assumption) | exact zf_lt1 (by assumption) | exact zf_lt2 (by assumption) | exact zf_lt3 (by assumption) | exact zf_lt4 (by assumption) | exact zw_lt (by assumption) | exact zw_lt1 (by assumption) | exact zw_lt2 (by assumption) | exact zw_lt3 (by assumption) | exact zw_lt4 (by assumption) | exact zt_lt (by assumption)) (by decide) (by decide) lfRX7_47 rfl (by first | rfl | assumption | exact zf_p4 _ (by assumption) | exact zf_p5 _ (by assumption) | exact zf_p6 _ (by assumption) | exact zf_p7 _ (by assumption) | exact zw_p1 _ (by assumption) | exact zw_p2 _ (by assumption) | exact zw_p3 _ (by assumption) | exact zw_p4 _ (by assumption)) ?_
      refine ev_getI (q := 38) (ci := 6) (f := 0) dX7_keep_35 rfl (by first | rfl | assumption | exact zf_kd (by assumption) | exact zw_kd (by assumption) | exact zt_kd (by assumption)) (by first | decide | exact zf_lt (by assumption) | exact zf_lt1 (by assumption) | exact zf_lt2 (by assumption) | exact zf_lt3 (by assumption) | exact zf_lt4 (by assumption) | exact zw_lt (by assumption) | exact zw_lt1 (by assumption) | exact zw_lt2 (by assumption) | exact zw_lt3 (by assumption) | exact zw_lt4 (by assumption) | exact zt_lt (by assumption)) (by decide) (by decide) lfRX7_103 rfl ?_
      rw [zu_nn (by omega), haw 91 (by omega)]
      exact ev_iret dX7_keep_38 rfl (by first | rfl | exact zb_nar _ | assumption) (⟨rfl, rfl, fun h => absurd h (by rw [show zin (nI s) 2 = true from hz]; decide), fun s2 hs2 e => by
        obtain rfl : s = s2 := (nI_eq (by omega) (by omega)).mp e
        exact ⟨rfl, fun c q1 q2 => by rw [zu_other q1]; exact haw c q2, by rw [zu_eq]; decide, fun j hj => by rw [zu_ne hj, haw 107 (by omega)], by rw [zu_nn (by omega)]; exact hcp.1, fun p hp => by rw [zu_nn (by omega), zu_nn (by omega), zu_nn (by omega)]; exact hcp.2.1 p hp, fun t ht => by rw [zu_nn (by omega)]; exact hcp.2.2 t ht⟩⟩)
    · have hz : zin x 2 = false := by
        have hz9 : zin x (nI 2) = false := by unfold zin; rw [decide_eq_true (Int32.not_lt.mp h6), Bool.not_true, Bool.and_false]
        exact hz9
      refine ev_iconst (q := 10) ((-1) : Int32) dX7_keep_9 rfl (by decide) ?_
      exact ev_iret dX7_keep_10 rfl (by first | rfl | exact zb_nar _ | assumption) (⟨rfl, rfl, fun _ => ⟨rfl, rfl⟩, fun s hs2 e => absurd hz (by rw [e]; rw [show zin (nI s) 2 = true from zin_of (N := 2) hs2 (by omega)]; decide)⟩)
set_option maxHeartbeats 4000000 in
set_option maxRecDepth 100000 in
theorem c_X7_again (G : zq_G) (fo : Bool) (I : zq_I) (x : Int32) : zq_Met G mX7_again 1 0 0 [.ref 0, .int x] 138 I (zPs fo) (fun v' n' I' P' => n' = 138 ∧ P' = zPs fo ∧ (zin x 2 = false → v' = some (.int (-1)) ∧ I' = I) ∧ ∀ s, s < 2 → x = nI s → (I 107 s = 0 → v' = some (.int (-3)) ∧ I' = I) ∧ (¬ I 107 s = 0 → v' = some (.int (I (97 + 5 * s) 0)) ∧ (∀ c, c ≠ 9 → (c < 91 ∨ 95 < c) → I' c = I c) ∧ I' 9 1 = I 9 1 ∧ I' 9 2 = 0 ∧ zcop 91 (97 + 5 * s) I I')) := by
  refine zq_Met.of okX7_again (Nat.le_of_ble_eq_true rfl) ?_
  show zq_E _ _ _ _ _ _ _ [some (.ref 0), some (.int x)] _ _ _ _ _
  refine ev_iload_n (q := 1) dX7_again_0 rfl rfl ?_
  refine ev_if_lt (q := 4) (t := 9) dX7_again_1 rfl (by decide) (fun h1 => ?_) (fun h1 => ?_)
  · have hz : zin x 2 = false := by unfold zin; rw [decide_eq_true h1]; rfl
    refine ev_iconst (q := 10) ((-1) : Int32) dX7_again_9 rfl (by decide) ?_
    exact ev_iret dX7_again_10 rfl (by first | rfl | exact zb_nar _ | assumption) (⟨rfl, rfl, fun _ => ⟨rfl, rfl⟩, fun s hs2 e => absurd hz (by rw [e]; rw [show zin (nI s) 2 = true from zin_of (N := 2) hs2 (by omega)]; decide)⟩)
  · refine ev_iload_n (q := 5) dX7_again_4 rfl rfl ?_
    refine ev_iconst (q := 6) (nI 2 : Int32) dX7_again_5 rfl (by decide) ?_
    refine ev_icmp_lt (q := 9) (t := 11) dX7_again_6 rfl (by decide) (fun h6 => ?_) (fun h6 => ?_)
    · have hz : zin x (nI 2) = true := by unfold zin; rw [decide_eq_false h1, decide_eq_false (Int32.not_le.mpr h6)]; rfl
      obtain ⟨s, hsl, rfl⟩ := zin_t (by omega) hz
      have hws := zW_s hsl
      refine ev_aload_n (q := 12) dX7_again_11 rfl rfl ?_
      refine ev_getR (q := 15) (ci := 7) (f := 7) dX7_again_12 rfl (by first | rfl | assumption | exact zf_kd (by assumption) | exact zw_kd (by assumption) | exact zt_kd (by assumption)) (by first | decide | exact zf_lt (by assumption) | exact zf_lt1 (by assumption) | exact zf_lt2 (by assumption) | exact zf_lt3 (by assumption) | exact zf_lt4 (by assumption) | exact zw_lt (by assumption) | exact zw_lt1 (by assumption) | exact zw_lt2 (by assumption) | exact zw_lt3 (by assumption) | exact zw_lt4 (by assumption) | exact zt_lt (by assumption)) (by decide) (by decide) lfRX7_55 rfl (by first | rfl | assumption | exact zf_p4 _ (by assumption) | exact zf_p5 _ (by assumption) | exact zf_p6 _ (by assumption) | exact zf_p7 _ (by assumption) | exact zw_p1 _ (by assumption) | exact zw_p2 _ (by assumption) | exact zw_p3 _ (by assumption) | exact zw_p4 _ (by assumption)) ?_
      refine ev_iload_n (q := 16) dX7_again_15 rfl rfl ?_
      refine ev_zaldN (q := 17) dX7_again_16 rfl rfl (by first | decide | exact zf_lt (by assumption) | exact zf_lt1 (by assumption) | exact zf_lt2 (by assumption) | exact zf_lt3 (by assumption) | exact zf_lt4 (by assumption) | exact zw_lt (by assumption) | exact zw_lt1 (by assumption) | exact zw_lt2 (by assumption) | exact zw_lt3 (by assumption) | exact zw_lt4 (by assumption) | exact zt_lt (by assumption)) (by first | omega | assumption) ?_
      refine ev_if_ne (q := 20) (t := 23) dX7_again_17 rfl (by decide) (fun h17 => ?_) (fun h17 => ?_)
      · refine ev_aload_n (q := 24) dX7_again_23 rfl rfl ?_
        refine ev_getR (q := 27) (ci := 7) (f := 5) dX7_again_24 rfl (by first | rfl | assumption | exact zf_kd (by assumption) | exact zw_kd (by assumption) | exact zt_kd (by assumption)) (by first | decide | exact zf_lt (by assumption) | exact zf_lt1 (by assumption) | exact zf_lt2 (by assumption) | exact zf_lt3 (by assumption) | exact zf_lt4 (by assumption) | exact zw_lt (by assumption) | exact zw_lt1 (by assumption) | exact zw_lt2 (by assumption) | exact zw_lt3 (by assumption) | exact zw_lt4 (by assumption) | exact zt_lt (by assumption)) (by decide) (by decide) lfRX7_47 rfl (by first | rfl | assumption | exact zf_p4 _ (by assumption) | exact zf_p5 _ (by assumption) | exact zf_p6 _ (by assumption) | exact zf_p7 _ (by assumption) | exact zw_p1 _ (by assumption) | exact zw_p2 _ (by assumption) | exact zw_p3 _ (by assumption) | exact zw_p4 _ (by assumption)) ?_
        refine ev_aload_n (q := 28) dX7_again_27 rfl rfl ?_
        refine ev_getR (q := 31) (ci := 7) (f := 6) dX7_again_28 rfl (by first | rfl | assumption | exact zf_kd (by assumption) | exact zw_kd (by assumption) | exact zt_kd (by assumption)) (by first | decide | exact zf_lt (by assumption) | exact zf_lt1 (by assumption) | exact zf_lt2 (by assumption) | exact zf_lt3 (by assumption) | exact zf_lt4 (by assumption) | exact zw_lt (by assumption) | exact zw_lt1 (by assumption) | exact zw_lt2 (by assumption) | exact zw_lt3 (by assumption) | exact zw_lt4 (by assumption) | exact zt_lt (by assumption)) (by decide) (by decide) lfRX7_51 rfl (by first | rfl | assumption | exact zf_p4 _ (by assumption) | exact zf_p5 _ (by assumption) | exact zf_p6 _ (by assumption) | exact zf_p7 _ (by assumption) | exact zw_p1 _ (by assumption) | exact zw_p2 _ (by assumption) | exact zw_p3 _ (by assumption) | exact zw_p4 _ (by assumption)) ?_
        refine ev_iload_n (q := 32) dX7_again_31 rfl rfl ?_
        refine ev_aaldN (q := 33) dX7_again_32 rfl rfl (by first | decide | exact zf_lt (by assumption) | exact zf_lt1 (by assumption) | exact zf_lt2 (by assumption) | exact zf_lt3 (by assumption) | exact zf_lt4 (by assumption) | exact zw_lt (by assumption) | exact zw_lt1 (by assumption) | exact zw_lt2 (by assumption) | exact zw_lt3 (by assumption) | exact zw_lt4 (by assumption) | exact zt_lt (by assumption)) (by first | omega | assumption) (zPs_96 fo hsl) ?_
        refine ev_cV (q := 36) (ci := 6) dX7_again_33 rfl okX6_copyFrom lmRX7_250 imX6_copyFrom seX6_copyFrom (by first | rfl | assumption | exact zf_kd (by assumption) | exact zw_kd (by assumption) | exact zt_kd (by assumption)) (by first | decide | exact zf_lt (by assumption) | exact zf_lt1 (by assumption) | exact zf_lt2 (by assumption) | exact zf_lt3 (by assumption) | exact zf_lt4 (by assumption) | exact zw_lt (by assumption) | exact zw_lt1 (by assumption) | exact zw_lt2 (by assumption) | exact zw_lt3 (by assumption) | exact zw_lt4 (by assumption) | exact zt_lt (by assumption)) (by decide) rfl (c_X6_copyFrom G fo I zW_now hws (by omega)) (by decide) rfl rfl (Nat.le_of_ble_eq_true rfl) (fun v33 n33 I33 P33 hR33 => ?_)
        obtain ⟨rfl, rfl, rfl, haw, hcp⟩ := hR33
        refine ev_aload_n (q := 37) dX7_again_36 rfl rfl ?_
        refine ev_getR (q := 40) (ci := 7) (f := 4) dX7_again_37 rfl (by first | rfl | assumption | exact zf_kd (by assumption) | exact zw_kd (by assumption) | exact zt_kd (by assumption)) (by first | decide | exact zf_lt (by assumption) | exact zf_lt1 (by assumption) | exact zf_lt2 (by assumption) | exact zf_lt3 (by assumption) | exact zf_lt4 (by assumption) | exact zw_lt (by assumption) | exact zw_lt1 (by assumption) | exact zw_lt2 (by assumption) | exact zw_lt3 (by assumption) | exact zw_lt4 (by assumption) | exact zt_lt (by assumption)) (by decide) (by decide) lfRX7_40 rfl (by first | rfl | assumption | exact zf_p4 _ (by assumption) | exact zf_p5 _ (by assumption) | exact zf_p6 _ (by assumption) | exact zf_p7 _ (by assumption) | exact zw_p1 _ (by assumption) | exact zw_p2 _ (by assumption) | exact zw_p3 _ (by assumption) | exact zw_p4 _ (by assumption)) ?_
        refine ev_cV (q := 43) (ci := 1) dX7_again_40 rfl okX1_clear lmRX7_92 imX1_clear seX1_clear (by first | rfl | assumption | exact zf_kd (by assumption) | exact zw_kd (by assumption) | exact zt_kd (by assumption)) (by first | decide | exact zf_lt (by assumption) | exact zf_lt1 (by assumption) | exact zf_lt2 (by assumption) | exact zf_lt3 (by assumption) | exact zf_lt4 (by assumption) | exact zw_lt (by assumption) | exact zw_lt1 (by assumption) | exact zw_lt2 (by assumption) | exact zw_lt3 (by assumption) | exact zw_lt4 (by assumption) | exact zt_lt (by assumption)) (by decide) rfl (c_X1_clear G fo I33) (by decide) rfl rfl (Nat.le_of_ble_eq_true rfl) (fun v40 n40 I40 P40 hR40 => ?_)
        obtain ⟨rfl, rfl, rfl, rfl⟩ := hR40
        refine ev_aload_n (q := 44) dX7_again_43 rfl rfl ?_
        refine ev_getR (q := 47) (ci := 7) (f := 5) dX7_again_44 rfl (by first | rfl | assumption | exact zf_kd (by assumption) | exact zw_kd (by assumption) | exact zt_kd (by assumption)) (by first | decide | exact zf_lt (by assumption) | exact zf_lt1 (by assumption) | exact zf_lt2 (by assumption) | exact zf_lt3 (by assumption) | exact zf_lt4 (by assumption) | exact zw_lt (by assumption) | exact zw_lt1 (by assumption) | exact zw_lt2 (by assumption) | exact zw_lt3 (by assumption) | exact zw_lt4 (by assumption) | exact zt_lt (by assumption)) (by decide) (by decide) lfRX7_47 rfl (by first | rfl | assumption | exact zf_p4 _ (by assumption) | exact zf_p5 _ (by assumption) | exact zf_p6 _ (by assumption) | exact zf_p7 _ (by assumption) | exact zw_p1 _ (by assumption) | exact zw_p2 _ (by assumption) | exact zw_p3 _ (by assumption) | exact zw_p4 _ (by assumption)) ?_
        refine ev_getI (q := 50) (ci := 6) (f := 0) dX7_again_47 rfl (by first | rfl | assumption | exact zf_kd (by assumption) | exact zw_kd (by assumption) | exact zt_kd (by assumption)) (by first | decide | exact zf_lt (by assumption) | exact zf_lt1 (by assumption) | exact zf_lt2 (by assumption) | exact zf_lt3 (by assumption) | exact zf_lt4 (by assumption) | exact zw_lt (by assumption) | exact zw_lt1 (by assumption) | exact zw_lt2 (by assumption) | exact zw_lt3 (by assumption) | exact zw_lt4 (by assumption) | exact zt_lt (by assumption)) (by decide) (by decide) lfRX7_103 rfl ?_
        rw [zu_nn (by omega), hcp.1]
        exact ev_iret dX7_again_50 rfl (by first | rfl | exact zb_nar _ | assumption) (⟨rfl, rfl, fun h => absurd h (by rw [show zin (nI s) 2 = true from hz]; decide), fun s2 hs2 e => by
          obtain rfl : s = s2 := (nI_eq (by omega) (by omega)).mp e
          exact ⟨fun h => absurd h h17, fun _ => ⟨rfl, fun c q1 q2 => by rw [zu_other q1]; exact haw c (by omega), by rw [zu_ne (by decide), haw 9 (by omega)], zu_eq, by rw [zu_nn (by omega)]; exact hcp.1, fun p hp => by rw [zu_nn (by omega), zu_nn (by omega), zu_nn (by omega)]; exact hcp.2.1 p hp, fun t ht => by rw [zu_nn (by omega)]; exact hcp.2.2 t ht⟩⟩⟩)
      · refine ev_bipush (q := 22) ((-3) : Int32) dX7_again_20 rfl (by decide) ?_
        exact ev_iret dX7_again_22 rfl (by first | rfl | exact zb_nar _ | assumption) (⟨rfl, rfl, fun h => absurd h (by rw [show zin (nI s) 2 = true from hz]; decide), fun s2 hs2 e => by
          obtain rfl : s = s2 := (nI_eq (by omega) (by omega)).mp e
          exact ⟨fun _ => ⟨rfl, rfl⟩, fun h => absurd h17 h⟩⟩)
    · have hz : zin x 2 = false := by
        have hz9 : zin x (nI 2) = false := by unfold zin; rw [decide_eq_true (Int32.not_lt.mp h6), Bool.not_true, Bool.and_false]
        exact hz9
      refine ev_iconst (q := 10) ((-1) : Int32) dX7_again_9 rfl (by decide) ?_
      exact ev_iret dX7_again_10 rfl (by first | rfl | exact zb_nar _ | assumption) (⟨rfl, rfl, fun _ => ⟨rfl, rfl⟩, fun s hs2 e => absurd hz (by rw [e]; rw [show zin (nI s) 2 = true from zin_of (N := 2) hs2 (by omega)]; decide)⟩)
