/-- the class's reader and the Folk that it fills -/
def zRdC (f : Nat) (I : zq_I) : zpS → Prop
  | (w, ak, l, T, N, M, H, A, K, S) => I 3 0 = nI w ∧ (w = 8 → I 3 1 = nI ak) ∧ I f 0 = nI l ∧ I f 1 = nI T ∧ I f 2 = nI N ∧ I f 3 = nI M ∧ (w = 5 ∨ w = 6 → I (f + 1) N = nI (H N)) ∧ (w = 6 → I (f + 2) N = nI (A N)) ∧ ∀ p, p < N → I (f + 1) p = nI (H p) ∧ I (f + 2) p = nI (A p) ∧ I (f + 3) p = nI (K p) ∧ I (f + 4) p = nI (S p)
def zpub (I : zq_I) (b : Nat → Nat) (n : Nat) : Prop := n ≤ 80 ∧ I 1 1 = nI n ∧ ∀ j, j < n → I 2 j &&& 255 = nI (b j) ∧ b j < 256
def zof3 (f : Nat) (I I' : zq_I) : Prop := ∀ c, c ≠ 3 → (c < f ∨ f + 4 < c) → I' c = I c
theorem zof3.rf {f : Nat} {I : zq_I} : zof3 f I I := fun _ _ _ => rfl
theorem zof3.tr {f : Nat} {I I1 I2 : zq_I} (h : zof3 f I I1) (h2 : zof3 f I1 I2) : zof3 f I I2 := fun c q1 q2 => (h2 c q1 q2).trans (h c q1 q2)
theorem zof3.zu {f : Nat} {I I1 : zq_I} (h : zof3 f I I1) (c k : Nat) (v : Int32) (hc : c = 3 ∨ (f ≤ c ∧ c ≤ f + 4)) : zof3 f I (zu I1 c k v) := fun b q1 q2 => by
  rw [zu_other (by omega)]
  exact h b q1 q2
theorem zpub.of {f n : Nat} {b : Nat → Nat} {I I' : zq_I} (hf : zq_isF f) (h : zpub I b n) (h2 : zof3 f I I') : zpub I' b n := by
  have e1 : I' 1 = I 1 := h2 1 (by omega) (by rcases hf with rfl | rfl <;> omega)
  have e2 : I' 2 = I 2 := h2 2 (by omega) (by rcases hf with rfl | rfl <;> omega)
  obtain ⟨a, c, d⟩ := h
  exact ⟨a, by rw [e1]; exact c, by rw [e2]; exact d⟩
theorem zF3 {f : Nat} (h : zq_isF f) : f ≠ 3 ∧ 3 < f := by rcases h with rfl | rfl <;> omega
theorem zu_n {I : zq_I} {c k c' k' : Nat} {v : Int32} (h : ¬ (c' = c ∧ k' = k)) : zu I c k v c' k' = I c' k' := if_neg h
theorem zsg : ∀ b, b < 256 → (nI b - nI 48 < 0 ↔ b < 48) ∧ (nI 3 ≤ nI b - nI 48 ↔ 51 ≤ b) ∧ (nI b - nI 48 < nI 1 ↔ b < 49) ∧ (nI 4 < nI b - nI 48 ↔ 53 ≤ b) := by decide +kernel
theorem znIlt {a b : Nat} (ha : a < 2 ^ 31) (hb : b < 2 ^ 31) : decide (nI a < nI b) = decide (a < b) := by rw [decide_eq_decide]; exact nI_ltI ha hb
set_option maxHeartbeats 4000000 in
set_option maxRecDepth 100000 in
theorem c_X4_byteAt (G : zq_G) (fo : Bool) (I : zq_I) {j n : Nat} {b : Nat → Nat} (hb : zpub I b n) (hj : j < n) : zq_Met G mX4_byteAt 0 0 0 [.ref 1, .int (nI j)] 138 I (zPs fo) (zq_pu (some (.int (nI (b j)))) 138 I (zPs fo)) := by
  refine zq_Met.of okX4_byteAt (Nat.le_of_ble_eq_true rfl) ?_
  show zq_E _ _ _ _ _ _ _ [some (.ref 1), some (.int (nI j))] _ _ _ _ _
  refine ev_iload_n (q := 1) dX4_byteAt_0 rfl rfl ?_
  refine ev_if_lt (q := 4) (t := 25) dX4_byteAt_1 rfl (by decide) (fun h1 => ?_) (fun h1 => ?_)
  · exact absurd h1 (nI_pos (by have := hb.1; omega))
  · refine ev_iload_n (q := 5) dX4_byteAt_4 rfl rfl ?_
    refine ev_aload_n (q := 6) dX4_byteAt_5 rfl rfl ?_
    refine ev_getI (q := 9) (ci := 4) (f := 1) dX4_byteAt_6 rfl (by first | rfl | assumption | exact zf_kd (by assumption) | exact zw_kd (by assumption) | exact zt_kd (by assumption)) (by first | decide | exact zf_lt (by assumption) | exact zf_lt1 (by assumption) | exact zf_lt2 (by assumption) | exact zf_lt3 (by assumption) | exact zf_lt4 (by assumption) | exact zw_lt (by assumption) | exact zw_lt1 (by assumption) | exact zw_lt2 (by assumption) | exact zw_lt3 (by assumption) | exact zw_lt4 (by assumption) | exact zt_lt (by assumption)) (by decide) (by decide) lfRX4_15 rfl ?_
    refine ev_icmp_ge (q := 12) (t := 25) dX4_byteAt_9 rfl (by decide) (fun h9 => ?_) (fun h9 => ?_)
    · exact absurd h9 (by rw [hb.2.1]; exact nI_ge hj (by have := hb.1; omega))
    · have h80 := hb.1
      refine ev_aload_n (q := 13) dX4_byteAt_12 rfl rfl ?_
      refine ev_getR (q := 16) (ci := 4) (f := 0) dX4_byteAt_13 rfl (by first | rfl | assumption | exact zf_kd (by assumption) | exact zw_kd (by assumption) | exact zt_kd (by assumption)) (by first | decide | exact zf_lt (by assumption) | exact zf_lt1 (by assumption) | exact zf_lt2 (by assumption) | exact zf_lt3 (by assumption) | exact zf_lt4 (by assumption) | exact zw_lt (by assumption) | exact zw_lt1 (by assumption) | exact zw_lt2 (by assumption) | exact zw_lt3 (by assumption) | exact zw_lt4 (by assumption) | exact zt_lt (by assumption)) (by decide) (by decide) lfRX4_9 rfl (by first | rfl | assumption | exact zf_p4 _ (by assumption) | exact zf_p5 _ (by assumption) | exact zf_p6 _ (by assumption) | exact zf_p7 _ (by assumption) | exact zw_p1 _ (by assumption) | exact zw_p2 _ (by assumption) | exact zw_p3 _ (by assumption) | exact zw_p4 _ (by assumption)) ?_
      refine ev_iload_n (q := 17) dX4_byteAt_16 rfl rfl ?_
      refine ev_baldN (q := 18) dX4_byteAt_17 rfl rfl (by first | decide | exact zf_lt (by assumption) | exact zf_lt1 (by assumption) | exact zf_lt2 (by assumption) | exact zf_lt3 (by assumption) | exact zf_lt4 (by assumption) | exact zw_lt (by assumption) | exact zw_lt1 (by assumption) | exact zw_lt2 (by assumption) | exact zw_lt3 (by assumption) | exact zw_lt4 (by assumption) | exact zt_lt (by assumption)) (by omega) ?_
      refine ev_sipush (q := 21) (255 : Int32) dX4_byteAt_18 rfl (by decide) ?_
      refine ev_iand (q := 22) dX4_byteAt_21 rfl ?_
      rw [(hb.2.2 j hj).1]
      refine ev_goto (t := 26) dX4_byteAt_22 (by decide) ?_
      exact ev_iret dX4_byteAt_26 rfl (by first | rfl | exact zb_nar _ | assumption) (⟨rfl, rfl, rfl, rfl⟩)
set_option maxHeartbeats 4000000 in
set_option maxRecDepth 100000 in
theorem c_X4_clear (G : zq_G) (fo : Bool) (I : zq_I)  : zq_Met G mX4_clear 0 0 0 [.ref 1] 138 I (zPs fo) (fun v n' I' P' => v = none ∧ n' = 138 ∧ I' = zu I 1 1 0 ∧ P' = zPs fo) := by
  refine zq_Met.of okX4_clear (Nat.le_of_ble_eq_true rfl) ?_
  show zq_E _ _ _ _ _ _ _ [some (.ref 1)] _ _ _ _ _
  refine ev_aload_n (q := 1) dX4_clear_0 rfl rfl ?_
  refine ev_iconst (q := 2) (0 : Int32) dX4_clear_1 rfl (by decide) ?_
  refine ev_putI (q := 5) (ci := 4) (f := 1) dX4_clear_2 rfl (by first | rfl | assumption | exact zf_kd (by assumption) | exact zw_kd (by assumption) | exact zt_kd (by assumption)) (by first | decide | exact zf_lt (by assumption) | exact zf_lt1 (by assumption) | exact zf_lt2 (by assumption) | exact zf_lt3 (by assumption) | exact zf_lt4 (by assumption) | exact zw_lt (by assumption) | exact zw_lt1 (by assumption) | exact zw_lt2 (by assumption) | exact zw_lt3 (by assumption) | exact zw_lt4 (by assumption) | exact zt_lt (by assumption)) (by decide) (by decide) lfRX4_15 rfl rfl rfl rfl ?_
  exact ev_vret dX4_clear_5 rfl (⟨rfl, rfl, by simp [zu], rfl⟩)
set_option maxHeartbeats 4000000 in
set_option maxRecDepth 100000 in
theorem c_X0_clear (G : zq_G) (fo : Bool) (I : zq_I) {f : Nat} (hf : zq_isF f) : zq_Met G mX0_clear 0 0 0 [.ref f] 138 I (zPs fo) (fun v n' I' P' => v = none ∧ n' = 138 ∧ I' = zu (zu (zu (zu I f 0 0) f 1 1) f 2 0) f 3 0 ∧ P' = zPs fo) := by
  refine zq_Met.of okX0_clear (Nat.le_of_ble_eq_true rfl) ?_
  show zq_E _ _ _ _ _ _ _ [some (.ref f)] _ _ _ _ _
  refine ev_aload_n (q := 1) dX0_clear_0 rfl rfl ?_
  refine ev_iconst (q := 2) (0 : Int32) dX0_clear_1 rfl (by decide) ?_
  refine ev_putI (q := 5) (ci := 0) (f := 0) dX0_clear_2 rfl (by first | rfl | assumption | exact zf_kd (by assumption) | exact zw_kd (by assumption) | exact zt_kd (by assumption)) (by first | decide | exact zf_lt (by assumption) | exact zf_lt1 (by assumption) | exact zf_lt2 (by assumption) | exact zf_lt3 (by assumption) | exact zf_lt4 (by assumption) | exact zw_lt (by assumption) | exact zw_lt1 (by assumption) | exact zw_lt2 (by assumption) | exact zw_lt3 (by assumption) | exact zw_lt4 (by assumption) | exact zt_lt (by assumption)) (by decide) (by decide) lfRX0_28 rfl rfl rfl rfl ?_
  refine ev_aload_n (q := 6) dX0_clear_5 rfl rfl ?_
  refine ev_iconst (q := 7) (1 : Int32) dX0_clear_6 rfl (by decide) ?_
  refine ev_putI (q := 10) (ci := 0) (f := 1) dX0_clear_7 rfl (by first | rfl | assumption | exact zf_kd (by assumption) | exact zw_kd (by assumption) | exact zt_kd (by assumption)) (by first | decide | exact zf_lt (by assumption) | exact zf_lt1 (by assumption) | exact zf_lt2 (by assumption) | exact zf_lt3 (by assumption) | exact zf_lt4 (by assumption) | exact zw_lt (by assumption) | exact zw_lt1 (by assumption) | exact zw_lt2 (by assumption) | exact zw_lt3 (by assumption) | exact zw_lt4 (by assumption) | exact zt_lt (by assumption)) (by decide) (by decide) lfRX0_9 rfl rfl rfl rfl ?_
  refine ev_aload_n (q := 11) dX0_clear_10 rfl rfl ?_
  refine ev_iconst (q := 12) (0 : Int32) dX0_clear_11 rfl (by decide) ?_
  refine ev_putI (q := 15) (ci := 0) (f := 2) dX0_clear_12 rfl (by first | rfl | assumption | exact zf_kd (by assumption) | exact zw_kd (by assumption) | exact zt_kd (by assumption)) (by first | decide | exact zf_lt (by assumption) | exact zf_lt1 (by assumption) | exact zf_lt2 (by assumption) | exact zf_lt3 (by assumption) | exact zf_lt4 (by assumption) | exact zw_lt (by assumption) | exact zw_lt1 (by assumption) | exact zw_lt2 (by assumption) | exact zw_lt3 (by assumption) | exact zw_lt4 (by assumption) | exact zt_lt (by assumption)) (by decide) (by decide) lfRX0_31 rfl rfl rfl rfl ?_
  refine ev_aload_n (q := 16) dX0_clear_15 rfl rfl ?_
  refine ev_iconst (q := 17) (0 : Int32) dX0_clear_16 rfl (by decide) ?_
  refine ev_putI (q := 20) (ci := 0) (f := 3) dX0_clear_17 rfl (by first | rfl | assumption | exact zf_kd (by assumption) | exact zw_kd (by assumption) | exact zt_kd (by assumption)) (by first | decide | exact zf_lt (by assumption) | exact zf_lt1 (by assumption) | exact zf_lt2 (by assumption) | exact zf_lt3 (by assumption) | exact zf_lt4 (by assumption) | exact zw_lt (by assumption) | exact zw_lt1 (by assumption) | exact zw_lt2 (by assumption) | exact zw_lt3 (by assumption) | exact zw_lt4 (by assumption) | exact zt_lt (by assumption)) (by decide) (by decide) lfRX0_34 rfl rfl rfl rfl ?_
  exact ev_vret dX0_clear_20 rfl (⟨rfl, rfl, rfl, rfl⟩)
set_option maxHeartbeats 4000000 in
set_option maxRecDepth 100000 in
theorem c_X0_mayAddPair (G : zq_G) (fo : Bool) (I : zq_I) {f N M : Nat} (hf : zq_isF f) (h2 : I f 2 = nI N) (h3 : I f 3 = nI M) (hN8 : N ≤ 8) (hM : M ≤ 12) : zq_Met G mX0_mayAddPair 0 0 0 [.ref f] 138 I (zPs fo) (zq_pu (some (.int (zb (decide (M < 12 ∧ M < N * (N - 1)))))) 138 I (zPs fo)) := by
  refine zq_Met.of okX0_mayAddPair (Nat.le_of_ble_eq_true rfl) ?_
  show zq_E _ _ _ _ _ _ _ [some (.ref f)] _ _ _ _ _
  refine ev_aload_n (q := 1) dX0_mayAddPair_0 rfl rfl ?_
  refine ev_getI (q := 4) (ci := 0) (f := 3) dX0_mayAddPair_1 rfl (by first | rfl | assumption | exact zf_kd (by assumption) | exact zw_kd (by assumption) | exact zt_kd (by assumption)) (by first | decide | exact zf_lt (by assumption) | exact zf_lt1 (by assumption) | exact zf_lt2 (by assumption) | exact zf_lt3 (by assumption) | exact zf_lt4 (by assumption) | exact zw_lt (by assumption) | exact zw_lt1 (by assumption) | exact zw_lt2 (by assumption) | exact zw_lt3 (by assumption) | exact zw_lt4 (by assumption) | exact zt_lt (by assumption)) (by decide) (by decide) lfRX0_34 rfl ?_
  refine ev_bipush (q := 6) (nI 12 : Int32) dX0_mayAddPair_4 rfl (by decide) ?_
  rw [h3]
  refine ev_icmp_ge (q := 9) (t := 31) dX0_mayAddPair_6 rfl (by decide) (fun h6 => ?_) (fun h6 => ?_)
  · refine ev_iconst (q := 32) (0 : Int32) dX0_mayAddPair_31 rfl (by decide) ?_
    exact ev_iret dX0_mayAddPair_32 rfl (by first | rfl | exact zb_nar _ | assumption) (⟨by rw [nI_leI (by omega) (by omega)] at h6; first | (rw [decide_eq_false (fun q => by omega)]; rfl) | (rw [nI_leI (Nat.lt_of_le_of_lt (Nat.mul_le_mul hN8 (show N - 1 ≤ 8 by omega)) (by decide)) (by omega)] at h24; first | (rw [decide_eq_true (by constructor <;> omega)]; rfl) | (rw [decide_eq_false (fun q => by omega)]; rfl)), rfl, rfl, rfl⟩)
  · refine ev_aload_n (q := 10) dX0_mayAddPair_9 rfl rfl ?_
    refine ev_getI (q := 13) (ci := 0) (f := 3) dX0_mayAddPair_10 rfl (by first | rfl | assumption | exact zf_kd (by assumption) | exact zw_kd (by assumption) | exact zt_kd (by assumption)) (by first | decide | exact zf_lt (by assumption) | exact zf_lt1 (by assumption) | exact zf_lt2 (by assumption) | exact zf_lt3 (by assumption) | exact zf_lt4 (by assumption) | exact zw_lt (by assumption) | exact zw_lt1 (by assumption) | exact zw_lt2 (by assumption) | exact zw_lt3 (by assumption) | exact zw_lt4 (by assumption) | exact zt_lt (by assumption)) (by decide) (by decide) lfRX0_34 rfl ?_
    refine ev_aload_n (q := 14) dX0_mayAddPair_13 rfl rfl ?_
    refine ev_getI (q := 17) (ci := 0) (f := 2) dX0_mayAddPair_14 rfl (by first | rfl | assumption | exact zf_kd (by assumption) | exact zw_kd (by assumption) | exact zt_kd (by assumption)) (by first | decide | exact zf_lt (by assumption) | exact zf_lt1 (by assumption) | exact zf_lt2 (by assumption) | exact zf_lt3 (by assumption) | exact zf_lt4 (by assumption) | exact zw_lt (by assumption) | exact zw_lt1 (by assumption) | exact zw_lt2 (by assumption) | exact zw_lt3 (by assumption) | exact zw_lt4 (by assumption) | exact zt_lt (by assumption)) (by decide) (by decide) lfRX0_31 rfl ?_
    refine ev_aload_n (q := 18) dX0_mayAddPair_17 rfl rfl ?_
    refine ev_getI (q := 21) (ci := 0) (f := 2) dX0_mayAddPair_18 rfl (by first | rfl | assumption | exact zf_kd (by assumption) | exact zw_kd (by assumption) | exact zt_kd (by assumption)) (by first | decide | exact zf_lt (by assumption) | exact zf_lt1 (by assumption) | exact zf_lt2 (by assumption) | exact zf_lt3 (by assumption) | exact zf_lt4 (by assumption) | exact zw_lt (by assumption) | exact zw_lt1 (by assumption) | exact zw_lt2 (by assumption) | exact zw_lt3 (by assumption) | exact zw_lt4 (by assumption) | exact zt_lt (by assumption)) (by decide) (by decide) lfRX0_31 rfl ?_
    refine ev_iconst (q := 22) (1 : Int32) dX0_mayAddPair_21 rfl (by decide) ?_
    refine ev_isub (q := 23) dX0_mayAddPair_22 rfl ?_
    refine ev_imul (q := 24) dX0_mayAddPair_23 rfl ?_
    rw [h2, h3, znn1 N (by omega)]
    refine ev_icmp_ge (q := 27) (t := 31) dX0_mayAddPair_24 rfl (by decide) (fun h24 => ?_) (fun h24 => ?_)
    · refine ev_iconst (q := 32) (0 : Int32) dX0_mayAddPair_31 rfl (by decide) ?_
      exact ev_iret dX0_mayAddPair_32 rfl (by first | rfl | exact zb_nar _ | assumption) (⟨by rw [nI_leI (by omega) (by omega)] at h6; first | (rw [decide_eq_false (fun q => by omega)]; rfl) | (rw [nI_leI (Nat.lt_of_le_of_lt (Nat.mul_le_mul hN8 (show N - 1 ≤ 8 by omega)) (by decide)) (by omega)] at h24; first | (rw [decide_eq_true (by constructor <;> omega)]; rfl) | (rw [decide_eq_false (fun q => by omega)]; rfl)), rfl, rfl, rfl⟩)
    · refine ev_iconst (q := 28) (1 : Int32) dX0_mayAddPair_27 rfl (by decide) ?_
      refine ev_goto (t := 32) dX0_mayAddPair_28 (by decide) ?_
      exact ev_iret dX0_mayAddPair_32 rfl (by first | rfl | exact zb_nar _ | assumption) (⟨by rw [nI_leI (by omega) (by omega)] at h6; first | (rw [decide_eq_false (fun q => by omega)]; rfl) | (rw [nI_leI (Nat.lt_of_le_of_lt (Nat.mul_le_mul hN8 (show N - 1 ≤ 8 by omega)) (by decide)) (by omega)] at h24; first | (rw [decide_eq_true (by constructor <;> omega)]; rfl) | (rw [decide_eq_false (fun q => by omega)]; rfl)), rfl, rfl, rfl⟩)
set_option maxHeartbeats 4000000 in
set_option maxRecDepth 100000 in
theorem c_X0_mayAskMore (G : zq_G) (fo : Bool) (I : zq_I) {f N : Nat} {S : Nat → Nat} (hf : zq_isF f) (h2 : I f 2 = nI N) (hN8 : N ≤ 8) (hS : ∀ p, p < N → I (f + 4) p = nI (S p) ∧ S p < 2 ^ N) (x : Int32) : zq_Met G mX0_mayAskMore 1 0 0 [.ref f, .int x] 138 I (zPs fo) (zq_pu (some (.int (zb (zin x (nI N) && decide (zpc (S x.toNatClampNeg) < N - 1))))) 138 I (zPs fo)) := by
  refine zq_Met.of okX0_mayAskMore (Nat.le_of_ble_eq_true rfl) ?_
  show zq_E _ _ _ _ _ _ _ [some (.ref f), some (.int x)] _ _ _ _ _
  refine ev_aload_n (q := 1) dX0_mayAskMore_0 rfl rfl ?_
  refine ev_iload_n (q := 2) dX0_mayAskMore_1 rfl rfl ?_
  refine ev_pV (q := 5) (ci := 0) dX0_mayAskMore_2 rfl okX0_hasPerson lmRX0_37 imX0_hasPerson seX0_hasPerson (by first | rfl | assumption | exact zf_kd (by assumption) | exact zw_kd (by assumption) | exact zt_kd (by assumption)) (by first | decide | exact zf_lt (by assumption) | exact zf_lt1 (by assumption) | exact zf_lt2 (by assumption) | exact zf_lt3 (by assumption) | exact zf_lt4 (by assumption) | exact zw_lt (by assumption) | exact zw_lt1 (by assumption) | exact zw_lt2 (by assumption) | exact zw_lt3 (by assumption) | exact zw_lt4 (by assumption) | exact zt_lt (by assumption)) (by decide) rfl (c_X0_hasPerson G fo I hf _) (by decide) rfl rfl (Nat.le_of_ble_eq_true rfl) ?_
  refine ev_if_eq (q := 8) (t := 30) dX0_mayAskMore_5 rfl (by decide) (fun h5 => ?_) (fun h5 => ?_)
  · have hz : zin x (nI N) = false := by rw [h2] at h5; exact zb_eq h5
    refine ev_iconst (q := 31) (0 : Int32) dX0_mayAskMore_30 rfl (by decide) ?_
    exact ev_iret dX0_mayAskMore_31 rfl (by first | rfl | exact zb_nar _ | assumption) (⟨by first | (rw [hz]; rfl) | (rw [hz, hcx, decide_eq_true (by omega)]; rfl) | (rw [hz, hcx, decide_eq_false (by omega)]; rfl), rfl, rfl, rfl⟩)
  · have hz : zin x (nI N) = true := by rw [h2] at h5; exact zb_ne h5
    obtain ⟨p, hp, rfl⟩ := zin_t (by omega) hz
    have hcx : (nI p).toNatClampNeg = p := nI_clamp (by omega)
    have hp2 := zp2_le hN8
    obtain ⟨q1, q2⟩ := hS p hp
    refine ev_aload_n (q := 9) dX0_mayAskMore_8 rfl rfl ?_
    refine ev_getR (q := 12) (ci := 0) (f := 7) dX0_mayAskMore_9 rfl (by first | rfl | assumption | exact zf_kd (by assumption) | exact zw_kd (by assumption) | exact zt_kd (by assumption)) (by first | decide | exact zf_lt (by assumption) | exact zf_lt1 (by assumption) | exact zf_lt2 (by assumption) | exact zf_lt3 (by assumption) | exact zf_lt4 (by assumption) | exact zw_lt (by assumption) | exact zw_lt1 (by assumption) | exact zw_lt2 (by assumption) | exact zw_lt3 (by assumption) | exact zw_lt4 (by assumption) | exact zt_lt (by assumption)) (by decide) (by decide) lfRX0_25 rfl (by first | rfl | assumption | exact zf_p4 _ (by assumption) | exact zf_p5 _ (by assumption) | exact zf_p6 _ (by assumption) | exact zf_p7 _ (by assumption) | exact zw_p1 _ (by assumption) | exact zw_p2 _ (by assumption) | exact zw_p3 _ (by assumption) | exact zw_p4 _ (by assumption)) ?_
    refine ev_iload_n (q := 13) dX0_mayAskMore_12 rfl rfl ?_
    refine ev_ialdN (q := 14) dX0_mayAskMore_13 rfl (by first | rfl | assumption | exact zf_kd1 (by assumption) | exact zf_kd2 (by assumption) | exact zf_kd3 (by assumption) | exact zf_kd4 (by assumption) | exact zw_kd1 (by assumption) | exact zw_kd2 (by assumption) | exact zw_kd3 (by assumption) | exact zw_kd4 (by assumption)) (by first | decide | exact zf_lt (by assumption) | exact zf_lt1 (by assumption) | exact zf_lt2 (by assumption) | exact zf_lt3 (by assumption) | exact zf_lt4 (by assumption) | exact zw_lt (by assumption) | exact zw_lt1 (by assumption) | exact zw_lt2 (by assumption) | exact zw_lt3 (by assumption) | exact zw_lt4 (by assumption) | exact zt_lt (by assumption)) (by first | omega | assumption) ?_
    refine ev_pS (q := 17) dX0_mayAskMore_14 rfl okJ6_bitCount_0f7a4 lmRX0_41 smJ6_bitCount_0f7a4 (c_J6_bitCount_0f7a4 G _ _ _ _) (by decide) rfl rfl (Nat.le_of_ble_eq_true rfl) ?_
    refine ev_aload_n (q := 18) dX0_mayAskMore_17 rfl rfl ?_
    refine ev_getI (q := 21) (ci := 0) (f := 2) dX0_mayAskMore_18 rfl (by first | rfl | assumption | exact zf_kd (by assumption) | exact zw_kd (by assumption) | exact zt_kd (by assumption)) (by first | decide | exact zf_lt (by assumption) | exact zf_lt1 (by assumption) | exact zf_lt2 (by assumption) | exact zf_lt3 (by assumption) | exact zf_lt4 (by assumption) | exact zw_lt (by assumption) | exact zw_lt1 (by assumption) | exact zw_lt2 (by assumption) | exact zw_lt3 (by assumption) | exact zw_lt4 (by assumption) | exact zt_lt (by assumption)) (by decide) (by decide) lfRX0_31 rfl ?_
    refine ev_iconst (q := 22) (1 : Int32) dX0_mayAskMore_21 rfl (by decide) ?_
    refine ev_isub (q := 23) dX0_mayAskMore_22 rfl ?_
    rw [q1, zpop_n _ (by omega), h2, show nI N - 1 = nI N - nI 1 from rfl, pk_sub (by omega)]
    refine ev_icmp_ge (q := 26) (t := 30) dX0_mayAskMore_23 rfl (by decide) (fun h23 => ?_) (fun h23 => ?_)
    · rw [nI_leI (by omega) (by have := zpc_8 (S p); omega)] at h23
      refine ev_iconst (q := 31) (0 : Int32) dX0_mayAskMore_30 rfl (by decide) ?_
      exact ev_iret dX0_mayAskMore_31 rfl (by first | rfl | exact zb_nar _ | assumption) (⟨by first | (rw [hz]; rfl) | (rw [hz, hcx, decide_eq_true (by omega)]; rfl) | (rw [hz, hcx, decide_eq_false (by omega)]; rfl), rfl, rfl, rfl⟩)
    · rw [nI_leI (by omega) (by have := zpc_8 (S p); omega)] at h23
      refine ev_iconst (q := 27) (1 : Int32) dX0_mayAskMore_26 rfl (by decide) ?_
      refine ev_goto (t := 31) dX0_mayAskMore_27 (by decide) ?_
      exact ev_iret dX0_mayAskMore_31 rfl (by first | rfl | exact zb_nar _ | assumption) (⟨by first | (rw [hz]; rfl) | (rw [hz, hcx, decide_eq_true (by omega)]; rfl) | (rw [hz, hcx, decide_eq_false (by omega)]; rfl), rfl, rfl, rfl⟩)
set_option maxHeartbeats 4000000 in
set_option maxRecDepth 100000 in
theorem c_X0_mayAsk (G : zq_G) (fo : Bool) (I : zq_I) {f N ak : Nat} {S : Nat → Nat} (hf : zq_isF f) (h2 : I f 2 = nI N) (hN8 : N ≤ 8) (hS : ∀ p, p < N → I (f + 4) p = nI (S p) ∧ S p < 2 ^ N) (hak : ak < N) (x : Int32) : zq_Met G mX0_mayAsk 1 0 0 [.ref f, .int (nI ak), .int x] 138 I (zPs fo) (zq_pu (some (.int (zb (zin x (nI N) && decide (x.toNatClampNeg ≠ ak ∧ (S ak).testBit x.toNatClampNeg = false))))) 138 I (zPs fo)) := by
  refine zq_Met.of okX0_mayAsk (Nat.le_of_ble_eq_true rfl) ?_
  show zq_E _ _ _ _ _ _ _ [some (.ref f), some (.int (nI ak)), some (.int x)] _ _ _ _ _
  refine ev_aload_n (q := 1) dX0_mayAsk_0 rfl rfl ?_
  refine ev_iload_n (q := 2) dX0_mayAsk_1 rfl rfl ?_
  refine ev_pV (q := 5) (ci := 0) dX0_mayAsk_2 rfl okX0_hasPerson lmRX0_37 imX0_hasPerson seX0_hasPerson (by first | rfl | assumption | exact zf_kd (by assumption) | exact zw_kd (by assumption) | exact zt_kd (by assumption)) (by first | decide | exact zf_lt (by assumption) | exact zf_lt1 (by assumption) | exact zf_lt2 (by assumption) | exact zf_lt3 (by assumption) | exact zf_lt4 (by assumption) | exact zw_lt (by assumption) | exact zw_lt1 (by assumption) | exact zw_lt2 (by assumption) | exact zw_lt3 (by assumption) | exact zw_lt4 (by assumption) | exact zt_lt (by assumption)) (by decide) rfl (c_X0_hasPerson G fo I hf _) (by decide) rfl rfl (Nat.le_of_ble_eq_true rfl) ?_
  refine ev_if_eq (q := 8) (t := 38) dX0_mayAsk_5 rfl (by decide) (fun h5 => ?_) (fun h5 => ?_)
  · rw [h2, zin_of hak (by omega)] at h5; exact absurd h5 (by decide)
  · refine ev_aload_n (q := 9) dX0_mayAsk_8 rfl rfl ?_
    refine ev_iload_n (q := 10) dX0_mayAsk_9 rfl rfl ?_
    refine ev_pV (q := 13) (ci := 0) dX0_mayAsk_10 rfl okX0_hasPerson lmRX0_37 imX0_hasPerson seX0_hasPerson (by first | rfl | assumption | exact zf_kd (by assumption) | exact zw_kd (by assumption) | exact zt_kd (by assumption)) (by first | decide | exact zf_lt (by assumption) | exact zf_lt1 (by assumption) | exact zf_lt2 (by assumption) | exact zf_lt3 (by assumption) | exact zf_lt4 (by assumption) | exact zw_lt (by assumption) | exact zw_lt1 (by assumption) | exact zw_lt2 (by assumption) | exact zw_lt3 (by assumption) | exact zw_lt4 (by assumption) | exact zt_lt (by assumption)) (by decide) rfl (c_X0_hasPerson G fo I hf _) (by decide) rfl rfl (Nat.le_of_ble_eq_true rfl) ?_
    refine ev_if_eq (q := 16) (t := 38) dX0_mayAsk_13 rfl (by decide) (fun h13 => ?_) (fun h13 => ?_)
    · have hz : zin x (nI N) = false := by rw [h2] at h13; exact zb_eq h13
      refine ev_iconst (q := 39) (0 : Int32) dX0_mayAsk_38 rfl (by decide) ?_
      exact ev_iret dX0_mayAsk_39 rfl (by first | rfl | exact zb_nar _ | assumption) (⟨by rw [hz]; rfl, rfl, rfl, rfl⟩)
    · have hz : zin x (nI N) = true := by rw [h2] at h13; exact zb_ne h13
      obtain ⟨p, hp, rfl⟩ := zin_t (by omega) hz
      have hcx : (nI p).toNatClampNeg = p := nI_clamp (by omega)
      have hp2 := zp2_le hN8
      obtain ⟨q1, q2⟩ := hS ak hak
      refine ev_iload_n (q := 17) dX0_mayAsk_16 rfl rfl ?_
      refine ev_iload_n (q := 18) dX0_mayAsk_17 rfl rfl ?_
      refine ev_icmp_eq (q := 21) (t := 38) dX0_mayAsk_18 rfl (by decide) (fun h18 => ?_) (fun h18 => ?_)
      · have hpa : p = ak := ((nI_eq (by omega) (by omega)).mp h18).symm
        refine ev_iconst (q := 39) (0 : Int32) dX0_mayAsk_38 rfl (by decide) ?_
        exact ev_iret dX0_mayAsk_39 rfl (by first | rfl | exact zb_nar _ | assumption) (⟨by rw [hz, hcx, decide_eq_false (fun q => q.1 hpa)]; rfl, rfl, rfl, rfl⟩)
      · have hpa : p ≠ ak := fun q => h18 (by rw [q])
        refine ev_aload_n (q := 22) dX0_mayAsk_21 rfl rfl ?_
        refine ev_getR (q := 25) (ci := 0) (f := 7) dX0_mayAsk_22 rfl (by first | rfl | assumption | exact zf_kd (by assumption) | exact zw_kd (by assumption) | exact zt_kd (by assumption)) (by first | decide | exact zf_lt (by assumption) | exact zf_lt1 (by assumption) | exact zf_lt2 (by assumption) | exact zf_lt3 (by assumption) | exact zf_lt4 (by assumption) | exact zw_lt (by assumption) | exact zw_lt1 (by assumption) | exact zw_lt2 (by assumption) | exact zw_lt3 (by assumption) | exact zw_lt4 (by assumption) | exact zt_lt (by assumption)) (by decide) (by decide) lfRX0_25 rfl (by first | rfl | assumption | exact zf_p4 _ (by assumption) | exact zf_p5 _ (by assumption) | exact zf_p6 _ (by assumption) | exact zf_p7 _ (by assumption) | exact zw_p1 _ (by assumption) | exact zw_p2 _ (by assumption) | exact zw_p3 _ (by assumption) | exact zw_p4 _ (by assumption)) ?_
        refine ev_iload_n (q := 26) dX0_mayAsk_25 rfl rfl ?_
        refine ev_ialdN (q := 27) dX0_mayAsk_26 rfl (by first | rfl | assumption | exact zf_kd1 (by assumption) | exact zf_kd2 (by assumption) | exact zf_kd3 (by assumption) | exact zf_kd4 (by assumption) | exact zw_kd1 (by assumption) | exact zw_kd2 (by assumption) | exact zw_kd3 (by assumption) | exact zw_kd4 (by assumption)) (by first | decide | exact zf_lt (by assumption) | exact zf_lt1 (by assumption) | exact zf_lt2 (by assumption) | exact zf_lt3 (by assumption) | exact zf_lt4 (by assumption) | exact zw_lt (by assumption) | exact zw_lt1 (by assumption) | exact zw_lt2 (by assumption) | exact zw_lt3 (by assumption) | exact zw_lt4 (by assumption) | exact zt_lt (by assumption)) (by first | omega | assumption) ?_
        refine ev_iload_n (q := 28) dX0_mayAsk_27 rfl rfl ?_
        refine ev_pSN (q := 31) dX0_mayAsk_28 rfl okX7_has lnRX0_47 smX7_has (c_X7_has G _ _ _ _ _) (by decide) rfl rfl (Nat.le_of_ble_eq_true rfl) ?_
        rw [q1, zhas_N (by omega) (by omega)]
        refine ev_if_ne (q := 34) (t := 38) dX0_mayAsk_31 rfl (by decide) (fun h31 => ?_) (fun h31 => ?_)
        · have hbt := zb_ne h31
          refine ev_iconst (q := 39) (0 : Int32) dX0_mayAsk_38 rfl (by decide) ?_
          exact ev_iret dX0_mayAsk_39 rfl (by first | rfl | exact zb_nar _ | assumption) (⟨by rw [hz, hcx, decide_eq_false (fun q => Bool.noConfusion (hbt.symm.trans q.2))]; rfl, rfl, rfl, rfl⟩)
        · have hbt := zb_eq h31
          refine ev_iconst (q := 35) (1 : Int32) dX0_mayAsk_34 rfl (by decide) ?_
          refine ev_goto (t := 39) dX0_mayAsk_35 (by decide) ?_
          exact ev_iret dX0_mayAsk_39 rfl (by first | rfl | exact zb_nar _ | assumption) (⟨by rw [hz, hcx, decide_eq_true ⟨hpa, hbt⟩]; rfl, rfl, rfl, rfl⟩)
set_option maxHeartbeats 4000000 in
set_option maxRecDepth 100000 in
theorem c_X2_takesPart (G : zq_G) (fo : Bool) (I : zq_I) {w ak l T N M : Nat} {H A K S : Nat → Nat} {f b : Nat} (hf : zq_isF f) (hw : w = 3) (hb : b < 256) (hok : zpOK (w, ak, l, T, N, M, H, A, K, S)) (hr : zRdC f I (w, ak, l, T, N, M, H, A, K, S)) : zq_Met G mX2_takesPart 1 0 0 [.ref 3, .int (nI b), .ref f] 138 I (zPs fo) (fun v n' I' P' => n' = 138 ∧ P' = zPs fo ∧ zof3 f I I' ∧ v = some (.int (zb (zpst (w, ak, l, T, N, M, H, A, K, S) b).isSome)) ∧ ∀ s', zpst (w, ak, l, T, N, M, H, A, K, S) b = some s' → zRdC f I' s') := by
  refine zq_Met.of okX2_takesPart (Nat.le_of_ble_eq_true rfl) ?_
  show zq_E _ _ _ _ _ _ _ [some (.ref 3), some (.int (nI b)), some (.ref f)] _ _ _ _ _
  subst hw
  obtain ⟨c1, c2, c3, c4, c5, c6, c7, c8, c9, c10, c11, c12, c13, c14⟩ := hok
  obtain ⟨r1, r2, r3, r4, r5, r6, r7, r8, r9⟩ := hr
  obtain ⟨hf3, hf4⟩ := zF3 hf
  have hp2 := zp2_le c5
  have hS : ∀ p, p < N → I (f + 4) p = nI (S p) ∧ S p < 2 ^ N := fun p hp => ⟨(r9 p hp).2.2.2, (c14 p hp).2.2.2.1⟩
  refine ev_iload_n (q := 1) dX2_takesPart_0 rfl rfl ?_
  refine ev_bipush (q := 3) (nI 80 : Int32) dX2_takesPart_1 rfl (by decide) ?_
  refine ev_icmp_ne (q := 6) (t := 26) dX2_takesPart_3 rfl (by decide) (fun h3 => ?_) (fun h3 => ?_)
  · have hb80 : ¬ b = 80 := fun q => h3 (by rw [q])
    refine ev_aload_n (q := 27) dX2_takesPart_26 rfl rfl ?_
    refine ev_bipush (q := 29) (nI 7 : Int32) dX2_takesPart_27 rfl (by decide) ?_
    refine ev_putI (q := 32) (ci := 2) (f := 0) dX2_takesPart_29 rfl (by first | rfl | assumption | exact zf_kd (by assumption) | exact zw_kd (by assumption) | exact zt_kd (by assumption)) (by first | decide | exact zf_lt (by assumption) | exact zf_lt1 (by assumption) | exact zf_lt2 (by assumption) | exact zf_lt3 (by assumption) | exact zf_lt4 (by assumption) | exact zw_lt (by assumption) | exact zw_lt1 (by assumption) | exact zw_lt2 (by assumption) | exact zw_lt3 (by assumption) | exact zw_lt4 (by assumption) | exact zt_lt (by assumption)) (by decide) (by decide) lfRX2_16 rfl rfl rfl rfl ?_
    refine ev_iload_n (q := 33) dX2_takesPart_32 rfl rfl ?_
    refine ev_bipush (q := 35) (nI 65 : Int32) dX2_takesPart_33 rfl (by decide) ?_
    refine ev_icmp_ne (q := 38) (t := 49) dX2_takesPart_35 rfl (by decide) (fun h35 => ?_) (fun h35 => ?_)
    · have hb65 : ¬ b = 65 := fun q => h35 (by rw [q])
      refine ev_iconst (q := 50) (0 : Int32) dX2_takesPart_49 rfl (by decide) ?_
      have hst : zpst (3, ak, l, T, N, M, H, A, K, S) b = none := by simp [zpst, hb80, hb65]
      exact ev_iret dX2_takesPart_50 rfl (by first | rfl | exact zb_nar _ | assumption) (⟨rfl, rfl, (zof3.rf.zu 3 0 _ (by omega)), by rw [hst]; rfl, fun s' hs' => by rw [hst] at hs'; cases hs'⟩)
    · have hb65 : b = 65 := (nI_eq (by omega) (by omega)).mp h35
      refine ev_aload_n (q := 39) dX2_takesPart_38 rfl rfl ?_
      refine ev_pV (q := 42) (ci := 0) dX2_takesPart_39 rfl okX0_mayAddPair lmRX2_52 imX0_mayAddPair seX0_mayAddPair (by first | rfl | assumption | exact zf_kd (by assumption) | exact zw_kd (by assumption) | exact zt_kd (by assumption)) (by first | decide | exact zf_lt (by assumption) | exact zf_lt1 (by assumption) | exact zf_lt2 (by assumption) | exact zf_lt3 (by assumption) | exact zf_lt4 (by assumption) | exact zw_lt (by assumption) | exact zw_lt1 (by assumption) | exact zw_lt2 (by assumption) | exact zw_lt3 (by assumption) | exact zw_lt4 (by assumption) | exact zt_lt (by assumption)) (by decide) rfl (c_X0_mayAddPair G fo (zu I 3 0 (nI 7)) hf (by rw [zu_n (by omega)]; exact r5) (by rw [zu_n (by omega)]; exact r6) c5 c6) (by decide) rfl rfl (Nat.le_of_ble_eq_true rfl) ?_
      refine ev_if_eq (q := 45) (t := 49) dX2_takesPart_42 rfl (by decide) (fun h42 => ?_) (fun h42 => ?_)
      · have hm := zb_eq h42
        refine ev_iconst (q := 50) (0 : Int32) dX2_takesPart_49 rfl (by decide) ?_
        have hst : zpst (3, ak, l, T, N, M, H, A, K, S) b = none := by have q := of_decide_eq_false hm; simp [zpst, hb65]; omega
        exact ev_iret dX2_takesPart_50 rfl (by first | rfl | exact zb_nar _ | assumption) (⟨rfl, rfl, (zof3.rf.zu 3 0 _ (by omega)), by rw [hst]; rfl, fun s' hs' => by rw [hst] at hs'; cases hs'⟩)
      · have hm := zb_ne h42
        refine ev_iconst (q := 46) (1 : Int32) dX2_takesPart_45 rfl (by decide) ?_
        refine ev_goto (t := 50) dX2_takesPart_46 (by decide) ?_
        have hst : zpst (3, ak, l, T, N, M, H, A, K, S) b = some (7, ak, l, T, N, M, H, A, K, S) := by have q := of_decide_eq_true hm; simp [zpst, hb65, q.1, q.2]
        exact ev_iret dX2_takesPart_50 rfl (by first | rfl | exact zb_nar _ | assumption) (⟨rfl, rfl, (zof3.rf.zu 3 0 _ (by omega)), by rw [hst]; rfl, fun s' hs' => by
          rw [hst] at hs'; cases hs'
          exact ⟨zu_eq, (fun q => absurd q (by omega)), by rw [zu_n (by omega)]; exact r3, by rw [zu_n (by omega)]; exact r4, by rw [zu_n (by omega)]; exact r5, by rw [zu_n (by omega)]; exact r6, (fun q => absurd q (by omega)), (fun q => absurd q (by omega)), fun p hp => ⟨by rw [zu_n (by omega)]; exact (r9 p hp).1, by rw [zu_n (by omega)]; exact (r9 p hp).2.1, by rw [zu_n (by omega)]; exact (r9 p hp).2.2.1, by rw [zu_n (by omega)]; exact (r9 p hp).2.2.2⟩⟩⟩)
  · have hb80 : b = 80 := (nI_eq (by omega) (by omega)).mp h3
    refine ev_aload_n (q := 7) dX2_takesPart_6 rfl rfl ?_
    refine ev_iconst (q := 8) (nI 4 : Int32) dX2_takesPart_7 rfl (by decide) ?_
    refine ev_putI (q := 11) (ci := 2) (f := 0) dX2_takesPart_8 rfl (by first | rfl | assumption | exact zf_kd (by assumption) | exact zw_kd (by assumption) | exact zt_kd (by assumption)) (by first | decide | exact zf_lt (by assumption) | exact zf_lt1 (by assumption) | exact zf_lt2 (by assumption) | exact zf_lt3 (by assumption) | exact zf_lt4 (by assumption) | exact zw_lt (by assumption) | exact zw_lt1 (by assumption) | exact zw_lt2 (by assumption) | exact zw_lt3 (by assumption) | exact zw_lt4 (by assumption) | exact zt_lt (by assumption)) (by decide) (by decide) lfRX2_16 rfl rfl rfl rfl ?_
    refine ev_aload_n (q := 12) dX2_takesPart_11 rfl rfl ?_
    refine ev_getI (q := 15) (ci := 0) (f := 2) dX2_takesPart_12 rfl (by first | rfl | assumption | exact zf_kd (by assumption) | exact zw_kd (by assumption) | exact zt_kd (by assumption)) (by first | decide | exact zf_lt (by assumption) | exact zf_lt1 (by assumption) | exact zf_lt2 (by assumption) | exact zf_lt3 (by assumption) | exact zf_lt4 (by assumption) | exact zw_lt (by assumption) | exact zw_lt1 (by assumption) | exact zw_lt2 (by assumption) | exact zw_lt3 (by assumption) | exact zw_lt4 (by assumption) | exact zt_lt (by assumption)) (by decide) (by decide) lfRX2_49 rfl ?_
    refine ev_bipush (q := 17) (nI 8 : Int32) dX2_takesPart_15 rfl (by decide) ?_
    refine ev_icmp_ge (q := 20) (t := 24) dX2_takesPart_17 rfl (by decide) (fun h17 => ?_) (fun h17 => ?_)
    · rw [zu_n (by omega), r5, nI_leI (by omega) (by omega)] at h17
      refine ev_iconst (q := 25) (0 : Int32) dX2_takesPart_24 rfl (by decide) ?_
      have hst : zpst (3, ak, l, T, N, M, H, A, K, S) b = none := by simp [zpst, hb80]; omega
      exact ev_iret dX2_takesPart_25 rfl (by first | rfl | exact zb_nar _ | assumption) (⟨rfl, rfl, (zof3.rf.zu 3 0 _ (by omega)), by rw [hst]; rfl, fun s' hs' => by rw [hst] at hs'; cases hs'⟩)
    · rw [zu_n (by omega), r5, nI_leI (by omega) (by omega)] at h17
      refine ev_iconst (q := 21) (1 : Int32) dX2_takesPart_20 rfl (by decide) ?_
      refine ev_goto (t := 25) dX2_takesPart_21 (by decide) ?_
      have hst : zpst (3, ak, l, T, N, M, H, A, K, S) b = some (4, ak, l, T, N, M, H, A, K, S) := by simp [zpst, hb80]; omega
      exact ev_iret dX2_takesPart_25 rfl (by first | rfl | exact zb_nar _ | assumption) (⟨rfl, rfl, (zof3.rf.zu 3 0 _ (by omega)), by rw [hst]; rfl, fun s' hs' => by
        rw [hst] at hs'; cases hs'
        exact ⟨zu_eq, (fun q => absurd q (by omega)), by rw [zu_n (by omega)]; exact r3, by rw [zu_n (by omega)]; exact r4, by rw [zu_n (by omega)]; exact r5, by rw [zu_n (by omega)]; exact r6, (fun q => absurd q (by omega)), (fun q => absurd q (by omega)), fun p hp => ⟨by rw [zu_n (by omega)]; exact (r9 p hp).1, by rw [zu_n (by omega)]; exact (r9 p hp).2.1, by rw [zu_n (by omega)]; exact (r9 p hp).2.2.1, by rw [zu_n (by omega)]; exact (r9 p hp).2.2.2⟩⟩⟩)
set_option maxHeartbeats 4000000 in
set_option maxRecDepth 100000 in
theorem c_X2_takesOfPerson (G : zq_G) (fo : Bool) (I : zq_I) {w ak l T N M : Nat} {H A K S : Nat → Nat} {f b : Nat} (hf : zq_isF f) (hw : w = 4 ∨ w = 5 ∨ w = 6) (hb : b < 256) (hok : zpOK (w, ak, l, T, N, M, H, A, K, S)) (hr : zRdC f I (w, ak, l, T, N, M, H, A, K, S)) : zq_Met G mX2_takesOfPerson 1 0 0 [.ref 3, .int (nI b), .ref f] 138 I (zPs fo) (fun v n' I' P' => n' = 138 ∧ P' = zPs fo ∧ zof3 f I I' ∧ v = some (.int (zb (zpst (w, ak, l, T, N, M, H, A, K, S) b).isSome)) ∧ ∀ s', zpst (w, ak, l, T, N, M, H, A, K, S) b = some s' → zRdC f I' s') := by
  refine zq_Met.of okX2_takesOfPerson (Nat.le_of_ble_eq_true rfl) ?_
  show zq_E _ _ _ _ _ _ _ [some (.ref 3), some (.int (nI b)), some (.ref f), none] _ _ _ _ _
  obtain ⟨c1, c2, c3, c4, c5, c6, c7, c8, c9, c10, c11, c12, c13, c14⟩ := hok
  obtain ⟨r1, r2, r3, r4, r5, r6, r7, r8, r9⟩ := hr
  obtain ⟨hf3, hf4⟩ := zF3 hf
  have hp2 := zp2_le c5
  have hS : ∀ p, p < N → I (f + 4) p = nI (S p) ∧ S p < 2 ^ N := fun p hp => ⟨(r9 p hp).2.2.2, (c14 p hp).2.2.2.1⟩
  have hN : N < 8 := c7 hw
  have hNlt : nI N < nI 8 := nI_lt hN (by omega)
  refine ev_aload_n (q := 1) dX2_takesOfPerson_0 rfl rfl ?_
  refine ev_getI (q := 4) (ci := 0) (f := 2) dX2_takesOfPerson_1 rfl (by first | rfl | assumption | exact zf_kd (by assumption) | exact zw_kd (by assumption) | exact zt_kd (by assumption)) (by first | decide | exact zf_lt (by assumption) | exact zf_lt1 (by assumption) | exact zf_lt2 (by assumption) | exact zf_lt3 (by assumption) | exact zf_lt4 (by assumption) | exact zw_lt (by assumption) | exact zw_lt1 (by assumption) | exact zw_lt2 (by assumption) | exact zw_lt3 (by assumption) | exact zw_lt4 (by assumption) | exact zt_lt (by assumption)) (by decide) (by decide) lfRX2_49 rfl ?_
  rw [r5]
  refine ev_istore_nL (q := 5) (L9 := [_, _, _, _]) dX2_takesOfPerson_4 rfl (by decide) rfl rfl ?_
  refine ev_iload_n (q := 6) dX2_takesOfPerson_5 rfl rfl ?_
  refine ev_bipush (q := 8) (nI 8 : Int32) dX2_takesOfPerson_6 rfl (by decide) ?_
  refine ev_icmp_lt (q := 11) (t := 13) dX2_takesOfPerson_8 rfl (by decide) (fun h8 => ?_) (fun h8 => ?_)
  · refine ev_aload_n (q := 14) dX2_takesOfPerson_13 rfl rfl ?_
    refine ev_getI (q := 17) (ci := 2) (f := 0) dX2_takesOfPerson_14 rfl (by first | rfl | assumption | exact zf_kd (by assumption) | exact zw_kd (by assumption) | exact zt_kd (by assumption)) (by first | decide | exact zf_lt (by assumption) | exact zf_lt1 (by assumption) | exact zf_lt2 (by assumption) | exact zf_lt3 (by assumption) | exact zf_lt4 (by assumption) | exact zw_lt (by assumption) | exact zw_lt1 (by assumption) | exact zw_lt2 (by assumption) | exact zw_lt3 (by assumption) | exact zw_lt4 (by assumption) | exact zt_lt (by assumption)) (by decide) (by decide) lfRX2_16 rfl ?_
    refine ev_iconst (q := 18) (nI 4 : Int32) dX2_takesOfPerson_17 rfl (by decide) ?_
    refine ev_icmp_ne (q := 21) (t := 45) dX2_takesOfPerson_18 rfl (by decide) (fun h18 => ?_) (fun h18 => ?_)
    · have hw4 : ¬ w = 4 := fun q => h18 (by rw [r1, q])
      refine ev_aload_n (q := 46) dX2_takesOfPerson_45 rfl rfl ?_
      refine ev_getI (q := 49) (ci := 2) (f := 0) dX2_takesOfPerson_46 rfl (by first | rfl | assumption | exact zf_kd (by assumption) | exact zw_kd (by assumption) | exact zt_kd (by assumption)) (by first | decide | exact zf_lt (by assumption) | exact zf_lt1 (by assumption) | exact zf_lt2 (by assumption) | exact zf_lt3 (by assumption) | exact zf_lt4 (by assumption) | exact zw_lt (by assumption) | exact zw_lt1 (by assumption) | exact zw_lt2 (by assumption) | exact zw_lt3 (by assumption) | exact zw_lt4 (by assumption) | exact zt_lt (by assumption)) (by decide) (by decide) lfRX2_16 rfl ?_
      refine ev_iconst (q := 50) (nI 5 : Int32) dX2_takesOfPerson_49 rfl (by decide) ?_
      refine ev_icmp_ne (q := 53) (t := 87) dX2_takesOfPerson_50 rfl (by decide) (fun h50 => ?_) (fun h50 => ?_)
      · obtain rfl : w = 6 := by have : ¬ w = 5 := (fun q => h50 (by rw [r1, q])); omega
        refine ev_aload_n (q := 88) dX2_takesOfPerson_87 rfl rfl ?_
        refine ev_getR (q := 91) (ci := 0) (f := 6) dX2_takesOfPerson_88 rfl (by first | rfl | assumption | exact zf_kd (by assumption) | exact zw_kd (by assumption) | exact zt_kd (by assumption)) (by first | decide | exact zf_lt (by assumption) | exact zf_lt1 (by assumption) | exact zf_lt2 (by assumption) | exact zf_lt3 (by assumption) | exact zf_lt4 (by assumption) | exact zw_lt (by assumption) | exact zw_lt1 (by assumption) | exact zw_lt2 (by assumption) | exact zw_lt3 (by assumption) | exact zw_lt4 (by assumption) | exact zt_lt (by assumption)) (by decide) (by decide) lfRX2_67 rfl (by first | rfl | assumption | exact zf_p4 _ (by assumption) | exact zf_p5 _ (by assumption) | exact zf_p6 _ (by assumption) | exact zf_p7 _ (by assumption) | exact zw_p1 _ (by assumption) | exact zw_p2 _ (by assumption) | exact zw_p3 _ (by assumption) | exact zw_p4 _ (by assumption)) ?_
        refine ev_iload_n (q := 92) dX2_takesOfPerson_91 rfl rfl ?_
        refine ev_iload_n (q := 93) dX2_takesOfPerson_92 rfl rfl ?_
        refine ev_bipush (q := 95) (nI 48 : Int32) dX2_takesOfPerson_93 rfl (by decide) ?_
        refine ev_isub (q := 96) dX2_takesOfPerson_95 rfl ?_
        refine ev_iastN (q := 97) dX2_takesOfPerson_96 rfl (by first | rfl | assumption | exact zf_kd1 (by assumption) | exact zf_kd2 (by assumption) | exact zf_kd3 (by assumption) | exact zf_kd4 (by assumption) | exact zw_kd1 (by assumption) | exact zw_kd2 (by assumption) | exact zw_kd3 (by assumption) | exact zw_kd4 (by assumption)) (by first | decide | exact zf_lt (by assumption) | exact zf_lt1 (by assumption) | exact zf_lt2 (by assumption) | exact zf_lt3 (by assumption) | exact zf_lt4 (by assumption) | exact zw_lt (by assumption) | exact zw_lt1 (by assumption) | exact zw_lt2 (by assumption) | exact zw_lt3 (by assumption) | exact zw_lt4 (by assumption) | exact zt_lt (by assumption)) (by first | omega | assumption) ?_
        refine ev_aload_n (q := 98) dX2_takesOfPerson_97 rfl rfl ?_
        refine ev_getR (q := 101) (ci := 0) (f := 7) dX2_takesOfPerson_98 rfl (by first | rfl | assumption | exact zf_kd (by assumption) | exact zw_kd (by assumption) | exact zt_kd (by assumption)) (by first | decide | exact zf_lt (by assumption) | exact zf_lt1 (by assumption) | exact zf_lt2 (by assumption) | exact zf_lt3 (by assumption) | exact zf_lt4 (by assumption) | exact zw_lt (by assumption) | exact zw_lt1 (by assumption) | exact zw_lt2 (by assumption) | exact zw_lt3 (by assumption) | exact zw_lt4 (by assumption) | exact zt_lt (by assumption)) (by decide) (by decide) lfRX2_70 rfl (by first | rfl | assumption | exact zf_p4 _ (by assumption) | exact zf_p5 _ (by assumption) | exact zf_p6 _ (by assumption) | exact zf_p7 _ (by assumption) | exact zw_p1 _ (by assumption) | exact zw_p2 _ (by assumption) | exact zw_p3 _ (by assumption) | exact zw_p4 _ (by assumption)) ?_
        refine ev_iload_n (q := 102) dX2_takesOfPerson_101 rfl rfl ?_
        refine ev_iconst (q := 103) (0 : Int32) dX2_takesOfPerson_102 rfl (by decide) ?_
        refine ev_iastN (q := 104) dX2_takesOfPerson_103 rfl (by first | rfl | assumption | exact zf_kd1 (by assumption) | exact zf_kd2 (by assumption) | exact zf_kd3 (by assumption) | exact zf_kd4 (by assumption) | exact zw_kd1 (by assumption) | exact zw_kd2 (by assumption) | exact zw_kd3 (by assumption) | exact zw_kd4 (by assumption)) (by first | decide | exact zf_lt (by assumption) | exact zf_lt1 (by assumption) | exact zf_lt2 (by assumption) | exact zf_lt3 (by assumption) | exact zf_lt4 (by assumption) | exact zw_lt (by assumption) | exact zw_lt1 (by assumption) | exact zw_lt2 (by assumption) | exact zw_lt3 (by assumption) | exact zw_lt4 (by assumption) | exact zt_lt (by assumption)) (by first | omega | assumption) ?_
        refine ev_aload_n (q := 105) dX2_takesOfPerson_104 rfl rfl ?_
        refine ev_dup (q := 106) dX2_takesOfPerson_105 rfl rfl ?_
        refine ev_getI (q := 109) (ci := 0) (f := 2) dX2_takesOfPerson_106 rfl (by first | rfl | assumption | exact zf_kd (by assumption) | exact zw_kd (by assumption) | exact zt_kd (by assumption)) (by first | decide | exact zf_lt (by assumption) | exact zf_lt1 (by assumption) | exact zf_lt2 (by assumption) | exact zf_lt3 (by assumption) | exact zf_lt4 (by assumption) | exact zw_lt (by assumption) | exact zw_lt1 (by assumption) | exact zw_lt2 (by assumption) | exact zw_lt3 (by assumption) | exact zw_lt4 (by assumption) | exact zt_lt (by assumption)) (by decide) (by decide) lfRX2_49 rfl ?_
        rw [zu_n (by omega), zu_n (by omega), r5]
        refine ev_iconst (q := 110) (1 : Int32) dX2_takesOfPerson_109 rfl (by decide) ?_
        refine ev_iadd (q := 111) dX2_takesOfPerson_110 rfl ?_
        rw [nI_1]
        refine ev_putI (q := 114) (ci := 0) (f := 2) dX2_takesOfPerson_111 rfl (by first | rfl | assumption | exact zf_kd (by assumption) | exact zw_kd (by assumption) | exact zt_kd (by assumption)) (by first | decide | exact zf_lt (by assumption) | exact zf_lt1 (by assumption) | exact zf_lt2 (by assumption) | exact zf_lt3 (by assumption) | exact zf_lt4 (by assumption) | exact zw_lt (by assumption) | exact zw_lt1 (by assumption) | exact zw_lt2 (by assumption) | exact zw_lt3 (by assumption) | exact zw_lt4 (by assumption) | exact zt_lt (by assumption)) (by decide) (by decide) lfRX2_49 rfl rfl rfl rfl ?_
        refine ev_aload_n (q := 115) dX2_takesOfPerson_114 rfl rfl ?_
        refine ev_iconst (q := 116) (nI 3 : Int32) dX2_takesOfPerson_115 rfl (by decide) ?_
        refine ev_putI (q := 119) (ci := 2) (f := 0) dX2_takesOfPerson_116 rfl (by first | rfl | assumption | exact zf_kd (by assumption) | exact zw_kd (by assumption) | exact zt_kd (by assumption)) (by first | decide | exact zf_lt (by assumption) | exact zf_lt1 (by assumption) | exact zf_lt2 (by assumption) | exact zf_lt3 (by assumption) | exact zf_lt4 (by assumption) | exact zw_lt (by assumption) | exact zw_lt1 (by assumption) | exact zw_lt2 (by assumption) | exact zw_lt3 (by assumption) | exact zw_lt4 (by assumption) | exact zt_lt (by assumption)) (by decide) (by decide) lfRX2_16 rfl rfl rfl rfl ?_
        refine ev_iload_n (q := 120) dX2_takesOfPerson_119 rfl rfl ?_
        refine ev_bipush (q := 122) (nI 48 : Int32) dX2_takesOfPerson_120 rfl (by decide) ?_
        refine ev_icmp_lt (q := 125) (t := 135) dX2_takesOfPerson_122 rfl (by decide) (fun h122 => ?_) (fun h122 => ?_)
        · refine ev_iconst (q := 136) (0 : Int32) dX2_takesOfPerson_135 rfl (by decide) ?_
          have hst : zpst (6, ak, l, T, N, M, H, A, K, S) b = none := by rw [nI_ltI (by omega) (by omega)] at h122; simp [zpst]; omega
          exact ev_iret dX2_takesOfPerson_136 rfl (by first | rfl | exact zb_nar _ | assumption) (⟨rfl, rfl, ((((zof3.rf.zu (f + 3) _ _ (by omega)).zu (f + 4) _ _ (by omega)).zu f 2 _ (by omega)).zu 3 0 _ (by omega)), by rw [hst]; rfl, fun s' hs' => by rw [hst] at hs'; cases hs'⟩)
        · refine ev_iload_n (q := 126) dX2_takesOfPerson_125 rfl rfl ?_
          refine ev_bipush (q := 128) (nI 57 : Int32) dX2_takesOfPerson_126 rfl (by decide) ?_
          refine ev_icmp_gt (q := 131) (t := 135) dX2_takesOfPerson_128 rfl (by decide) (fun h128 => ?_) (fun h128 => ?_)
          · refine ev_iconst (q := 136) (0 : Int32) dX2_takesOfPerson_135 rfl (by decide) ?_
            have hst : zpst (6, ak, l, T, N, M, H, A, K, S) b = none := by rw [nI_ltI (by omega) (by omega)] at h128; simp [zpst]; omega
            exact ev_iret dX2_takesOfPerson_136 rfl (by first | rfl | exact zb_nar _ | assumption) (⟨rfl, rfl, ((((zof3.rf.zu (f + 3) _ _ (by omega)).zu (f + 4) _ _ (by omega)).zu f 2 _ (by omega)).zu 3 0 _ (by omega)), by rw [hst]; rfl, fun s' hs' => by rw [hst] at hs'; cases hs'⟩)
          · refine ev_iconst (q := 132) (1 : Int32) dX2_takesOfPerson_131 rfl (by decide) ?_
            refine ev_goto (t := 136) dX2_takesOfPerson_132 (by decide) ?_
            rw [nI_ltI (by omega) (by omega)] at h122
            rw [nI_ltI (by omega) (by omega)] at h128
            have hst : zpst (6, ak, l, T, N, M, H, A, K, S) b = some (3, ak, l, T, N + 1, M, H, A, zup K N (b - 48), zup S N 0) := by simp [zpst]; omega
            exact ev_iret dX2_takesOfPerson_136 rfl (by first | rfl | exact zb_nar _ | assumption) (⟨rfl, rfl, ((((zof3.rf.zu (f + 3) _ _ (by omega)).zu (f + 4) _ _ (by omega)).zu f 2 _ (by omega)).zu 3 0 _ (by omega)), by rw [hst]; rfl, fun s' hs' => by
              rw [hst] at hs'; cases hs'
              exact ⟨zu_eq, (fun q => absurd q (by omega)), by rw [zu_n (by omega), zu_n (by omega), zu_n (by omega), zu_n (by omega)]; exact r3, by rw [zu_n (by omega), zu_n (by omega), zu_n (by omega), zu_n (by omega)]; exact r4, by rw [zu_n (by omega), zu_eq], by rw [zu_n (by omega), zu_n (by omega), zu_n (by omega), zu_n (by omega)]; exact r6, (fun q => absurd q (by omega)), (fun q => absurd q (by omega)), fun p hp => by
                by_cases hpN : p = N
                · subst hpN
                  exact ⟨by rw [zu_n (by omega), zu_n (by omega), zu_n (by omega), zu_n (by omega)]; exact r7 (by omega), by rw [zu_n (by omega), zu_n (by omega), zu_n (by omega), zu_n (by omega)]; exact r8 (by omega), by rw [zu_n (by omega), zu_n (by omega), zu_n (by omega), zu_eq, zup_eq, pk_sub (by omega)], by rw [zu_n (by omega), zu_n (by omega), zu_eq, zup_eq]; rfl⟩
                · have hp2 : p < N := by omega
                  exact ⟨by rw [zu_n (by omega), zu_n (by omega), zu_n (by omega), zu_n (by omega)]; exact (r9 p hp2).1, by rw [zu_n (by omega), zu_n (by omega), zu_n (by omega), zu_n (by omega)]; exact (r9 p hp2).2.1, by rw [zu_n (by omega), zu_n (by omega), zu_n (by omega), zu_n (by omega), zup_ne hpN]; exact (r9 p hp2).2.2.1, by rw [zu_n (by omega), zu_n (by omega), zu_n (by omega), zu_n (by omega), zup_ne hpN]; exact (r9 p hp2).2.2.2⟩⟩⟩)
      · obtain rfl : w = 5 := by rw [r1] at h50; exact (nI_eq (by omega) (by omega)).mp h50
        refine ev_aload_n (q := 54) dX2_takesOfPerson_53 rfl rfl ?_
        refine ev_getR (q := 57) (ci := 0) (f := 5) dX2_takesOfPerson_54 rfl (by first | rfl | assumption | exact zf_kd (by assumption) | exact zw_kd (by assumption) | exact zt_kd (by assumption)) (by first | decide | exact zf_lt (by assumption) | exact zf_lt1 (by assumption) | exact zf_lt2 (by assumption) | exact zf_lt3 (by assumption) | exact zf_lt4 (by assumption) | exact zw_lt (by assumption) | exact zw_lt1 (by assumption) | exact zw_lt2 (by assumption) | exact zw_lt3 (by assumption) | exact zw_lt4 (by assumption) | exact zt_lt (by assumption)) (by decide) (by decide) lfRX2_64 rfl (by first | rfl | assumption | exact zf_p4 _ (by assumption) | exact zf_p5 _ (by assumption) | exact zf_p6 _ (by assumption) | exact zf_p7 _ (by assumption) | exact zw_p1 _ (by assumption) | exact zw_p2 _ (by assumption) | exact zw_p3 _ (by assumption) | exact zw_p4 _ (by assumption)) ?_
        refine ev_iload_n (q := 58) dX2_takesOfPerson_57 rfl rfl ?_
        refine ev_iload_n (q := 59) dX2_takesOfPerson_58 rfl rfl ?_
        refine ev_bipush (q := 61) (nI 97 : Int32) dX2_takesOfPerson_59 rfl (by decide) ?_
        refine ev_isub (q := 62) dX2_takesOfPerson_61 rfl ?_
        refine ev_iastN (q := 63) dX2_takesOfPerson_62 rfl (by first | rfl | assumption | exact zf_kd1 (by assumption) | exact zf_kd2 (by assumption) | exact zf_kd3 (by assumption) | exact zf_kd4 (by assumption) | exact zw_kd1 (by assumption) | exact zw_kd2 (by assumption) | exact zw_kd3 (by assumption) | exact zw_kd4 (by assumption)) (by first | decide | exact zf_lt (by assumption) | exact zf_lt1 (by assumption) | exact zf_lt2 (by assumption) | exact zf_lt3 (by assumption) | exact zf_lt4 (by assumption) | exact zw_lt (by assumption) | exact zw_lt1 (by assumption) | exact zw_lt2 (by assumption) | exact zw_lt3 (by assumption) | exact zw_lt4 (by assumption) | exact zt_lt (by assumption)) (by first | omega | assumption) ?_
        refine ev_aload_n (q := 64) dX2_takesOfPerson_63 rfl rfl ?_
        refine ev_bipush (q := 66) (nI 6 : Int32) dX2_takesOfPerson_64 rfl (by decide) ?_
        refine ev_putI (q := 69) (ci := 2) (f := 0) dX2_takesOfPerson_66 rfl (by first | rfl | assumption | exact zf_kd (by assumption) | exact zw_kd (by assumption) | exact zt_kd (by assumption)) (by first | decide | exact zf_lt (by assumption) | exact zf_lt1 (by assumption) | exact zf_lt2 (by assumption) | exact zf_lt3 (by assumption) | exact zf_lt4 (by assumption) | exact zw_lt (by assumption) | exact zw_lt1 (by assumption) | exact zw_lt2 (by assumption) | exact zw_lt3 (by assumption) | exact zw_lt4 (by assumption) | exact zt_lt (by assumption)) (by decide) (by decide) lfRX2_16 rfl rfl rfl rfl ?_
        refine ev_iload_n (q := 70) dX2_takesOfPerson_69 rfl rfl ?_
        refine ev_bipush (q := 72) (nI 97 : Int32) dX2_takesOfPerson_70 rfl (by decide) ?_
        refine ev_icmp_lt (q := 75) (t := 85) dX2_takesOfPerson_72 rfl (by decide) (fun h72 => ?_) (fun h72 => ?_)
        · refine ev_iconst (q := 86) (0 : Int32) dX2_takesOfPerson_85 rfl (by decide) ?_
          have hst : zpst (5, ak, l, T, N, M, H, A, K, S) b = none := by rw [nI_ltI (by omega) (by omega)] at h72; simp [zpst]; omega
          exact ev_iret dX2_takesOfPerson_86 rfl (by first | rfl | exact zb_nar _ | assumption) (⟨rfl, rfl, ((zof3.rf.zu (f + 2) _ _ (by omega)).zu 3 0 _ (by omega)), by rw [hst]; rfl, fun s' hs' => by rw [hst] at hs'; cases hs'⟩)
        · refine ev_iload_n (q := 76) dX2_takesOfPerson_75 rfl rfl ?_
          refine ev_bipush (q := 78) (nI 103 : Int32) dX2_takesOfPerson_76 rfl (by decide) ?_
          refine ev_icmp_ge (q := 81) (t := 85) dX2_takesOfPerson_78 rfl (by decide) (fun h78 => ?_) (fun h78 => ?_)
          · refine ev_iconst (q := 86) (0 : Int32) dX2_takesOfPerson_85 rfl (by decide) ?_
            have hst : zpst (5, ak, l, T, N, M, H, A, K, S) b = none := by rw [nI_leI (by omega) (by omega)] at h78; simp [zpst]; omega
            exact ev_iret dX2_takesOfPerson_86 rfl (by first | rfl | exact zb_nar _ | assumption) (⟨rfl, rfl, ((zof3.rf.zu (f + 2) _ _ (by omega)).zu 3 0 _ (by omega)), by rw [hst]; rfl, fun s' hs' => by rw [hst] at hs'; cases hs'⟩)
          · refine ev_iconst (q := 82) (1 : Int32) dX2_takesOfPerson_81 rfl (by decide) ?_
            refine ev_goto (t := 86) dX2_takesOfPerson_82 (by decide) ?_
            rw [nI_ltI (by omega) (by omega)] at h72
            rw [nI_leI (by omega) (by omega)] at h78
            have hst : zpst (5, ak, l, T, N, M, H, A, K, S) b = some (6, ak, l, T, N, M, H, zup A N (b - 97), K, S) := by simp [zpst]; omega
            exact ev_iret dX2_takesOfPerson_86 rfl (by first | rfl | exact zb_nar _ | assumption) (⟨rfl, rfl, ((zof3.rf.zu (f + 2) _ _ (by omega)).zu 3 0 _ (by omega)), by rw [hst]; rfl, fun s' hs' => by
              rw [hst] at hs'; cases hs'
              exact ⟨zu_eq, (fun q => absurd q (by omega)), by rw [zu_n (by omega), zu_n (by omega)]; exact r3, by rw [zu_n (by omega), zu_n (by omega)]; exact r4, by rw [zu_n (by omega), zu_n (by omega)]; exact r5, by rw [zu_n (by omega), zu_n (by omega)]; exact r6, fun _ => by rw [zu_n (by omega), zu_n (by omega)]; exact r7 (by omega), fun _ => by rw [zu_n (by omega), zu_eq, zup_eq, pk_sub (by omega)], fun p hp => ⟨by rw [zu_n (by omega), zu_n (by omega)]; exact (r9 p hp).1, by rw [zu_n (by omega), zu_n (by omega), zup_ne (by omega)]; exact (r9 p hp).2.1, by rw [zu_n (by omega), zu_n (by omega)]; exact (r9 p hp).2.2.1, by rw [zu_n (by omega), zu_n (by omega)]; exact (r9 p hp).2.2.2⟩⟩⟩)
    · obtain rfl : w = 4 := by rw [r1] at h18; exact (nI_eq (by omega) (by omega)).mp h18
      refine ev_aload_n (q := 22) dX2_takesOfPerson_21 rfl rfl ?_
      refine ev_getR (q := 25) (ci := 0) (f := 4) dX2_takesOfPerson_22 rfl (by first | rfl | assumption | exact zf_kd (by assumption) | exact zw_kd (by assumption) | exact zt_kd (by assumption)) (by first | decide | exact zf_lt (by assumption) | exact zf_lt1 (by assumption) | exact zf_lt2 (by assumption) | exact zf_lt3 (by assumption) | exact zf_lt4 (by assumption) | exact zw_lt (by assumption) | exact zw_lt1 (by assumption) | exact zw_lt2 (by assumption) | exact zw_lt3 (by assumption) | exact zw_lt4 (by assumption) | exact zt_lt (by assumption)) (by decide) (by decide) lfRX2_56 rfl (by first | rfl | assumption | exact zf_p4 _ (by assumption) | exact zf_p5 _ (by assumption) | exact zf_p6 _ (by assumption) | exact zf_p7 _ (by assumption) | exact zw_p1 _ (by assumption) | exact zw_p2 _ (by assumption) | exact zw_p3 _ (by assumption) | exact zw_p4 _ (by assumption)) ?_
      refine ev_iload_n (q := 26) dX2_takesOfPerson_25 rfl rfl ?_
      refine ev_iload_n (q := 27) dX2_takesOfPerson_26 rfl rfl ?_
      refine ev_bipush (q := 29) (nI 48 : Int32) dX2_takesOfPerson_27 rfl (by decide) ?_
      refine ev_isub (q := 30) dX2_takesOfPerson_29 rfl ?_
      refine ev_iastN (q := 31) dX2_takesOfPerson_30 rfl (by first | rfl | assumption | exact zf_kd1 (by assumption) | exact zf_kd2 (by assumption) | exact zf_kd3 (by assumption) | exact zf_kd4 (by assumption) | exact zw_kd1 (by assumption) | exact zw_kd2 (by assumption) | exact zw_kd3 (by assumption) | exact zw_kd4 (by assumption)) (by first | decide | exact zf_lt (by assumption) | exact zf_lt1 (by assumption) | exact zf_lt2 (by assumption) | exact zf_lt3 (by assumption) | exact zf_lt4 (by assumption) | exact zw_lt (by assumption) | exact zw_lt1 (by assumption) | exact zw_lt2 (by assumption) | exact zw_lt3 (by assumption) | exact zw_lt4 (by assumption) | exact zt_lt (by assumption)) (by first | omega | assumption) ?_
      refine ev_aload_n (q := 32) dX2_takesOfPerson_31 rfl rfl ?_
      refine ev_iconst (q := 33) (nI 5 : Int32) dX2_takesOfPerson_32 rfl (by decide) ?_
      refine ev_putI (q := 36) (ci := 2) (f := 0) dX2_takesOfPerson_33 rfl (by first | rfl | assumption | exact zf_kd (by assumption) | exact zw_kd (by assumption) | exact zt_kd (by assumption)) (by first | decide | exact zf_lt (by assumption) | exact zf_lt1 (by assumption) | exact zf_lt2 (by assumption) | exact zf_lt3 (by assumption) | exact zf_lt4 (by assumption) | exact zw_lt (by assumption) | exact zw_lt1 (by assumption) | exact zw_lt2 (by assumption) | exact zw_lt3 (by assumption) | exact zw_lt4 (by assumption) | exact zt_lt (by assumption)) (by decide) (by decide) lfRX2_16 rfl rfl rfl rfl ?_
      refine ev_aload_n (q := 37) dX2_takesOfPerson_36 rfl rfl ?_
      refine ev_iload_n (q := 38) dX2_takesOfPerson_37 rfl rfl ?_
      refine ev_bipush (q := 40) (nI 48 : Int32) dX2_takesOfPerson_38 rfl (by decide) ?_
      refine ev_isub (q := 41) dX2_takesOfPerson_40 rfl ?_
      refine ev_pV (q := 44) (ci := 0) dX2_takesOfPerson_41 rfl okX0_hasTown lmRX2_60 imX0_hasTown seX0_hasTown (by first | rfl | assumption | exact zf_kd (by assumption) | exact zw_kd (by assumption) | exact zt_kd (by assumption)) (by first | decide | exact zf_lt (by assumption) | exact zf_lt1 (by assumption) | exact zf_lt2 (by assumption) | exact zf_lt3 (by assumption) | exact zf_lt4 (by assumption) | exact zw_lt (by assumption) | exact zw_lt1 (by assumption) | exact zw_lt2 (by assumption) | exact zw_lt3 (by assumption) | exact zw_lt4 (by assumption) | exact zt_lt (by assumption)) (by decide) rfl (c_X0_hasTown G fo (zu (zu I (f + 1) N (nI b - nI 48)) 3 0 (nI 5)) hf _) (by decide) rfl rfl (Nat.le_of_ble_eq_true rfl) ?_
      rw [show zu (zu I (f + 1) N (nI b - nI 48)) 3 0 (nI 5) f 1 = nI T by rw [zu_n (by omega), zu_n (by omega)]; exact r4, zin48 hb (by omega) (by omega)]
      by_cases hT : 48 ≤ b ∧ b < 48 + T
      · have hst : zpst (4, ak, l, T, N, M, H, A, K, S) b = some (5, ak, l, T, N, M, zup H N (b - 48), A, K, S) := by simp [zpst, hT]
        exact ev_iret dX2_takesOfPerson_44 rfl (by first | rfl | exact zb_nar _) (⟨rfl, rfl, ((zof3.rf.zu (f + 1) _ _ (by omega)).zu 3 0 _ (by omega)), by rw [hst]; rw [decide_eq_true hT]; rfl, fun s' hs' => by
          rw [hst] at hs'; cases hs'
          exact ⟨zu_eq, (fun q => absurd q (by omega)), by rw [zu_n (by omega), zu_n (by omega)]; exact r3, by rw [zu_n (by omega), zu_n (by omega)]; exact r4, by rw [zu_n (by omega), zu_n (by omega)]; exact r5, by rw [zu_n (by omega), zu_n (by omega)]; exact r6, fun _ => by rw [zu_n (by omega), zu_eq, zup_eq, pk_sub hT.1], (fun q => absurd q (by omega)), fun p hp => ⟨by rw [zu_n (by omega), zu_n (by omega), zup_ne (by omega)]; exact (r9 p hp).1, by rw [zu_n (by omega), zu_n (by omega)]; exact (r9 p hp).2.1, by rw [zu_n (by omega), zu_n (by omega)]; exact (r9 p hp).2.2.1, by rw [zu_n (by omega), zu_n (by omega)]; exact (r9 p hp).2.2.2⟩⟩⟩)
      · have hst : zpst (4, ak, l, T, N, M, H, A, K, S) b = none := by simp only [zpst, if_neg hT]; rfl
        exact ev_iret dX2_takesOfPerson_44 rfl (by first | rfl | exact zb_nar _) (⟨rfl, rfl, ((zof3.rf.zu (f + 1) _ _ (by omega)).zu 3 0 _ (by omega)), by rw [hst]; rw [decide_eq_false hT]; rfl, fun s' hs' => by rw [hst] at hs'; cases hs'⟩)
  · exact absurd hNlt h8
set_option maxHeartbeats 4000000 in
set_option maxRecDepth 100000 in
theorem c_X2_takesOfPair (G : zq_G) (fo : Bool) (I : zq_I) {w ak l T N M : Nat} {H A K S : Nat → Nat} {f b : Nat} (hf : zq_isF f) (hw : w = 7 ∨ w = 8) (hb : b < 256) (hok : zpOK (w, ak, l, T, N, M, H, A, K, S)) (hr : zRdC f I (w, ak, l, T, N, M, H, A, K, S)) : zq_Met G mX2_takesOfPair 2 0 0 [.ref 3, .int (nI b - nI 48), .ref f] 138 I (zPs fo) (fun v n' I' P' => n' = 138 ∧ P' = zPs fo ∧ zof3 f I I' ∧ v = some (.int (zb (zpst (w, ak, l, T, N, M, H, A, K, S) b).isSome)) ∧ ∀ s', zpst (w, ak, l, T, N, M, H, A, K, S) b = some s' → zRdC f I' s') := by
  refine zq_Met.of okX2_takesOfPair (Nat.le_of_ble_eq_true rfl) ?_
  show zq_E _ _ _ _ _ _ _ [some (.ref 3), some (.int (nI b - nI 48)), some (.ref f)] _ _ _ _ _
  obtain ⟨c1, c2, c3, c4, c5, c6, c7, c8, c9, c10, c11, c12, c13, c14⟩ := hok
  obtain ⟨r1, r2, r3, r4, r5, r6, r7, r8, r9⟩ := hr
  obtain ⟨hf3, hf4⟩ := zF3 hf
  have hp2 := zp2_le c5
  have hS : ∀ p, p < N → I (f + 4) p = nI (S p) ∧ S p < 2 ^ N := fun p hp => ⟨(r9 p hp).2.2.2, (c14 p hp).2.2.2.1⟩
  refine ev_aload_n (q := 1) dX2_takesOfPair_0 rfl rfl ?_
  refine ev_getI (q := 4) (ci := 2) (f := 0) dX2_takesOfPair_1 rfl (by first | rfl | assumption | exact zf_kd (by assumption) | exact zw_kd (by assumption) | exact zt_kd (by assumption)) (by first | decide | exact zf_lt (by assumption) | exact zf_lt1 (by assumption) | exact zf_lt2 (by assumption) | exact zf_lt3 (by assumption) | exact zf_lt4 (by assumption) | exact zw_lt (by assumption) | exact zw_lt1 (by assumption) | exact zw_lt2 (by assumption) | exact zw_lt3 (by assumption) | exact zw_lt4 (by assumption) | exact zt_lt (by assumption)) (by decide) (by decide) lfRX2_16 rfl ?_
  refine ev_bipush (q := 6) (nI 7 : Int32) dX2_takesOfPair_4 rfl (by decide) ?_
  refine ev_icmp_ne (q := 9) (t := 26) dX2_takesOfPair_6 rfl (by decide) (fun h6 => ?_) (fun h6 => ?_)
  · obtain rfl : w = 8 := by have : ¬ w = 7 := (fun q => h6 (by rw [r1, q])); omega
    have hak : ak < N := (c9 rfl).2
    have hra : I 3 1 = nI ak := r2 rfl
    refine ev_aload_n (q := 27) dX2_takesOfPair_26 rfl rfl ?_
    refine ev_iconst (q := 28) (nI 3 : Int32) dX2_takesOfPair_27 rfl (by decide) ?_
    refine ev_putI (q := 31) (ci := 2) (f := 0) dX2_takesOfPair_28 rfl (by first | rfl | assumption | exact zf_kd (by assumption) | exact zw_kd (by assumption) | exact zt_kd (by assumption)) (by first | decide | exact zf_lt (by assumption) | exact zf_lt1 (by assumption) | exact zf_lt2 (by assumption) | exact zf_lt3 (by assumption) | exact zf_lt4 (by assumption) | exact zw_lt (by assumption) | exact zw_lt1 (by assumption) | exact zw_lt2 (by assumption) | exact zw_lt3 (by assumption) | exact zw_lt4 (by assumption) | exact zt_lt (by assumption)) (by decide) (by decide) lfRX2_16 rfl rfl rfl rfl ?_
    refine ev_aload_n (q := 32) dX2_takesOfPair_31 rfl rfl ?_
    refine ev_aload_n (q := 33) dX2_takesOfPair_32 rfl rfl ?_
    refine ev_getI (q := 36) (ci := 2) (f := 1) dX2_takesOfPair_33 rfl (by first | rfl | assumption | exact zf_kd (by assumption) | exact zw_kd (by assumption) | exact zt_kd (by assumption)) (by first | decide | exact zf_lt (by assumption) | exact zf_lt1 (by assumption) | exact zf_lt2 (by assumption) | exact zf_lt3 (by assumption) | exact zf_lt4 (by assumption) | exact zw_lt (by assumption) | exact zw_lt1 (by assumption) | exact zw_lt2 (by assumption) | exact zw_lt3 (by assumption) | exact zw_lt4 (by assumption) | exact zt_lt (by assumption)) (by decide) (by decide) lfRX2_73 rfl ?_
    rw [zu_n (by omega), hra]
    refine ev_iload_n (q := 37) dX2_takesOfPair_36 rfl rfl ?_
    refine ev_pV (q := 40) (ci := 0) dX2_takesOfPair_37 rfl okX0_mayAsk lmRX2_79 imX0_mayAsk seX0_mayAsk (by first | rfl | assumption | exact zf_kd (by assumption) | exact zw_kd (by assumption) | exact zt_kd (by assumption)) (by first | decide | exact zf_lt (by assumption) | exact zf_lt1 (by assumption) | exact zf_lt2 (by assumption) | exact zf_lt3 (by assumption) | exact zf_lt4 (by assumption) | exact zw_lt (by assumption) | exact zw_lt1 (by assumption) | exact zw_lt2 (by assumption) | exact zw_lt3 (by assumption) | exact zw_lt4 (by assumption) | exact zt_lt (by assumption)) (by decide) rfl (c_X0_mayAsk G fo (zu I 3 0 (nI 3)) (S := S) hf (by rw [zu_n (by omega)]; exact r5) c5 (fun p hp => ⟨by rw [zu_n (by omega)]; exact (hS p hp).1, (hS p hp).2⟩) hak _) (by decide) rfl rfl (Nat.le_of_ble_eq_true rfl) ?_
    refine ev_if_ne (q := 43) (t := 45) dX2_takesOfPair_40 rfl (by decide) (fun h40 => ?_) (fun h40 => ?_)
    · have hq := zb_ne h40
      rw [Bool.and_eq_true, decide_eq_true_eq, zin48 hb (by omega) (by omega), decide_eq_true_eq] at hq
      obtain ⟨hT, hq3, hq4⟩ := hq
      have hcx : (nI b - nI 48).toNatClampNeg = b - 48 := by rw [pk_sub hT.1, nI_clamp (by omega)]
      rw [hcx] at hq3 hq4
      refine ev_aload_n (q := 46) dX2_takesOfPair_45 rfl rfl ?_
      refine ev_getR (q := 49) (ci := 0) (f := 7) dX2_takesOfPair_46 rfl (by first | rfl | assumption | exact zf_kd (by assumption) | exact zw_kd (by assumption) | exact zt_kd (by assumption)) (by first | decide | exact zf_lt (by assumption) | exact zf_lt1 (by assumption) | exact zf_lt2 (by assumption) | exact zf_lt3 (by assumption) | exact zf_lt4 (by assumption) | exact zw_lt (by assumption) | exact zw_lt1 (by assumption) | exact zw_lt2 (by assumption) | exact zw_lt3 (by assumption) | exact zw_lt4 (by assumption) | exact zt_lt (by assumption)) (by decide) (by decide) lfRX2_70 rfl (by first | rfl | assumption | exact zf_p4 _ (by assumption) | exact zf_p5 _ (by assumption) | exact zf_p6 _ (by assumption) | exact zf_p7 _ (by assumption) | exact zw_p1 _ (by assumption) | exact zw_p2 _ (by assumption) | exact zw_p3 _ (by assumption) | exact zw_p4 _ (by assumption)) ?_
      refine ev_aload_n (q := 50) dX2_takesOfPair_49 rfl rfl ?_
      refine ev_getI (q := 53) (ci := 2) (f := 1) dX2_takesOfPair_50 rfl (by first | rfl | assumption | exact zf_kd (by assumption) | exact zw_kd (by assumption) | exact zt_kd (by assumption)) (by first | decide | exact zf_lt (by assumption) | exact zf_lt1 (by assumption) | exact zf_lt2 (by assumption) | exact zf_lt3 (by assumption) | exact zf_lt4 (by assumption) | exact zw_lt (by assumption) | exact zw_lt1 (by assumption) | exact zw_lt2 (by assumption) | exact zw_lt3 (by assumption) | exact zw_lt4 (by assumption) | exact zt_lt (by assumption)) (by decide) (by decide) lfRX2_73 rfl ?_
      rw [zu_n (by omega), hra]
      refine ev_dup2 (q := 54) dX2_takesOfPair_53 rfl rfl rfl ?_
      refine ev_ialdN (q := 55) dX2_takesOfPair_54 rfl (by first | rfl | assumption | exact zf_kd1 (by assumption) | exact zf_kd2 (by assumption) | exact zf_kd3 (by assumption) | exact zf_kd4 (by assumption) | exact zw_kd1 (by assumption) | exact zw_kd2 (by assumption) | exact zw_kd3 (by assumption) | exact zw_kd4 (by assumption)) (by first | decide | exact zf_lt (by assumption) | exact zf_lt1 (by assumption) | exact zf_lt2 (by assumption) | exact zf_lt3 (by assumption) | exact zf_lt4 (by assumption) | exact zw_lt (by assumption) | exact zw_lt1 (by assumption) | exact zw_lt2 (by assumption) | exact zw_lt3 (by assumption) | exact zw_lt4 (by assumption) | exact zt_lt (by assumption)) (by first | omega | assumption) ?_
      rw [zu_n (by omega), (hS ak hak).1]
      refine ev_iconst (q := 56) (1 : Int32) dX2_takesOfPair_55 rfl (by decide) ?_
      refine ev_iload_n (q := 57) dX2_takesOfPair_56 rfl rfl ?_
      refine ev_ishl (q := 58) dX2_takesOfPair_57 rfl ?_
      rw [pk_sub hT.1, show (1 : Int32) <<< (nI (b - 48) &&& 31) = zsh (b - 48) from rfl, zsh_N _ (by omega)]
      refine ev_ior (q := 59) dX2_takesOfPair_58 rfl ?_
      rw [nI_or]
      refine ev_iastN (q := 60) dX2_takesOfPair_59 rfl (by first | rfl | assumption | exact zf_kd1 (by assumption) | exact zf_kd2 (by assumption) | exact zf_kd3 (by assumption) | exact zf_kd4 (by assumption) | exact zw_kd1 (by assumption) | exact zw_kd2 (by assumption) | exact zw_kd3 (by assumption) | exact zw_kd4 (by assumption)) (by first | decide | exact zf_lt (by assumption) | exact zf_lt1 (by assumption) | exact zf_lt2 (by assumption) | exact zf_lt3 (by assumption) | exact zf_lt4 (by assumption) | exact zw_lt (by assumption) | exact zw_lt1 (by assumption) | exact zw_lt2 (by assumption) | exact zw_lt3 (by assumption) | exact zw_lt4 (by assumption) | exact zt_lt (by assumption)) (by first | omega | assumption) ?_
      refine ev_aload_n (q := 61) dX2_takesOfPair_60 rfl rfl ?_
      refine ev_dup (q := 62) dX2_takesOfPair_61 rfl rfl ?_
      refine ev_getI (q := 65) (ci := 0) (f := 3) dX2_takesOfPair_62 rfl (by first | rfl | assumption | exact zf_kd (by assumption) | exact zw_kd (by assumption) | exact zt_kd (by assumption)) (by first | decide | exact zf_lt (by assumption) | exact zf_lt1 (by assumption) | exact zf_lt2 (by assumption) | exact zf_lt3 (by assumption) | exact zf_lt4 (by assumption) | exact zw_lt (by assumption) | exact zw_lt1 (by assumption) | exact zw_lt2 (by assumption) | exact zw_lt3 (by assumption) | exact zw_lt4 (by assumption) | exact zt_lt (by assumption)) (by decide) (by decide) lfRX2_83 rfl ?_
      rw [zu_n (by omega), zu_n (by omega), r6]
      refine ev_iconst (q := 66) (1 : Int32) dX2_takesOfPair_65 rfl (by decide) ?_
      refine ev_iadd (q := 67) dX2_takesOfPair_66 rfl ?_
      rw [nI_1]
      refine ev_putI (q := 70) (ci := 0) (f := 3) dX2_takesOfPair_67 rfl (by first | rfl | assumption | exact zf_kd (by assumption) | exact zw_kd (by assumption) | exact zt_kd (by assumption)) (by first | decide | exact zf_lt (by assumption) | exact zf_lt1 (by assumption) | exact zf_lt2 (by assumption) | exact zf_lt3 (by assumption) | exact zf_lt4 (by assumption) | exact zw_lt (by assumption) | exact zw_lt1 (by assumption) | exact zw_lt2 (by assumption) | exact zw_lt3 (by assumption) | exact zw_lt4 (by assumption) | exact zt_lt (by assumption)) (by decide) (by decide) lfRX2_83 rfl rfl rfl rfl ?_
      refine ev_iconst (q := 71) (1 : Int32) dX2_takesOfPair_70 rfl (by decide) ?_
      have hst : zpst (8, ak, l, T, N, M, H, A, K, S) b = some (3, ak, l, T, N, M + 1, H, A, K, zup S ak (S ak ||| 2 ^ (b - 48))) := by simp [zpst, hT, hq3, hq4]
      exact ev_iret dX2_takesOfPair_71 rfl (by first | rfl | exact zb_nar _ | assumption) (⟨rfl, rfl, (((zof3.rf.zu 3 0 _ (by omega)).zu (f + 4) _ _ (by omega)).zu f 3 _ (by omega)), by rw [hst]; rfl, fun s' hs' => by
        rw [hst] at hs'; cases hs'
        exact ⟨by rw [zu_n (by omega), zu_n (by omega), zu_eq], (fun q => absurd q (by omega)), by rw [zu_n (by omega), zu_n (by omega), zu_n (by omega)]; exact r3, by rw [zu_n (by omega), zu_n (by omega), zu_n (by omega)]; exact r4, by rw [zu_n (by omega), zu_n (by omega), zu_n (by omega)]; exact r5, zu_eq, (fun q => absurd q (by omega)), (fun q => absurd q (by omega)), fun p hp => ⟨by rw [zu_n (by omega), zu_n (by omega), zu_n (by omega)]; exact (r9 p hp).1, by rw [zu_n (by omega), zu_n (by omega), zu_n (by omega)]; exact (r9 p hp).2.1, by rw [zu_n (by omega), zu_n (by omega), zu_n (by omega)]; exact (r9 p hp).2.2.1, by
          by_cases hpa : p = ak
          · subst hpa; rw [zu_n (by omega), zu_eq, zup_eq]
          · rw [zu_n (by omega), zu_n (by omega), zu_n (by omega), zup_ne hpa]; exact (r9 p hp).2.2.2⟩⟩⟩)
    · refine ev_iconst (q := 44) (0 : Int32) dX2_takesOfPair_43 rfl (by decide) ?_
      have hst : zpst (8, ak, l, T, N, M, H, A, K, S) b = none := by 
        simp only [zpst]
        rw [if_neg (by omega), if_neg (by omega), if_neg (by omega), if_neg (by omega), if_neg (by omega), if_neg (by omega), if_neg (by omega), if_neg (by omega), if_neg]
        rintro ⟨g1, g2, g3, g4⟩
        have hq := zb_eq h40
        rw [zin48 hb (by omega) (by omega), decide_eq_true ⟨g1, g2⟩, show (nI b - nI 48).toNatClampNeg = b - 48 by rw [pk_sub g1, nI_clamp (by omega)], decide_eq_true ⟨g3, g4⟩] at hq
        cases hq
      exact ev_iret dX2_takesOfPair_44 rfl (by first | rfl | exact zb_nar _ | assumption) (⟨rfl, rfl, (zof3.rf.zu 3 0 _ (by omega)), by rw [hst]; rfl, fun s' hs' => by rw [hst] at hs'; cases hs'⟩)
  · obtain rfl : w = 7 := by rw [r1] at h6; exact (nI_eq (by omega) (by omega)).mp h6
    refine ev_aload_n (q := 10) dX2_takesOfPair_9 rfl rfl ?_
    refine ev_iload_n (q := 11) dX2_takesOfPair_10 rfl rfl ?_
    refine ev_putI (q := 14) (ci := 2) (f := 1) dX2_takesOfPair_11 rfl (by first | rfl | assumption | exact zf_kd (by assumption) | exact zw_kd (by assumption) | exact zt_kd (by assumption)) (by first | decide | exact zf_lt (by assumption) | exact zf_lt1 (by assumption) | exact zf_lt2 (by assumption) | exact zf_lt3 (by assumption) | exact zf_lt4 (by assumption) | exact zw_lt (by assumption) | exact zw_lt1 (by assumption) | exact zw_lt2 (by assumption) | exact zw_lt3 (by assumption) | exact zw_lt4 (by assumption) | exact zt_lt (by assumption)) (by decide) (by decide) lfRX2_73 rfl rfl rfl rfl ?_
    refine ev_aload_n (q := 15) dX2_takesOfPair_14 rfl rfl ?_
    refine ev_bipush (q := 17) (nI 8 : Int32) dX2_takesOfPair_15 rfl (by decide) ?_
    refine ev_putI (q := 20) (ci := 2) (f := 0) dX2_takesOfPair_17 rfl (by first | rfl | assumption | exact zf_kd (by assumption) | exact zw_kd (by assumption) | exact zt_kd (by assumption)) (by first | decide | exact zf_lt (by assumption) | exact zf_lt1 (by assumption) | exact zf_lt2 (by assumption) | exact zf_lt3 (by assumption) | exact zf_lt4 (by assumption) | exact zw_lt (by assumption) | exact zw_lt1 (by assumption) | exact zw_lt2 (by assumption) | exact zw_lt3 (by assumption) | exact zw_lt4 (by assumption) | exact zt_lt (by assumption)) (by decide) (by decide) lfRX2_16 rfl rfl rfl rfl ?_
    refine ev_aload_n (q := 21) dX2_takesOfPair_20 rfl rfl ?_
    refine ev_iload_n (q := 22) dX2_takesOfPair_21 rfl rfl ?_
    refine ev_pV (q := 25) (ci := 0) dX2_takesOfPair_22 rfl okX0_mayAskMore lmRX2_76 imX0_mayAskMore seX0_mayAskMore (by first | rfl | assumption | exact zf_kd (by assumption) | exact zw_kd (by assumption) | exact zt_kd (by assumption)) (by first | decide | exact zf_lt (by assumption) | exact zf_lt1 (by assumption) | exact zf_lt2 (by assumption) | exact zf_lt3 (by assumption) | exact zf_lt4 (by assumption) | exact zw_lt (by assumption) | exact zw_lt1 (by assumption) | exact zw_lt2 (by assumption) | exact zw_lt3 (by assumption) | exact zw_lt4 (by assumption) | exact zt_lt (by assumption)) (by decide) rfl (c_X0_mayAskMore G fo (zu (zu I 3 1 (nI b - nI 48)) 3 0 (nI 8)) (S := S) hf (by rw [zu_n (by omega), zu_n (by omega)]; exact r5) c5 (fun p hp => ⟨by rw [zu_n (by omega), zu_n (by omega)]; exact (hS p hp).1, (hS p hp).2⟩) _) (by decide) rfl rfl (Nat.le_of_ble_eq_true rfl) ?_
    by_cases hT : 48 ≤ b ∧ b < 48 + N
    · have hcx : (nI b - nI 48).toNatClampNeg = b - 48 := by rw [pk_sub hT.1, nI_clamp (by omega)]
      rw [zin48 hb (by omega) (by omega), hcx, decide_eq_true hT]
      by_cases hq : zpc (S (b - 48)) < N - 1
      · have hst : zpst (7, ak, l, T, N, M, H, A, K, S) b = some (8, b - 48, l, T, N, M, H, A, K, S) := by simp [zpst, hT, hq]
        exact ev_iret dX2_takesOfPair_25 rfl (by first | rfl | exact zb_nar _) (⟨rfl, rfl, ((zof3.rf.zu 3 1 _ (by omega)).zu 3 0 _ (by omega)), by rw [hst]; rw [decide_eq_true hq]; rfl, fun s' hs' => by
          rw [hst] at hs'; cases hs'
          exact ⟨zu_eq, fun _ => by rw [zu_n (by omega), zu_eq, pk_sub (by omega)], by rw [zu_n (by omega), zu_n (by omega)]; exact r3, by rw [zu_n (by omega), zu_n (by omega)]; exact r4, by rw [zu_n (by omega), zu_n (by omega)]; exact r5, by rw [zu_n (by omega), zu_n (by omega)]; exact r6, (fun q => absurd q (by omega)), (fun q => absurd q (by omega)), fun p hp => ⟨by rw [zu_n (by omega), zu_n (by omega)]; exact (r9 p hp).1, by rw [zu_n (by omega), zu_n (by omega)]; exact (r9 p hp).2.1, by rw [zu_n (by omega), zu_n (by omega)]; exact (r9 p hp).2.2.1, by rw [zu_n (by omega), zu_n (by omega)]; exact (r9 p hp).2.2.2⟩⟩⟩)
      · have hst : zpst (7, ak, l, T, N, M, H, A, K, S) b = none := by simp [zpst, hT, hq]
        exact ev_iret dX2_takesOfPair_25 rfl (by first | rfl | exact zb_nar _) (⟨rfl, rfl, ((zof3.rf.zu 3 1 _ (by omega)).zu 3 0 _ (by omega)), by rw [hst]; rw [decide_eq_false hq]; rfl, fun s' hs' => by rw [hst] at hs'; cases hs'⟩)
    · have hst : zpst (7, ak, l, T, N, M, H, A, K, S) b = none := by simp only [zpst]; rw [if_neg (by omega), if_neg (by omega), if_neg (by omega), if_neg (by omega), if_neg (by omega), if_neg (by omega), if_neg (by omega), if_pos trivial, if_neg (fun q => hT ⟨q.1, q.2.1⟩)]
      rw [zin48 hb (by omega) (by omega), decide_eq_false hT]
      exact ev_iret dX2_takesOfPair_25 rfl (by first | rfl | exact zb_nar _) (⟨rfl, rfl, ((zof3.rf.zu 3 1 _ (by omega)).zu 3 0 _ (by omega)), by rw [hst]; rfl, fun s' hs' => by rw [hst] at hs'; cases hs'⟩)
set_option maxHeartbeats 4000000 in
set_option maxRecDepth 100000 in
theorem c_X2_takes (G : zq_G) (fo : Bool) (I : zq_I) {w ak l T N M : Nat} {H A K S : Nat → Nat} {f b : Nat} (hf : zq_isF f) (hb : b < 256) (hok : zpOK (w, ak, l, T, N, M, H, A, K, S)) (hr : zRdC f I (w, ak, l, T, N, M, H, A, K, S)) : zq_Met G mX2_takes 3 0 0 [.ref 3, .int (nI b), .ref f] 138 I (zPs fo) (fun v n' I' P' => n' = 138 ∧ P' = zPs fo ∧ zof3 f I I' ∧ v = some (.int (zb (zpst (w, ak, l, T, N, M, H, A, K, S) b).isSome)) ∧ ∀ s', zpst (w, ak, l, T, N, M, H, A, K, S) b = some s' → zRdC f I' s') := by
  refine zq_Met.of okX2_takes (Nat.le_of_ble_eq_true rfl) ?_
  show zq_E _ _ _ _ _ _ _ [some (.ref 3), some (.int (nI b)), some (.ref f)] _ _ _ _ _
  obtain ⟨c1, c2, c3, c4, c5, c6, c7, c8, c9, c10, c11, c12, c13, c14⟩ := hok
  obtain ⟨r1, r2, r3, r4, r5, r6, r7, r8, r9⟩ := hr
  obtain ⟨hf3, hf4⟩ := zF3 hf
  have hp2 := zp2_le c5
  have hS : ∀ p, p < N → I (f + 4) p = nI (S p) ∧ S p < 2 ^ N := fun p hp => ⟨(r9 p hp).2.2.2, (c14 p hp).2.2.2.1⟩
  obtain ⟨g1, g2, g3, g4⟩ := zsg b hb
  refine ev_aload_n (q := 1) dX2_takes_0 rfl rfl ?_
  refine ev_getI (q := 4) (ci := 2) (f := 0) dX2_takes_1 rfl (by first | rfl | assumption | exact zf_kd (by assumption) | exact zw_kd (by assumption) | exact zt_kd (by assumption)) (by first | decide | exact zf_lt (by assumption) | exact zf_lt1 (by assumption) | exact zf_lt2 (by assumption) | exact zf_lt3 (by assumption) | exact zf_lt4 (by assumption) | exact zw_lt (by assumption) | exact zw_lt1 (by assumption) | exact zw_lt2 (by assumption) | exact zw_lt3 (by assumption) | exact zw_lt4 (by assumption) | exact zt_lt (by assumption)) (by decide) (by decide) lfRX2_16 rfl ?_
  rw [r1]
  rcases (by omega : w = 0 ∨ w = 1 ∨ w = 2 ∨ w = 3 ∨ w = 4 ∨ w = 5 ∨ w = 6 ∨ w = 7 ∨ w = 8) with rfl | rfl | rfl | rfl | rfl | rfl | rfl | rfl | rfl
  · refine ev_swIn (off := 44) (t := 48) dX2_takes_4 (by decide) (by decide) (by decide) (by decide) ?_
    refine ev_aload_n (q := 49) dX2_takes_48 rfl rfl ?_
    refine ev_iconst (q := 50) (nI 1 : Int32) dX2_takes_49 rfl (by decide) ?_
    refine ev_putI (q := 53) (ci := 2) (f := 0) dX2_takes_50 rfl (by first | rfl | assumption | exact zf_kd (by assumption) | exact zw_kd (by assumption) | exact zt_kd (by assumption)) (by first | decide | exact zf_lt (by assumption) | exact zf_lt1 (by assumption) | exact zf_lt2 (by assumption) | exact zf_lt3 (by assumption) | exact zf_lt4 (by assumption) | exact zw_lt (by assumption) | exact zw_lt1 (by assumption) | exact zw_lt2 (by assumption) | exact zw_lt3 (by assumption) | exact zw_lt4 (by assumption) | exact zt_lt (by assumption)) (by decide) (by decide) lfRX2_16 rfl rfl rfl rfl ?_
    refine ev_iload_n (q := 54) dX2_takes_53 rfl rfl ?_
    refine ev_bipush (q := 56) (nI 90 : Int32) dX2_takes_54 rfl (by decide) ?_
    refine ev_icmp_ne (q := 59) (t := 63) dX2_takes_56 rfl (by decide) (fun h56 => ?_) (fun h56 => ?_)
    · refine ev_iconst (q := 64) (0 : Int32) dX2_takes_63 rfl (by decide) ?_
      have hst : zpst (0, ak, l, T, N, M, H, A, K, S) b = none := by simp [zpst]; exact fun q => h56 (by rw [q])
      exact ev_iret dX2_takes_64 rfl (by first | rfl | exact zb_nar _ | assumption) (⟨rfl, rfl, (zof3.rf.zu 3 0 _ (by omega)), by rw [hst]; rfl, fun s' hs' => by rw [hst] at hs'; cases hs'⟩)
    · refine ev_iconst (q := 60) (1 : Int32) dX2_takes_59 rfl (by decide) ?_
      refine ev_goto (t := 64) dX2_takes_60 (by decide) ?_
      have hst : zpst (0, ak, l, T, N, M, H, A, K, S) b = some (1, ak, l, T, N, M, H, A, K, S) := by obtain rfl : b = 90 := (nI_eq (by omega) (by omega)).mp h56; simp [zpst]
      exact ev_iret dX2_takes_64 rfl (by first | rfl | exact zb_nar _ | assumption) (⟨rfl, rfl, (zof3.rf.zu 3 0 _ (by omega)), by rw [hst]; rfl, fun s' hs' => by
        rw [hst] at hs'; cases hs'
        exact ⟨zu_eq, (fun q => absurd q (by omega)), by rw [zu_n (by omega)]; exact r3, by rw [zu_n (by omega)]; exact r4, by rw [zu_n (by omega)]; exact r5, by rw [zu_n (by omega)]; exact r6, (fun q => absurd q (by omega)), (fun q => absurd q (by omega)), fun p hp => ⟨by rw [zu_n (by omega)]; exact (r9 p hp).1, by rw [zu_n (by omega)]; exact (r9 p hp).2.1, by rw [zu_n (by omega)]; exact (r9 p hp).2.2.1, by rw [zu_n (by omega)]; exact (r9 p hp).2.2.2⟩⟩⟩)
  · refine ev_swIn (off := 61) (t := 65) dX2_takes_4 (by decide) (by decide) (by decide) (by decide) ?_
    refine ev_aload_n (q := 66) dX2_takes_65 rfl rfl ?_
    refine ev_iload_n (q := 67) dX2_takes_66 rfl rfl ?_
    refine ev_bipush (q := 69) (nI 48 : Int32) dX2_takes_67 rfl (by decide) ?_
    refine ev_isub (q := 70) dX2_takes_69 rfl ?_
    refine ev_putI (q := 73) (ci := 0) (f := 0) dX2_takes_70 rfl (by first | rfl | assumption | exact zf_kd (by assumption) | exact zw_kd (by assumption) | exact zt_kd (by assumption)) (by first | decide | exact zf_lt (by assumption) | exact zf_lt1 (by assumption) | exact zf_lt2 (by assumption) | exact zf_lt3 (by assumption) | exact zf_lt4 (by assumption) | exact zw_lt (by assumption) | exact zw_lt1 (by assumption) | exact zw_lt2 (by assumption) | exact zw_lt3 (by assumption) | exact zw_lt4 (by assumption) | exact zt_lt (by assumption)) (by decide) (by decide) lfRX2_34 rfl rfl rfl rfl ?_
    refine ev_aload_n (q := 74) dX2_takes_73 rfl rfl ?_
    refine ev_iconst (q := 75) (nI 2 : Int32) dX2_takes_74 rfl (by decide) ?_
    refine ev_putI (q := 78) (ci := 2) (f := 0) dX2_takes_75 rfl (by first | rfl | assumption | exact zf_kd (by assumption) | exact zw_kd (by assumption) | exact zt_kd (by assumption)) (by first | decide | exact zf_lt (by assumption) | exact zf_lt1 (by assumption) | exact zf_lt2 (by assumption) | exact zf_lt3 (by assumption) | exact zf_lt4 (by assumption) | exact zw_lt (by assumption) | exact zw_lt1 (by assumption) | exact zw_lt2 (by assumption) | exact zw_lt3 (by assumption) | exact zw_lt4 (by assumption) | exact zt_lt (by assumption)) (by decide) (by decide) lfRX2_16 rfl rfl rfl rfl ?_
    refine ev_aload_n (q := 79) dX2_takes_78 rfl rfl ?_
    refine ev_getI (q := 82) (ci := 0) (f := 0) dX2_takes_79 rfl (by first | rfl | assumption | exact zf_kd (by assumption) | exact zw_kd (by assumption) | exact zt_kd (by assumption)) (by first | decide | exact zf_lt (by assumption) | exact zf_lt1 (by assumption) | exact zf_lt2 (by assumption) | exact zf_lt3 (by assumption) | exact zf_lt4 (by assumption) | exact zw_lt (by assumption) | exact zw_lt1 (by assumption) | exact zw_lt2 (by assumption) | exact zw_lt3 (by assumption) | exact zw_lt4 (by assumption) | exact zt_lt (by assumption)) (by decide) (by decide) lfRX2_34 rfl ?_
    refine ev_if_lt (q := 85) (t := 97) dX2_takes_82 rfl (by decide) (fun h82 => ?_) (fun h82 => ?_)
    · rw [zu_n (by omega), zu_eq, g1] at h82
      refine ev_iconst (q := 98) (0 : Int32) dX2_takes_97 rfl (by decide) ?_
      have hst : zpst (1, ak, l, T, N, M, H, A, K, S) b = none := by simp [zpst]; omega
      exact ev_iret dX2_takes_98 rfl (by first | rfl | exact zb_nar _ | assumption) (⟨rfl, rfl, ((zof3.rf.zu f 0 _ (by omega)).zu 3 0 _ (by omega)), by rw [hst]; rfl, fun s' hs' => by rw [hst] at hs'; cases hs'⟩)
    · rw [zu_n (by omega), zu_eq, g1] at h82
      refine ev_aload_n (q := 86) dX2_takes_85 rfl rfl ?_
      refine ev_getI (q := 89) (ci := 0) (f := 0) dX2_takes_86 rfl (by first | rfl | assumption | exact zf_kd (by assumption) | exact zw_kd (by assumption) | exact zt_kd (by assumption)) (by first | decide | exact zf_lt (by assumption) | exact zf_lt1 (by assumption) | exact zf_lt2 (by assumption) | exact zf_lt3 (by assumption) | exact zf_lt4 (by assumption) | exact zw_lt (by assumption) | exact zw_lt1 (by assumption) | exact zw_lt2 (by assumption) | exact zw_lt3 (by assumption) | exact zw_lt4 (by assumption) | exact zt_lt (by assumption)) (by decide) (by decide) lfRX2_34 rfl ?_
      refine ev_iconst (q := 90) (nI 3 : Int32) dX2_takes_89 rfl (by decide) ?_
      refine ev_icmp_ge (q := 93) (t := 97) dX2_takes_90 rfl (by decide) (fun h90 => ?_) (fun h90 => ?_)
      · rw [zu_n (by omega), zu_eq, g2] at h90
        refine ev_iconst (q := 98) (0 : Int32) dX2_takes_97 rfl (by decide) ?_
        have hst : zpst (1, ak, l, T, N, M, H, A, K, S) b = none := by simp [zpst]; omega
        exact ev_iret dX2_takes_98 rfl (by first | rfl | exact zb_nar _ | assumption) (⟨rfl, rfl, ((zof3.rf.zu f 0 _ (by omega)).zu 3 0 _ (by omega)), by rw [hst]; rfl, fun s' hs' => by rw [hst] at hs'; cases hs'⟩)
      · rw [zu_n (by omega), zu_eq, g2] at h90
        refine ev_iconst (q := 94) (1 : Int32) dX2_takes_93 rfl (by decide) ?_
        refine ev_goto (t := 98) dX2_takes_94 (by decide) ?_
        have hst : zpst (1, ak, l, T, N, M, H, A, K, S) b = some (2, ak, b - 48, T, N, M, H, A, K, S) := by simp [zpst]; omega
        exact ev_iret dX2_takes_98 rfl (by first | rfl | exact zb_nar _ | assumption) (⟨rfl, rfl, ((zof3.rf.zu f 0 _ (by omega)).zu 3 0 _ (by omega)), by rw [hst]; rfl, fun s' hs' => by
          rw [hst] at hs'; cases hs'
          exact ⟨zu_eq, (fun q => absurd q (by omega)), by rw [zu_n (by omega), zu_eq, pk_sub (by omega)], by rw [zu_n (by omega), zu_n (by omega)]; exact r4, by rw [zu_n (by omega), zu_n (by omega)]; exact r5, by rw [zu_n (by omega), zu_n (by omega)]; exact r6, (fun q => absurd q (by omega)), (fun q => absurd q (by omega)), fun p hp => ⟨by rw [zu_n (by omega), zu_n (by omega)]; exact (r9 p hp).1, by rw [zu_n (by omega), zu_n (by omega)]; exact (r9 p hp).2.1, by rw [zu_n (by omega), zu_n (by omega)]; exact (r9 p hp).2.2.1, by rw [zu_n (by omega), zu_n (by omega)]; exact (r9 p hp).2.2.2⟩⟩⟩)
  · refine ev_swIn (off := 95) (t := 99) dX2_takes_4 (by decide) (by decide) (by decide) (by decide) ?_
    refine ev_aload_n (q := 100) dX2_takes_99 rfl rfl ?_
    refine ev_iload_n (q := 101) dX2_takes_100 rfl rfl ?_
    refine ev_bipush (q := 103) (nI 48 : Int32) dX2_takes_101 rfl (by decide) ?_
    refine ev_isub (q := 104) dX2_takes_103 rfl ?_
    refine ev_putI (q := 107) (ci := 0) (f := 1) dX2_takes_104 rfl (by first | rfl | assumption | exact zf_kd (by assumption) | exact zw_kd (by assumption) | exact zt_kd (by assumption)) (by first | decide | exact zf_lt (by assumption) | exact zf_lt1 (by assumption) | exact zf_lt2 (by assumption) | exact zf_lt3 (by assumption) | exact zf_lt4 (by assumption) | exact zw_lt (by assumption) | exact zw_lt1 (by assumption) | exact zw_lt2 (by assumption) | exact zw_lt3 (by assumption) | exact zw_lt4 (by assumption) | exact zt_lt (by assumption)) (by decide) (by decide) lfRX2_37 rfl rfl rfl rfl ?_
    refine ev_aload_n (q := 108) dX2_takes_107 rfl rfl ?_
    refine ev_iconst (q := 109) (nI 3 : Int32) dX2_takes_108 rfl (by decide) ?_
    refine ev_putI (q := 112) (ci := 2) (f := 0) dX2_takes_109 rfl (by first | rfl | assumption | exact zf_kd (by assumption) | exact zw_kd (by assumption) | exact zt_kd (by assumption)) (by first | decide | exact zf_lt (by assumption) | exact zf_lt1 (by assumption) | exact zf_lt2 (by assumption) | exact zf_lt3 (by assumption) | exact zf_lt4 (by assumption) | exact zw_lt (by assumption) | exact zw_lt1 (by assumption) | exact zw_lt2 (by assumption) | exact zw_lt3 (by assumption) | exact zw_lt4 (by assumption) | exact zt_lt (by assumption)) (by decide) (by decide) lfRX2_16 rfl rfl rfl rfl ?_
    refine ev_aload_n (q := 113) dX2_takes_112 rfl rfl ?_
    refine ev_getI (q := 116) (ci := 0) (f := 1) dX2_takes_113 rfl (by first | rfl | assumption | exact zf_kd (by assumption) | exact zw_kd (by assumption) | exact zt_kd (by assumption)) (by first | decide | exact zf_lt (by assumption) | exact zf_lt1 (by assumption) | exact zf_lt2 (by assumption) | exact zf_lt3 (by assumption) | exact zf_lt4 (by assumption) | exact zw_lt (by assumption) | exact zw_lt1 (by assumption) | exact zw_lt2 (by assumption) | exact zw_lt3 (by assumption) | exact zw_lt4 (by assumption) | exact zt_lt (by assumption)) (by decide) (by decide) lfRX2_37 rfl ?_
    refine ev_iconst (q := 117) (nI 1 : Int32) dX2_takes_116 rfl (by decide) ?_
    refine ev_icmp_lt (q := 120) (t := 132) dX2_takes_117 rfl (by decide) (fun h117 => ?_) (fun h117 => ?_)
    · rw [zu_n (by omega), zu_eq, g3] at h117
      refine ev_iconst (q := 133) (0 : Int32) dX2_takes_132 rfl (by decide) ?_
      have hst : zpst (2, ak, l, T, N, M, H, A, K, S) b = none := by simp [zpst]; omega
      exact ev_iret dX2_takes_133 rfl (by first | rfl | exact zb_nar _ | assumption) (⟨rfl, rfl, ((zof3.rf.zu f 1 _ (by omega)).zu 3 0 _ (by omega)), by rw [hst]; rfl, fun s' hs' => by rw [hst] at hs'; cases hs'⟩)
    · rw [zu_n (by omega), zu_eq, g3] at h117
      refine ev_aload_n (q := 121) dX2_takes_120 rfl rfl ?_
      refine ev_getI (q := 124) (ci := 0) (f := 1) dX2_takes_121 rfl (by first | rfl | assumption | exact zf_kd (by assumption) | exact zw_kd (by assumption) | exact zt_kd (by assumption)) (by first | decide | exact zf_lt (by assumption) | exact zf_lt1 (by assumption) | exact zf_lt2 (by assumption) | exact zf_lt3 (by assumption) | exact zf_lt4 (by assumption) | exact zw_lt (by assumption) | exact zw_lt1 (by assumption) | exact zw_lt2 (by assumption) | exact zw_lt3 (by assumption) | exact zw_lt4 (by assumption) | exact zt_lt (by assumption)) (by decide) (by decide) lfRX2_37 rfl ?_
      refine ev_iconst (q := 125) (nI 4 : Int32) dX2_takes_124 rfl (by decide) ?_
      refine ev_icmp_gt (q := 128) (t := 132) dX2_takes_125 rfl (by decide) (fun h125 => ?_) (fun h125 => ?_)
      · rw [zu_n (by omega), zu_eq, g4] at h125
        refine ev_iconst (q := 133) (0 : Int32) dX2_takes_132 rfl (by decide) ?_
        have hst : zpst (2, ak, l, T, N, M, H, A, K, S) b = none := by simp [zpst]; omega
        exact ev_iret dX2_takes_133 rfl (by first | rfl | exact zb_nar _ | assumption) (⟨rfl, rfl, ((zof3.rf.zu f 1 _ (by omega)).zu 3 0 _ (by omega)), by rw [hst]; rfl, fun s' hs' => by rw [hst] at hs'; cases hs'⟩)
      · rw [zu_n (by omega), zu_eq, g4] at h125
        refine ev_iconst (q := 129) (1 : Int32) dX2_takes_128 rfl (by decide) ?_
        refine ev_goto (t := 133) dX2_takes_129 (by decide) ?_
        have hst : zpst (2, ak, l, T, N, M, H, A, K, S) b = some (3, ak, l, b - 48, N, M, H, A, K, S) := by simp [zpst]; omega
        exact ev_iret dX2_takes_133 rfl (by first | rfl | exact zb_nar _ | assumption) (⟨rfl, rfl, ((zof3.rf.zu f 1 _ (by omega)).zu 3 0 _ (by omega)), by rw [hst]; rfl, fun s' hs' => by
          rw [hst] at hs'; cases hs'
          exact ⟨zu_eq, (fun q => absurd q (by omega)), by rw [zu_n (by omega), zu_n (by omega)]; exact r3, by rw [zu_n (by omega), zu_eq, pk_sub (by omega)], by rw [zu_n (by omega), zu_n (by omega)]; exact r5, by rw [zu_n (by omega), zu_n (by omega)]; exact r6, (fun q => absurd q (by omega)), (fun q => absurd q (by omega)), fun p hp => ⟨by rw [zu_n (by omega), zu_n (by omega)]; exact (r9 p hp).1, by rw [zu_n (by omega), zu_n (by omega)]; exact (r9 p hp).2.1, by rw [zu_n (by omega), zu_n (by omega)]; exact (r9 p hp).2.2.1, by rw [zu_n (by omega), zu_n (by omega)]; exact (r9 p hp).2.2.2⟩⟩⟩)
  · refine ev_swIn (off := 130) (t := 134) dX2_takes_4 (by decide) (by decide) (by decide) (by decide) ?_
    refine ev_aload_n (q := 135) dX2_takes_134 rfl rfl ?_
    refine ev_iload_n (q := 136) dX2_takes_135 rfl rfl ?_
    refine ev_aload_n (q := 137) dX2_takes_136 rfl rfl ?_
    refine ev_cV (q := 140) (ci := 2) dX2_takes_137 rfl okX2_takesPart lmRX2_40 imX2_takesPart seX2_takesPart (by first | rfl | assumption | exact zf_kd (by assumption) | exact zw_kd (by assumption) | exact zt_kd (by assumption)) (by first | decide | exact zf_lt (by assumption) | exact zf_lt1 (by assumption) | exact zf_lt2 (by assumption) | exact zf_lt3 (by assumption) | exact zf_lt4 (by assumption) | exact zw_lt (by assumption) | exact zw_lt1 (by assumption) | exact zw_lt2 (by assumption) | exact zw_lt3 (by assumption) | exact zw_lt4 (by assumption) | exact zt_lt (by assumption)) (by decide) rfl (c_X2_takesPart G fo I hf rfl hb ⟨c1, c2, c3, c4, c5, c6, c7, c8, c9, c10, c11, c12, c13, c14⟩ ⟨r1, r2, r3, r4, r5, r6, r7, r8, r9⟩) (by decide) rfl rfl (Nat.le_of_ble_eq_true rfl) (fun v137 n137 I137 P137 hR137 => ?_)
    obtain ⟨rfl, rfl, hof, rfl, hrel⟩ := hR137
    exact ev_iret dX2_takes_140 rfl (by first | rfl | exact zb_nar _ | assumption) (⟨rfl, rfl, hof, rfl, hrel⟩)
  · refine ev_swIn (off := 137) (t := 141) dX2_takes_4 (by decide) (by decide) (by decide) (by decide) ?_
    refine ev_aload_n (q := 142) dX2_takes_141 rfl rfl ?_
    refine ev_iload_n (q := 143) dX2_takes_142 rfl rfl ?_
    refine ev_aload_n (q := 144) dX2_takes_143 rfl rfl ?_
    refine ev_cV (q := 147) (ci := 2) dX2_takes_144 rfl okX2_takesOfPerson lmRX2_43 imX2_takesOfPerson seX2_takesOfPerson (by first | rfl | assumption | exact zf_kd (by assumption) | exact zw_kd (by assumption) | exact zt_kd (by assumption)) (by first | decide | exact zf_lt (by assumption) | exact zf_lt1 (by assumption) | exact zf_lt2 (by assumption) | exact zf_lt3 (by assumption) | exact zf_lt4 (by assumption) | exact zw_lt (by assumption) | exact zw_lt1 (by assumption) | exact zw_lt2 (by assumption) | exact zw_lt3 (by assumption) | exact zw_lt4 (by assumption) | exact zt_lt (by assumption)) (by decide) rfl (c_X2_takesOfPerson G fo I hf (by omega) hb ⟨c1, c2, c3, c4, c5, c6, c7, c8, c9, c10, c11, c12, c13, c14⟩ ⟨r1, r2, r3, r4, r5, r6, r7, r8, r9⟩) (by decide) rfl rfl (Nat.le_of_ble_eq_true rfl) (fun v144 n144 I144 P144 hR144 => ?_)
    obtain ⟨rfl, rfl, hof, rfl, hrel⟩ := hR144
    exact ev_iret dX2_takes_147 rfl (by first | rfl | exact zb_nar _ | assumption) (⟨rfl, rfl, hof, rfl, hrel⟩)
  · refine ev_swIn (off := 137) (t := 141) dX2_takes_4 (by decide) (by decide) (by decide) (by decide) ?_
    refine ev_aload_n (q := 142) dX2_takes_141 rfl rfl ?_
    refine ev_iload_n (q := 143) dX2_takes_142 rfl rfl ?_
    refine ev_aload_n (q := 144) dX2_takes_143 rfl rfl ?_
    refine ev_cV (q := 147) (ci := 2) dX2_takes_144 rfl okX2_takesOfPerson lmRX2_43 imX2_takesOfPerson seX2_takesOfPerson (by first | rfl | assumption | exact zf_kd (by assumption) | exact zw_kd (by assumption) | exact zt_kd (by assumption)) (by first | decide | exact zf_lt (by assumption) | exact zf_lt1 (by assumption) | exact zf_lt2 (by assumption) | exact zf_lt3 (by assumption) | exact zf_lt4 (by assumption) | exact zw_lt (by assumption) | exact zw_lt1 (by assumption) | exact zw_lt2 (by assumption) | exact zw_lt3 (by assumption) | exact zw_lt4 (by assumption) | exact zt_lt (by assumption)) (by decide) rfl (c_X2_takesOfPerson G fo I hf (by omega) hb ⟨c1, c2, c3, c4, c5, c6, c7, c8, c9, c10, c11, c12, c13, c14⟩ ⟨r1, r2, r3, r4, r5, r6, r7, r8, r9⟩) (by decide) rfl rfl (Nat.le_of_ble_eq_true rfl) (fun v144 n144 I144 P144 hR144 => ?_)
    obtain ⟨rfl, rfl, hof, rfl, hrel⟩ := hR144
    exact ev_iret dX2_takes_147 rfl (by first | rfl | exact zb_nar _ | assumption) (⟨rfl, rfl, hof, rfl, hrel⟩)
  · refine ev_swIn (off := 137) (t := 141) dX2_takes_4 (by decide) (by decide) (by decide) (by decide) ?_
    refine ev_aload_n (q := 142) dX2_takes_141 rfl rfl ?_
    refine ev_iload_n (q := 143) dX2_takes_142 rfl rfl ?_
    refine ev_aload_n (q := 144) dX2_takes_143 rfl rfl ?_
    refine ev_cV (q := 147) (ci := 2) dX2_takes_144 rfl okX2_takesOfPerson lmRX2_43 imX2_takesOfPerson seX2_takesOfPerson (by first | rfl | assumption | exact zf_kd (by assumption) | exact zw_kd (by assumption) | exact zt_kd (by assumption)) (by first | decide | exact zf_lt (by assumption) | exact zf_lt1 (by assumption) | exact zf_lt2 (by assumption) | exact zf_lt3 (by assumption) | exact zf_lt4 (by assumption) | exact zw_lt (by assumption) | exact zw_lt1 (by assumption) | exact zw_lt2 (by assumption) | exact zw_lt3 (by assumption) | exact zw_lt4 (by assumption) | exact zt_lt (by assumption)) (by decide) rfl (c_X2_takesOfPerson G fo I hf (by omega) hb ⟨c1, c2, c3, c4, c5, c6, c7, c8, c9, c10, c11, c12, c13, c14⟩ ⟨r1, r2, r3, r4, r5, r6, r7, r8, r9⟩) (by decide) rfl rfl (Nat.le_of_ble_eq_true rfl) (fun v144 n144 I144 P144 hR144 => ?_)
    obtain ⟨rfl, rfl, hof, rfl, hrel⟩ := hR144
    exact ev_iret dX2_takes_147 rfl (by first | rfl | exact zb_nar _ | assumption) (⟨rfl, rfl, hof, rfl, hrel⟩)
  · refine ev_swOut (t := 148) dX2_takes_4 (by decide) (by decide) ?_
    refine ev_aload_n (q := 149) dX2_takes_148 rfl rfl ?_
    refine ev_iload_n (q := 150) dX2_takes_149 rfl rfl ?_
    refine ev_bipush (q := 152) (nI 48 : Int32) dX2_takes_150 rfl (by decide) ?_
    refine ev_isub (q := 153) dX2_takes_152 rfl ?_
    refine ev_aload_n (q := 154) dX2_takes_153 rfl rfl ?_
    refine ev_cV (q := 157) (ci := 2) dX2_takes_154 rfl okX2_takesOfPair lmRX2_46 imX2_takesOfPair seX2_takesOfPair (by first | rfl | assumption | exact zf_kd (by assumption) | exact zw_kd (by assumption) | exact zt_kd (by assumption)) (by first | decide | exact zf_lt (by assumption) | exact zf_lt1 (by assumption) | exact zf_lt2 (by assumption) | exact zf_lt3 (by assumption) | exact zf_lt4 (by assumption) | exact zw_lt (by assumption) | exact zw_lt1 (by assumption) | exact zw_lt2 (by assumption) | exact zw_lt3 (by assumption) | exact zw_lt4 (by assumption) | exact zt_lt (by assumption)) (by decide) rfl (c_X2_takesOfPair G fo I hf (by omega) hb ⟨c1, c2, c3, c4, c5, c6, c7, c8, c9, c10, c11, c12, c13, c14⟩ ⟨r1, r2, r3, r4, r5, r6, r7, r8, r9⟩) (by decide) rfl rfl (Nat.le_of_ble_eq_true rfl) (fun v154 n154 I154 P154 hR154 => ?_)
    obtain ⟨rfl, rfl, hof, rfl, hrel⟩ := hR154
    exact ev_iret dX2_takes_157 rfl (by first | rfl | exact zb_nar _ | assumption) (⟨rfl, rfl, hof, rfl, hrel⟩)
  · refine ev_swOut (t := 148) dX2_takes_4 (by decide) (by decide) ?_
    refine ev_aload_n (q := 149) dX2_takes_148 rfl rfl ?_
    refine ev_iload_n (q := 150) dX2_takes_149 rfl rfl ?_
    refine ev_bipush (q := 152) (nI 48 : Int32) dX2_takes_150 rfl (by decide) ?_
    refine ev_isub (q := 153) dX2_takes_152 rfl ?_
    refine ev_aload_n (q := 154) dX2_takes_153 rfl rfl ?_
    refine ev_cV (q := 157) (ci := 2) dX2_takes_154 rfl okX2_takesOfPair lmRX2_46 imX2_takesOfPair seX2_takesOfPair (by first | rfl | assumption | exact zf_kd (by assumption) | exact zw_kd (by assumption) | exact zt_kd (by assumption)) (by first | decide | exact zf_lt (by assumption) | exact zf_lt1 (by assumption) | exact zf_lt2 (by assumption) | exact zf_lt3 (by assumption) | exact zf_lt4 (by assumption) | exact zw_lt (by assumption) | exact zw_lt1 (by assumption) | exact zw_lt2 (by assumption) | exact zw_lt3 (by assumption) | exact zw_lt4 (by assumption) | exact zt_lt (by assumption)) (by decide) rfl (c_X2_takesOfPair G fo I hf (by omega) hb ⟨c1, c2, c3, c4, c5, c6, c7, c8, c9, c10, c11, c12, c13, c14⟩ ⟨r1, r2, r3, r4, r5, r6, r7, r8, r9⟩) (by decide) rfl rfl (Nat.le_of_ble_eq_true rfl) (fun v154 n154 I154 P154 hR154 => ?_)
    obtain ⟨rfl, rfl, hof, rfl, hrel⟩ := hR154
    exact ev_iret dX2_takes_157 rfl (by first | rfl | exact zb_nar _ | assumption) (⟨rfl, rfl, hof, rfl, hrel⟩)
set_option maxHeartbeats 4000000 in
set_option maxRecDepth 100000 in
theorem c_X2_faultOf (G : zq_G) (fo : Bool) (I : zq_I) {f n : Nat} {b : Nat → Nat} (hf : zq_isF f) (hb : zpub I b n) : zq_Met G mX2_faultOf 4 0 0 [.ref 3, .ref 1, .ref f] 138 I (zPs fo) (fun v n' I' P' => n' = 138 ∧ P' = zPs fo ∧ zof3 f I I' ∧ v = some (.int (zpF b n)) ∧ ∀ s, zpR b n = some s → zRdC f I' s) := by
  refine zq_Met.of okX2_faultOf (Nat.le_of_ble_eq_true rfl) ?_
  show zq_E _ _ _ _ _ _ _ [some (.ref 3), some (.ref 1), some (.ref f), none] _ _ _ _ _
  obtain ⟨hf3, hf4⟩ := zF3 hf
  have lp11 : ∀ (k i : Nat) (I1 : zq_I) (s : zpS), n + 1 ≤ i + k → i ≤ n → zof3 f I I1 → zpR b i = some s → zRdC f I1 s → zq_E G mX2_faultOf 4 0 0 false 11 [some (.ref 3), some (.ref 1), some (.ref f), some (.int (nI i))] [] 138 I1 (zPs fo) (fun v n' I' P' => n' = 138 ∧ P' = zPs fo ∧ zof3 f I I' ∧ v = some (.int (zpF b n)) ∧ ∀ s, zpR b n = some s → zRdC f I' s) := by
    intro k
    induction k with
    | zero => intro i I1 s hk hi; exact absurd hk (by omega)
    | succ k ih =>
      intro i I1 s hk hi h0 hz hr
      obtain ⟨w, ak, l, T, N, M, H, A, K, S⟩ := s
      have hok := zpR_ok _ _ hz
      have hb1 := zpub.of hf hb h0
      have h80 := hb.1
      refine ev_iload_n (q := 12) dX2_faultOf_11 rfl rfl ?_
      refine ev_aload_n (q := 13) dX2_faultOf_12 rfl rfl ?_
      refine ev_pV (q := 16) (ci := 4) dX2_faultOf_13 rfl okX4_size lmRX2_20 imX4_size seX4_size (by first | rfl | assumption | exact zf_kd (by assumption) | exact zw_kd (by assumption) | exact zt_kd (by assumption)) (by first | decide | exact zf_lt (by assumption) | exact zf_lt1 (by assumption) | exact zf_lt2 (by assumption) | exact zf_lt3 (by assumption) | exact zf_lt4 (by assumption) | exact zw_lt (by assumption) | exact zw_lt1 (by assumption) | exact zw_lt2 (by assumption) | exact zw_lt3 (by assumption) | exact zw_lt4 (by assumption) | exact zt_lt (by assumption)) (by decide) rfl (c_X4_size G fo I1) (by decide) rfl rfl (Nat.le_of_ble_eq_true rfl) ?_
      refine ev_icmp_ge (q := 19) (t := 40) dX2_faultOf_16 rfl (by decide) (fun h16 => ?_) (fun h16 => ?_)
      · obtain rfl : i = n := by rw [hb1.2.1, nI_leI (by omega) (by omega)] at h16; omega
        refine ev_aload_n (q := 41) dX2_faultOf_40 rfl rfl ?_
        refine ev_getI (q := 44) (ci := 2) (f := 0) dX2_faultOf_41 rfl (by first | rfl | assumption | exact zf_kd (by assumption) | exact zw_kd (by assumption) | exact zt_kd (by assumption)) (by first | decide | exact zf_lt (by assumption) | exact zf_lt1 (by assumption) | exact zf_lt2 (by assumption) | exact zf_lt3 (by assumption) | exact zf_lt4 (by assumption) | exact zw_lt (by assumption) | exact zw_lt1 (by assumption) | exact zw_lt2 (by assumption) | exact zw_lt3 (by assumption) | exact zw_lt4 (by assumption) | exact zt_lt (by assumption)) (by decide) (by decide) lfRX2_16 rfl ?_
        refine ev_iconst (q := 45) (nI 3 : Int32) dX2_faultOf_44 rfl (by decide) ?_
        refine ev_icmp_ne (q := 48) (t := 53) dX2_faultOf_45 rfl (by decide) (fun h45 => ?_) (fun h45 => ?_)
        · refine ev_aload_n (q := 54) dX2_faultOf_53 rfl rfl ?_
          refine ev_pV (q := 57) (ci := 4) dX2_faultOf_54 rfl okX4_size lmRX2_20 imX4_size seX4_size (by first | rfl | assumption | exact zf_kd (by assumption) | exact zw_kd (by assumption) | exact zt_kd (by assumption)) (by first | decide | exact zf_lt (by assumption) | exact zf_lt1 (by assumption) | exact zf_lt2 (by assumption) | exact zf_lt3 (by assumption) | exact zf_lt4 (by assumption) | exact zw_lt (by assumption) | exact zw_lt1 (by assumption) | exact zw_lt2 (by assumption) | exact zw_lt3 (by assumption) | exact zw_lt4 (by assumption) | exact zt_lt (by assumption)) (by decide) rfl (c_X4_size G fo I1) (by decide) rfl rfl (Nat.le_of_ble_eq_true rfl) ?_
          have hw8 := hok.1
          exact ev_iret dX2_faultOf_57 rfl (by first | rfl | exact zb_nar _ | assumption) (⟨rfl, rfl, h0, by rw [zpF_at hz, if_neg (fun q => h45 (by rw [hr.1]; exact congrArg nI q)), (zpub.of hf hb h0).2.1], fun s hs => by rw [hz] at hs; cases hs; exact hr⟩)
        · refine ev_bipush (q := 50) ((-9) : Int32) dX2_faultOf_48 rfl (by decide) ?_
          refine ev_goto (t := 57) dX2_faultOf_50 (by decide) ?_
          have hw8 := hok.1
          exact ev_iret dX2_faultOf_57 rfl (by first | rfl | exact zb_nar _ | assumption) (⟨rfl, rfl, h0, by rw [zpF_at hz, if_pos (show w = 3 from (nI_eq (by omega) (by omega)).mp (hr.1.symm.trans h45))], fun s hs => by rw [hz] at hs; cases hs; exact hr⟩)
      · have hlt_i : i < n := by rw [hb1.2.1, nI_leI (by omega) (by omega)] at h16; omega
        refine ev_aload_n (q := 20) dX2_faultOf_19 rfl rfl ?_
        refine ev_aload_n (q := 21) dX2_faultOf_20 rfl rfl ?_
        refine ev_iload_n (q := 22) dX2_faultOf_21 rfl rfl ?_
        refine ev_pV (q := 25) (ci := 4) dX2_faultOf_22 rfl okX4_byteAt lmRX2_26 imX4_byteAt seX4_byteAt (by first | rfl | assumption | exact zf_kd (by assumption) | exact zw_kd (by assumption) | exact zt_kd (by assumption)) (by first | decide | exact zf_lt (by assumption) | exact zf_lt1 (by assumption) | exact zf_lt2 (by assumption) | exact zf_lt3 (by assumption) | exact zf_lt4 (by assumption) | exact zw_lt (by assumption) | exact zw_lt1 (by assumption) | exact zw_lt2 (by assumption) | exact zw_lt3 (by assumption) | exact zw_lt4 (by assumption) | exact zt_lt (by assumption)) (by decide) rfl (c_X4_byteAt G fo I1 hb1 hlt_i) (by decide) rfl rfl (Nat.le_of_ble_eq_true rfl) ?_
        refine ev_aload_n (q := 26) dX2_faultOf_25 rfl rfl ?_
        refine ev_cV (q := 29) (ci := 2) dX2_faultOf_26 rfl okX2_takes lmRX2_30 imX2_takes seX2_takes (by first | rfl | assumption | exact zf_kd (by assumption) | exact zw_kd (by assumption) | exact zt_kd (by assumption)) (by first | decide | exact zf_lt (by assumption) | exact zf_lt1 (by assumption) | exact zf_lt2 (by assumption) | exact zf_lt3 (by assumption) | exact zf_lt4 (by assumption) | exact zw_lt (by assumption) | exact zw_lt1 (by assumption) | exact zw_lt2 (by assumption) | exact zw_lt3 (by assumption) | exact zw_lt4 (by assumption) | exact zt_lt (by assumption)) (by decide) rfl (c_X2_takes G fo I1 hf (hb.2.2 i hlt_i).2 hok hr) (by decide) rfl rfl (Nat.le_of_ble_eq_true rfl) (fun v26 n26 I26 P26 hR26 => ?_)
        obtain ⟨rfl, rfl, hof, rfl, hrel⟩ := hR26
        refine ev_if_ne (q := 32) (t := 34) dX2_faultOf_29 rfl (by decide) (fun h29 => ?_) (fun h29 => ?_)
        · have hst := zb_ne h29
          refine ev_iincL (q := 37) (L9 := [_, _, _, _]) (1 : Int32) dX2_faultOf_34 rfl rfl (by decide) (by decide) rfl rfl ?_
          refine ev_goto (t := 11) dX2_faultOf_37 (by decide) ?_
          rw [nI_1]
          obtain ⟨s2, hs2⟩ := Option.isSome_iff_exists.mp hst
          exact ih (i + 1) _ s2 (by omega) (by omega) (h0.tr hof) (by rw [zpR_s hz]; exact hs2) (hrel s2 hs2)
        · refine ev_iload_n (q := 33) dX2_faultOf_32 rfl rfl ?_
          exact ev_iret dX2_faultOf_33 rfl (by first | rfl | exact zb_nar _ | assumption) (⟨rfl, rfl, h0.tr hof, by rw [zpF_no hz (by simpa using zb_eq h29) hlt_i], fun s hs => by rw [(zpR_no hz (by simpa using zb_eq h29) hlt_i).1] at hs; cases hs⟩)
  refine ev_aload_n (q := 1) dX2_faultOf_0 rfl rfl ?_
  refine ev_cV (q := 4) (ci := 0) dX2_faultOf_1 rfl okX0_clear lmRX2_9 imX0_clear seX0_clear (by first | rfl | assumption | exact zf_kd (by assumption) | exact zw_kd (by assumption) | exact zt_kd (by assumption)) (by first | decide | exact zf_lt (by assumption) | exact zf_lt1 (by assumption) | exact zf_lt2 (by assumption) | exact zf_lt3 (by assumption) | exact zf_lt4 (by assumption) | exact zw_lt (by assumption) | exact zw_lt1 (by assumption) | exact zw_lt2 (by assumption) | exact zw_lt3 (by assumption) | exact zw_lt4 (by assumption) | exact zt_lt (by assumption)) (by decide) rfl (c_X0_clear G fo I hf) (by decide) rfl rfl (Nat.le_of_ble_eq_true rfl) (fun v1 n1 I1 P1 hR1 => ?_)
  obtain ⟨rfl, rfl, rfl, rfl⟩ := hR1
  refine ev_aload_n (q := 5) dX2_faultOf_4 rfl rfl ?_
  refine ev_iconst (q := 6) (0 : Int32) dX2_faultOf_5 rfl (by decide) ?_
  refine ev_putI (q := 9) (ci := 2) (f := 0) dX2_faultOf_6 rfl (by first | rfl | assumption | exact zf_kd (by assumption) | exact zw_kd (by assumption) | exact zt_kd (by assumption)) (by first | decide | exact zf_lt (by assumption) | exact zf_lt1 (by assumption) | exact zf_lt2 (by assumption) | exact zf_lt3 (by assumption) | exact zf_lt4 (by assumption) | exact zw_lt (by assumption) | exact zw_lt1 (by assumption) | exact zw_lt2 (by assumption) | exact zw_lt3 (by assumption) | exact zw_lt4 (by assumption) | exact zt_lt (by assumption)) (by decide) (by decide) lfRX2_16 rfl rfl rfl rfl ?_
  refine ev_iconst (q := 10) (0 : Int32) dX2_faultOf_9 rfl (by decide) ?_
  refine ev_istore_nL (q := 11) (L9 := [_, _, _, _]) dX2_faultOf_10 rfl (by decide) rfl rfl ?_
  exact lp11 (n + 1) 0 _ zp0 (by omega) (by omega) (((((zof3.rf.zu f 0 _ (by omega)).zu f 1 _ (by omega)).zu f 2 _ (by omega)).zu f 3 _ (by omega)).zu 3 0 _ (by omega)) rfl ⟨zu_eq, (fun q => absurd q (by omega)), by rw [zu_n (by omega), zu_n (by omega), zu_n (by omega), zu_n (by omega), zu_eq]; rfl, by rw [zu_n (by omega), zu_n (by omega), zu_n (by omega), zu_eq]; rfl, by rw [zu_n (by omega), zu_n (by omega), zu_eq]; rfl, by rw [zu_n (by omega), zu_eq]; rfl, (fun q => absurd q (by omega)), (fun q => absurd q (by omega)), fun p hp => absurd hp (by omega)⟩
