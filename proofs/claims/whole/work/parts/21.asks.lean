theorem zA_8 : ∀ a, a < 256 → ∀ j, j < 8 → nI a &&& zsh j = if zhas (nI a) j = true then zsh j else 0 := by decide +kernel
theorem i32_and_or (a b c : Int32) : a &&& (b ||| c) = (a &&& b) ||| (a &&& c) := by
  apply Int32.toBitVec_inj.mp
  simp [Int32.toBitVec_and, Int32.toBitVec_or, BitVec.and_or_distrib_left]
theorem i32_and_0 (a : Int32) : a &&& 0 = 0 := by
  apply Int32.toBitVec_inj.mp
  simp
theorem i32_or_0 (a : Int32) : a ||| 0 = a := by
  apply Int32.toBitVec_inj.mp
  simp
theorem zor_none {f : Nat → Int32} {c : Nat → Bool} {n : Nat} (h : ∀ i, i < n → c i = false) : zor f c n = 0 := by
  induction n with
  | zero => rfl
  | succ n ih => rw [zor, if_neg (by rw [h n (by omega)]; decide), ih (fun i hi => h i (by omega))]
theorem zand_bits {a : Nat} (ha : a < 256) (c : Nat → Bool) : ∀ n, n ≤ 8 → nI a &&& zbits c n = zbits (fun j => zhas (nI a) j && c j) n := by
  intro n
  induction n with
  | zero => intro _; exact i32_and_0 _
  | succ n ih =>
    intro hn
    have h1 := ih (by omega)
    unfold zbits at h1 ⊢
    simp only [zor]
    by_cases hc : c n = true
    · by_cases hh : zhas (nI a) n = true
      · simp only [hc, hh, Bool.and_self, if_true, i32_and_or, h1, zA_8 a ha n (by omega)]
      · simp only [hc, hh, Bool.and_true, if_true, i32_and_or, h1, zA_8 a ha n (by omega), i32_or_0]
        simp
    · have hc' : c n = false := by simpa using hc
      simpa [hc'] using h1
theorem zS.askR {fo : Bool} {N T Y p : Nat} {I : zq_I} (h : zS fo N T Y I) (hp : p < N) : ∃ a, a < 256 ∧ vA (zV I) p = nI a := by
  obtain ⟨-, -, -, ⟨a, ha, -, ea⟩, -⟩ := h.2.2.2.2.2.1 p hp
  have h8 := h.n8
  have h2 : 2 ^ N ≤ 2 ^ 8 := Nat.pow_le_pow_right (by omega) h8
  exact ⟨a, by omega, ea⟩
theorem zMs_eq {fo : Bool} {N T Y i : Nat} {I : zq_I} (h : zS fo N T Y I) (hi : i < N) (y : Int32) : (if zTh (zV I) i = true then vA (zV I) i &&& zRb (zV I) N i y else 0) = zMs (zV I) N i y := by
  obtain ⟨a, ha, ea⟩ := h.askR hi
  unfold zMs
  split
  · rename_i ht
    unfold zRb
    rw [ea, zand_bits ha _ N h.n8]
    refine zor_congr (fun j hj => ?_) (fun _ _ _ => rfl)
    rw [ht]
    have : (vH (zV I) j == vH (zV I) i) = (vH (zV I) i == vH (zV I) j) := by rw [Bool.eq_iff_iff]; simp; exact eq_comm
    rw [this]
    simp [Bool.and_assoc]
  · rename_i ht
    exact (zor_none (fun j hj => by simp [ht])).symm
def zany (c : Nat → Bool) : Nat → Bool
  | 0 => false
  | n + 1 => zany c n || c n
set_option maxHeartbeats 4000000 in
set_option maxRecDepth 100000 in
theorem c_X7_aliveBits (G : zq_G) (fo : Bool) (I : zq_I) {N T Y : Nat} (hs : zS fo N T Y I)  : zq_Met G mX7_aliveBits 1 0 0 [.ref 0] 138 I (zPs fo) (zq_pu (some (.int (zbits (fun i => zAl (zV I) i) N))) 138 I (zPs fo)) := by
  refine zq_Met.of okX7_aliveBits (Nat.le_of_ble_eq_true rfl) ?_
  show zq_E _ _ _ _ _ _ _ [some (.ref 0), none, none] _ _ _ _ _
  have hN8 := hs.n8
  have hN := hs.ppl
  have hfF := zF_is fo
  have lp4 : ∀ (k i : Nat) (b : Int32), N + 1 ≤ i + k → i ≤ N → b = zor (zsh) (fun i => zAl (zV I) i) i → zq_E G mX7_aliveBits 1 0 0 false 4 [some (.ref 0), some (.int (b)), some (.int (nI i))] [] 138 I (zPs fo) (zq_pu (some (.int (zbits (fun i => zAl (zV I) i) N))) 138 I (zPs fo)) := by
    intro k
    induction k with
    | zero => intro i b hk hi; exact absurd hk (by omega)
    | succ k ih =>
      intro i b hk hi hb
      refine ev_iload_n (q := 5) dX7_aliveBits_4 rfl rfl ?_
      refine ev_aload_n (q := 6) dX7_aliveBits_5 rfl rfl ?_
      refine ev_getR (q := 9) (ci := 7) (f := 9) dX7_aliveBits_6 rfl (by first | rfl | assumption | exact zf_kd (by assumption) | exact zw_kd (by assumption) | exact zt_kd (by assumption)) (by first | decide | exact zf_lt (by assumption) | exact zf_lt1 (by assumption) | exact zf_lt2 (by assumption) | exact zf_lt3 (by assumption) | exact zf_lt4 (by assumption) | exact zw_lt (by assumption) | exact zw_lt1 (by assumption) | exact zw_lt2 (by assumption) | exact zw_lt3 (by assumption) | exact zw_lt4 (by assumption) | exact zt_lt (by assumption)) (by decide) (by decide) lfRX7_66 rfl (by first | rfl | assumption | exact zf_p4 _ (by assumption) | exact zf_p5 _ (by assumption) | exact zf_p6 _ (by assumption) | exact zf_p7 _ (by assumption) | exact zw_p1 _ (by assumption) | exact zw_p2 _ (by assumption) | exact zw_p3 _ (by assumption) | exact zw_p4 _ (by assumption)) ?_
      refine ev_getI (q := 12) (ci := 0) (f := 2) dX7_aliveBits_9 rfl (by first | rfl | assumption | exact zf_kd (by assumption) | exact zw_kd (by assumption) | exact zt_kd (by assumption)) (by first | decide | exact zf_lt (by assumption) | exact zf_lt1 (by assumption) | exact zf_lt2 (by assumption) | exact zf_lt3 (by assumption) | exact zf_lt4 (by assumption) | exact zw_lt (by assumption) | exact zw_lt1 (by assumption) | exact zw_lt2 (by assumption) | exact zw_lt3 (by assumption) | exact zw_lt4 (by assumption) | exact zt_lt (by assumption)) (by decide) (by decide) lfRX7_93 rfl ?_
      refine ev_icmp_ge (q := 15) (t := 38) dX7_aliveBits_12 rfl (by decide) (fun h12 => ?_) (fun h12 => ?_)
      · obtain rfl : i = N := by rw [hN, nI_leI (by omega) (by omega)] at h12; omega
        refine ev_iload_n (q := 39) dX7_aliveBits_38 rfl rfl ?_
        exact ev_iret dX7_aliveBits_39 rfl (by first | rfl | exact zb_nar _ | assumption) (⟨by subst hb; rfl, rfl, rfl, rfl⟩)
      · have hlt_i : i < N := by rw [hN, nI_leI (by omega) (by omega)] at h12; omega
        refine ev_aload_n (q := 16) dX7_aliveBits_15 rfl rfl ?_
        refine ev_getR (q := 19) (ci := 7) (f := 5) dX7_aliveBits_16 rfl (by first | rfl | assumption | exact zf_kd (by assumption) | exact zw_kd (by assumption) | exact zt_kd (by assumption)) (by first | decide | exact zf_lt (by assumption) | exact zf_lt1 (by assumption) | exact zf_lt2 (by assumption) | exact zf_lt3 (by assumption) | exact zf_lt4 (by assumption) | exact zw_lt (by assumption) | exact zw_lt1 (by assumption) | exact zw_lt2 (by assumption) | exact zw_lt3 (by assumption) | exact zw_lt4 (by assumption) | exact zt_lt (by assumption)) (by decide) (by decide) lfRX7_47 rfl (by first | rfl | assumption | exact zf_p4 _ (by assumption) | exact zf_p5 _ (by assumption) | exact zf_p6 _ (by assumption) | exact zf_p7 _ (by assumption) | exact zw_p1 _ (by assumption) | exact zw_p2 _ (by assumption) | exact zw_p3 _ (by assumption) | exact zw_p4 _ (by assumption)) ?_
        refine ev_iload_n (q := 20) dX7_aliveBits_19 rfl rfl ?_
        refine ev_pV (q := 23) (ci := 6) dX7_aliveBits_20 rfl okX6_isAlive lmRX7_167 imX6_isAlive seX6_isAlive (by first | rfl | assumption | exact zf_kd (by assumption) | exact zw_kd (by assumption) | exact zt_kd (by assumption)) (by first | decide | exact zf_lt (by assumption) | exact zf_lt1 (by assumption) | exact zf_lt2 (by assumption) | exact zf_lt3 (by assumption) | exact zf_lt4 (by assumption) | exact zw_lt (by assumption) | exact zw_lt1 (by assumption) | exact zw_lt2 (by assumption) | exact zw_lt3 (by assumption) | exact zw_lt4 (by assumption) | exact zt_lt (by assumption)) (by decide) rfl (c_X6_isAlive G fo I zW_now (by omega)) (by decide) rfl rfl (Nat.le_of_ble_eq_true rfl) ?_
        refine ev_if_eq (q := 26) (t := 32) dX7_aliveBits_23 rfl (by decide) (fun h23 => ?_) (fun h23 => ?_)
        · simp only [zb_0, Nat.reduceAdd] at h23
          refine ev_iincL (q := 35) (L9 := [_, _, _]) (1 : Int32) dX7_aliveBits_32 rfl rfl (by decide) (by decide) rfl rfl ?_
          refine ev_goto (t := 4) dX7_aliveBits_35 (by decide) ?_
          rw [nI_1]
          exact ih (i + 1) _ (by omega) (by omega) (by first | exact zor_s hb (by simp [zAl, ← hs.die hlt_i, h12, h23]) | exact zor_n hb (by simp [zAl, ← hs.die hlt_i, h12, h23]))
        · simp only [zb_0, Nat.reduceAdd] at h23
          refine ev_iload_n (q := 27) dX7_aliveBits_26 rfl rfl ?_
          refine ev_iconst (q := 28) (1 : Int32) dX7_aliveBits_27 rfl (by decide) ?_
          refine ev_iload_n (q := 29) dX7_aliveBits_28 rfl rfl ?_
          refine ev_ishl (q := 30) dX7_aliveBits_29 rfl ?_
          refine ev_ior (q := 31) dX7_aliveBits_30 rfl ?_
          refine ev_istore_nL (q := 32) (L9 := [_, _, _]) dX7_aliveBits_31 rfl (by decide) rfl rfl ?_
          refine ev_iincL (q := 35) (L9 := [_, _, _]) (1 : Int32) dX7_aliveBits_32 rfl rfl (by decide) (by decide) rfl rfl ?_
          refine ev_goto (t := 4) dX7_aliveBits_35 (by decide) ?_
          rw [nI_1]
          exact ih (i + 1) _ (by omega) (by omega) (by first | exact zor_s hb (by simp [zAl, ← hs.die hlt_i, h12, h23]) | exact zor_n hb (by simp [zAl, ← hs.die hlt_i, h12, h23]))
  refine ev_iconst (q := 1) (0 : Int32) dX7_aliveBits_0 rfl (by decide) ?_
  refine ev_istore_nL (q := 2) (L9 := [_, _, _]) dX7_aliveBits_1 rfl (by decide) rfl rfl ?_
  refine ev_iconst (q := 3) (0 : Int32) dX7_aliveBits_2 rfl (by decide) ?_
  refine ev_istore_nL (q := 4) (L9 := [_, _, _]) dX7_aliveBits_3 rfl (by decide) rfl rfl ?_
  exact lp4 (N + 1) 0 0 (by omega) (by omega) rfl
set_option maxHeartbeats 4000000 in
set_option maxRecDepth 100000 in
theorem c_X7_trulyIn (G : zq_G) (fo : Bool) (I : zq_I) {N T Y : Nat} (hs : zS fo N T Y I) (x : Int32) : zq_Met G mX7_trulyIn 1 0 0 [.ref 0, .int x] 138 I (zPs fo) (zq_pu (some (.int (zsum (fun _ => 1) (fun i => zAl (zV I) i && (vW (zV I) i == x)) N))) 138 I (zPs fo)) := by
  refine zq_Met.of okX7_trulyIn (Nat.le_of_ble_eq_true rfl) ?_
  show zq_E _ _ _ _ _ _ _ [some (.ref 0), some (.int x), none, none] _ _ _ _ _
  have hN8 := hs.n8
  have hN := hs.ppl
  have hfF := zF_is fo
  have lp4 : ∀ (k i : Nat) (b : Int32), N + 1 ≤ i + k → i ≤ N → b = zsum (fun _ => 1) (fun i => zAl (zV I) i && (vW (zV I) i == x)) i → zq_E G mX7_trulyIn 1 0 0 false 4 [some (.ref 0), some (.int x), some (.int b), some (.int (nI i))] [] 138 I (zPs fo) (zq_pu (some (.int (zsum (fun _ => 1) (fun i => zAl (zV I) i && (vW (zV I) i == x)) N))) 138 I (zPs fo)) := by
    intro k
    induction k with
    | zero => intro i b hk hi; exact absurd hk (by omega)
    | succ k ih =>
      intro i b hk hi hb
      refine ev_iload_n (q := 5) dX7_trulyIn_4 rfl rfl ?_
      refine ev_aload_n (q := 6) dX7_trulyIn_5 rfl rfl ?_
      refine ev_getR (q := 9) (ci := 7) (f := 9) dX7_trulyIn_6 rfl (by first | rfl | assumption | exact zf_kd (by assumption) | exact zw_kd (by assumption) | exact zt_kd (by assumption)) (by first | decide | exact zf_lt (by assumption) | exact zf_lt1 (by assumption) | exact zf_lt2 (by assumption) | exact zf_lt3 (by assumption) | exact zf_lt4 (by assumption) | exact zw_lt (by assumption) | exact zw_lt1 (by assumption) | exact zw_lt2 (by assumption) | exact zw_lt3 (by assumption) | exact zw_lt4 (by assumption) | exact zt_lt (by assumption)) (by decide) (by decide) lfRX7_66 rfl (by first | rfl | assumption | exact zf_p4 _ (by assumption) | exact zf_p5 _ (by assumption) | exact zf_p6 _ (by assumption) | exact zf_p7 _ (by assumption) | exact zw_p1 _ (by assumption) | exact zw_p2 _ (by assumption) | exact zw_p3 _ (by assumption) | exact zw_p4 _ (by assumption)) ?_
      refine ev_getI (q := 12) (ci := 0) (f := 2) dX7_trulyIn_9 rfl (by first | rfl | assumption | exact zf_kd (by assumption) | exact zw_kd (by assumption) | exact zt_kd (by assumption)) (by first | decide | exact zf_lt (by assumption) | exact zf_lt1 (by assumption) | exact zf_lt2 (by assumption) | exact zf_lt3 (by assumption) | exact zf_lt4 (by assumption) | exact zw_lt (by assumption) | exact zw_lt1 (by assumption) | exact zw_lt2 (by assumption) | exact zw_lt3 (by assumption) | exact zw_lt4 (by assumption) | exact zt_lt (by assumption)) (by decide) (by decide) lfRX7_93 rfl ?_
      refine ev_icmp_ge (q := 15) (t := 48) dX7_trulyIn_12 rfl (by decide) (fun h12 => ?_) (fun h12 => ?_)
      · obtain rfl : i = N := by rw [hN, nI_leI (by omega) (by omega)] at h12; omega
        refine ev_iload_n (q := 49) dX7_trulyIn_48 rfl rfl ?_
        exact ev_iret dX7_trulyIn_49 rfl (by first | rfl | exact zb_nar _ | assumption) (⟨by subst hb; rfl, rfl, rfl, rfl⟩)
      · have hlt_i : i < N := by rw [hN, nI_leI (by omega) (by omega)] at h12; omega
        refine ev_aload_n (q := 16) dX7_trulyIn_15 rfl rfl ?_
        refine ev_getR (q := 19) (ci := 7) (f := 5) dX7_trulyIn_16 rfl (by first | rfl | assumption | exact zf_kd (by assumption) | exact zw_kd (by assumption) | exact zt_kd (by assumption)) (by first | decide | exact zf_lt (by assumption) | exact zf_lt1 (by assumption) | exact zf_lt2 (by assumption) | exact zf_lt3 (by assumption) | exact zf_lt4 (by assumption) | exact zw_lt (by assumption) | exact zw_lt1 (by assumption) | exact zw_lt2 (by assumption) | exact zw_lt3 (by assumption) | exact zw_lt4 (by assumption) | exact zt_lt (by assumption)) (by decide) (by decide) lfRX7_47 rfl (by first | rfl | assumption | exact zf_p4 _ (by assumption) | exact zf_p5 _ (by assumption) | exact zf_p6 _ (by assumption) | exact zf_p7 _ (by assumption) | exact zw_p1 _ (by assumption) | exact zw_p2 _ (by assumption) | exact zw_p3 _ (by assumption) | exact zw_p4 _ (by assumption)) ?_
        refine ev_iload_n (q := 20) dX7_trulyIn_19 rfl rfl ?_
        refine ev_pV (q := 23) (ci := 6) dX7_trulyIn_20 rfl okX6_isAlive lmRX7_167 imX6_isAlive seX6_isAlive (by first | rfl | assumption | exact zf_kd (by assumption) | exact zw_kd (by assumption) | exact zt_kd (by assumption)) (by first | decide | exact zf_lt (by assumption) | exact zf_lt1 (by assumption) | exact zf_lt2 (by assumption) | exact zf_lt3 (by assumption) | exact zf_lt4 (by assumption) | exact zw_lt (by assumption) | exact zw_lt1 (by assumption) | exact zw_lt2 (by assumption) | exact zw_lt3 (by assumption) | exact zw_lt4 (by assumption) | exact zt_lt (by assumption)) (by decide) rfl (c_X6_isAlive G fo I zW_now (by omega)) (by decide) rfl rfl (Nat.le_of_ble_eq_true rfl) ?_
        refine ev_if_eq (q := 26) (t := 42) dX7_trulyIn_23 rfl (by decide) (fun h23 => ?_) (fun h23 => ?_)
        · simp only [zb_0, Nat.reduceAdd] at h23
          refine ev_iincL (q := 45) (L9 := [_, _, _, _]) (1 : Int32) dX7_trulyIn_42 rfl rfl (by decide) (by decide) rfl rfl ?_
          refine ev_goto (t := 4) dX7_trulyIn_45 (by decide) ?_
          rw [nI_1]
          exact ih (i + 1) _ (by omega) (by omega) (by first | exact zsum_s (f := fun _ => 1) hb (by simp [zAl, ← hs.die hlt_i, ← hs.whe hlt_i, h12, h23]) | exact zsum_n hb (by simp [zAl, ← hs.die hlt_i, ← hs.whe hlt_i, h12, h23]))
        · simp only [zb_0, Nat.reduceAdd] at h23
          refine ev_aload_n (q := 27) dX7_trulyIn_26 rfl rfl ?_
          refine ev_getR (q := 30) (ci := 7) (f := 5) dX7_trulyIn_27 rfl (by first | rfl | assumption | exact zf_kd (by assumption) | exact zw_kd (by assumption) | exact zt_kd (by assumption)) (by first | decide | exact zf_lt (by assumption) | exact zf_lt1 (by assumption) | exact zf_lt2 (by assumption) | exact zf_lt3 (by assumption) | exact zf_lt4 (by assumption) | exact zw_lt (by assumption) | exact zw_lt1 (by assumption) | exact zw_lt2 (by assumption) | exact zw_lt3 (by assumption) | exact zw_lt4 (by assumption) | exact zt_lt (by assumption)) (by decide) (by decide) lfRX7_47 rfl (by first | rfl | assumption | exact zf_p4 _ (by assumption) | exact zf_p5 _ (by assumption) | exact zf_p6 _ (by assumption) | exact zf_p7 _ (by assumption) | exact zw_p1 _ (by assumption) | exact zw_p2 _ (by assumption) | exact zw_p3 _ (by assumption) | exact zw_p4 _ (by assumption)) ?_
          refine ev_getR (q := 33) (ci := 6) (f := 1) dX7_trulyIn_30 rfl (by first | rfl | assumption | exact zf_kd (by assumption) | exact zw_kd (by assumption) | exact zt_kd (by assumption)) (by first | decide | exact zf_lt (by assumption) | exact zf_lt1 (by assumption) | exact zf_lt2 (by assumption) | exact zf_lt3 (by assumption) | exact zf_lt4 (by assumption) | exact zw_lt (by assumption) | exact zw_lt1 (by assumption) | exact zw_lt2 (by assumption) | exact zw_lt3 (by assumption) | exact zw_lt4 (by assumption) | exact zt_lt (by assumption)) (by decide) (by decide) lfRX7_133 rfl (by first | rfl | assumption | exact zf_p4 _ (by assumption) | exact zf_p5 _ (by assumption) | exact zf_p6 _ (by assumption) | exact zf_p7 _ (by assumption) | exact zw_p1 _ (by assumption) | exact zw_p2 _ (by assumption) | exact zw_p3 _ (by assumption) | exact zw_p4 _ (by assumption)) ?_
          refine ev_iload_n (q := 34) dX7_trulyIn_33 rfl rfl ?_
          refine ev_ialdN (q := 35) dX7_trulyIn_34 rfl (by first | rfl | assumption | exact zf_kd1 (by assumption) | exact zf_kd2 (by assumption) | exact zf_kd3 (by assumption) | exact zf_kd4 (by assumption) | exact zw_kd1 (by assumption) | exact zw_kd2 (by assumption) | exact zw_kd3 (by assumption) | exact zw_kd4 (by assumption)) (by first | decide | exact zf_lt (by assumption) | exact zf_lt1 (by assumption) | exact zf_lt2 (by assumption) | exact zf_lt3 (by assumption) | exact zf_lt4 (by assumption) | exact zw_lt (by assumption) | exact zw_lt1 (by assumption) | exact zw_lt2 (by assumption) | exact zw_lt3 (by assumption) | exact zw_lt4 (by assumption) | exact zt_lt (by assumption)) (by first | omega | assumption) ?_
          refine ev_iload_n (q := 36) dX7_trulyIn_35 rfl rfl ?_
          refine ev_icmp_ne (q := 39) (t := 42) dX7_trulyIn_36 rfl (by decide) (fun h36 => ?_) (fun h36 => ?_)
          · refine ev_iincL (q := 45) (L9 := [_, _, _, _]) (1 : Int32) dX7_trulyIn_42 rfl rfl (by decide) (by decide) rfl rfl ?_
            refine ev_goto (t := 4) dX7_trulyIn_45 (by decide) ?_
            rw [nI_1]
            exact ih (i + 1) _ (by omega) (by omega) (by first | exact zsum_s (f := fun _ => 1) hb (by simp [zAl, ← hs.die hlt_i, ← hs.whe hlt_i, h12, h23, h36]) | exact zsum_n hb (by simp [zAl, ← hs.die hlt_i, ← hs.whe hlt_i, h12, h23, h36]))
          · refine ev_iincL (q := 42) (L9 := [_, _, _, _]) (1 : Int32) dX7_trulyIn_39 rfl rfl (by decide) (by decide) rfl rfl ?_
            refine ev_iincL (q := 45) (L9 := [_, _, _, _]) (1 : Int32) dX7_trulyIn_42 rfl rfl (by decide) (by decide) rfl rfl ?_
            refine ev_goto (t := 4) dX7_trulyIn_45 (by decide) ?_
            rw [nI_1]
            exact ih (i + 1) _ (by omega) (by omega) (by first | exact zsum_s (f := fun _ => 1) hb (by simp [zAl, ← hs.die hlt_i, ← hs.whe hlt_i, h12, h23, h36]) | exact zsum_n hb (by simp [zAl, ← hs.die hlt_i, ← hs.whe hlt_i, h12, h23, h36]))
  refine ev_iconst (q := 1) (0 : Int32) dX7_trulyIn_0 rfl (by decide) ?_
  refine ev_istore_nL (q := 2) (L9 := [_, _, _, _]) dX7_trulyIn_1 rfl (by decide) rfl rfl ?_
  refine ev_iconst (q := 3) (0 : Int32) dX7_trulyIn_2 rfl (by decide) ?_
  refine ev_istore_nL (q := 4) (L9 := [_, _, _, _]) dX7_trulyIn_3 rfl (by decide) rfl rfl ?_
  exact lp4 (N + 1) 0 0 (by omega) (by omega) rfl
set_option maxHeartbeats 4000000 in
set_option maxRecDepth 100000 in
theorem c_X7_atHomeIn (G : zq_G) (fo : Bool) (I : zq_I) {N T Y : Nat} (hs : zS fo N T Y I) (x : Int32) : zq_Met G mX7_atHomeIn 2 0 0 [.ref 0, .int x] 138 I (zPs fo) (zq_pu (some (.int (zbits (fun i => (vH (zV I) i == x) && zTh (zV I) i) N))) 138 I (zPs fo)) := by
  refine zq_Met.of okX7_atHomeIn (Nat.le_of_ble_eq_true rfl) ?_
  show zq_E _ _ _ _ _ _ _ [some (.ref 0), some (.int x), none, none] _ _ _ _ _
  have hN8 := hs.n8
  have hN := hs.ppl
  have hfF := zF_is fo
  have lp4 : ∀ (k i : Nat) (b : Int32), N + 1 ≤ i + k → i ≤ N → b = zor (zsh) (fun i => (vH (zV I) i == x) && zTh (zV I) i) i → zq_E G mX7_atHomeIn 2 0 0 false 4 [some (.ref 0), some (.int x), some (.int b), some (.int (nI i))] [] 138 I (zPs fo) (zq_pu (some (.int (zbits (fun i => (vH (zV I) i == x) && zTh (zV I) i) N))) 138 I (zPs fo)) := by
    intro k
    induction k with
    | zero => intro i b hk hi; exact absurd hk (by omega)
    | succ k ih =>
      intro i b hk hi hb
      refine ev_iload_n (q := 5) dX7_atHomeIn_4 rfl rfl ?_
      refine ev_aload_n (q := 6) dX7_atHomeIn_5 rfl rfl ?_
      refine ev_getR (q := 9) (ci := 7) (f := 9) dX7_atHomeIn_6 rfl (by first | rfl | assumption | exact zf_kd (by assumption) | exact zw_kd (by assumption) | exact zt_kd (by assumption)) (by first | decide | exact zf_lt (by assumption) | exact zf_lt1 (by assumption) | exact zf_lt2 (by assumption) | exact zf_lt3 (by assumption) | exact zf_lt4 (by assumption) | exact zw_lt (by assumption) | exact zw_lt1 (by assumption) | exact zw_lt2 (by assumption) | exact zw_lt3 (by assumption) | exact zw_lt4 (by assumption) | exact zt_lt (by assumption)) (by decide) (by decide) lfRX7_66 rfl (by first | rfl | assumption | exact zf_p4 _ (by assumption) | exact zf_p5 _ (by assumption) | exact zf_p6 _ (by assumption) | exact zf_p7 _ (by assumption) | exact zw_p1 _ (by assumption) | exact zw_p2 _ (by assumption) | exact zw_p3 _ (by assumption) | exact zw_p4 _ (by assumption)) ?_
      refine ev_getI (q := 12) (ci := 0) (f := 2) dX7_atHomeIn_9 rfl (by first | rfl | assumption | exact zf_kd (by assumption) | exact zw_kd (by assumption) | exact zt_kd (by assumption)) (by first | decide | exact zf_lt (by assumption) | exact zf_lt1 (by assumption) | exact zf_lt2 (by assumption) | exact zf_lt3 (by assumption) | exact zf_lt4 (by assumption) | exact zw_lt (by assumption) | exact zw_lt1 (by assumption) | exact zw_lt2 (by assumption) | exact zw_lt3 (by assumption) | exact zw_lt4 (by assumption) | exact zt_lt (by assumption)) (by decide) (by decide) lfRX7_93 rfl ?_
      refine ev_icmp_ge (q := 15) (t := 48) dX7_atHomeIn_12 rfl (by decide) (fun h12 => ?_) (fun h12 => ?_)
      · obtain rfl : i = N := by rw [hN, nI_leI (by omega) (by omega)] at h12; omega
        refine ev_iload_n (q := 49) dX7_atHomeIn_48 rfl rfl ?_
        exact ev_iret dX7_atHomeIn_49 rfl (by first | rfl | exact zb_nar _ | assumption) (⟨by subst hb; rfl, rfl, rfl, rfl⟩)
      · have hlt_i : i < N := by rw [hN, nI_leI (by omega) (by omega)] at h12; omega
        refine ev_aload_n (q := 16) dX7_atHomeIn_15 rfl rfl ?_
        refine ev_getR (q := 19) (ci := 7) (f := 9) dX7_atHomeIn_16 rfl (by first | rfl | assumption | exact zf_kd (by assumption) | exact zw_kd (by assumption) | exact zt_kd (by assumption)) (by first | decide | exact zf_lt (by assumption) | exact zf_lt1 (by assumption) | exact zf_lt2 (by assumption) | exact zf_lt3 (by assumption) | exact zf_lt4 (by assumption) | exact zw_lt (by assumption) | exact zw_lt1 (by assumption) | exact zw_lt2 (by assumption) | exact zw_lt3 (by assumption) | exact zw_lt4 (by assumption) | exact zt_lt (by assumption)) (by decide) (by decide) lfRX7_66 rfl (by first | rfl | assumption | exact zf_p4 _ (by assumption) | exact zf_p5 _ (by assumption) | exact zf_p6 _ (by assumption) | exact zf_p7 _ (by assumption) | exact zw_p1 _ (by assumption) | exact zw_p2 _ (by assumption) | exact zw_p3 _ (by assumption) | exact zw_p4 _ (by assumption)) ?_
        refine ev_getR (q := 22) (ci := 0) (f := 4) dX7_atHomeIn_19 rfl (by first | rfl | assumption | exact zf_kd (by assumption) | exact zw_kd (by assumption) | exact zt_kd (by assumption)) (by first | decide | exact zf_lt (by assumption) | exact zf_lt1 (by assumption) | exact zf_lt2 (by assumption) | exact zf_lt3 (by assumption) | exact zf_lt4 (by assumption) | exact zw_lt (by assumption) | exact zw_lt1 (by assumption) | exact zw_lt2 (by assumption) | exact zw_lt3 (by assumption) | exact zw_lt4 (by assumption) | exact zt_lt (by assumption)) (by decide) (by decide) lfRX7_124 rfl (by first | rfl | assumption | exact zf_p4 _ (by assumption) | exact zf_p5 _ (by assumption) | exact zf_p6 _ (by assumption) | exact zf_p7 _ (by assumption) | exact zw_p1 _ (by assumption) | exact zw_p2 _ (by assumption) | exact zw_p3 _ (by assumption) | exact zw_p4 _ (by assumption)) ?_
        refine ev_iload_n (q := 23) dX7_atHomeIn_22 rfl rfl ?_
        refine ev_ialdN (q := 24) dX7_atHomeIn_23 rfl (by first | rfl | assumption | exact zf_kd1 (by assumption) | exact zf_kd2 (by assumption) | exact zf_kd3 (by assumption) | exact zf_kd4 (by assumption) | exact zw_kd1 (by assumption) | exact zw_kd2 (by assumption) | exact zw_kd3 (by assumption) | exact zw_kd4 (by assumption)) (by first | decide | exact zf_lt (by assumption) | exact zf_lt1 (by assumption) | exact zf_lt2 (by assumption) | exact zf_lt3 (by assumption) | exact zf_lt4 (by assumption) | exact zw_lt (by assumption) | exact zw_lt1 (by assumption) | exact zw_lt2 (by assumption) | exact zw_lt3 (by assumption) | exact zw_lt4 (by assumption) | exact zt_lt (by assumption)) (by first | omega | assumption) ?_
        refine ev_iload_n (q := 25) dX7_atHomeIn_24 rfl rfl ?_
        refine ev_icmp_ne (q := 28) (t := 42) dX7_atHomeIn_25 rfl (by decide) (fun h25 => ?_) (fun h25 => ?_)
        · refine ev_iincL (q := 45) (L9 := [_, _, _, _]) (1 : Int32) dX7_atHomeIn_42 rfl rfl (by decide) (by decide) rfl rfl ?_
          refine ev_goto (t := 4) dX7_atHomeIn_45 (by decide) ?_
          rw [nI_1]
          exact ih (i + 1) _ (by omega) (by omega) (by first | exact zor_s hb (by simp [← hs.hom hlt_i, h12, h25]) | exact zor_n hb (by simp [← hs.hom hlt_i, h12, h25]))
        · refine ev_aload_n (q := 29) dX7_atHomeIn_28 rfl rfl ?_
          refine ev_iload_n (q := 30) dX7_atHomeIn_29 rfl rfl ?_
          refine ev_pV (q := 33) (ci := 7) dX7_atHomeIn_30 rfl okX7_isAtHome lmRX7_253 imX7_isAtHome seX7_isAtHome (by first | rfl | assumption | exact zf_kd (by assumption) | exact zw_kd (by assumption) | exact zt_kd (by assumption)) (by first | decide | exact zf_lt (by assumption) | exact zf_lt1 (by assumption) | exact zf_lt2 (by assumption) | exact zf_lt3 (by assumption) | exact zf_lt4 (by assumption) | exact zw_lt (by assumption) | exact zw_lt1 (by assumption) | exact zw_lt2 (by assumption) | exact zw_lt3 (by assumption) | exact zw_lt4 (by assumption) | exact zt_lt (by assumption)) (by decide) rfl (c_X7_isAtHome G fo I hs hlt_i) (by decide) rfl rfl (Nat.le_of_ble_eq_true rfl) ?_
          refine ev_if_eq (q := 36) (t := 42) dX7_atHomeIn_33 rfl (by decide) (fun h33 => ?_) (fun h33 => ?_)
          · simp only [zb_0, Nat.reduceAdd] at h33
            refine ev_iincL (q := 45) (L9 := [_, _, _, _]) (1 : Int32) dX7_atHomeIn_42 rfl rfl (by decide) (by decide) rfl rfl ?_
            refine ev_goto (t := 4) dX7_atHomeIn_45 (by decide) ?_
            rw [nI_1]
            exact ih (i + 1) _ (by omega) (by omega) (by first | exact zor_s hb (by simp [← hs.hom hlt_i, h12, h25, h33]) | exact zor_n hb (by simp [← hs.hom hlt_i, h12, h25, h33]))
          · simp only [zb_0, Nat.reduceAdd] at h33
            refine ev_iload_n (q := 37) dX7_atHomeIn_36 rfl rfl ?_
            refine ev_iconst (q := 38) (1 : Int32) dX7_atHomeIn_37 rfl (by decide) ?_
            refine ev_iload_n (q := 39) dX7_atHomeIn_38 rfl rfl ?_
            refine ev_ishl (q := 40) dX7_atHomeIn_39 rfl ?_
            refine ev_ior (q := 41) dX7_atHomeIn_40 rfl ?_
            refine ev_istore_nL (q := 42) (L9 := [_, _, _, _]) dX7_atHomeIn_41 rfl (by decide) rfl rfl ?_
            refine ev_iincL (q := 45) (L9 := [_, _, _, _]) (1 : Int32) dX7_atHomeIn_42 rfl rfl (by decide) (by decide) rfl rfl ?_
            refine ev_goto (t := 4) dX7_atHomeIn_45 (by decide) ?_
            rw [nI_1]
            exact ih (i + 1) _ (by omega) (by omega) (by first | exact zor_s hb (by simp [← hs.hom hlt_i, h12, h25, h33]) | exact zor_n hb (by simp [← hs.hom hlt_i, h12, h25, h33]))
  refine ev_iconst (q := 1) (0 : Int32) dX7_atHomeIn_0 rfl (by decide) ?_
  refine ev_istore_nL (q := 2) (L9 := [_, _, _, _]) dX7_atHomeIn_1 rfl (by decide) rfl rfl ?_
  refine ev_iconst (q := 3) (0 : Int32) dX7_atHomeIn_2 rfl (by decide) ?_
  refine ev_istore_nL (q := 4) (L9 := [_, _, _, _]) dX7_atHomeIn_3 rfl (by decide) rfl rfl ?_
  exact lp4 (N + 1) 0 0 (by omega) (by omega) rfl
set_option maxHeartbeats 4000000 in
set_option maxRecDepth 100000 in
theorem c_X7_missingOf (G : zq_G) (fo : Bool) (I : zq_I) {N T Y : Nat} (hs : zS fo N T Y I) (x : Int32) : zq_Met G mX7_missingOf 3 0 0 [.ref 0, .int x] 138 I (zPs fo) (zq_pu (some (.int (zbits (fun i => (vH (zV I) i == x) && zMi (zV I) i (I 119 15)) N))) 138 I (zPs fo)) := by
  refine zq_Met.of okX7_missingOf (Nat.le_of_ble_eq_true rfl) ?_
  show zq_E _ _ _ _ _ _ _ [some (.ref 0), some (.int x), none, none] _ _ _ _ _
  have hN8 := hs.n8
  have hN := hs.ppl
  have hfF := zF_is fo
  have lp4 : ∀ (k i : Nat) (b : Int32), N + 1 ≤ i + k → i ≤ N → b = zor (zsh) (fun i => (vH (zV I) i == x) && zMi (zV I) i (I 119 15)) i → zq_E G mX7_missingOf 3 0 0 false 4 [some (.ref 0), some (.int x), some (.int b), some (.int (nI i))] [] 138 I (zPs fo) (zq_pu (some (.int (zbits (fun i => (vH (zV I) i == x) && zMi (zV I) i (I 119 15)) N))) 138 I (zPs fo)) := by
    intro k
    induction k with
    | zero => intro i b hk hi; exact absurd hk (by omega)
    | succ k ih =>
      intro i b hk hi hb
      refine ev_iload_n (q := 5) dX7_missingOf_4 rfl rfl ?_
      refine ev_aload_n (q := 6) dX7_missingOf_5 rfl rfl ?_
      refine ev_getR (q := 9) (ci := 7) (f := 9) dX7_missingOf_6 rfl (by first | rfl | assumption | exact zf_kd (by assumption) | exact zw_kd (by assumption) | exact zt_kd (by assumption)) (by first | decide | exact zf_lt (by assumption) | exact zf_lt1 (by assumption) | exact zf_lt2 (by assumption) | exact zf_lt3 (by assumption) | exact zf_lt4 (by assumption) | exact zw_lt (by assumption) | exact zw_lt1 (by assumption) | exact zw_lt2 (by assumption) | exact zw_lt3 (by assumption) | exact zw_lt4 (by assumption) | exact zt_lt (by assumption)) (by decide) (by decide) lfRX7_66 rfl (by first | rfl | assumption | exact zf_p4 _ (by assumption) | exact zf_p5 _ (by assumption) | exact zf_p6 _ (by assumption) | exact zf_p7 _ (by assumption) | exact zw_p1 _ (by assumption) | exact zw_p2 _ (by assumption) | exact zw_p3 _ (by assumption) | exact zw_p4 _ (by assumption)) ?_
      refine ev_getI (q := 12) (ci := 0) (f := 2) dX7_missingOf_9 rfl (by first | rfl | assumption | exact zf_kd (by assumption) | exact zw_kd (by assumption) | exact zt_kd (by assumption)) (by first | decide | exact zf_lt (by assumption) | exact zf_lt1 (by assumption) | exact zf_lt2 (by assumption) | exact zf_lt3 (by assumption) | exact zf_lt4 (by assumption) | exact zw_lt (by assumption) | exact zw_lt1 (by assumption) | exact zw_lt2 (by assumption) | exact zw_lt3 (by assumption) | exact zw_lt4 (by assumption) | exact zt_lt (by assumption)) (by decide) (by decide) lfRX7_93 rfl ?_
      refine ev_icmp_ge (q := 15) (t := 55) dX7_missingOf_12 rfl (by decide) (fun h12 => ?_) (fun h12 => ?_)
      · obtain rfl : i = N := by rw [hN, nI_leI (by omega) (by omega)] at h12; omega
        refine ev_iload_n (q := 56) dX7_missingOf_55 rfl rfl ?_
        exact ev_iret dX7_missingOf_56 rfl (by first | rfl | exact zb_nar _ | assumption) (⟨by subst hb; rfl, rfl, rfl, rfl⟩)
      · have hlt_i : i < N := by rw [hN, nI_leI (by omega) (by omega)] at h12; omega
        refine ev_aload_n (q := 16) dX7_missingOf_15 rfl rfl ?_
        refine ev_getR (q := 19) (ci := 7) (f := 9) dX7_missingOf_16 rfl (by first | rfl | assumption | exact zf_kd (by assumption) | exact zw_kd (by assumption) | exact zt_kd (by assumption)) (by first | decide | exact zf_lt (by assumption) | exact zf_lt1 (by assumption) | exact zf_lt2 (by assumption) | exact zf_lt3 (by assumption) | exact zf_lt4 (by assumption) | exact zw_lt (by assumption) | exact zw_lt1 (by assumption) | exact zw_lt2 (by assumption) | exact zw_lt3 (by assumption) | exact zw_lt4 (by assumption) | exact zt_lt (by assumption)) (by decide) (by decide) lfRX7_66 rfl (by first | rfl | assumption | exact zf_p4 _ (by assumption) | exact zf_p5 _ (by assumption) | exact zf_p6 _ (by assumption) | exact zf_p7 _ (by assumption) | exact zw_p1 _ (by assumption) | exact zw_p2 _ (by assumption) | exact zw_p3 _ (by assumption) | exact zw_p4 _ (by assumption)) ?_
        refine ev_getR (q := 22) (ci := 0) (f := 4) dX7_missingOf_19 rfl (by first | rfl | assumption | exact zf_kd (by assumption) | exact zw_kd (by assumption) | exact zt_kd (by assumption)) (by first | decide | exact zf_lt (by assumption) | exact zf_lt1 (by assumption) | exact zf_lt2 (by assumption) | exact zf_lt3 (by assumption) | exact zf_lt4 (by assumption) | exact zw_lt (by assumption) | exact zw_lt1 (by assumption) | exact zw_lt2 (by assumption) | exact zw_lt3 (by assumption) | exact zw_lt4 (by assumption) | exact zt_lt (by assumption)) (by decide) (by decide) lfRX7_124 rfl (by first | rfl | assumption | exact zf_p4 _ (by assumption) | exact zf_p5 _ (by assumption) | exact zf_p6 _ (by assumption) | exact zf_p7 _ (by assumption) | exact zw_p1 _ (by assumption) | exact zw_p2 _ (by assumption) | exact zw_p3 _ (by assumption) | exact zw_p4 _ (by assumption)) ?_
        refine ev_iload_n (q := 23) dX7_missingOf_22 rfl rfl ?_
        refine ev_ialdN (q := 24) dX7_missingOf_23 rfl (by first | rfl | assumption | exact zf_kd1 (by assumption) | exact zf_kd2 (by assumption) | exact zf_kd3 (by assumption) | exact zf_kd4 (by assumption) | exact zw_kd1 (by assumption) | exact zw_kd2 (by assumption) | exact zw_kd3 (by assumption) | exact zw_kd4 (by assumption)) (by first | decide | exact zf_lt (by assumption) | exact zf_lt1 (by assumption) | exact zf_lt2 (by assumption) | exact zf_lt3 (by assumption) | exact zf_lt4 (by assumption) | exact zw_lt (by assumption) | exact zw_lt1 (by assumption) | exact zw_lt2 (by assumption) | exact zw_lt3 (by assumption) | exact zw_lt4 (by assumption) | exact zt_lt (by assumption)) (by first | omega | assumption) ?_
        refine ev_iload_n (q := 25) dX7_missingOf_24 rfl rfl ?_
        refine ev_icmp_ne (q := 28) (t := 49) dX7_missingOf_25 rfl (by decide) (fun h25 => ?_) (fun h25 => ?_)
        · refine ev_iincL (q := 52) (L9 := [_, _, _, _]) (1 : Int32) dX7_missingOf_49 rfl rfl (by decide) (by decide) rfl rfl ?_
          refine ev_goto (t := 4) dX7_missingOf_52 (by decide) ?_
          rw [nI_1]
          exact ih (i + 1) _ (by omega) (by omega) (by first | exact zor_s hb (by simp [← hs.hom hlt_i, h12, h25]) | exact zor_n hb (by simp [← hs.hom hlt_i, h12, h25]))
        · refine ev_aload_n (q := 29) dX7_missingOf_28 rfl rfl ?_
          refine ev_iload_n (q := 30) dX7_missingOf_29 rfl rfl ?_
          refine ev_aload_n (q := 31) dX7_missingOf_30 rfl rfl ?_
          refine ev_getR (q := 34) (ci := 7) (f := 5) dX7_missingOf_31 rfl (by first | rfl | assumption | exact zf_kd (by assumption) | exact zw_kd (by assumption) | exact zt_kd (by assumption)) (by first | decide | exact zf_lt (by assumption) | exact zf_lt1 (by assumption) | exact zf_lt2 (by assumption) | exact zf_lt3 (by assumption) | exact zf_lt4 (by assumption) | exact zw_lt (by assumption) | exact zw_lt1 (by assumption) | exact zw_lt2 (by assumption) | exact zw_lt3 (by assumption) | exact zw_lt4 (by assumption) | exact zt_lt (by assumption)) (by decide) (by decide) lfRX7_47 rfl (by first | rfl | assumption | exact zf_p4 _ (by assumption) | exact zf_p5 _ (by assumption) | exact zf_p6 _ (by assumption) | exact zf_p7 _ (by assumption) | exact zw_p1 _ (by assumption) | exact zw_p2 _ (by assumption) | exact zw_p3 _ (by assumption) | exact zw_p4 _ (by assumption)) ?_
          refine ev_getI (q := 37) (ci := 6) (f := 0) dX7_missingOf_34 rfl (by first | rfl | assumption | exact zf_kd (by assumption) | exact zw_kd (by assumption) | exact zt_kd (by assumption)) (by first | decide | exact zf_lt (by assumption) | exact zf_lt1 (by assumption) | exact zf_lt2 (by assumption) | exact zf_lt3 (by assumption) | exact zf_lt4 (by assumption) | exact zw_lt (by assumption) | exact zw_lt1 (by assumption) | exact zw_lt2 (by assumption) | exact zw_lt3 (by assumption) | exact zw_lt4 (by assumption) | exact zt_lt (by assumption)) (by decide) (by decide) lfRX7_103 rfl ?_
          rw [hs.yea]
          refine ev_pV (q := 40) (ci := 7) dX7_missingOf_37 rfl okX7_isMissing lmRX7_256 imX7_isMissing seX7_isMissing (by first | rfl | assumption | exact zf_kd (by assumption) | exact zw_kd (by assumption) | exact zt_kd (by assumption)) (by first | decide | exact zf_lt (by assumption) | exact zf_lt1 (by assumption) | exact zf_lt2 (by assumption) | exact zf_lt3 (by assumption) | exact zf_lt4 (by assumption) | exact zw_lt (by assumption) | exact zw_lt1 (by assumption) | exact zw_lt2 (by assumption) | exact zw_lt3 (by assumption) | exact zw_lt4 (by assumption) | exact zt_lt (by assumption)) (by decide) rfl (c_X7_isMissing G fo I hs hlt_i _) (by decide) rfl rfl (Nat.le_of_ble_eq_true rfl) ?_
          refine ev_if_eq (q := 43) (t := 49) dX7_missingOf_40 rfl (by decide) (fun h40 => ?_) (fun h40 => ?_)
          · simp only [zb_0, Nat.reduceAdd] at h40
            refine ev_iincL (q := 52) (L9 := [_, _, _, _]) (1 : Int32) dX7_missingOf_49 rfl rfl (by decide) (by decide) rfl rfl ?_
            refine ev_goto (t := 4) dX7_missingOf_52 (by decide) ?_
            rw [nI_1]
            exact ih (i + 1) _ (by omega) (by omega) (by first | exact zor_s hb (by simp [← hs.hom hlt_i, h12, h25, h40]) | exact zor_n hb (by simp [← hs.hom hlt_i, h12, h25, h40]))
          · simp only [zb_0, Nat.reduceAdd] at h40
            refine ev_iload_n (q := 44) dX7_missingOf_43 rfl rfl ?_
            refine ev_iconst (q := 45) (1 : Int32) dX7_missingOf_44 rfl (by decide) ?_
            refine ev_iload_n (q := 46) dX7_missingOf_45 rfl rfl ?_
            refine ev_ishl (q := 47) dX7_missingOf_46 rfl ?_
            refine ev_ior (q := 48) dX7_missingOf_47 rfl ?_
            refine ev_istore_nL (q := 49) (L9 := [_, _, _, _]) dX7_missingOf_48 rfl (by decide) rfl rfl ?_
            refine ev_iincL (q := 52) (L9 := [_, _, _, _]) (1 : Int32) dX7_missingOf_49 rfl rfl (by decide) (by decide) rfl rfl ?_
            refine ev_goto (t := 4) dX7_missingOf_52 (by decide) ?_
            rw [nI_1]
            exact ih (i + 1) _ (by omega) (by omega) (by first | exact zor_s hb (by simp [← hs.hom hlt_i, h12, h25, h40]) | exact zor_n hb (by simp [← hs.hom hlt_i, h12, h25, h40]))
  refine ev_iconst (q := 1) (0 : Int32) dX7_missingOf_0 rfl (by decide) ?_
  refine ev_istore_nL (q := 2) (L9 := [_, _, _, _]) dX7_missingOf_1 rfl (by decide) rfl rfl ?_
  refine ev_iconst (q := 3) (0 : Int32) dX7_missingOf_2 rfl (by decide) ?_
  refine ev_istore_nL (q := 4) (L9 := [_, _, _, _]) dX7_missingOf_3 rfl (by decide) rfl rfl ?_
  exact lp4 (N + 1) 0 0 (by omega) (by omega) rfl
set_option maxHeartbeats 4000000 in
set_option maxRecDepth 100000 in
theorem c_X7_rememberedBy (G : zq_G) (fo : Bool) (I : zq_I) {N T Y : Nat} (hs : zS fo N T Y I) {p : Nat} (hp : p < N) (y : Int32) : zq_Met G mX7_rememberedBy 3 0 0 [.ref 0, .int (nI p), .int y] 138 I (zPs fo) (zq_pu (some (.int (zRb (zV I) N p y))) 138 I (zPs fo)) := by
  refine zq_Met.of okX7_rememberedBy (Nat.le_of_ble_eq_true rfl) ?_
  show zq_E _ _ _ _ _ _ _ [some (.ref 0), some (.int (nI p)), some (.int y), none, none] _ _ _ _ _
  have hN8 := hs.n8
  have hN := hs.ppl
  have hfF := zF_is fo
  have lp5 : ∀ (k i : Nat) (b : Int32), N + 1 ≤ i + k → i ≤ N → b = zor (zsh) (fun j => (vH (zV I) j == vH (zV I) p) && zMi (zV I) j y && zRe (zV I) p j y) i → zq_E G mX7_rememberedBy 3 0 0 false 5 [some (.ref 0), some (.int (nI p)), some (.int y), some (.int b), some (.int (nI i))] [] 138 I (zPs fo) (zq_pu (some (.int (zRb (zV I) N p y))) 138 I (zPs fo)) := by
    intro k
    induction k with
    | zero => intro i b hk hi; exact absurd hk (by omega)
    | succ k ih =>
      intro i b hk hi hb
      refine ev_iload (q := 7) dX7_rememberedBy_5 rfl rfl ?_
      refine ev_aload_n (q := 8) dX7_rememberedBy_7 rfl rfl ?_
      refine ev_getR (q := 11) (ci := 7) (f := 9) dX7_rememberedBy_8 rfl (by first | rfl | assumption | exact zf_kd (by assumption) | exact zw_kd (by assumption) | exact zt_kd (by assumption)) (by first | decide | exact zf_lt (by assumption) | exact zf_lt1 (by assumption) | exact zf_lt2 (by assumption) | exact zf_lt3 (by assumption) | exact zf_lt4 (by assumption) | exact zw_lt (by assumption) | exact zw_lt1 (by assumption) | exact zw_lt2 (by assumption) | exact zw_lt3 (by assumption) | exact zw_lt4 (by assumption) | exact zt_lt (by assumption)) (by decide) (by decide) lfRX7_66 rfl (by first | rfl | assumption | exact zf_p4 _ (by assumption) | exact zf_p5 _ (by assumption) | exact zf_p6 _ (by assumption) | exact zf_p7 _ (by assumption) | exact zw_p1 _ (by assumption) | exact zw_p2 _ (by assumption) | exact zw_p3 _ (by assumption) | exact zw_p4 _ (by assumption)) ?_
      refine ev_getI (q := 14) (ci := 0) (f := 2) dX7_rememberedBy_11 rfl (by first | rfl | assumption | exact zf_kd (by assumption) | exact zw_kd (by assumption) | exact zt_kd (by assumption)) (by first | decide | exact zf_lt (by assumption) | exact zf_lt1 (by assumption) | exact zf_lt2 (by assumption) | exact zf_lt3 (by assumption) | exact zf_lt4 (by assumption) | exact zw_lt (by assumption) | exact zw_lt1 (by assumption) | exact zw_lt2 (by assumption) | exact zw_lt3 (by assumption) | exact zw_lt4 (by assumption) | exact zt_lt (by assumption)) (by decide) (by decide) lfRX7_93 rfl ?_
      refine ev_icmp_ge (q := 17) (t := 86) dX7_rememberedBy_14 rfl (by decide) (fun h14 => ?_) (fun h14 => ?_)
      · obtain rfl : i = N := by rw [hN, nI_leI (by omega) (by omega)] at h14; omega
        refine ev_iload_n (q := 87) dX7_rememberedBy_86 rfl rfl ?_
        exact ev_iret dX7_rememberedBy_87 rfl (by first | rfl | exact zb_nar _ | assumption) (⟨by subst hb; rfl, rfl, rfl, rfl⟩)
      · have hlt_i : i < N := by rw [hN, nI_leI (by omega) (by omega)] at h14; omega
        refine ev_aload_n (q := 18) dX7_rememberedBy_17 rfl rfl ?_
        refine ev_getR (q := 21) (ci := 7) (f := 9) dX7_rememberedBy_18 rfl (by first | rfl | assumption | exact zf_kd (by assumption) | exact zw_kd (by assumption) | exact zt_kd (by assumption)) (by first | decide | exact zf_lt (by assumption) | exact zf_lt1 (by assumption) | exact zf_lt2 (by assumption) | exact zf_lt3 (by assumption) | exact zf_lt4 (by assumption) | exact zw_lt (by assumption) | exact zw_lt1 (by assumption) | exact zw_lt2 (by assumption) | exact zw_lt3 (by assumption) | exact zw_lt4 (by assumption) | exact zt_lt (by assumption)) (by decide) (by decide) lfRX7_66 rfl (by first | rfl | assumption | exact zf_p4 _ (by assumption) | exact zf_p5 _ (by assumption) | exact zf_p6 _ (by assumption) | exact zf_p7 _ (by assumption) | exact zw_p1 _ (by assumption) | exact zw_p2 _ (by assumption) | exact zw_p3 _ (by assumption) | exact zw_p4 _ (by assumption)) ?_
        refine ev_getR (q := 24) (ci := 0) (f := 4) dX7_rememberedBy_21 rfl (by first | rfl | assumption | exact zf_kd (by assumption) | exact zw_kd (by assumption) | exact zt_kd (by assumption)) (by first | decide | exact zf_lt (by assumption) | exact zf_lt1 (by assumption) | exact zf_lt2 (by assumption) | exact zf_lt3 (by assumption) | exact zf_lt4 (by assumption) | exact zw_lt (by assumption) | exact zw_lt1 (by assumption) | exact zw_lt2 (by assumption) | exact zw_lt3 (by assumption) | exact zw_lt4 (by assumption) | exact zt_lt (by assumption)) (by decide) (by decide) lfRX7_124 rfl (by first | rfl | assumption | exact zf_p4 _ (by assumption) | exact zf_p5 _ (by assumption) | exact zf_p6 _ (by assumption) | exact zf_p7 _ (by assumption) | exact zw_p1 _ (by assumption) | exact zw_p2 _ (by assumption) | exact zw_p3 _ (by assumption) | exact zw_p4 _ (by assumption)) ?_
        refine ev_iload (q := 26) dX7_rememberedBy_24 rfl rfl ?_
        refine ev_ialdN (q := 27) dX7_rememberedBy_26 rfl (by first | rfl | assumption | exact zf_kd1 (by assumption) | exact zf_kd2 (by assumption) | exact zf_kd3 (by assumption) | exact zf_kd4 (by assumption) | exact zw_kd1 (by assumption) | exact zw_kd2 (by assumption) | exact zw_kd3 (by assumption) | exact zw_kd4 (by assumption)) (by first | decide | exact zf_lt (by assumption) | exact zf_lt1 (by assumption) | exact zf_lt2 (by assumption) | exact zf_lt3 (by assumption) | exact zf_lt4 (by assumption) | exact zw_lt (by assumption) | exact zw_lt1 (by assumption) | exact zw_lt2 (by assumption) | exact zw_lt3 (by assumption) | exact zw_lt4 (by assumption) | exact zt_lt (by assumption)) (by first | omega | assumption) ?_
        refine ev_aload_n (q := 28) dX7_rememberedBy_27 rfl rfl ?_
        refine ev_getR (q := 31) (ci := 7) (f := 9) dX7_rememberedBy_28 rfl (by first | rfl | assumption | exact zf_kd (by assumption) | exact zw_kd (by assumption) | exact zt_kd (by assumption)) (by first | decide | exact zf_lt (by assumption) | exact zf_lt1 (by assumption) | exact zf_lt2 (by assumption) | exact zf_lt3 (by assumption) | exact zf_lt4 (by assumption) | exact zw_lt (by assumption) | exact zw_lt1 (by assumption) | exact zw_lt2 (by assumption) | exact zw_lt3 (by assumption) | exact zw_lt4 (by assumption) | exact zt_lt (by assumption)) (by decide) (by decide) lfRX7_66 rfl (by first | rfl | assumption | exact zf_p4 _ (by assumption) | exact zf_p5 _ (by assumption) | exact zf_p6 _ (by assumption) | exact zf_p7 _ (by assumption) | exact zw_p1 _ (by assumption) | exact zw_p2 _ (by assumption) | exact zw_p3 _ (by assumption) | exact zw_p4 _ (by assumption)) ?_
        refine ev_getR (q := 34) (ci := 0) (f := 4) dX7_rememberedBy_31 rfl (by first | rfl | assumption | exact zf_kd (by assumption) | exact zw_kd (by assumption) | exact zt_kd (by assumption)) (by first | decide | exact zf_lt (by assumption) | exact zf_lt1 (by assumption) | exact zf_lt2 (by assumption) | exact zf_lt3 (by assumption) | exact zf_lt4 (by assumption) | exact zw_lt (by assumption) | exact zw_lt1 (by assumption) | exact zw_lt2 (by assumption) | exact zw_lt3 (by assumption) | exact zw_lt4 (by assumption) | exact zt_lt (by assumption)) (by decide) (by decide) lfRX7_124 rfl (by first | rfl | assumption | exact zf_p4 _ (by assumption) | exact zf_p5 _ (by assumption) | exact zf_p6 _ (by assumption) | exact zf_p7 _ (by assumption) | exact zw_p1 _ (by assumption) | exact zw_p2 _ (by assumption) | exact zw_p3 _ (by assumption) | exact zw_p4 _ (by assumption)) ?_
        refine ev_iload_n (q := 35) dX7_rememberedBy_34 rfl rfl ?_
        refine ev_ialdN (q := 36) dX7_rememberedBy_35 rfl (by first | rfl | assumption | exact zf_kd1 (by assumption) | exact zf_kd2 (by assumption) | exact zf_kd3 (by assumption) | exact zf_kd4 (by assumption) | exact zw_kd1 (by assumption) | exact zw_kd2 (by assumption) | exact zw_kd3 (by assumption) | exact zw_kd4 (by assumption)) (by first | decide | exact zf_lt (by assumption) | exact zf_lt1 (by assumption) | exact zf_lt2 (by assumption) | exact zf_lt3 (by assumption) | exact zf_lt4 (by assumption) | exact zw_lt (by assumption) | exact zw_lt1 (by assumption) | exact zw_lt2 (by assumption) | exact zw_lt3 (by assumption) | exact zw_lt4 (by assumption) | exact zt_lt (by assumption)) (by first | omega | assumption) ?_
        refine ev_icmp_ne (q := 39) (t := 80) dX7_rememberedBy_36 rfl (by decide) (fun h36 => ?_) (fun h36 => ?_)
        · simp only [hs.hom hlt_i, hs.hom hp] at h36
          refine ev_iincL (q := 83) (L9 := [_, _, _, _, _]) (1 : Int32) dX7_rememberedBy_80 rfl rfl (by decide) (by decide) rfl rfl ?_
          refine ev_goto (t := 5) dX7_rememberedBy_83 (by decide) ?_
          rw [nI_1]
          exact ih (i + 1) _ (by omega) (by omega) (by first | exact zor_s hb (by simp [zRe, h14, h36]) | exact zor_n hb (by simp [zRe, h14, h36]))
        · simp only [hs.hom hlt_i, hs.hom hp] at h36
          refine ev_aload_n (q := 40) dX7_rememberedBy_39 rfl rfl ?_
          refine ev_iload (q := 42) dX7_rememberedBy_40 rfl rfl ?_
          refine ev_iload_n (q := 43) dX7_rememberedBy_42 rfl rfl ?_
          refine ev_pV (q := 46) (ci := 7) dX7_rememberedBy_43 rfl okX7_isMissing lmRX7_256 imX7_isMissing seX7_isMissing (by first | rfl | assumption | exact zf_kd (by assumption) | exact zw_kd (by assumption) | exact zt_kd (by assumption)) (by first | decide | exact zf_lt (by assumption) | exact zf_lt1 (by assumption) | exact zf_lt2 (by assumption) | exact zf_lt3 (by assumption) | exact zf_lt4 (by assumption) | exact zw_lt (by assumption) | exact zw_lt1 (by assumption) | exact zw_lt2 (by assumption) | exact zw_lt3 (by assumption) | exact zw_lt4 (by assumption) | exact zt_lt (by assumption)) (by decide) rfl (c_X7_isMissing G fo I hs hlt_i _) (by decide) rfl rfl (Nat.le_of_ble_eq_true rfl) ?_
          refine ev_if_eq (q := 49) (t := 80) dX7_rememberedBy_46 rfl (by decide) (fun h46 => ?_) (fun h46 => ?_)
          · simp only [zb_0, Nat.reduceAdd] at h46
            refine ev_iincL (q := 83) (L9 := [_, _, _, _, _]) (1 : Int32) dX7_rememberedBy_80 rfl rfl (by decide) (by decide) rfl rfl ?_
            refine ev_goto (t := 5) dX7_rememberedBy_83 (by decide) ?_
            rw [nI_1]
            exact ih (i + 1) _ (by omega) (by omega) (by first | exact zor_s hb (by simp [zRe, h14, h36, h46]) | exact zor_n hb (by simp [zRe, h14, h36, h46]))
          · simp only [zb_0, Nat.reduceAdd] at h46
            refine ev_iload_n (q := 50) dX7_rememberedBy_49 rfl rfl ?_
            refine ev_aload_n (q := 51) dX7_rememberedBy_50 rfl rfl ?_
            refine ev_getR (q := 54) (ci := 7) (f := 5) dX7_rememberedBy_51 rfl (by first | rfl | assumption | exact zf_kd (by assumption) | exact zw_kd (by assumption) | exact zt_kd (by assumption)) (by first | decide | exact zf_lt (by assumption) | exact zf_lt1 (by assumption) | exact zf_lt2 (by assumption) | exact zf_lt3 (by assumption) | exact zf_lt4 (by assumption) | exact zw_lt (by assumption) | exact zw_lt1 (by assumption) | exact zw_lt2 (by assumption) | exact zw_lt3 (by assumption) | exact zw_lt4 (by assumption) | exact zt_lt (by assumption)) (by decide) (by decide) lfRX7_47 rfl (by first | rfl | assumption | exact zf_p4 _ (by assumption) | exact zf_p5 _ (by assumption) | exact zf_p6 _ (by assumption) | exact zf_p7 _ (by assumption) | exact zw_p1 _ (by assumption) | exact zw_p2 _ (by assumption) | exact zw_p3 _ (by assumption) | exact zw_p4 _ (by assumption)) ?_
            refine ev_getR (q := 57) (ci := 6) (f := 2) dX7_rememberedBy_54 rfl (by first | rfl | assumption | exact zf_kd (by assumption) | exact zw_kd (by assumption) | exact zt_kd (by assumption)) (by first | decide | exact zf_lt (by assumption) | exact zf_lt1 (by assumption) | exact zf_lt2 (by assumption) | exact zf_lt3 (by assumption) | exact zf_lt4 (by assumption) | exact zw_lt (by assumption) | exact zw_lt1 (by assumption) | exact zw_lt2 (by assumption) | exact zw_lt3 (by assumption) | exact zw_lt4 (by assumption) | exact zt_lt (by assumption)) (by decide) (by decide) lfRX7_136 rfl (by first | rfl | assumption | exact zf_p4 _ (by assumption) | exact zf_p5 _ (by assumption) | exact zf_p6 _ (by assumption) | exact zf_p7 _ (by assumption) | exact zw_p1 _ (by assumption) | exact zw_p2 _ (by assumption) | exact zw_p3 _ (by assumption) | exact zw_p4 _ (by assumption)) ?_
            refine ev_iload (q := 59) dX7_rememberedBy_57 rfl rfl ?_
            refine ev_ialdN (q := 60) dX7_rememberedBy_59 rfl (by first | rfl | assumption | exact zf_kd1 (by assumption) | exact zf_kd2 (by assumption) | exact zf_kd3 (by assumption) | exact zf_kd4 (by assumption) | exact zw_kd1 (by assumption) | exact zw_kd2 (by assumption) | exact zw_kd3 (by assumption) | exact zw_kd4 (by assumption)) (by first | decide | exact zf_lt (by assumption) | exact zf_lt1 (by assumption) | exact zf_lt2 (by assumption) | exact zf_lt3 (by assumption) | exact zf_lt4 (by assumption) | exact zw_lt (by assumption) | exact zw_lt1 (by assumption) | exact zw_lt2 (by assumption) | exact zw_lt3 (by assumption) | exact zw_lt4 (by assumption) | exact zt_lt (by assumption)) (by first | omega | assumption) ?_
            refine ev_isub (q := 61) dX7_rememberedBy_60 rfl ?_
            refine ev_aload_n (q := 62) dX7_rememberedBy_61 rfl rfl ?_
            refine ev_getR (q := 65) (ci := 7) (f := 9) dX7_rememberedBy_62 rfl (by first | rfl | assumption | exact zf_kd (by assumption) | exact zw_kd (by assumption) | exact zt_kd (by assumption)) (by first | decide | exact zf_lt (by assumption) | exact zf_lt1 (by assumption) | exact zf_lt2 (by assumption) | exact zf_lt3 (by assumption) | exact zf_lt4 (by assumption) | exact zw_lt (by assumption) | exact zw_lt1 (by assumption) | exact zw_lt2 (by assumption) | exact zw_lt3 (by assumption) | exact zw_lt4 (by assumption) | exact zt_lt (by assumption)) (by decide) (by decide) lfRX7_66 rfl (by first | rfl | assumption | exact zf_p4 _ (by assumption) | exact zf_p5 _ (by assumption) | exact zf_p6 _ (by assumption) | exact zf_p7 _ (by assumption) | exact zw_p1 _ (by assumption) | exact zw_p2 _ (by assumption) | exact zw_p3 _ (by assumption) | exact zw_p4 _ (by assumption)) ?_
            refine ev_getR (q := 68) (ci := 0) (f := 6) dX7_rememberedBy_65 rfl (by first | rfl | assumption | exact zf_kd (by assumption) | exact zw_kd (by assumption) | exact zt_kd (by assumption)) (by first | decide | exact zf_lt (by assumption) | exact zf_lt1 (by assumption) | exact zf_lt2 (by assumption) | exact zf_lt3 (by assumption) | exact zf_lt4 (by assumption) | exact zw_lt (by assumption) | exact zw_lt1 (by assumption) | exact zw_lt2 (by assumption) | exact zw_lt3 (by assumption) | exact zw_lt4 (by assumption) | exact zt_lt (by assumption)) (by decide) (by decide) lfRX7_130 rfl (by first | rfl | assumption | exact zf_p4 _ (by assumption) | exact zf_p5 _ (by assumption) | exact zf_p6 _ (by assumption) | exact zf_p7 _ (by assumption) | exact zw_p1 _ (by assumption) | exact zw_p2 _ (by assumption) | exact zw_p3 _ (by assumption) | exact zw_p4 _ (by assumption)) ?_
            refine ev_iload_n (q := 69) dX7_rememberedBy_68 rfl rfl ?_
            refine ev_ialdN (q := 70) dX7_rememberedBy_69 rfl (by first | rfl | assumption | exact zf_kd1 (by assumption) | exact zf_kd2 (by assumption) | exact zf_kd3 (by assumption) | exact zf_kd4 (by assumption) | exact zw_kd1 (by assumption) | exact zw_kd2 (by assumption) | exact zw_kd3 (by assumption) | exact zw_kd4 (by assumption)) (by first | decide | exact zf_lt (by assumption) | exact zf_lt1 (by assumption) | exact zf_lt2 (by assumption) | exact zf_lt3 (by assumption) | exact zf_lt4 (by assumption) | exact zw_lt (by assumption) | exact zw_lt1 (by assumption) | exact zw_lt2 (by assumption) | exact zw_lt3 (by assumption) | exact zw_lt4 (by assumption) | exact zt_lt (by assumption)) (by first | omega | assumption) ?_
            refine ev_icmp_gt (q := 73) (t := 80) dX7_rememberedBy_70 rfl (by decide) (fun h70 => ?_) (fun h70 => ?_)
            · simp only [hs.sin hlt_i, hs.kee hp, ← Int32.not_le] at h70
              refine ev_iincL (q := 83) (L9 := [_, _, _, _, _]) (1 : Int32) dX7_rememberedBy_80 rfl rfl (by decide) (by decide) rfl rfl ?_
              refine ev_goto (t := 5) dX7_rememberedBy_83 (by decide) ?_
              rw [nI_1]
              exact ih (i + 1) _ (by omega) (by omega) (by first | exact zor_s hb (by simp [zRe, h14, h36, h46, h70]) | exact zor_n hb (by simp [zRe, h14, h36, h46, h70]))
            · simp only [hs.sin hlt_i, hs.kee hp, Int32.not_lt] at h70
              refine ev_iload_n (q := 74) dX7_rememberedBy_73 rfl rfl ?_
              refine ev_iconst (q := 75) (1 : Int32) dX7_rememberedBy_74 rfl (by decide) ?_
              refine ev_iload (q := 77) dX7_rememberedBy_75 rfl rfl ?_
              refine ev_ishl (q := 78) dX7_rememberedBy_77 rfl ?_
              refine ev_ior (q := 79) dX7_rememberedBy_78 rfl ?_
              refine ev_istore_nL (q := 80) (L9 := [_, _, _, _, _]) dX7_rememberedBy_79 rfl (by decide) rfl rfl ?_
              refine ev_iincL (q := 83) (L9 := [_, _, _, _, _]) (1 : Int32) dX7_rememberedBy_80 rfl rfl (by decide) (by decide) rfl rfl ?_
              refine ev_goto (t := 5) dX7_rememberedBy_83 (by decide) ?_
              rw [nI_1]
              exact ih (i + 1) _ (by omega) (by omega) (by first | exact zor_s hb (by simp [zRe, h14, h36, h46, h70]) | exact zor_n hb (by simp [zRe, h14, h36, h46, h70]))
  refine ev_iconst (q := 1) (0 : Int32) dX7_rememberedBy_0 rfl (by decide) ?_
  refine ev_istore_nL (q := 2) (L9 := [_, _, _, _, _]) dX7_rememberedBy_1 rfl (by decide) rfl rfl ?_
  refine ev_iconst (q := 3) (0 : Int32) dX7_rememberedBy_2 rfl (by decide) ?_
  refine ev_istoreL (q := 5) (L9 := [_, _, _, _, _]) dX7_rememberedBy_3 rfl (by decide) rfl rfl ?_
  exact lp5 (N + 1) 0 0 (by omega) (by omega) rfl
set_option maxHeartbeats 4000000 in
set_option maxRecDepth 100000 in
theorem c_X7_missedBy (G : zq_G) (fo : Bool) (I : zq_I) {N T Y : Nat} (hs : zS fo N T Y I) {p : Nat} (hp : p < N) (y : Int32) : zq_Met G mX7_missedBy 4 0 0 [.ref 0, .int (nI p), .int y] 138 I (zPs fo) (zq_pu (some (.int (zMs (zV I) N p y))) 138 I (zPs fo)) := by
  refine zq_Met.of okX7_missedBy (Nat.le_of_ble_eq_true rfl) ?_
  show zq_E _ _ _ _ _ _ _ [some (.ref 0), some (.int (nI p)), some (.int y)] _ _ _ _ _
  have hN8 := hs.n8
  have hN := hs.ppl
  have hfF := zF_is fo
  refine ev_aload_n (q := 1) dX7_missedBy_0 rfl rfl ?_
  refine ev_iload_n (q := 2) dX7_missedBy_1 rfl rfl ?_
  refine ev_pV (q := 5) (ci := 7) dX7_missedBy_2 rfl okX7_isAtHome lmRX7_253 imX7_isAtHome seX7_isAtHome (by first | rfl | assumption | exact zf_kd (by assumption) | exact zw_kd (by assumption) | exact zt_kd (by assumption)) (by first | decide | exact zf_lt (by assumption) | exact zf_lt1 (by assumption) | exact zf_lt2 (by assumption) | exact zf_lt3 (by assumption) | exact zf_lt4 (by assumption) | exact zw_lt (by assumption) | exact zw_lt1 (by assumption) | exact zw_lt2 (by assumption) | exact zw_lt3 (by assumption) | exact zw_lt4 (by assumption) | exact zt_lt (by assumption)) (by decide) rfl (c_X7_isAtHome G fo I hs hp) (by decide) rfl rfl (Nat.le_of_ble_eq_true rfl) ?_
  refine ev_if_eq (q := 8) (t := 27) dX7_missedBy_5 rfl (by decide) (fun h5 => ?_) (fun h5 => ?_)
  · simp only [zb_0, Nat.reduceAdd] at h5
    refine ev_iconst (q := 28) (0 : Int32) dX7_missedBy_27 rfl (by decide) ?_
    exact ev_iret dX7_missedBy_28 rfl (by first | rfl | exact zb_nar _ | assumption) (⟨by rw [← zMs_eq hs hp y]; simp [h5], rfl, rfl, rfl⟩)
  · simp only [zb_0, Nat.reduceAdd] at h5
    refine ev_aload_n (q := 9) dX7_missedBy_8 rfl rfl ?_
    refine ev_getR (q := 12) (ci := 7) (f := 9) dX7_missedBy_9 rfl (by first | rfl | assumption | exact zf_kd (by assumption) | exact zw_kd (by assumption) | exact zt_kd (by assumption)) (by first | decide | exact zf_lt (by assumption) | exact zf_lt1 (by assumption) | exact zf_lt2 (by assumption) | exact zf_lt3 (by assumption) | exact zf_lt4 (by assumption) | exact zw_lt (by assumption) | exact zw_lt1 (by assumption) | exact zw_lt2 (by assumption) | exact zw_lt3 (by assumption) | exact zw_lt4 (by assumption) | exact zt_lt (by assumption)) (by decide) (by decide) lfRX7_66 rfl (by first | rfl | assumption | exact zf_p4 _ (by assumption) | exact zf_p5 _ (by assumption) | exact zf_p6 _ (by assumption) | exact zf_p7 _ (by assumption) | exact zw_p1 _ (by assumption) | exact zw_p2 _ (by assumption) | exact zw_p3 _ (by assumption) | exact zw_p4 _ (by assumption)) ?_
    refine ev_getR (q := 15) (ci := 0) (f := 7) dX7_missedBy_12 rfl (by first | rfl | assumption | exact zf_kd (by assumption) | exact zw_kd (by assumption) | exact zt_kd (by assumption)) (by first | decide | exact zf_lt (by assumption) | exact zf_lt1 (by assumption) | exact zf_lt2 (by assumption) | exact zf_lt3 (by assumption) | exact zf_lt4 (by assumption) | exact zw_lt (by assumption) | exact zw_lt1 (by assumption) | exact zw_lt2 (by assumption) | exact zw_lt3 (by assumption) | exact zw_lt4 (by assumption) | exact zt_lt (by assumption)) (by decide) (by decide) lfRX7_142 rfl (by first | rfl | assumption | exact zf_p4 _ (by assumption) | exact zf_p5 _ (by assumption) | exact zf_p6 _ (by assumption) | exact zf_p7 _ (by assumption) | exact zw_p1 _ (by assumption) | exact zw_p2 _ (by assumption) | exact zw_p3 _ (by assumption) | exact zw_p4 _ (by assumption)) ?_
    refine ev_iload_n (q := 16) dX7_missedBy_15 rfl rfl ?_
    refine ev_ialdN (q := 17) dX7_missedBy_16 rfl (by first | rfl | assumption | exact zf_kd1 (by assumption) | exact zf_kd2 (by assumption) | exact zf_kd3 (by assumption) | exact zf_kd4 (by assumption) | exact zw_kd1 (by assumption) | exact zw_kd2 (by assumption) | exact zw_kd3 (by assumption) | exact zw_kd4 (by assumption)) (by first | decide | exact zf_lt (by assumption) | exact zf_lt1 (by assumption) | exact zf_lt2 (by assumption) | exact zf_lt3 (by assumption) | exact zf_lt4 (by assumption) | exact zw_lt (by assumption) | exact zw_lt1 (by assumption) | exact zw_lt2 (by assumption) | exact zw_lt3 (by assumption) | exact zw_lt4 (by assumption) | exact zt_lt (by assumption)) (by first | omega | assumption) ?_
    refine ev_aload_n (q := 18) dX7_missedBy_17 rfl rfl ?_
    refine ev_iload_n (q := 19) dX7_missedBy_18 rfl rfl ?_
    refine ev_iload_n (q := 20) dX7_missedBy_19 rfl rfl ?_
    refine ev_pV (q := 23) (ci := 7) dX7_missedBy_20 rfl okX7_rememberedBy lmRX7_259 imX7_rememberedBy seX7_rememberedBy (by first | rfl | assumption | exact zf_kd (by assumption) | exact zw_kd (by assumption) | exact zt_kd (by assumption)) (by first | decide | exact zf_lt (by assumption) | exact zf_lt1 (by assumption) | exact zf_lt2 (by assumption) | exact zf_lt3 (by assumption) | exact zf_lt4 (by assumption) | exact zw_lt (by assumption) | exact zw_lt1 (by assumption) | exact zw_lt2 (by assumption) | exact zw_lt3 (by assumption) | exact zw_lt4 (by assumption) | exact zt_lt (by assumption)) (by decide) rfl (c_X7_rememberedBy G fo I hs hp _) (by decide) rfl rfl (Nat.le_of_ble_eq_true rfl) ?_
    rw [hs.ask hp]
    refine ev_iand (q := 24) dX7_missedBy_23 rfl ?_
    refine ev_goto (t := 28) dX7_missedBy_24 (by decide) ?_
    exact ev_iret dX7_missedBy_28 rfl (by first | rfl | exact zb_nar _ | assumption) (⟨by rw [← zMs_eq hs hp y]; simp [h5], rfl, rfl, rfl⟩)
theorem zany_t (c : Nat → Bool) {i n : Nat} (hi : i < n) (h : c i = true) : zany c n = true := by
  induction n with
  | zero => omega
  | succ n ih =>
    unfold zany
    by_cases hin : i = n
    · subst hin; rw [h, Bool.or_true]
    · rw [ih (by omega), Bool.true_or]
set_option maxHeartbeats 4000000 in
set_option maxRecDepth 100000 in
theorem c_X7_isMissed (G : zq_G) (fo : Bool) (I : zq_I) {N T Y : Nat} (hs : zS fo N T Y I) {p : Nat} (y : Int32) : zq_Met G mX7_isMissed 5 0 0 [.ref 0, .int (nI p), .int y] 138 I (zPs fo) (zq_pu (some (.int (zb (zany (fun i => zhas (zMs (zV I) N i y) p) N)))) 138 I (zPs fo)) := by
  refine zq_Met.of okX7_isMissed (Nat.le_of_ble_eq_true rfl) ?_
  show zq_E _ _ _ _ _ _ _ [some (.ref 0), some (.int (nI p)), some (.int y), none] _ _ _ _ _
  have hN8 := hs.n8
  have hN := hs.ppl
  have hfF := zF_is fo
  have lp2 : ∀ (k i : Nat), N + 1 ≤ i + k → i ≤ N → zany (fun i => zhas (zMs (zV I) N i y) p) i = false → zq_E G mX7_isMissed 5 0 0 false 2 [some (.ref 0), some (.int (nI p)), some (.int y), some (.int (nI i))] [] 138 I (zPs fo) (zq_pu (some (.int (zb (zany (fun i => zhas (zMs (zV I) N i y) p) N)))) 138 I (zPs fo)) := by
    intro k
    induction k with
    | zero => intro i  hk hi; exact absurd hk (by omega)
    | succ k ih =>
      intro i  hk hi hz
      refine ev_iload_n (q := 3) dX7_isMissed_2 rfl rfl ?_
      refine ev_aload_n (q := 4) dX7_isMissed_3 rfl rfl ?_
      refine ev_getR (q := 7) (ci := 7) (f := 9) dX7_isMissed_4 rfl (by first | rfl | assumption | exact zf_kd (by assumption) | exact zw_kd (by assumption) | exact zt_kd (by assumption)) (by first | decide | exact zf_lt (by assumption) | exact zf_lt1 (by assumption) | exact zf_lt2 (by assumption) | exact zf_lt3 (by assumption) | exact zf_lt4 (by assumption) | exact zw_lt (by assumption) | exact zw_lt1 (by assumption) | exact zw_lt2 (by assumption) | exact zw_lt3 (by assumption) | exact zw_lt4 (by assumption) | exact zt_lt (by assumption)) (by decide) (by decide) lfRX7_66 rfl (by first | rfl | assumption | exact zf_p4 _ (by assumption) | exact zf_p5 _ (by assumption) | exact zf_p6 _ (by assumption) | exact zf_p7 _ (by assumption) | exact zw_p1 _ (by assumption) | exact zw_p2 _ (by assumption) | exact zw_p3 _ (by assumption) | exact zw_p4 _ (by assumption)) ?_
      refine ev_getI (q := 10) (ci := 0) (f := 2) dX7_isMissed_7 rfl (by first | rfl | assumption | exact zf_kd (by assumption) | exact zw_kd (by assumption) | exact zt_kd (by assumption)) (by first | decide | exact zf_lt (by assumption) | exact zf_lt1 (by assumption) | exact zf_lt2 (by assumption) | exact zf_lt3 (by assumption) | exact zf_lt4 (by assumption) | exact zw_lt (by assumption) | exact zw_lt1 (by assumption) | exact zw_lt2 (by assumption) | exact zw_lt3 (by assumption) | exact zw_lt4 (by assumption) | exact zt_lt (by assumption)) (by decide) (by decide) lfRX7_93 rfl ?_
      refine ev_icmp_ge (q := 13) (t := 34) dX7_isMissed_10 rfl (by decide) (fun h10 => ?_) (fun h10 => ?_)
      · obtain rfl : i = N := by rw [hN, nI_leI (by omega) (by omega)] at h10; omega
        refine ev_iconst (q := 35) (0 : Int32) dX7_isMissed_34 rfl (by decide) ?_
        exact ev_iret dX7_isMissed_35 rfl (by first | rfl | exact zb_nar _ | assumption) (⟨by rw [hz]; rfl, rfl, rfl, rfl⟩)
      · have hlt_i : i < N := by rw [hN, nI_leI (by omega) (by omega)] at h10; omega
        refine ev_aload_n (q := 14) dX7_isMissed_13 rfl rfl ?_
        refine ev_iload_n (q := 15) dX7_isMissed_14 rfl rfl ?_
        refine ev_iload_n (q := 16) dX7_isMissed_15 rfl rfl ?_
        refine ev_pV (q := 19) (ci := 7) dX7_isMissed_16 rfl okX7_missedBy lmRX7_145 imX7_missedBy seX7_missedBy (by first | rfl | assumption | exact zf_kd (by assumption) | exact zw_kd (by assumption) | exact zt_kd (by assumption)) (by first | decide | exact zf_lt (by assumption) | exact zf_lt1 (by assumption) | exact zf_lt2 (by assumption) | exact zf_lt3 (by assumption) | exact zf_lt4 (by assumption) | exact zw_lt (by assumption) | exact zw_lt1 (by assumption) | exact zw_lt2 (by assumption) | exact zw_lt3 (by assumption) | exact zw_lt4 (by assumption) | exact zt_lt (by assumption)) (by decide) rfl (c_X7_missedBy G fo I hs hlt_i _) (by decide) rfl rfl (Nat.le_of_ble_eq_true rfl) ?_
        refine ev_iload_n (q := 20) dX7_isMissed_19 rfl rfl ?_
        refine ev_pS (q := 23) dX7_isMissed_20 rfl okX7_has lmRX7_220 smX7_has (c_X7_has G _ _ _ _ _) (by decide) rfl rfl (Nat.le_of_ble_eq_true rfl) ?_
        refine ev_if_eq (q := 26) (t := 28) dX7_isMissed_23 rfl (by decide) (fun h23 => ?_) (fun h23 => ?_)
        · simp only [zb_0, Nat.reduceAdd] at h23
          refine ev_iincL (q := 31) (L9 := [_, _, _, _]) (1 : Int32) dX7_isMissed_28 rfl rfl (by decide) (by decide) rfl rfl ?_
          refine ev_goto (t := 2) dX7_isMissed_31 (by decide) ?_
          rw [nI_1]
          exact ih (i + 1) (by omega) (by omega) (by rw [zany, hz, h23]; rfl)
        · simp only [zb_0, Nat.reduceAdd] at h23
          refine ev_iconst (q := 27) (1 : Int32) dX7_isMissed_26 rfl (by decide) ?_
          exact ev_iret dX7_isMissed_27 rfl (by first | rfl | exact zb_nar _ | assumption) (⟨by rw [zany_t _ hlt_i (by simpa using h23)]; rfl, rfl, rfl, rfl⟩)
  refine ev_iconst (q := 1) (0 : Int32) dX7_isMissed_0 rfl (by decide) ?_
  refine ev_istore_nL (q := 2) (L9 := [_, _, _, _]) dX7_isMissed_1 rfl (by decide) rfl rfl ?_
  exact lp2 (N + 1) 0 (by omega) (by omega) rfl
set_option maxHeartbeats 4000000 in
set_option maxRecDepth 100000 in
theorem c_X7_missedOf (G : zq_G) (fo : Bool) (I : zq_I) {N T Y : Nat} (hs : zS fo N T Y I) (x : Int32) : zq_Met G mX7_missedOf 5 0 0 [.ref 0, .int x] 138 I (zPs fo) (zq_pu (some (.int (zor (fun i => zMs (zV I) N i (I 119 15)) (fun _ => true) N &&& x))) 138 I (zPs fo)) := by
  refine zq_Met.of okX7_missedOf (Nat.le_of_ble_eq_true rfl) ?_
  show zq_E _ _ _ _ _ _ _ [some (.ref 0), some (.int x), none, none] _ _ _ _ _
  have hN8 := hs.n8
  have hN := hs.ppl
  have hfF := zF_is fo
  have lp4 : ∀ (k i : Nat) (b : Int32), N + 1 ≤ i + k → i ≤ N → b = zor (fun i => zMs (zV I) N i (I 119 15)) (fun _ => true) i → zq_E G mX7_missedOf 5 0 0 false 4 [some (.ref 0), some (.int x), some (.int b), some (.int (nI i))] [] 138 I (zPs fo) (zq_pu (some (.int (zor (fun i => zMs (zV I) N i (I 119 15)) (fun _ => true) N &&& x))) 138 I (zPs fo)) := by
    intro k
    induction k with
    | zero => intro i b hk hi; exact absurd hk (by omega)
    | succ k ih =>
      intro i b hk hi hb
      refine ev_iload_n (q := 5) dX7_missedOf_4 rfl rfl ?_
      refine ev_aload_n (q := 6) dX7_missedOf_5 rfl rfl ?_
      refine ev_getR (q := 9) (ci := 7) (f := 9) dX7_missedOf_6 rfl (by first | rfl | assumption | exact zf_kd (by assumption) | exact zw_kd (by assumption) | exact zt_kd (by assumption)) (by first | decide | exact zf_lt (by assumption) | exact zf_lt1 (by assumption) | exact zf_lt2 (by assumption) | exact zf_lt3 (by assumption) | exact zf_lt4 (by assumption) | exact zw_lt (by assumption) | exact zw_lt1 (by assumption) | exact zw_lt2 (by assumption) | exact zw_lt3 (by assumption) | exact zw_lt4 (by assumption) | exact zt_lt (by assumption)) (by decide) (by decide) lfRX7_66 rfl (by first | rfl | assumption | exact zf_p4 _ (by assumption) | exact zf_p5 _ (by assumption) | exact zf_p6 _ (by assumption) | exact zf_p7 _ (by assumption) | exact zw_p1 _ (by assumption) | exact zw_p2 _ (by assumption) | exact zw_p3 _ (by assumption) | exact zw_p4 _ (by assumption)) ?_
      refine ev_getI (q := 12) (ci := 0) (f := 2) dX7_missedOf_9 rfl (by first | rfl | assumption | exact zf_kd (by assumption) | exact zw_kd (by assumption) | exact zt_kd (by assumption)) (by first | decide | exact zf_lt (by assumption) | exact zf_lt1 (by assumption) | exact zf_lt2 (by assumption) | exact zf_lt3 (by assumption) | exact zf_lt4 (by assumption) | exact zw_lt (by assumption) | exact zw_lt1 (by assumption) | exact zw_lt2 (by assumption) | exact zw_lt3 (by assumption) | exact zw_lt4 (by assumption) | exact zt_lt (by assumption)) (by decide) (by decide) lfRX7_93 rfl ?_
      refine ev_icmp_ge (q := 15) (t := 36) dX7_missedOf_12 rfl (by decide) (fun h12 => ?_) (fun h12 => ?_)
      · obtain rfl : i = N := by rw [hN, nI_leI (by omega) (by omega)] at h12; omega
        refine ev_iload_n (q := 37) dX7_missedOf_36 rfl rfl ?_
        refine ev_iload_n (q := 38) dX7_missedOf_37 rfl rfl ?_
        refine ev_iand (q := 39) dX7_missedOf_38 rfl ?_
        exact ev_iret dX7_missedOf_39 rfl (by first | rfl | exact zb_nar _ | assumption) (⟨by subst hb; rfl, rfl, rfl, rfl⟩)
      · have hlt_i : i < N := by rw [hN, nI_leI (by omega) (by omega)] at h12; omega
        refine ev_iload_n (q := 16) dX7_missedOf_15 rfl rfl ?_
        refine ev_aload_n (q := 17) dX7_missedOf_16 rfl rfl ?_
        refine ev_iload_n (q := 18) dX7_missedOf_17 rfl rfl ?_
        refine ev_aload_n (q := 19) dX7_missedOf_18 rfl rfl ?_
        refine ev_getR (q := 22) (ci := 7) (f := 5) dX7_missedOf_19 rfl (by first | rfl | assumption | exact zf_kd (by assumption) | exact zw_kd (by assumption) | exact zt_kd (by assumption)) (by first | decide | exact zf_lt (by assumption) | exact zf_lt1 (by assumption) | exact zf_lt2 (by assumption) | exact zf_lt3 (by assumption) | exact zf_lt4 (by assumption) | exact zw_lt (by assumption) | exact zw_lt1 (by assumption) | exact zw_lt2 (by assumption) | exact zw_lt3 (by assumption) | exact zw_lt4 (by assumption) | exact zt_lt (by assumption)) (by decide) (by decide) lfRX7_47 rfl (by first | rfl | assumption | exact zf_p4 _ (by assumption) | exact zf_p5 _ (by assumption) | exact zf_p6 _ (by assumption) | exact zf_p7 _ (by assumption) | exact zw_p1 _ (by assumption) | exact zw_p2 _ (by assumption) | exact zw_p3 _ (by assumption) | exact zw_p4 _ (by assumption)) ?_
        refine ev_getI (q := 25) (ci := 6) (f := 0) dX7_missedOf_22 rfl (by first | rfl | assumption | exact zf_kd (by assumption) | exact zw_kd (by assumption) | exact zt_kd (by assumption)) (by first | decide | exact zf_lt (by assumption) | exact zf_lt1 (by assumption) | exact zf_lt2 (by assumption) | exact zf_lt3 (by assumption) | exact zf_lt4 (by assumption) | exact zw_lt (by assumption) | exact zw_lt1 (by assumption) | exact zw_lt2 (by assumption) | exact zw_lt3 (by assumption) | exact zw_lt4 (by assumption) | exact zt_lt (by assumption)) (by decide) (by decide) lfRX7_103 rfl ?_
        rw [hs.yea]
        refine ev_pV (q := 28) (ci := 7) dX7_missedOf_25 rfl okX7_missedBy lmRX7_145 imX7_missedBy seX7_missedBy (by first | rfl | assumption | exact zf_kd (by assumption) | exact zw_kd (by assumption) | exact zt_kd (by assumption)) (by first | decide | exact zf_lt (by assumption) | exact zf_lt1 (by assumption) | exact zf_lt2 (by assumption) | exact zf_lt3 (by assumption) | exact zf_lt4 (by assumption) | exact zw_lt (by assumption) | exact zw_lt1 (by assumption) | exact zw_lt2 (by assumption) | exact zw_lt3 (by assumption) | exact zw_lt4 (by assumption) | exact zt_lt (by assumption)) (by decide) rfl (c_X7_missedBy G fo I hs hlt_i _) (by decide) rfl rfl (Nat.le_of_ble_eq_true rfl) ?_
        refine ev_ior (q := 29) dX7_missedOf_28 rfl ?_
        refine ev_istore_nL (q := 30) (L9 := [_, _, _, _]) dX7_missedOf_29 rfl (by decide) rfl rfl ?_
        refine ev_iincL (q := 33) (L9 := [_, _, _, _]) (1 : Int32) dX7_missedOf_30 rfl rfl (by decide) (by decide) rfl rfl ?_
        refine ev_goto (t := 4) dX7_missedOf_33 (by decide) ?_
        rw [nI_1]
        exact ih (i + 1) _ (by omega) (by omega) (by exact zor_s hb rfl)
  refine ev_iconst (q := 1) (0 : Int32) dX7_missedOf_0 rfl (by decide) ?_
  refine ev_istore_nL (q := 2) (L9 := [_, _, _, _]) dX7_missedOf_1 rfl (by decide) rfl rfl ?_
  refine ev_iconst (q := 3) (0 : Int32) dX7_missedOf_2 rfl (by decide) ?_
  refine ev_istore_nL (q := 4) (L9 := [_, _, _, _]) dX7_missedOf_3 rfl (by decide) rfl rfl ?_
  exact lp4 (N + 1) 0 0 (by omega) (by omega) rfl
set_option maxHeartbeats 4000000 in
set_option maxRecDepth 100000 in
theorem c_X7_everybody (G : zq_G) (fo : Bool) (I : zq_I) {N T Y : Nat} (hs : zS fo N T Y I)  : zq_Met G mX7_everybody 0 0 0 [.ref 0] 138 I (zPs fo) (zq_pu (some (.int (((1 : Int32) <<< (nI N &&& 31)) - 1))) 138 I (zPs fo)) := by
  refine zq_Met.of okX7_everybody (Nat.le_of_ble_eq_true rfl) ?_
  show zq_E _ _ _ _ _ _ _ [some (.ref 0)] _ _ _ _ _
  have hN8 := hs.n8
  have hN := hs.ppl
  have hfF := zF_is fo
  refine ev_iconst (q := 1) (1 : Int32) dX7_everybody_0 rfl (by decide) ?_
  refine ev_aload_n (q := 2) dX7_everybody_1 rfl rfl ?_
  refine ev_getR (q := 5) (ci := 7) (f := 9) dX7_everybody_2 rfl (by first | rfl | assumption | exact zf_kd (by assumption) | exact zw_kd (by assumption) | exact zt_kd (by assumption)) (by first | decide | exact zf_lt (by assumption) | exact zf_lt1 (by assumption) | exact zf_lt2 (by assumption) | exact zf_lt3 (by assumption) | exact zf_lt4 (by assumption) | exact zw_lt (by assumption) | exact zw_lt1 (by assumption) | exact zw_lt2 (by assumption) | exact zw_lt3 (by assumption) | exact zw_lt4 (by assumption) | exact zt_lt (by assumption)) (by decide) (by decide) lfRX7_66 rfl (by first | rfl | assumption | exact zf_p4 _ (by assumption) | exact zf_p5 _ (by assumption) | exact zf_p6 _ (by assumption) | exact zf_p7 _ (by assumption) | exact zw_p1 _ (by assumption) | exact zw_p2 _ (by assumption) | exact zw_p3 _ (by assumption) | exact zw_p4 _ (by assumption)) ?_
  refine ev_getI (q := 8) (ci := 0) (f := 2) dX7_everybody_5 rfl (by first | rfl | assumption | exact zf_kd (by assumption) | exact zw_kd (by assumption) | exact zt_kd (by assumption)) (by first | decide | exact zf_lt (by assumption) | exact zf_lt1 (by assumption) | exact zf_lt2 (by assumption) | exact zf_lt3 (by assumption) | exact zf_lt4 (by assumption) | exact zw_lt (by assumption) | exact zw_lt1 (by assumption) | exact zw_lt2 (by assumption) | exact zw_lt3 (by assumption) | exact zw_lt4 (by assumption) | exact zt_lt (by assumption)) (by decide) (by decide) lfRX7_93 rfl ?_
  rw [hN]
  refine ev_ishl (q := 9) dX7_everybody_8 rfl ?_
  refine ev_iconst (q := 10) (1 : Int32) dX7_everybody_9 rfl (by decide) ?_
  refine ev_isub (q := 11) dX7_everybody_10 rfl ?_
  exact ev_iret dX7_everybody_11 rfl (by first | rfl | exact zb_nar _ | assumption) (⟨rfl, rfl, rfl, rfl⟩)
