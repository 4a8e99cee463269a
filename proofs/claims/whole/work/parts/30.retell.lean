def zLS (lf : Nat → Int32) (yr : Nat) (k : Int32) : Int32 := zor lf (fun y => decide (yr - k.toNatClampNeg ≤ y)) (yr + 1)
theorem zLS_congr {lf lf' : Nat → Int32} {yr : Nat} {k : Int32} (h : ∀ y, y < yr + 1 → lf y = lf' y) : zLS lf yr k = zLS lf' yr k := zor_congr (fun _ _ => rfl) (fun y hy _ => h y hy)
theorem zmax_y : ∀ yr, yr < 3 → ∀ m, m < 10 → (if nI yr - nI m < 0 then 0 else nI yr - nI m) = nI (yr - m) := by decide +kernel
def zCI (l : Int32) (V : zq_V) (N : Nat) (lf : Nat → Int32) (yr : Nat) (a : Int32) : Int32 := zCnt l V N (fun i => vA V i &&& zLS lf yr (vK V i)) (fun i => zhas a i)
def zwg (th g : Nat) : Nat := th &&& (th ^^^ (th &&& g))
theorem zwg_lt {h i : Nat} (hh : h < 256) : zwg h i < 256 := Nat.lt_of_le_of_lt Nat.and_le_left hh
theorem zwg_eq {h g : Nat} (hh : h < 256) : nI h &&& (nI g ^^^ (-1)) = nI (zwg h g) := nI_not (by omega)
noncomputable def zTF (l : Int32) (V : zq_V) (N : Nat) (ct : Nat → Int32) : Nat → Nat → Nat → (Nat → Int32) → Int32 × Int32 → Int32 × Int32
  | 0, _, th, _, ws => (ws.1 + 1, ws.2 &&& (nI th ^^^ (-1)))
  | k + 1, yr, th, lf, ws => (zsub th).foldl (fun ws g => if zCI l V N (upd lf yr (nI g)) yr (nI (zwg th g)) = ct yr then zTF l V N ct k (yr + 1) (zwg th g) (upd lf yr (nI g)) ws else ws) ws
/-- cells that retelling writes -/
def z568 (I I' : zq_I) : Prop := ∀ c, c ≠ 5 → c ≠ 6 → c ≠ 8 → I' c = I c
theorem z568_FC {fo : Bool} {I I' : zq_I} (h : z568 I I') : zFC fo I I' := fun c hc => h c (fun e => by subst e; simp [zsc] at hc) (fun e => by subst e; simp [zsc] at hc) (fun e => by subst e; simp [zsc] at hc)
theorem z8_FC {fo : Bool} {I I' : zq_I} (h : ∀ c, c ≠ 8 → I' c = I c) : zFC fo I I' := fun c hc => h c (fun e => by subst e; simp [zsc] at hc)
theorem zS.kR {fo : Bool} {N T Y p : Nat} {I : zq_I} (h : zS fo N T Y I) (hp : p < N) : ∃ m, m < 10 ∧ vK (zV I) p = nI m := by
  obtain ⟨-, -, ⟨m, hm, em⟩, -⟩ := h.2.2.2.2.2.1 p hp
  exact ⟨m, by omega, em⟩
set_option maxHeartbeats 4000000 in
set_option maxRecDepth 100000 in
theorem c_X3_leftSince (G : zq_G) (fo : Bool) (I : zq_I) {yr m : Nat} (hy : yr < 3) (hm : m < 10) : zq_Met G mX3_leftSince 1 0 0 [.ref 5, .int (nI yr - nI m), .int (nI yr)] 138 I (zPs fo) (zq_pu (some (.int (zLS (I 6) yr (nI m)))) 138 I (zPs fo)) := by
  refine zq_Met.of okX3_leftSince (Nat.le_of_ble_eq_true rfl) ?_
  show zq_E _ _ _ _ _ _ _ [some (.ref 5), some (.int (nI yr - nI m)), some (.int (nI yr)), none, none] _ _ _ _ _
  have lp9 : ∀ (k i : Nat) (b : Int32), (yr + 1) + 1 ≤ i + k → i ≤ (yr + 1) → yr - m ≤ i → b = zor (I 6) (fun y => decide (yr - (nI m).toNatClampNeg ≤ y)) i → zq_E G mX3_leftSince 1 0 0 false 9 [some (.ref 5), some (.int (nI yr - nI m)), some (.int (nI yr)), some (.int b), some (.int (nI i))] [] 138 I (zPs fo) (zq_pu (some (.int (zLS (I 6) yr (nI m)))) 138 I (zPs fo)) := by
    intro k
    induction k with
    | zero => intro i b hk hi; exact absurd hk (by omega)
    | succ k ih =>
      intro i b hk hi hmi hb
      refine ev_iload (q := 11) dX3_leftSince_9 rfl rfl ?_
      refine ev_iload_n (q := 12) dX3_leftSince_11 rfl rfl ?_
      refine ev_icmp_gt (q := 15) (t := 37) dX3_leftSince_12 rfl (by decide) (fun h12 => ?_) (fun h12 => ?_)
      · obtain rfl : i = yr + 1 := by rw [nI_ltI (by omega) (by omega)] at h12; omega
        refine ev_iload_n (q := 38) dX3_leftSince_37 rfl rfl ?_
        exact ev_iret dX3_leftSince_38 rfl (by first | rfl | exact zb_nar _ | assumption) (⟨by subst hb; rfl, rfl, rfl, rfl⟩)
      · have hlt_i : i < yr + 1 := by rw [nI_ltI (by omega) (by omega)] at h12; omega
        refine ev_iload (q := 17) dX3_leftSince_15 rfl rfl ?_
        refine ev_iconst (q := 18) (nI 3 : Int32) dX3_leftSince_17 rfl (by decide) ?_
        refine ev_icmp_ge (q := 21) (t := 37) dX3_leftSince_18 rfl (by decide) (fun h18 => ?_) (fun h18 => ?_)
        · exact absurd h18 (by rw [nI_leI (by omega) (by omega)]; omega)
        · refine ev_iload_n (q := 22) dX3_leftSince_21 rfl rfl ?_
          refine ev_aload_n (q := 23) dX3_leftSince_22 rfl rfl ?_
          refine ev_getR (q := 26) (ci := 3) (f := 0) dX3_leftSince_23 rfl (by first | rfl | assumption | exact zf_kd (by assumption) | exact zw_kd (by assumption) | exact zt_kd (by assumption)) (by first | decide | exact zf_lt (by assumption) | exact zf_lt1 (by assumption) | exact zf_lt2 (by assumption) | exact zf_lt3 (by assumption) | exact zf_lt4 (by assumption) | exact zw_lt (by assumption) | exact zw_lt1 (by assumption) | exact zw_lt2 (by assumption) | exact zw_lt3 (by assumption) | exact zw_lt4 (by assumption) | exact zt_lt (by assumption)) (by decide) (by decide) lfRX3_9 rfl (by first | rfl | assumption | exact zf_p4 _ (by assumption) | exact zf_p5 _ (by assumption) | exact zf_p6 _ (by assumption) | exact zf_p7 _ (by assumption) | exact zw_p1 _ (by assumption) | exact zw_p2 _ (by assumption) | exact zw_p3 _ (by assumption) | exact zw_p4 _ (by assumption)) ?_
          refine ev_iload (q := 28) dX3_leftSince_26 rfl rfl ?_
          refine ev_ialdN (q := 29) dX3_leftSince_28 rfl (by first | rfl | assumption | exact zf_kd1 (by assumption) | exact zf_kd2 (by assumption) | exact zf_kd3 (by assumption) | exact zf_kd4 (by assumption) | exact zw_kd1 (by assumption) | exact zw_kd2 (by assumption) | exact zw_kd3 (by assumption) | exact zw_kd4 (by assumption)) (by first | decide | exact zf_lt (by assumption) | exact zf_lt1 (by assumption) | exact zf_lt2 (by assumption) | exact zf_lt3 (by assumption) | exact zf_lt4 (by assumption) | exact zw_lt (by assumption) | exact zw_lt1 (by assumption) | exact zw_lt2 (by assumption) | exact zw_lt3 (by assumption) | exact zw_lt4 (by assumption) | exact zt_lt (by assumption)) (by first | omega | assumption) ?_
          refine ev_ior (q := 30) dX3_leftSince_29 rfl ?_
          refine ev_istore_nL (q := 31) (L9 := [_, _, _, _, _]) dX3_leftSince_30 rfl (by decide) rfl rfl ?_
          refine ev_iincL (q := 34) (L9 := [_, _, _, _, _]) (1 : Int32) dX3_leftSince_31 rfl rfl (by decide) (by decide) rfl rfl ?_
          refine ev_goto (t := 9) dX3_leftSince_34 (by decide) ?_
          rw [nI_1]
          exact ih (i + 1) _ (by omega) (by omega) (by omega) (zor_s hb (by simp only [nI_clamp (show m < 2 ^ 31 by omega)]; simp; omega))
  refine ev_iconst (q := 1) (0 : Int32) dX3_leftSince_0 rfl (by decide) ?_
  refine ev_istore_nL (q := 2) (L9 := [_, _, _, _, _]) dX3_leftSince_1 rfl (by decide) rfl rfl ?_
  refine ev_iload_n (q := 3) dX3_leftSince_2 rfl rfl ?_
  refine ev_iconst (q := 4) (0 : Int32) dX3_leftSince_3 rfl (by decide) ?_
  refine ev_maxI (q := 7) dX3_leftSince_4 rfl lmRX3_87 smmaxI iniMath cdmaxI (by decide) (Nat.le_of_ble_eq_true rfl) ?_
  rw [zmax_y yr hy m hm]
  refine ev_istoreL (q := 9) (L9 := [_, _, _, _, _]) dX3_leftSince_7 rfl (by decide) rfl rfl ?_
  exact lp9 (yr + 1 + 1) (yr - m) 0 (by omega) (by omega) (by omega) (zor_none (fun i hi => by rw [nI_clamp (show m < 2 ^ 31 by omega)]; simp; omega)).symm
set_option maxHeartbeats 4000000 in
set_option maxRecDepth 100000 in
theorem c_X3_countIn (G : zq_G) (fo : Bool) (I : zq_I) {N T Y : Nat} (hs : zS fo N T Y I) {yr : Nat} (hy : yr < 3) (x : Int32) : zq_Met G mX3_countIn 3 0 0 [.ref 5, .ref (zF fo), .int (nI yr), .int x] 138 I (zPs fo) (fun v n' I' P' => v = some (.int (zCI (I 119 4) (zV I) N (I 6) yr x)) ∧ n' = 138 ∧ P' = zPs fo ∧ ∀ c, c ≠ 8 → I' c = I c) := by
  refine zq_Met.of okX3_countIn (Nat.le_of_ble_eq_true rfl) ?_
  show zq_E _ _ _ _ _ _ _ [some (.ref 5), some (.ref (zF fo)), some (.int (nI yr)), some (.int x), none] _ _ _ _ _
  have hN8 := hs.n8
  have hN := hs.ppl
  have hfF := zF_is fo
  have lp10 : ∀ (k i : Nat) (I1 : zq_I), N + 1 ≤ i + k → i ≤ N → (∀ c, c ≠ 8 → I1 c = I c) → I1 8 0 = zsum (fun i => zpop ((fun i => vA (zV I) i &&& zLS (I 6) yr (vK (zV I) i)) i)) (fun i => zhas x i) i → I1 8 1 = zor (fun i => vA (zV I) i &&& zLS (I 6) yr (vK (zV I) i)) (fun i => zhas x i) i → zq_E G mX3_countIn 3 0 0 false 10 [some (.ref 5), some (.ref (zF fo)), some (.int (nI yr)), some (.int x), some (.int (nI i))] [] 138 I1 (zPs fo) (fun v n' I' P' => v = some (.int (zCI (I 119 4) (zV I) N (I 6) yr x)) ∧ n' = 138 ∧ P' = zPs fo ∧ ∀ c, c ≠ 8 → I' c = I c) := by
    intro k
    induction k with
    | zero => intro i I1 hk hi; exact absurd hk (by omega)
    | succ k ih =>
      intro i I1 hk hi hf h0 h1
      have hN1 : I1 (zF fo) 2 = nI N := by rw [hf _ (zFne0 (by decide))]; exact hN
      have hnm1 : ∀ p, p < N → I1 (zF fo + 2) p = vN (zV I) p := fun p hp => by rw [hf _ (zFne (by decide) 2)]; exact hs.nam hp
      refine ev_iload (q := 12) dX3_countIn_10 rfl rfl ?_
      refine ev_aload_n (q := 13) dX3_countIn_12 rfl rfl ?_
      refine ev_getI (q := 16) (ci := 0) (f := 2) dX3_countIn_13 rfl (by first | rfl | assumption | exact zf_kd (by assumption) | exact zw_kd (by assumption) | exact zt_kd (by assumption)) (by first | decide | exact zf_lt (by assumption) | exact zf_lt1 (by assumption) | exact zf_lt2 (by assumption) | exact zf_lt3 (by assumption) | exact zf_lt4 (by assumption) | exact zw_lt (by assumption) | exact zw_lt1 (by assumption) | exact zw_lt2 (by assumption) | exact zw_lt3 (by assumption) | exact zw_lt4 (by assumption) | exact zt_lt (by assumption)) (by decide) (by decide) lfRX3_61 rfl ?_
      refine ev_icmp_ge (q := 19) (t := 63) dX3_countIn_16 rfl (by decide) (fun h16 => ?_) (fun h16 => ?_)
      · obtain rfl : i = N := by rw [hN1, nI_leI (by omega) (by omega)] at h16; omega
        refine ev_aload_n (q := 64) dX3_countIn_63 rfl rfl ?_
        refine ev_getR (q := 67) (ci := 3) (f := 2) dX3_countIn_64 rfl (by first | rfl | assumption | exact zf_kd (by assumption) | exact zw_kd (by assumption) | exact zt_kd (by assumption)) (by first | decide | exact zf_lt (by assumption) | exact zf_lt1 (by assumption) | exact zf_lt2 (by assumption) | exact zf_lt3 (by assumption) | exact zf_lt4 (by assumption) | exact zw_lt (by assumption) | exact zw_lt1 (by assumption) | exact zw_lt2 (by assumption) | exact zw_lt3 (by assumption) | exact zw_lt4 (by assumption) | exact zt_lt (by assumption)) (by decide) (by decide) lfRX3_21 rfl (by first | rfl | assumption | exact zf_p4 _ (by assumption) | exact zf_p5 _ (by assumption) | exact zf_p6 _ (by assumption) | exact zf_p7 _ (by assumption) | exact zw_p1 _ (by assumption) | exact zw_p2 _ (by assumption) | exact zw_p3 _ (by assumption) | exact zw_p4 _ (by assumption)) ?_
        refine ev_aload_n (q := 68) dX3_countIn_67 rfl rfl ?_
        refine ev_pV (q := 71) (ci := 5) dX3_countIn_68 rfl okX5_countByLaw lmRX3_83 imX5_countByLaw seX5_countByLaw (by first | rfl | assumption | exact zf_kd (by assumption) | exact zw_kd (by assumption) | exact zt_kd (by assumption)) (by first | decide | exact zf_lt (by assumption) | exact zf_lt1 (by assumption) | exact zf_lt2 (by assumption) | exact zf_lt3 (by assumption) | exact zf_lt4 (by assumption) | exact zw_lt (by assumption) | exact zw_lt1 (by assumption) | exact zw_lt2 (by assumption) | exact zw_lt3 (by assumption) | exact zw_lt4 (by assumption) | exact zt_lt (by assumption)) (by decide) rfl (c_X5_countByLaw G fo I1 (zV I) (Or.inr rfl) hfF hN8 hN1 hnm1) (by decide) rfl rfl (Nat.le_of_ble_eq_true rfl) ?_
        exact ev_iret dX3_countIn_71 rfl (by first | rfl | exact zb_nar _ | assumption) (⟨by rw [hf _ (zFne0 (by decide)), hs.law, h0, h1]; rfl, rfl, rfl, hf⟩)
      · have hlt_i : i < N := by rw [hN1, nI_leI (by omega) (by omega)] at h16; omega
        refine ev_iload_n (q := 20) dX3_countIn_19 rfl rfl ?_
        refine ev_iload (q := 22) dX3_countIn_20 rfl rfl ?_
        refine ev_pSN (q := 25) dX3_countIn_22 rfl okX7_has lnRX3_66 smX7_has (c_X7_has G _ _ _ _ _) (by decide) rfl rfl (Nat.le_of_ble_eq_true rfl) ?_
        refine ev_if_eq (q := 28) (t := 57) dX3_countIn_25 rfl (by decide) (fun h25 => ?_) (fun h25 => ?_)
        · refine ev_iincL (q := 60) (L9 := [_, _, _, _, _]) (1 : Int32) dX3_countIn_57 rfl rfl (by decide) (by decide) rfl rfl ?_
          refine ev_goto (t := 10) dX3_countIn_60 (by decide) ?_
          rw [nI_1]
          exact ih (i + 1) _ (by omega) (by omega) hf (zsum_n h0 (zb_eq h25)) (zor_n h1 (zb_eq h25))
        · refine ev_aload_n (q := 29) dX3_countIn_28 rfl rfl ?_
          refine ev_getR (q := 32) (ci := 3) (f := 2) dX3_countIn_29 rfl (by first | rfl | assumption | exact zf_kd (by assumption) | exact zw_kd (by assumption) | exact zt_kd (by assumption)) (by first | decide | exact zf_lt (by assumption) | exact zf_lt1 (by assumption) | exact zf_lt2 (by assumption) | exact zf_lt3 (by assumption) | exact zf_lt4 (by assumption) | exact zw_lt (by assumption) | exact zw_lt1 (by assumption) | exact zw_lt2 (by assumption) | exact zw_lt3 (by assumption) | exact zw_lt4 (by assumption) | exact zt_lt (by assumption)) (by decide) (by decide) lfRX3_21 rfl (by first | rfl | assumption | exact zf_p4 _ (by assumption) | exact zf_p5 _ (by assumption) | exact zf_p6 _ (by assumption) | exact zf_p7 _ (by assumption) | exact zw_p1 _ (by assumption) | exact zw_p2 _ (by assumption) | exact zw_p3 _ (by assumption) | exact zw_p4 _ (by assumption)) ?_
          refine ev_aload_n (q := 33) dX3_countIn_32 rfl rfl ?_
          refine ev_getR (q := 36) (ci := 0) (f := 7) dX3_countIn_33 rfl (by first | rfl | assumption | exact zf_kd (by assumption) | exact zw_kd (by assumption) | exact zt_kd (by assumption)) (by first | decide | exact zf_lt (by assumption) | exact zf_lt1 (by assumption) | exact zf_lt2 (by assumption) | exact zf_lt3 (by assumption) | exact zf_lt4 (by assumption) | exact zw_lt (by assumption) | exact zw_lt1 (by assumption) | exact zw_lt2 (by assumption) | exact zw_lt3 (by assumption) | exact zw_lt4 (by assumption) | exact zt_lt (by assumption)) (by decide) (by decide) lfRX3_70 rfl (by first | rfl | assumption | exact zf_p4 _ (by assumption) | exact zf_p5 _ (by assumption) | exact zf_p6 _ (by assumption) | exact zf_p7 _ (by assumption) | exact zw_p1 _ (by assumption) | exact zw_p2 _ (by assumption) | exact zw_p3 _ (by assumption) | exact zw_p4 _ (by assumption)) ?_
          refine ev_iload (q := 38) dX3_countIn_36 rfl rfl ?_
          refine ev_ialdN (q := 39) dX3_countIn_38 rfl (by first | rfl | assumption | exact zf_kd1 (by assumption) | exact zf_kd2 (by assumption) | exact zf_kd3 (by assumption) | exact zf_kd4 (by assumption) | exact zw_kd1 (by assumption) | exact zw_kd2 (by assumption) | exact zw_kd3 (by assumption) | exact zw_kd4 (by assumption)) (by first | decide | exact zf_lt (by assumption) | exact zf_lt1 (by assumption) | exact zf_lt2 (by assumption) | exact zf_lt3 (by assumption) | exact zf_lt4 (by assumption) | exact zw_lt (by assumption) | exact zw_lt1 (by assumption) | exact zw_lt2 (by assumption) | exact zw_lt3 (by assumption) | exact zw_lt4 (by assumption) | exact zt_lt (by assumption)) (by first | omega | assumption) ?_
          rw [hf _ (zFne (by decide) 4), hs.ask hlt_i]
          refine ev_aload_n (q := 40) dX3_countIn_39 rfl rfl ?_
          refine ev_iload_n (q := 41) dX3_countIn_40 rfl rfl ?_
          refine ev_aload_n (q := 42) dX3_countIn_41 rfl rfl ?_
          refine ev_getR (q := 45) (ci := 0) (f := 6) dX3_countIn_42 rfl (by first | rfl | assumption | exact zf_kd (by assumption) | exact zw_kd (by assumption) | exact zt_kd (by assumption)) (by first | decide | exact zf_lt (by assumption) | exact zf_lt1 (by assumption) | exact zf_lt2 (by assumption) | exact zf_lt3 (by assumption) | exact zf_lt4 (by assumption) | exact zw_lt (by assumption) | exact zw_lt1 (by assumption) | exact zw_lt2 (by assumption) | exact zw_lt3 (by assumption) | exact zw_lt4 (by assumption) | exact zt_lt (by assumption)) (by decide) (by decide) lfRX3_73 rfl (by first | rfl | assumption | exact zf_p4 _ (by assumption) | exact zf_p5 _ (by assumption) | exact zf_p6 _ (by assumption) | exact zf_p7 _ (by assumption) | exact zw_p1 _ (by assumption) | exact zw_p2 _ (by assumption) | exact zw_p3 _ (by assumption) | exact zw_p4 _ (by assumption)) ?_
          refine ev_iload (q := 47) dX3_countIn_45 rfl rfl ?_
          refine ev_ialdN (q := 48) dX3_countIn_47 rfl (by first | rfl | assumption | exact zf_kd1 (by assumption) | exact zf_kd2 (by assumption) | exact zf_kd3 (by assumption) | exact zf_kd4 (by assumption) | exact zw_kd1 (by assumption) | exact zw_kd2 (by assumption) | exact zw_kd3 (by assumption) | exact zw_kd4 (by assumption)) (by first | decide | exact zf_lt (by assumption) | exact zf_lt1 (by assumption) | exact zf_lt2 (by assumption) | exact zf_lt3 (by assumption) | exact zf_lt4 (by assumption) | exact zw_lt (by assumption) | exact zw_lt1 (by assumption) | exact zw_lt2 (by assumption) | exact zw_lt3 (by assumption) | exact zw_lt4 (by assumption) | exact zt_lt (by assumption)) (by first | omega | assumption) ?_
          refine ev_isub (q := 49) dX3_countIn_48 rfl ?_
          rw [hf _ (zFne (by decide) 3), hs.kee hlt_i]
          obtain ⟨m, hm, em⟩ := hs.kR hlt_i
          rw [em]
          refine ev_iload_n (q := 50) dX3_countIn_49 rfl rfl ?_
          refine ev_pV (q := 53) (ci := 3) dX3_countIn_50 rfl okX3_leftSince lmRX3_76 imX3_leftSince seX3_leftSince (by first | rfl | assumption | exact zf_kd (by assumption) | exact zw_kd (by assumption) | exact zt_kd (by assumption)) (by first | decide | exact zf_lt (by assumption) | exact zf_lt1 (by assumption) | exact zf_lt2 (by assumption) | exact zf_lt3 (by assumption) | exact zf_lt4 (by assumption) | exact zw_lt (by assumption) | exact zw_lt1 (by assumption) | exact zw_lt2 (by assumption) | exact zw_lt3 (by assumption) | exact zw_lt4 (by assumption) | exact zt_lt (by assumption)) (by decide) rfl (c_X3_leftSince G fo I1 hy hm) (by decide) rfl rfl (Nat.le_of_ble_eq_true rfl) ?_
          rw [hf 6 (by decide), ← em]
          refine ev_iand (q := 54) dX3_countIn_53 rfl ?_
          refine ev_cV (q := 57) (ci := 5) dX3_countIn_54 rfl okX5_addMissed lmRX3_79 imX5_addMissed seX5_addMissed (by first | rfl | assumption | exact zf_kd (by assumption) | exact zw_kd (by assumption) | exact zt_kd (by assumption)) (by first | decide | exact zf_lt (by assumption) | exact zf_lt1 (by assumption) | exact zf_lt2 (by assumption) | exact zf_lt3 (by assumption) | exact zf_lt4 (by assumption) | exact zw_lt (by assumption) | exact zw_lt1 (by assumption) | exact zw_lt2 (by assumption) | exact zw_lt3 (by assumption) | exact zw_lt4 (by assumption) | exact zt_lt (by assumption)) (by decide) rfl (c_X5_addMissed G fo _ (Or.inr rfl) _) (by decide) rfl rfl (Nat.le_of_ble_eq_true rfl) (fun v54 n54 I54 P54 hR54 => ?_)
          obtain ⟨rfl, rfl, rfl, rfl⟩ := hR54
          refine ev_iincL (q := 60) (L9 := [_, _, _, _, _]) (1 : Int32) dX3_countIn_57 rfl rfl (by decide) (by decide) rfl rfl ?_
          refine ev_goto (t := 10) dX3_countIn_60 (by decide) ?_
          rw [nI_1]
          exact ih (i + 1) _ (by omega) (by omega) (fun c hc => by rw [zu_other hc, zu_other hc]; exact hf c hc) (by rw [← zsum_s h0 (zb_ne h25)]; simp [zu]) (by rw [← zor_s h1 (zb_ne h25)]; simp [zu])
  refine ev_aload_n (q := 1) dX3_countIn_0 rfl rfl ?_
  refine ev_getR (q := 4) (ci := 3) (f := 2) dX3_countIn_1 rfl (by first | rfl | assumption | exact zf_kd (by assumption) | exact zw_kd (by assumption) | exact zt_kd (by assumption)) (by first | decide | exact zf_lt (by assumption) | exact zf_lt1 (by assumption) | exact zf_lt2 (by assumption) | exact zf_lt3 (by assumption) | exact zf_lt4 (by assumption) | exact zw_lt (by assumption) | exact zw_lt1 (by assumption) | exact zw_lt2 (by assumption) | exact zw_lt3 (by assumption) | exact zw_lt4 (by assumption) | exact zt_lt (by assumption)) (by decide) (by decide) lfRX3_21 rfl (by first | rfl | assumption | exact zf_p4 _ (by assumption) | exact zf_p5 _ (by assumption) | exact zf_p6 _ (by assumption) | exact zf_p7 _ (by assumption) | exact zw_p1 _ (by assumption) | exact zw_p2 _ (by assumption) | exact zw_p3 _ (by assumption) | exact zw_p4 _ (by assumption)) ?_
  refine ev_cV (q := 7) (ci := 5) dX3_countIn_4 rfl okX5_clear lmRX3_58 imX5_clear seX5_clear (by first | rfl | assumption | exact zf_kd (by assumption) | exact zw_kd (by assumption) | exact zt_kd (by assumption)) (by first | decide | exact zf_lt (by assumption) | exact zf_lt1 (by assumption) | exact zf_lt2 (by assumption) | exact zf_lt3 (by assumption) | exact zf_lt4 (by assumption) | exact zw_lt (by assumption) | exact zw_lt1 (by assumption) | exact zw_lt2 (by assumption) | exact zw_lt3 (by assumption) | exact zw_lt4 (by assumption) | exact zt_lt (by assumption)) (by decide) rfl (c_X5_clear G fo _ (Or.inr rfl)) (by decide) rfl rfl (Nat.le_of_ble_eq_true rfl) (fun v4 n4 I4 P4 hR4 => ?_)
  obtain ⟨rfl, rfl, rfl, rfl⟩ := hR4
  refine ev_iconst (q := 8) (0 : Int32) dX3_countIn_7 rfl (by decide) ?_
  refine ev_istoreL (q := 10) (L9 := [_, _, _, _, _]) dX3_countIn_8 rfl (by decide) rfl rfl ?_
  exact lp10 (N + 1) 0 _ (by omega) (by omega) (fun c hc => by rw [zu_other hc, zu_other hc]) (by simp [zu, zsum]) (by simp [zu, zor])
set_option maxHeartbeats 4000000 in
set_option maxRecDepth 100000 in
theorem c_tell0 (G : zq_G) (fo : Bool) (I : zq_I) {N T Y : Nat} (hs : zS fo N T Y I) {yr th : Nat} (lf : Nat → Int32) (hth : th < 256) (hlf : ∀ y, y < yr → I 6 y = lf y) (hyr : yr < 4) (h5 : I 5 3 = nI yr) : zq_Met G mX3_tellFrom 4 0 0 [.ref 5, .ref (zF fo), .int (nI yr), .int (nI th)] 138 I (zPs fo) (fun v n' I' P' => v = none ∧ n' = 138 ∧ P' = zPs fo ∧ z568 I I' ∧ I' 5 3 = I 5 3 ∧ (∀ y, y < yr → I' 6 y = lf y) ∧ (I' 5 4, I' 5 5) = zTF (I 119 4) (zV I) N (I 7) 0 yr th lf (I 5 4, I 5 5)) := by
  refine zq_Met.of okX3_tellFrom (Nat.le_of_ble_eq_true rfl) ?_
  show zq_E _ _ _ _ _ _ _ [some (.ref 5), some (.ref (zF fo)), some (.int (nI yr)), some (.int (nI th)), none, none, none] _ _ _ _ _
  have hN8 := hs.n8
  have hN := hs.ppl
  have hfF := zF_is fo
  refine ev_iload_n (q := 1) dX3_tellFrom_0 rfl rfl ?_
  refine ev_aload_n (q := 2) dX3_tellFrom_1 rfl rfl ?_
  refine ev_getI (q := 5) (ci := 3) (f := 3) dX3_tellFrom_2 rfl (by first | rfl | assumption | exact zf_kd (by assumption) | exact zw_kd (by assumption) | exact zt_kd (by assumption)) (by first | decide | exact zf_lt (by assumption) | exact zf_lt1 (by assumption) | exact zf_lt2 (by assumption) | exact zf_lt3 (by assumption) | exact zf_lt4 (by assumption) | exact zw_lt (by assumption) | exact zw_lt1 (by assumption) | exact zw_lt2 (by assumption) | exact zw_lt3 (by assumption) | exact zw_lt4 (by assumption) | exact zt_lt (by assumption)) (by decide) (by decide) lfRX3_31 rfl ?_
  refine ev_icmp_lt (q := 8) (t := 31) dX3_tellFrom_5 rfl (by decide) (fun h5_ => ?_) (fun h5_ => ?_)
  · exact absurd h5_ (by rw [h5]; exact fun h => absurd h (Int32.lt_irrefl))
  · refine ev_aload_n (q := 9) dX3_tellFrom_8 rfl rfl ?_
    refine ev_dup (q := 10) dX3_tellFrom_9 rfl rfl ?_
    refine ev_getI (q := 13) (ci := 3) (f := 4) dX3_tellFrom_10 rfl (by first | rfl | assumption | exact zf_kd (by assumption) | exact zw_kd (by assumption) | exact zt_kd (by assumption)) (by first | decide | exact zf_lt (by assumption) | exact zf_lt1 (by assumption) | exact zf_lt2 (by assumption) | exact zf_lt3 (by assumption) | exact zf_lt4 (by assumption) | exact zw_lt (by assumption) | exact zw_lt1 (by assumption) | exact zw_lt2 (by assumption) | exact zw_lt3 (by assumption) | exact zw_lt4 (by assumption) | exact zt_lt (by assumption)) (by decide) (by decide) lfRX3_35 rfl ?_
    refine ev_iconst (q := 14) (1 : Int32) dX3_tellFrom_13 rfl (by decide) ?_
    refine ev_iadd (q := 15) dX3_tellFrom_14 rfl ?_
    refine ev_putI (q := 18) (ci := 3) (f := 4) dX3_tellFrom_15 rfl (by first | rfl | assumption | exact zf_kd (by assumption) | exact zw_kd (by assumption) | exact zt_kd (by assumption)) (by first | decide | exact zf_lt (by assumption) | exact zf_lt1 (by assumption) | exact zf_lt2 (by assumption) | exact zf_lt3 (by assumption) | exact zf_lt4 (by assumption) | exact zw_lt (by assumption) | exact zw_lt1 (by assumption) | exact zw_lt2 (by assumption) | exact zw_lt3 (by assumption) | exact zw_lt4 (by assumption) | exact zt_lt (by assumption)) (by decide) (by decide) lfRX3_35 rfl rfl rfl rfl ?_
    refine ev_aload_n (q := 19) dX3_tellFrom_18 rfl rfl ?_
    refine ev_dup (q := 20) dX3_tellFrom_19 rfl rfl ?_
    refine ev_getI (q := 23) (ci := 3) (f := 5) dX3_tellFrom_20 rfl (by first | rfl | assumption | exact zf_kd (by assumption) | exact zw_kd (by assumption) | exact zt_kd (by assumption)) (by first | decide | exact zf_lt (by assumption) | exact zf_lt1 (by assumption) | exact zf_lt2 (by assumption) | exact zf_lt3 (by assumption) | exact zf_lt4 (by assumption) | exact zw_lt (by assumption) | exact zw_lt1 (by assumption) | exact zw_lt2 (by assumption) | exact zw_lt3 (by assumption) | exact zw_lt4 (by assumption) | exact zt_lt (by assumption)) (by decide) (by decide) lfRX3_38 rfl ?_
    refine ev_iload_n (q := 24) dX3_tellFrom_23 rfl rfl ?_
    refine ev_iconst (q := 25) ((-1) : Int32) dX3_tellFrom_24 rfl (by decide) ?_
    refine ev_ixor (q := 26) dX3_tellFrom_25 rfl ?_
    refine ev_iand (q := 27) dX3_tellFrom_26 rfl ?_
    refine ev_putI (q := 30) (ci := 3) (f := 5) dX3_tellFrom_27 rfl (by first | rfl | assumption | exact zf_kd (by assumption) | exact zw_kd (by assumption) | exact zt_kd (by assumption)) (by first | decide | exact zf_lt (by assumption) | exact zf_lt1 (by assumption) | exact zf_lt2 (by assumption) | exact zf_lt3 (by assumption) | exact zf_lt4 (by assumption) | exact zw_lt (by assumption) | exact zw_lt1 (by assumption) | exact zw_lt2 (by assumption) | exact zw_lt3 (by assumption) | exact zw_lt4 (by assumption) | exact zt_lt (by assumption)) (by decide) (by decide) lfRX3_38 rfl rfl rfl rfl ?_
    exact ev_vret dX3_tellFrom_30 rfl (⟨rfl, rfl, rfl, fun c h5 h6 h8 => by rw [zu_other h5, zu_other h5], by simp [zu], fun y hy => by rw [zu_other (by decide), zu_other (by decide)]; exact hlf y hy, by simp [zu, zTF]⟩)
set_option maxHeartbeats 4000000 in
set_option maxRecDepth 100000 in
theorem c_tell1 (G : zq_G) (fo : Bool) (I : zq_I) {N T Y : Nat} (hs : zS fo N T Y I) {yr th : Nat} (lf : Nat → Int32) (hth : th < 256) (hlf : ∀ y, y < yr → I 6 y = lf y) (hyr : yr + 1 < 4) (h5 : I 5 3 = nI (yr + 1)) : zq_Met G mX3_tellFrom 5 0 0 [.ref 5, .ref (zF fo), .int (nI yr), .int (nI th)] 138 I (zPs fo) (fun v n' I' P' => v = none ∧ n' = 138 ∧ P' = zPs fo ∧ z568 I I' ∧ I' 5 3 = I 5 3 ∧ (∀ y, y < yr → I' 6 y = lf y) ∧ (I' 5 4, I' 5 5) = zTF (I 119 4) (zV I) N (I 7) 1 yr th lf (I 5 4, I 5 5)) := by
  refine zq_Met.of okX3_tellFrom (Nat.le_of_ble_eq_true rfl) ?_
  show zq_E _ _ _ _ _ _ _ [some (.ref 5), some (.ref (zF fo)), some (.int (nI yr)), some (.int (nI th)), none, none, none] _ _ _ _ _
  have hN8 := hs.n8
  have hN := hs.ppl
  have hfF := zF_is fo
  have hd3 := (zsub_dec th hth).2.2
  have hlen := (zsub_dec th hth).2.1
  have hzat : ∀ k g, (zsub th)[k]? = some g → zpq (nI th) k = nI g := fun k g h => zsub_at hth h
  simp only [zTF]
  generalize zsub th = Z at hd3 hlen hzat ⊢
  obtain ⟨LN, hLN⟩ : ∃ n, n = Z.length := ⟨_, rfl⟩
  rw [← hLN] at hd3 hlen
  have hyr3 : yr < 3 := by omega
  have lp45 : ∀ (k i : Nat) (I1 : zq_I) (aw : Int32), LN + 1 ≤ i + k → i ≤ LN → z568 I I1 → I1 5 3 = I 5 3 → (∀ y, y < yr → I1 6 y = lf y) → (I1 5 4, I1 5 5) = (Z.take i).foldl (fun ws g => if zCI (I 119 4) (zV I) N (upd lf yr (nI g)) yr (nI (zwg th g)) = I 7 yr then zTF (I 119 4) (zV I) N (I 7) 0 (yr + 1) (zwg th g) (upd lf yr (nI g)) ws else ws) (I 5 4, I 5 5) → aw = zpq (nI th) i → zq_E G mX3_tellFrom 5 0 0 false 45 [some (.ref 5), some (.ref (zF fo)), some (.int (nI yr)), some (.int (nI th)), some (.int (nI LN)), some (.int aw), some (.int (nI i))] [] 138 I1 (zPs fo) (fun v n' I' P' => v = none ∧ n' = 138 ∧ P' = zPs fo ∧ z568 I I' ∧ I' 5 3 = I 5 3 ∧ (∀ y, y < yr → I' 6 y = lf y) ∧ (I' 5 4, I' 5 5) = Z.foldl (fun ws g => if zCI (I 119 4) (zV I) N (upd lf yr (nI g)) yr (nI (zwg th g)) = I 7 yr then zTF (I 119 4) (zV I) N (I 7) 0 (yr + 1) (zwg th g) (upd lf yr (nI g)) ws else ws) (I 5 4, I 5 5)) := by
    intro k
    induction k with
    | zero => intro i I1 aw hk hi; exact absurd hk (by omega)
    | succ k ih =>
      intro i I1 aw hk hi hfr1 h51 h61 hws1 haw
      
      refine ev_iload (q := 47) dX3_tellFrom_45 rfl rfl ?_
      refine ev_iload (q := 49) dX3_tellFrom_47 rfl rfl ?_
      refine ev_icmp_ge (q := 52) (t := 109) dX3_tellFrom_49 rfl (by decide) (fun h49 => ?_) (fun h49 => ?_)
      · obtain rfl : i = LN := by rw [nI_leI (by omega) (by omega)] at h49; omega
        exact ev_vret dX3_tellFrom_109 rfl (⟨rfl, rfl, rfl, hfr1, h51, h61, by rw [hws1, hLN, List.take_length]⟩)
      · have hlt_i : i < LN := by rw [nI_leI (by omega) (by omega)] at h49; omega
        obtain ⟨g, hg⟩ : ∃ g, Z[i]? = some g := ⟨_, List.getElem?_eq_getElem (by omega)⟩
        obtain rfl : aw = nI g := by rw [haw, hzat _ _ hg]
        refine ev_aload_n (q := 53) dX3_tellFrom_52 rfl rfl ?_
        refine ev_getR (q := 56) (ci := 3) (f := 0) dX3_tellFrom_53 rfl (by first | rfl | assumption | exact zf_kd (by assumption) | exact zw_kd (by assumption) | exact zt_kd (by assumption)) (by first | decide | exact zf_lt (by assumption) | exact zf_lt1 (by assumption) | exact zf_lt2 (by assumption) | exact zf_lt3 (by assumption) | exact zf_lt4 (by assumption) | exact zw_lt (by assumption) | exact zw_lt1 (by assumption) | exact zw_lt2 (by assumption) | exact zw_lt3 (by assumption) | exact zw_lt4 (by assumption) | exact zt_lt (by assumption)) (by decide) (by decide) lfRX3_9 rfl (by first | rfl | assumption | exact zf_p4 _ (by assumption) | exact zf_p5 _ (by assumption) | exact zf_p6 _ (by assumption) | exact zf_p7 _ (by assumption) | exact zw_p1 _ (by assumption) | exact zw_p2 _ (by assumption) | exact zw_p3 _ (by assumption) | exact zw_p4 _ (by assumption)) ?_
        refine ev_iload_n (q := 57) dX3_tellFrom_56 rfl rfl ?_
        refine ev_iload (q := 59) dX3_tellFrom_57 rfl rfl ?_
        refine ev_iastN (q := 60) dX3_tellFrom_59 rfl (by first | rfl | assumption | exact zf_kd1 (by assumption) | exact zf_kd2 (by assumption) | exact zf_kd3 (by assumption) | exact zf_kd4 (by assumption) | exact zw_kd1 (by assumption) | exact zw_kd2 (by assumption) | exact zw_kd3 (by assumption) | exact zw_kd4 (by assumption)) (by first | decide | exact zf_lt (by assumption) | exact zf_lt1 (by assumption) | exact zf_lt2 (by assumption) | exact zf_lt3 (by assumption) | exact zf_lt4 (by assumption) | exact zw_lt (by assumption) | exact zw_lt1 (by assumption) | exact zw_lt2 (by assumption) | exact zw_lt3 (by assumption) | exact zw_lt4 (by assumption) | exact zt_lt (by assumption)) (show yr < 3 by omega) ?_
        obtain ⟨I2, hI2⟩ : ∃ I2, I2 = zu I1 6 yr (nI g) := ⟨_, rfl⟩
        rw [← hI2]
        have hfr : z568 I I2 := fun c q5 q6 q8 => by rw [hI2, zu_other q6]; exact hfr1 c q5 q6 q8
        have h6 : ∀ y, y < yr + 1 → I2 6 y = upd lf yr (nI g) y := fun y hy => by
          rw [hI2]
          by_cases hyy : y = yr
          · subst hyy; simp [zu, upd]
          · simp [zu, upd, hyy]; exact h61 y (by omega)
        have hy3 : I2 5 3 = I 5 3 := by rw [hI2, zu_other (by decide)]; exact h51
        have hFC2 : zFC fo I I2 := z568_FC hfr
        have hs2 := hFC2.S hs
        have h0 : (I2 5 4, I2 5 5) = (Z.take i).foldl (fun ws g => if zCI (I 119 4) (zV I) N (upd lf yr (nI g)) yr (nI (zwg th g)) = I 7 yr then zTF (I 119 4) (zV I) N (I 7) 0 (yr + 1) (zwg th g) (upd lf yr (nI g)) ws else ws) (I 5 4, I 5 5) := by rw [hI2, zu_other (by decide)]; exact hws1
        refine ev_aload_n (q := 61) dX3_tellFrom_60 rfl rfl ?_
        refine ev_aload_n (q := 62) dX3_tellFrom_61 rfl rfl ?_
        refine ev_iload_n (q := 63) dX3_tellFrom_62 rfl rfl ?_
        refine ev_iload_n (q := 64) dX3_tellFrom_63 rfl rfl ?_
        refine ev_iload (q := 66) dX3_tellFrom_64 rfl rfl ?_
        refine ev_iconst (q := 67) ((-1) : Int32) dX3_tellFrom_66 rfl (by decide) ?_
        refine ev_ixor (q := 68) dX3_tellFrom_67 rfl ?_
        refine ev_iand (q := 69) dX3_tellFrom_68 rfl ?_
        rw [zwg_eq hth]
        refine ev_cV (q := 72) (ci := 3) dX3_tellFrom_69 rfl okX3_countIn lmRX3_51 imX3_countIn seX3_countIn (by first | rfl | assumption | exact zf_kd (by assumption) | exact zw_kd (by assumption) | exact zt_kd (by assumption)) (by first | decide | exact zf_lt (by assumption) | exact zf_lt1 (by assumption) | exact zf_lt2 (by assumption) | exact zf_lt3 (by assumption) | exact zf_lt4 (by assumption) | exact zw_lt (by assumption) | exact zw_lt1 (by assumption) | exact zw_lt2 (by assumption) | exact zw_lt3 (by assumption) | exact zw_lt4 (by assumption) | exact zt_lt (by assumption)) (by decide) rfl (c_X3_countIn G fo I2 hs2 hyr3 _) (by decide) rfl rfl (Nat.le_of_ble_eq_true rfl) (fun v69 n69 I69 P69 hR69 => ?_)
        obtain ⟨rfl, rfl, rfl, hf8⟩ := hR69
        have hcq : zCI (I2 119 4) (zV I2) N (I2 6) yr (nI (zwg th g)) = zCI (I 119 4) (zV I) N (upd lf yr (nI g)) yr (nI (zwg th g)) := by
          rw [hFC2.V, hFC2 119 (by cases fo <;> rfl)]
          exact zCnt_congr (fun _ _ => rfl) (fun j _ _ => by rw [zLS_congr (fun y hy => h6 y hy)])
        rw [hcq]
        have hfr2 : z568 I I69 := fun c q5 q6 q8 => by rw [hf8 c q8]; exact hfr c q5 q6 q8
        have h63 : ∀ y, y < yr + 1 → I69 6 y = upd lf yr (nI g) y := fun y hy => by rw [hf8 6 (by decide)]; exact h6 y hy
        have h53 : I69 5 3 = I 5 3 := by rw [hf8 5 (by decide)]; exact hy3
        have hws : (I69 5 4, I69 5 5) = (Z.take i).foldl (fun ws g => if zCI (I 119 4) (zV I) N (upd lf yr (nI g)) yr (nI (zwg th g)) = I 7 yr then zTF (I 119 4) (zV I) N (I 7) 0 (yr + 1) (zwg th g) (upd lf yr (nI g)) ws else ws) (I 5 4, I 5 5) := by rw [hf8 5 (by decide)]; exact h0
        refine ev_aload_n (q := 73) dX3_tellFrom_72 rfl rfl ?_
        refine ev_getR (q := 76) (ci := 3) (f := 1) dX3_tellFrom_73 rfl (by first | rfl | assumption | exact zf_kd (by assumption) | exact zw_kd (by assumption) | exact zt_kd (by assumption)) (by first | decide | exact zf_lt (by assumption) | exact zf_lt1 (by assumption) | exact zf_lt2 (by assumption) | exact zf_lt3 (by assumption) | exact zf_lt4 (by assumption) | exact zw_lt (by assumption) | exact zw_lt1 (by assumption) | exact zw_lt2 (by assumption) | exact zw_lt3 (by assumption) | exact zw_lt4 (by assumption) | exact zt_lt (by assumption)) (by decide) (by decide) lfRX3_15 rfl (by first | rfl | assumption | exact zf_p4 _ (by assumption) | exact zf_p5 _ (by assumption) | exact zf_p6 _ (by assumption) | exact zf_p7 _ (by assumption) | exact zw_p1 _ (by assumption) | exact zw_p2 _ (by assumption) | exact zw_p3 _ (by assumption) | exact zw_p4 _ (by assumption)) ?_
        refine ev_iload_n (q := 77) dX3_tellFrom_76 rfl rfl ?_
        refine ev_ialdN (q := 78) dX3_tellFrom_77 rfl (by first | rfl | assumption | exact zf_kd1 (by assumption) | exact zf_kd2 (by assumption) | exact zf_kd3 (by assumption) | exact zf_kd4 (by assumption) | exact zw_kd1 (by assumption) | exact zw_kd2 (by assumption) | exact zw_kd3 (by assumption) | exact zw_kd4 (by assumption)) (by first | decide | exact zf_lt (by assumption) | exact zf_lt1 (by assumption) | exact zf_lt2 (by assumption) | exact zf_lt3 (by assumption) | exact zf_lt4 (by assumption) | exact zw_lt (by assumption) | exact zw_lt1 (by assumption) | exact zw_lt2 (by assumption) | exact zw_lt3 (by assumption) | exact zw_lt4 (by assumption) | exact zt_lt (by assumption)) (show yr < 3 by omega) ?_
        rw [hf8 7 (by decide), hfr 7 (by decide) (by decide) (by decide)]
        refine ev_icmp_ne (q := 81) (t := 95) dX3_tellFrom_78 rfl (by decide) (fun h78 => ?_) (fun h78 => ?_)
        · refine ev_iload (q := 97) dX3_tellFrom_95 rfl rfl ?_
          refine ev_iload_n (q := 98) dX3_tellFrom_97 rfl rfl ?_
          refine ev_pSN (q := 101) dX3_tellFrom_98 rfl okX7_nextPart lnRX3_55 smX7_nextPart (c_X7_nextPart G _ _ _ _ _) (by decide) rfl rfl (Nat.le_of_ble_eq_true rfl) ?_
          refine ev_istoreL (q := 103) (L9 := [_, _, _, _, _, _, _]) dX3_tellFrom_101 rfl (by decide) rfl rfl ?_
          refine ev_iincL (q := 106) (L9 := [_, _, _, _, _, _, _]) (1 : Int32) dX3_tellFrom_103 rfl rfl (by decide) (by decide) rfl rfl ?_
          refine ev_goto (t := 45) dX3_tellFrom_106 (by decide) ?_
          rw [nI_1]
          exact ih (i + 1) _ _ (by omega) (by omega) hfr2 h53 (fun y hy => by rw [h63 y (by omega)]; simp [upd]; omega) (by rw [zfold_s hg, if_neg h78]; exact hws) (by show _ = (zpq (nI th) i - nI th) &&& nI th; rw [hzat _ _ hg])
        · refine ev_aload_n (q := 82) dX3_tellFrom_81 rfl rfl ?_
          refine ev_aload_n (q := 83) dX3_tellFrom_82 rfl rfl ?_
          refine ev_iload_n (q := 84) dX3_tellFrom_83 rfl rfl ?_
          refine ev_iconst (q := 85) (1 : Int32) dX3_tellFrom_84 rfl (by decide) ?_
          refine ev_iadd (q := 86) dX3_tellFrom_85 rfl ?_
          refine ev_iload_n (q := 87) dX3_tellFrom_86 rfl rfl ?_
          refine ev_iload (q := 89) dX3_tellFrom_87 rfl rfl ?_
          refine ev_iconst (q := 90) ((-1) : Int32) dX3_tellFrom_89 rfl (by decide) ?_
          refine ev_ixor (q := 91) dX3_tellFrom_90 rfl ?_
          refine ev_iand (q := 92) dX3_tellFrom_91 rfl ?_
          rw [zwg_eq hth, nI_1]
          refine ev_cS (q := 95) dX3_tellFrom_92 rfl okX3_tellFrom lmRX3_41 smX3_tellFrom (c_tell0 G fo I69 ((z568_FC hfr2).S hs) (yr := yr + 1) (upd lf yr (nI g)) (zwg_lt hth) h63 (by omega) (by rw [h53, h5])) (by decide) rfl rfl (Nat.le_of_ble_eq_true rfl) (fun v92 n92 I92 P92 hR92 => ?_)
          obtain ⟨rfl, rfl, rfl, hfr3, h533, h633, hws3⟩ := hR92
          rw [(z568_FC hfr2 : zFC fo I I69).V, hfr2 119 (by decide) (by decide) (by decide), hfr2 7 (by decide) (by decide) (by decide), hws] at hws3
          refine ev_iload (q := 97) dX3_tellFrom_95 rfl rfl ?_
          refine ev_iload_n (q := 98) dX3_tellFrom_97 rfl rfl ?_
          refine ev_pSN (q := 101) dX3_tellFrom_98 rfl okX7_nextPart lnRX3_55 smX7_nextPart (c_X7_nextPart G _ _ _ _ _) (by decide) rfl rfl (Nat.le_of_ble_eq_true rfl) ?_
          refine ev_istoreL (q := 103) (L9 := [_, _, _, _, _, _, _]) dX3_tellFrom_101 rfl (by decide) rfl rfl ?_
          refine ev_iincL (q := 106) (L9 := [_, _, _, _, _, _, _]) (1 : Int32) dX3_tellFrom_103 rfl rfl (by decide) (by decide) rfl rfl ?_
          refine ev_goto (t := 45) dX3_tellFrom_106 (by decide) ?_
          rw [nI_1]
          exact ih (i + 1) _ _ (by omega) (by omega) (fun c q5 q6 q8 => (hfr3 c q5 q6 q8).trans (hfr2 c q5 q6 q8)) (h533.trans h53) (fun y hy => by rw [h633 y (by omega)]; simp [upd]; omega) (by rw [zfold_s hg, if_pos h78]; exact hws3) (by show _ = (zpq (nI th) i - nI th) &&& nI th; rw [hzat _ _ hg])
  refine ev_iload_n (q := 1) dX3_tellFrom_0 rfl rfl ?_
  refine ev_aload_n (q := 2) dX3_tellFrom_1 rfl rfl ?_
  refine ev_getI (q := 5) (ci := 3) (f := 3) dX3_tellFrom_2 rfl (by first | rfl | assumption | exact zf_kd (by assumption) | exact zw_kd (by assumption) | exact zt_kd (by assumption)) (by first | decide | exact zf_lt (by assumption) | exact zf_lt1 (by assumption) | exact zf_lt2 (by assumption) | exact zf_lt3 (by assumption) | exact zf_lt4 (by assumption) | exact zw_lt (by assumption) | exact zw_lt1 (by assumption) | exact zw_lt2 (by assumption) | exact zw_lt3 (by assumption) | exact zw_lt4 (by assumption) | exact zt_lt (by assumption)) (by decide) (by decide) lfRX3_31 rfl ?_
  refine ev_icmp_lt (q := 8) (t := 31) dX3_tellFrom_5 rfl (by decide) (fun h5_ => ?_) (fun h5_ => ?_)
  · refine ev_iconst (q := 32) (1 : Int32) dX3_tellFrom_31 rfl (by decide) ?_
    refine ev_iload_n (q := 33) dX3_tellFrom_32 rfl rfl ?_
    refine ev_pS (q := 36) dX3_tellFrom_33 rfl okJ6_bitCount_0f7a4 lmRX3_45 smJ6_bitCount_0f7a4 (c_J6_bitCount_0f7a4 G _ _ _ _) (by decide) rfl rfl (Nat.le_of_ble_eq_true rfl) ?_
    refine ev_ishl (q := 37) dX3_tellFrom_36 rfl ?_
    rw [hd3]
    refine ev_istoreL (q := 39) (L9 := [_, _, _, _, _, _, _]) dX3_tellFrom_37 rfl (by decide) rfl rfl ?_
    refine ev_iconst (q := 40) (0 : Int32) dX3_tellFrom_39 rfl (by decide) ?_
    refine ev_istoreL (q := 42) (L9 := [_, _, _, _, _, _, _]) dX3_tellFrom_40 rfl (by decide) rfl rfl ?_
    refine ev_iconst (q := 43) (0 : Int32) dX3_tellFrom_42 rfl (by decide) ?_
    refine ev_istoreL (q := 45) (L9 := [_, _, _, _, _, _, _]) dX3_tellFrom_43 rfl (by decide) rfl rfl ?_
    exact lp45 (LN + 1) 0 _ _ (by omega) (by omega) (fun _ _ _ _ => rfl) rfl hlf rfl rfl
  · exact absurd (show I 5 3 ≤ nI yr from Int32.not_lt.mp h5_) (by rw [h5, nI_leI (by omega) (by omega)]; omega)
set_option maxHeartbeats 4000000 in
set_option maxRecDepth 100000 in
theorem c_tell2 (G : zq_G) (fo : Bool) (I : zq_I) {N T Y : Nat} (hs : zS fo N T Y I) {yr th : Nat} (lf : Nat → Int32) (hth : th < 256) (hlf : ∀ y, y < yr → I 6 y = lf y) (hyr : yr + 2 < 4) (h5 : I 5 3 = nI (yr + 2)) : zq_Met G mX3_tellFrom 6 0 0 [.ref 5, .ref (zF fo), .int (nI yr), .int (nI th)] 138 I (zPs fo) (fun v n' I' P' => v = none ∧ n' = 138 ∧ P' = zPs fo ∧ z568 I I' ∧ I' 5 3 = I 5 3 ∧ (∀ y, y < yr → I' 6 y = lf y) ∧ (I' 5 4, I' 5 5) = zTF (I 119 4) (zV I) N (I 7) 2 yr th lf (I 5 4, I 5 5)) := by
  refine zq_Met.of okX3_tellFrom (Nat.le_of_ble_eq_true rfl) ?_
  show zq_E _ _ _ _ _ _ _ [some (.ref 5), some (.ref (zF fo)), some (.int (nI yr)), some (.int (nI th)), none, none, none] _ _ _ _ _
  have hN8 := hs.n8
  have hN := hs.ppl
  have hfF := zF_is fo
  have hd3 := (zsub_dec th hth).2.2
  have hlen := (zsub_dec th hth).2.1
  have hzat : ∀ k g, (zsub th)[k]? = some g → zpq (nI th) k = nI g := fun k g h => zsub_at hth h
  simp only [zTF]
  generalize zsub th = Z at hd3 hlen hzat ⊢
  obtain ⟨LN, hLN⟩ : ∃ n, n = Z.length := ⟨_, rfl⟩
  rw [← hLN] at hd3 hlen
  have hyr3 : yr < 3 := by omega
  have lp45 : ∀ (k i : Nat) (I1 : zq_I) (aw : Int32), LN + 1 ≤ i + k → i ≤ LN → z568 I I1 → I1 5 3 = I 5 3 → (∀ y, y < yr → I1 6 y = lf y) → (I1 5 4, I1 5 5) = (Z.take i).foldl (fun ws g => if zCI (I 119 4) (zV I) N (upd lf yr (nI g)) yr (nI (zwg th g)) = I 7 yr then zTF (I 119 4) (zV I) N (I 7) 1 (yr + 1) (zwg th g) (upd lf yr (nI g)) ws else ws) (I 5 4, I 5 5) → aw = zpq (nI th) i → zq_E G mX3_tellFrom 6 0 0 false 45 [some (.ref 5), some (.ref (zF fo)), some (.int (nI yr)), some (.int (nI th)), some (.int (nI LN)), some (.int aw), some (.int (nI i))] [] 138 I1 (zPs fo) (fun v n' I' P' => v = none ∧ n' = 138 ∧ P' = zPs fo ∧ z568 I I' ∧ I' 5 3 = I 5 3 ∧ (∀ y, y < yr → I' 6 y = lf y) ∧ (I' 5 4, I' 5 5) = Z.foldl (fun ws g => if zCI (I 119 4) (zV I) N (upd lf yr (nI g)) yr (nI (zwg th g)) = I 7 yr then zTF (I 119 4) (zV I) N (I 7) 1 (yr + 1) (zwg th g) (upd lf yr (nI g)) ws else ws) (I 5 4, I 5 5)) := by
    intro k
    induction k with
    | zero => intro i I1 aw hk hi; exact absurd hk (by omega)
    | succ k ih =>
      intro i I1 aw hk hi hfr1 h51 h61 hws1 haw
      
      refine ev_iload (q := 47) dX3_tellFrom_45 rfl rfl ?_
      refine ev_iload (q := 49) dX3_tellFrom_47 rfl rfl ?_
      refine ev_icmp_ge (q := 52) (t := 109) dX3_tellFrom_49 rfl (by decide) (fun h49 => ?_) (fun h49 => ?_)
      · obtain rfl : i = LN := by rw [nI_leI (by omega) (by omega)] at h49; omega
        exact ev_vret dX3_tellFrom_109 rfl (⟨rfl, rfl, rfl, hfr1, h51, h61, by rw [hws1, hLN, List.take_length]⟩)
      · have hlt_i : i < LN := by rw [nI_leI (by omega) (by omega)] at h49; omega
        obtain ⟨g, hg⟩ : ∃ g, Z[i]? = some g := ⟨_, List.getElem?_eq_getElem (by omega)⟩
        obtain rfl : aw = nI g := by rw [haw, hzat _ _ hg]
        refine ev_aload_n (q := 53) dX3_tellFrom_52 rfl rfl ?_
        refine ev_getR (q := 56) (ci := 3) (f := 0) dX3_tellFrom_53 rfl (by first | rfl | assumption | exact zf_kd (by assumption) | exact zw_kd (by assumption) | exact zt_kd (by assumption)) (by first | decide | exact zf_lt (by assumption) | exact zf_lt1 (by assumption) | exact zf_lt2 (by assumption) | exact zf_lt3 (by assumption) | exact zf_lt4 (by assumption) | exact zw_lt (by assumption) | exact zw_lt1 (by assumption) | exact zw_lt2 (by assumption) | exact zw_lt3 (by assumption) | exact zw_lt4 (by assumption) | exact zt_lt (by assumption)) (by decide) (by decide) lfRX3_9 rfl (by first | rfl | assumption | exact zf_p4 _ (by assumption) | exact zf_p5 _ (by assumption) | exact zf_p6 _ (by assumption) | exact zf_p7 _ (by assumption) | exact zw_p1 _ (by assumption) | exact zw_p2 _ (by assumption) | exact zw_p3 _ (by assumption) | exact zw_p4 _ (by assumption)) ?_
        refine ev_iload_n (q := 57) dX3_tellFrom_56 rfl rfl ?_
        refine ev_iload (q := 59) dX3_tellFrom_57 rfl rfl ?_
        refine ev_iastN (q := 60) dX3_tellFrom_59 rfl (by first | rfl | assumption | exact zf_kd1 (by assumption) | exact zf_kd2 (by assumption) | exact zf_kd3 (by assumption) | exact zf_kd4 (by assumption) | exact zw_kd1 (by assumption) | exact zw_kd2 (by assumption) | exact zw_kd3 (by assumption) | exact zw_kd4 (by assumption)) (by first | decide | exact zf_lt (by assumption) | exact zf_lt1 (by assumption) | exact zf_lt2 (by assumption) | exact zf_lt3 (by assumption) | exact zf_lt4 (by assumption) | exact zw_lt (by assumption) | exact zw_lt1 (by assumption) | exact zw_lt2 (by assumption) | exact zw_lt3 (by assumption) | exact zw_lt4 (by assumption) | exact zt_lt (by assumption)) (show yr < 3 by omega) ?_
        obtain ⟨I2, hI2⟩ : ∃ I2, I2 = zu I1 6 yr (nI g) := ⟨_, rfl⟩
        rw [← hI2]
        have hfr : z568 I I2 := fun c q5 q6 q8 => by rw [hI2, zu_other q6]; exact hfr1 c q5 q6 q8
        have h6 : ∀ y, y < yr + 1 → I2 6 y = upd lf yr (nI g) y := fun y hy => by
          rw [hI2]
          by_cases hyy : y = yr
          · subst hyy; simp [zu, upd]
          · simp [zu, upd, hyy]; exact h61 y (by omega)
        have hy3 : I2 5 3 = I 5 3 := by rw [hI2, zu_other (by decide)]; exact h51
        have hFC2 : zFC fo I I2 := z568_FC hfr
        have hs2 := hFC2.S hs
        have h0 : (I2 5 4, I2 5 5) = (Z.take i).foldl (fun ws g => if zCI (I 119 4) (zV I) N (upd lf yr (nI g)) yr (nI (zwg th g)) = I 7 yr then zTF (I 119 4) (zV I) N (I 7) 1 (yr + 1) (zwg th g) (upd lf yr (nI g)) ws else ws) (I 5 4, I 5 5) := by rw [hI2, zu_other (by decide)]; exact hws1
        refine ev_aload_n (q := 61) dX3_tellFrom_60 rfl rfl ?_
        refine ev_aload_n (q := 62) dX3_tellFrom_61 rfl rfl ?_
        refine ev_iload_n (q := 63) dX3_tellFrom_62 rfl rfl ?_
        refine ev_iload_n (q := 64) dX3_tellFrom_63 rfl rfl ?_
        refine ev_iload (q := 66) dX3_tellFrom_64 rfl rfl ?_
        refine ev_iconst (q := 67) ((-1) : Int32) dX3_tellFrom_66 rfl (by decide) ?_
        refine ev_ixor (q := 68) dX3_tellFrom_67 rfl ?_
        refine ev_iand (q := 69) dX3_tellFrom_68 rfl ?_
        rw [zwg_eq hth]
        refine ev_cV (q := 72) (ci := 3) dX3_tellFrom_69 rfl okX3_countIn lmRX3_51 imX3_countIn seX3_countIn (by first | rfl | assumption | exact zf_kd (by assumption) | exact zw_kd (by assumption) | exact zt_kd (by assumption)) (by first | decide | exact zf_lt (by assumption) | exact zf_lt1 (by assumption) | exact zf_lt2 (by assumption) | exact zf_lt3 (by assumption) | exact zf_lt4 (by assumption) | exact zw_lt (by assumption) | exact zw_lt1 (by assumption) | exact zw_lt2 (by assumption) | exact zw_lt3 (by assumption) | exact zw_lt4 (by assumption) | exact zt_lt (by assumption)) (by decide) rfl (c_X3_countIn G fo I2 hs2 hyr3 _) (by decide) rfl rfl (Nat.le_of_ble_eq_true rfl) (fun v69 n69 I69 P69 hR69 => ?_)
        obtain ⟨rfl, rfl, rfl, hf8⟩ := hR69
        have hcq : zCI (I2 119 4) (zV I2) N (I2 6) yr (nI (zwg th g)) = zCI (I 119 4) (zV I) N (upd lf yr (nI g)) yr (nI (zwg th g)) := by
          rw [hFC2.V, hFC2 119 (by cases fo <;> rfl)]
          exact zCnt_congr (fun _ _ => rfl) (fun j _ _ => by rw [zLS_congr (fun y hy => h6 y hy)])
        rw [hcq]
        have hfr2 : z568 I I69 := fun c q5 q6 q8 => by rw [hf8 c q8]; exact hfr c q5 q6 q8
        have h63 : ∀ y, y < yr + 1 → I69 6 y = upd lf yr (nI g) y := fun y hy => by rw [hf8 6 (by decide)]; exact h6 y hy
        have h53 : I69 5 3 = I 5 3 := by rw [hf8 5 (by decide)]; exact hy3
        have hws : (I69 5 4, I69 5 5) = (Z.take i).foldl (fun ws g => if zCI (I 119 4) (zV I) N (upd lf yr (nI g)) yr (nI (zwg th g)) = I 7 yr then zTF (I 119 4) (zV I) N (I 7) 1 (yr + 1) (zwg th g) (upd lf yr (nI g)) ws else ws) (I 5 4, I 5 5) := by rw [hf8 5 (by decide)]; exact h0
        refine ev_aload_n (q := 73) dX3_tellFrom_72 rfl rfl ?_
        refine ev_getR (q := 76) (ci := 3) (f := 1) dX3_tellFrom_73 rfl (by first | rfl | assumption | exact zf_kd (by assumption) | exact zw_kd (by assumption) | exact zt_kd (by assumption)) (by first | decide | exact zf_lt (by assumption) | exact zf_lt1 (by assumption) | exact zf_lt2 (by assumption) | exact zf_lt3 (by assumption) | exact zf_lt4 (by assumption) | exact zw_lt (by assumption) | exact zw_lt1 (by assumption) | exact zw_lt2 (by assumption) | exact zw_lt3 (by assumption) | exact zw_lt4 (by assumption) | exact zt_lt (by assumption)) (by decide) (by decide) lfRX3_15 rfl (by first | rfl | assumption | exact zf_p4 _ (by assumption) | exact zf_p5 _ (by assumption) | exact zf_p6 _ (by assumption) | exact zf_p7 _ (by assumption) | exact zw_p1 _ (by assumption) | exact zw_p2 _ (by assumption) | exact zw_p3 _ (by assumption) | exact zw_p4 _ (by assumption)) ?_
        refine ev_iload_n (q := 77) dX3_tellFrom_76 rfl rfl ?_
        refine ev_ialdN (q := 78) dX3_tellFrom_77 rfl (by first | rfl | assumption | exact zf_kd1 (by assumption) | exact zf_kd2 (by assumption) | exact zf_kd3 (by assumption) | exact zf_kd4 (by assumption) | exact zw_kd1 (by assumption) | exact zw_kd2 (by assumption) | exact zw_kd3 (by assumption) | exact zw_kd4 (by assumption)) (by first | decide | exact zf_lt (by assumption) | exact zf_lt1 (by assumption) | exact zf_lt2 (by assumption) | exact zf_lt3 (by assumption) | exact zf_lt4 (by assumption) | exact zw_lt (by assumption) | exact zw_lt1 (by assumption) | exact zw_lt2 (by assumption) | exact zw_lt3 (by assumption) | exact zw_lt4 (by assumption) | exact zt_lt (by assumption)) (show yr < 3 by omega) ?_
        rw [hf8 7 (by decide), hfr 7 (by decide) (by decide) (by decide)]
        refine ev_icmp_ne (q := 81) (t := 95) dX3_tellFrom_78 rfl (by decide) (fun h78 => ?_) (fun h78 => ?_)
        · refine ev_iload (q := 97) dX3_tellFrom_95 rfl rfl ?_
          refine ev_iload_n (q := 98) dX3_tellFrom_97 rfl rfl ?_
          refine ev_pSN (q := 101) dX3_tellFrom_98 rfl okX7_nextPart lnRX3_55 smX7_nextPart (c_X7_nextPart G _ _ _ _ _) (by decide) rfl rfl (Nat.le_of_ble_eq_true rfl) ?_
          refine ev_istoreL (q := 103) (L9 := [_, _, _, _, _, _, _]) dX3_tellFrom_101 rfl (by decide) rfl rfl ?_
          refine ev_iincL (q := 106) (L9 := [_, _, _, _, _, _, _]) (1 : Int32) dX3_tellFrom_103 rfl rfl (by decide) (by decide) rfl rfl ?_
          refine ev_goto (t := 45) dX3_tellFrom_106 (by decide) ?_
          rw [nI_1]
          exact ih (i + 1) _ _ (by omega) (by omega) hfr2 h53 (fun y hy => by rw [h63 y (by omega)]; simp [upd]; omega) (by rw [zfold_s hg, if_neg h78]; exact hws) (by show _ = (zpq (nI th) i - nI th) &&& nI th; rw [hzat _ _ hg])
        · refine ev_aload_n (q := 82) dX3_tellFrom_81 rfl rfl ?_
          refine ev_aload_n (q := 83) dX3_tellFrom_82 rfl rfl ?_
          refine ev_iload_n (q := 84) dX3_tellFrom_83 rfl rfl ?_
          refine ev_iconst (q := 85) (1 : Int32) dX3_tellFrom_84 rfl (by decide) ?_
          refine ev_iadd (q := 86) dX3_tellFrom_85 rfl ?_
          refine ev_iload_n (q := 87) dX3_tellFrom_86 rfl rfl ?_
          refine ev_iload (q := 89) dX3_tellFrom_87 rfl rfl ?_
          refine ev_iconst (q := 90) ((-1) : Int32) dX3_tellFrom_89 rfl (by decide) ?_
          refine ev_ixor (q := 91) dX3_tellFrom_90 rfl ?_
          refine ev_iand (q := 92) dX3_tellFrom_91 rfl ?_
          rw [zwg_eq hth, nI_1]
          refine ev_cS (q := 95) dX3_tellFrom_92 rfl okX3_tellFrom lmRX3_41 smX3_tellFrom (c_tell1 G fo I69 ((z568_FC hfr2).S hs) (yr := yr + 1) (upd lf yr (nI g)) (zwg_lt hth) h63 (by omega) (by rw [h53, h5])) (by decide) rfl rfl (Nat.le_of_ble_eq_true rfl) (fun v92 n92 I92 P92 hR92 => ?_)
          obtain ⟨rfl, rfl, rfl, hfr3, h533, h633, hws3⟩ := hR92
          rw [(z568_FC hfr2 : zFC fo I I69).V, hfr2 119 (by decide) (by decide) (by decide), hfr2 7 (by decide) (by decide) (by decide), hws] at hws3
          refine ev_iload (q := 97) dX3_tellFrom_95 rfl rfl ?_
          refine ev_iload_n (q := 98) dX3_tellFrom_97 rfl rfl ?_
          refine ev_pSN (q := 101) dX3_tellFrom_98 rfl okX7_nextPart lnRX3_55 smX7_nextPart (c_X7_nextPart G _ _ _ _ _) (by decide) rfl rfl (Nat.le_of_ble_eq_true rfl) ?_
          refine ev_istoreL (q := 103) (L9 := [_, _, _, _, _, _, _]) dX3_tellFrom_101 rfl (by decide) rfl rfl ?_
          refine ev_iincL (q := 106) (L9 := [_, _, _, _, _, _, _]) (1 : Int32) dX3_tellFrom_103 rfl rfl (by decide) (by decide) rfl rfl ?_
          refine ev_goto (t := 45) dX3_tellFrom_106 (by decide) ?_
          rw [nI_1]
          exact ih (i + 1) _ _ (by omega) (by omega) (fun c q5 q6 q8 => (hfr3 c q5 q6 q8).trans (hfr2 c q5 q6 q8)) (h533.trans h53) (fun y hy => by rw [h633 y (by omega)]; simp [upd]; omega) (by rw [zfold_s hg, if_pos h78]; exact hws3) (by show _ = (zpq (nI th) i - nI th) &&& nI th; rw [hzat _ _ hg])
  refine ev_iload_n (q := 1) dX3_tellFrom_0 rfl rfl ?_
  refine ev_aload_n (q := 2) dX3_tellFrom_1 rfl rfl ?_
  refine ev_getI (q := 5) (ci := 3) (f := 3) dX3_tellFrom_2 rfl (by first | rfl | assumption | exact zf_kd (by assumption) | exact zw_kd (by assumption) | exact zt_kd (by assumption)) (by first | decide | exact zf_lt (by assumption) | exact zf_lt1 (by assumption) | exact zf_lt2 (by assumption) | exact zf_lt3 (by assumption) | exact zf_lt4 (by assumption) | exact zw_lt (by assumption) | exact zw_lt1 (by assumption) | exact zw_lt2 (by assumption) | exact zw_lt3 (by assumption) | exact zw_lt4 (by assumption) | exact zt_lt (by assumption)) (by decide) (by decide) lfRX3_31 rfl ?_
  refine ev_icmp_lt (q := 8) (t := 31) dX3_tellFrom_5 rfl (by decide) (fun h5_ => ?_) (fun h5_ => ?_)
  · refine ev_iconst (q := 32) (1 : Int32) dX3_tellFrom_31 rfl (by decide) ?_
    refine ev_iload_n (q := 33) dX3_tellFrom_32 rfl rfl ?_
    refine ev_pS (q := 36) dX3_tellFrom_33 rfl okJ6_bitCount_0f7a4 lmRX3_45 smJ6_bitCount_0f7a4 (c_J6_bitCount_0f7a4 G _ _ _ _) (by decide) rfl rfl (Nat.le_of_ble_eq_true rfl) ?_
    refine ev_ishl (q := 37) dX3_tellFrom_36 rfl ?_
    rw [hd3]
    refine ev_istoreL (q := 39) (L9 := [_, _, _, _, _, _, _]) dX3_tellFrom_37 rfl (by decide) rfl rfl ?_
    refine ev_iconst (q := 40) (0 : Int32) dX3_tellFrom_39 rfl (by decide) ?_
    refine ev_istoreL (q := 42) (L9 := [_, _, _, _, _, _, _]) dX3_tellFrom_40 rfl (by decide) rfl rfl ?_
    refine ev_iconst (q := 43) (0 : Int32) dX3_tellFrom_42 rfl (by decide) ?_
    refine ev_istoreL (q := 45) (L9 := [_, _, _, _, _, _, _]) dX3_tellFrom_43 rfl (by decide) rfl rfl ?_
    exact lp45 (LN + 1) 0 _ _ (by omega) (by omega) (fun _ _ _ _ => rfl) rfl hlf rfl rfl
  · exact absurd (show I 5 3 ≤ nI yr from Int32.not_lt.mp h5_) (by rw [h5, nI_leI (by omega) (by omega)]; omega)
set_option maxHeartbeats 4000000 in
set_option maxRecDepth 100000 in
theorem c_tell3 (G : zq_G) (fo : Bool) (I : zq_I) {N T Y : Nat} (hs : zS fo N T Y I) {yr th : Nat} (lf : Nat → Int32) (hth : th < 256) (hlf : ∀ y, y < yr → I 6 y = lf y) (hyr : yr + 3 < 4) (h5 : I 5 3 = nI (yr + 3)) : zq_Met G mX3_tellFrom 7 0 0 [.ref 5, .ref (zF fo), .int (nI yr), .int (nI th)] 138 I (zPs fo) (fun v n' I' P' => v = none ∧ n' = 138 ∧ P' = zPs fo ∧ z568 I I' ∧ I' 5 3 = I 5 3 ∧ (∀ y, y < yr → I' 6 y = lf y) ∧ (I' 5 4, I' 5 5) = zTF (I 119 4) (zV I) N (I 7) 3 yr th lf (I 5 4, I 5 5)) := by
  refine zq_Met.of okX3_tellFrom (Nat.le_of_ble_eq_true rfl) ?_
  show zq_E _ _ _ _ _ _ _ [some (.ref 5), some (.ref (zF fo)), some (.int (nI yr)), some (.int (nI th)), none, none, none] _ _ _ _ _
  have hN8 := hs.n8
  have hN := hs.ppl
  have hfF := zF_is fo
  have hd3 := (zsub_dec th hth).2.2
  have hlen := (zsub_dec th hth).2.1
  have hzat : ∀ k g, (zsub th)[k]? = some g → zpq (nI th) k = nI g := fun k g h => zsub_at hth h
  simp only [zTF]
  generalize zsub th = Z at hd3 hlen hzat ⊢
  obtain ⟨LN, hLN⟩ : ∃ n, n = Z.length := ⟨_, rfl⟩
  rw [← hLN] at hd3 hlen
  have hyr3 : yr < 3 := by omega
  have lp45 : ∀ (k i : Nat) (I1 : zq_I) (aw : Int32), LN + 1 ≤ i + k → i ≤ LN → z568 I I1 → I1 5 3 = I 5 3 → (∀ y, y < yr → I1 6 y = lf y) → (I1 5 4, I1 5 5) = (Z.take i).foldl (fun ws g => if zCI (I 119 4) (zV I) N (upd lf yr (nI g)) yr (nI (zwg th g)) = I 7 yr then zTF (I 119 4) (zV I) N (I 7) 2 (yr + 1) (zwg th g) (upd lf yr (nI g)) ws else ws) (I 5 4, I 5 5) → aw = zpq (nI th) i → zq_E G mX3_tellFrom 7 0 0 false 45 [some (.ref 5), some (.ref (zF fo)), some (.int (nI yr)), some (.int (nI th)), some (.int (nI LN)), some (.int aw), some (.int (nI i))] [] 138 I1 (zPs fo) (fun v n' I' P' => v = none ∧ n' = 138 ∧ P' = zPs fo ∧ z568 I I' ∧ I' 5 3 = I 5 3 ∧ (∀ y, y < yr → I' 6 y = lf y) ∧ (I' 5 4, I' 5 5) = Z.foldl (fun ws g => if zCI (I 119 4) (zV I) N (upd lf yr (nI g)) yr (nI (zwg th g)) = I 7 yr then zTF (I 119 4) (zV I) N (I 7) 2 (yr + 1) (zwg th g) (upd lf yr (nI g)) ws else ws) (I 5 4, I 5 5)) := by
    intro k
    induction k with
    | zero => intro i I1 aw hk hi; exact absurd hk (by omega)
    | succ k ih =>
      intro i I1 aw hk hi hfr1 h51 h61 hws1 haw
      
      refine ev_iload (q := 47) dX3_tellFrom_45 rfl rfl ?_
      refine ev_iload (q := 49) dX3_tellFrom_47 rfl rfl ?_
      refine ev_icmp_ge (q := 52) (t := 109) dX3_tellFrom_49 rfl (by decide) (fun h49 => ?_) (fun h49 => ?_)
      · obtain rfl : i = LN := by rw [nI_leI (by omega) (by omega)] at h49; omega
        exact ev_vret dX3_tellFrom_109 rfl (⟨rfl, rfl, rfl, hfr1, h51, h61, by rw [hws1, hLN, List.take_length]⟩)
      · have hlt_i : i < LN := by rw [nI_leI (by omega) (by omega)] at h49; omega
        obtain ⟨g, hg⟩ : ∃ g, Z[i]? = some g := ⟨_, List.getElem?_eq_getElem (by omega)⟩
        obtain rfl : aw = nI g := by rw [haw, hzat _ _ hg]
        refine ev_aload_n (q := 53) dX3_tellFrom_52 rfl rfl ?_
        refine ev_getR (q := 56) (ci := 3) (f := 0) dX3_tellFrom_53 rfl (by first | rfl | assumption | exact zf_kd (by assumption) | exact zw_kd (by assumption) | exact zt_kd (by assumption)) (by first | decide | exact zf_lt (by assumption) | exact zf_lt1 (by assumption) | exact zf_lt2 (by assumption) | exact zf_lt3 (by assumption) | exact zf_lt4 (by assumption) | exact zw_lt (by assumption) | exact zw_lt1 (by assumption) | exact zw_lt2 (by assumption) | exact zw_lt3 (by assumption) | exact zw_lt4 (by assumption) | exact zt_lt (by assumption)) (by decide) (by decide) lfRX3_9 rfl (by first | rfl | assumption | exact zf_p4 _ (by assumption) | exact zf_p5 _ (by assumption) | exact zf_p6 _ (by assumption) | exact zf_p7 _ (by assumption) | exact zw_p1 _ (by assumption) | exact zw_p2 _ (by assumption) | exact zw_p3 _ (by assumption) | exact zw_p4 _ (by assumption)) ?_
        refine ev_iload_n (q := 57) dX3_tellFrom_56 rfl rfl ?_
        refine ev_iload (q := 59) dX3_tellFrom_57 rfl rfl ?_
        refine ev_iastN (q := 60) dX3_tellFrom_59 rfl (by first | rfl | assumption | exact zf_kd1 (by assumption) | exact zf_kd2 (by assumption) | exact zf_kd3 (by assumption) | exact zf_kd4 (by assumption) | exact zw_kd1 (by assumption) | exact zw_kd2 (by assumption) | exact zw_kd3 (by assumption) | exact zw_kd4 (by assumption)) (by first | decide | exact zf_lt (by assumption) | exact zf_lt1 (by assumption) | exact zf_lt2 (by assumption) | exact zf_lt3 (by assumption) | exact zf_lt4 (by assumption) | exact zw_lt (by assumption) | exact zw_lt1 (by assumption) | exact zw_lt2 (by assumption) | exact zw_lt3 (by assumption) | exact zw_lt4 (by assumption) | exact zt_lt (by assumption)) (show yr < 3 by omega) ?_
        obtain ⟨I2, hI2⟩ : ∃ I2, I2 = zu I1 6 yr (nI g) := ⟨_, rfl⟩
        rw [← hI2]
        have hfr : z568 I I2 := fun c q5 q6 q8 => by rw [hI2, zu_other q6]; exact hfr1 c q5 q6 q8
        have h6 : ∀ y, y < yr + 1 → I2 6 y = upd lf yr (nI g) y := fun y hy => by
          rw [hI2]
          by_cases hyy : y = yr
          · subst hyy; simp [zu, upd]
          · simp [zu, upd, hyy]; exact h61 y (by omega)
        have hy3 : I2 5 3 = I 5 3 := by rw [hI2, zu_other (by decide)]; exact h51
        have hFC2 : zFC fo I I2 := z568_FC hfr
        have hs2 := hFC2.S hs
        have h0 : (I2 5 4, I2 5 5) = (Z.take i).foldl (fun ws g => if zCI (I 119 4) (zV I) N (upd lf yr (nI g)) yr (nI (zwg th g)) = I 7 yr then zTF (I 119 4) (zV I) N (I 7) 2 (yr + 1) (zwg th g) (upd lf yr (nI g)) ws else ws) (I 5 4, I 5 5) := by rw [hI2, zu_other (by decide)]; exact hws1
        refine ev_aload_n (q := 61) dX3_tellFrom_60 rfl rfl ?_
        refine ev_aload_n (q := 62) dX3_tellFrom_61 rfl rfl ?_
        refine ev_iload_n (q := 63) dX3_tellFrom_62 rfl rfl ?_
        refine ev_iload_n (q := 64) dX3_tellFrom_63 rfl rfl ?_
        refine ev_iload (q := 66) dX3_tellFrom_64 rfl rfl ?_
        refine ev_iconst (q := 67) ((-1) : Int32) dX3_tellFrom_66 rfl (by decide) ?_
        refine ev_ixor (q := 68) dX3_tellFrom_67 rfl ?_
        refine ev_iand (q := 69) dX3_tellFrom_68 rfl ?_
        rw [zwg_eq hth]
        refine ev_cV (q := 72) (ci := 3) dX3_tellFrom_69 rfl okX3_countIn lmRX3_51 imX3_countIn seX3_countIn (by first | rfl | assumption | exact zf_kd (by assumption) | exact zw_kd (by assumption) | exact zt_kd (by assumption)) (by first | decide | exact zf_lt (by assumption) | exact zf_lt1 (by assumption) | exact zf_lt2 (by assumption) | exact zf_lt3 (by assumption) | exact zf_lt4 (by assumption) | exact zw_lt (by assumption) | exact zw_lt1 (by assumption) | exact zw_lt2 (by assumption) | exact zw_lt3 (by assumption) | exact zw_lt4 (by assumption) | exact zt_lt (by assumption)) (by decide) rfl (c_X3_countIn G fo I2 hs2 hyr3 _) (by decide) rfl rfl (Nat.le_of_ble_eq_true rfl) (fun v69 n69 I69 P69 hR69 => ?_)
        obtain ⟨rfl, rfl, rfl, hf8⟩ := hR69
        have hcq : zCI (I2 119 4) (zV I2) N (I2 6) yr (nI (zwg th g)) = zCI (I 119 4) (zV I) N (upd lf yr (nI g)) yr (nI (zwg th g)) := by
          rw [hFC2.V, hFC2 119 (by cases fo <;> rfl)]
          exact zCnt_congr (fun _ _ => rfl) (fun j _ _ => by rw [zLS_congr (fun y hy => h6 y hy)])
        rw [hcq]
        have hfr2 : z568 I I69 := fun c q5 q6 q8 => by rw [hf8 c q8]; exact hfr c q5 q6 q8
        have h63 : ∀ y, y < yr + 1 → I69 6 y = upd lf yr (nI g) y := fun y hy => by rw [hf8 6 (by decide)]; exact h6 y hy
        have h53 : I69 5 3 = I 5 3 := by rw [hf8 5 (by decide)]; exact hy3
        have hws : (I69 5 4, I69 5 5) = (Z.take i).foldl (fun ws g => if zCI (I 119 4) (zV I) N (upd lf yr (nI g)) yr (nI (zwg th g)) = I 7 yr then zTF (I 119 4) (zV I) N (I 7) 2 (yr + 1) (zwg th g) (upd lf yr (nI g)) ws else ws) (I 5 4, I 5 5) := by rw [hf8 5 (by decide)]; exact h0
        refine ev_aload_n (q := 73) dX3_tellFrom_72 rfl rfl ?_
        refine ev_getR (q := 76) (ci := 3) (f := 1) dX3_tellFrom_73 rfl (by first | rfl | assumption | exact zf_kd (by assumption) | exact zw_kd (by assumption) | exact zt_kd (by assumption)) (by first | decide | exact zf_lt (by assumption) | exact zf_lt1 (by assumption) | exact zf_lt2 (by assumption) | exact zf_lt3 (by assumption) | exact zf_lt4 (by assumption) | exact zw_lt (by assumption) | exact zw_lt1 (by assumption) | exact zw_lt2 (by assumption) | exact zw_lt3 (by assumption) | exact zw_lt4 (by assumption) | exact zt_lt (by assumption)) (by decide) (by decide) lfRX3_15 rfl (by first | rfl | assumption | exact zf_p4 _ (by assumption) | exact zf_p5 _ (by assumption) | exact zf_p6 _ (by assumption) | exact zf_p7 _ (by assumption) | exact zw_p1 _ (by assumption) | exact zw_p2 _ (by assumption) | exact zw_p3 _ (by assumption) | exact zw_p4 _ (by assumption)) ?_
        refine ev_iload_n (q := 77) dX3_tellFrom_76 rfl rfl ?_
        refine ev_ialdN (q := 78) dX3_tellFrom_77 rfl (by first | rfl | assumption | exact zf_kd1 (by assumption) | exact zf_kd2 (by assumption) | exact zf_kd3 (by assumption) | exact zf_kd4 (by assumption) | exact zw_kd1 (by assumption) | exact zw_kd2 (by assumption) | exact zw_kd3 (by assumption) | exact zw_kd4 (by assumption)) (by first | decide | exact zf_lt (by assumption) | exact zf_lt1 (by assumption) | exact zf_lt2 (by assumption) | exact zf_lt3 (by assumption) | exact zf_lt4 (by assumption) | exact zw_lt (by assumption) | exact zw_lt1 (by assumption) | exact zw_lt2 (by assumption) | exact zw_lt3 (by assumption) | exact zw_lt4 (by assumption) | exact zt_lt (by assumption)) (show yr < 3 by omega) ?_
        rw [hf8 7 (by decide), hfr 7 (by decide) (by decide) (by decide)]
        refine ev_icmp_ne (q := 81) (t := 95) dX3_tellFrom_78 rfl (by decide) (fun h78 => ?_) (fun h78 => ?_)
        · refine ev_iload (q := 97) dX3_tellFrom_95 rfl rfl ?_
          refine ev_iload_n (q := 98) dX3_tellFrom_97 rfl rfl ?_
          refine ev_pSN (q := 101) dX3_tellFrom_98 rfl okX7_nextPart lnRX3_55 smX7_nextPart (c_X7_nextPart G _ _ _ _ _) (by decide) rfl rfl (Nat.le_of_ble_eq_true rfl) ?_
          refine ev_istoreL (q := 103) (L9 := [_, _, _, _, _, _, _]) dX3_tellFrom_101 rfl (by decide) rfl rfl ?_
          refine ev_iincL (q := 106) (L9 := [_, _, _, _, _, _, _]) (1 : Int32) dX3_tellFrom_103 rfl rfl (by decide) (by decide) rfl rfl ?_
          refine ev_goto (t := 45) dX3_tellFrom_106 (by decide) ?_
          rw [nI_1]
          exact ih (i + 1) _ _ (by omega) (by omega) hfr2 h53 (fun y hy => by rw [h63 y (by omega)]; simp [upd]; omega) (by rw [zfold_s hg, if_neg h78]; exact hws) (by show _ = (zpq (nI th) i - nI th) &&& nI th; rw [hzat _ _ hg])
        · refine ev_aload_n (q := 82) dX3_tellFrom_81 rfl rfl ?_
          refine ev_aload_n (q := 83) dX3_tellFrom_82 rfl rfl ?_
          refine ev_iload_n (q := 84) dX3_tellFrom_83 rfl rfl ?_
          refine ev_iconst (q := 85) (1 : Int32) dX3_tellFrom_84 rfl (by decide) ?_
          refine ev_iadd (q := 86) dX3_tellFrom_85 rfl ?_
          refine ev_iload_n (q := 87) dX3_tellFrom_86 rfl rfl ?_
          refine ev_iload (q := 89) dX3_tellFrom_87 rfl rfl ?_
          refine ev_iconst (q := 90) ((-1) : Int32) dX3_tellFrom_89 rfl (by decide) ?_
          refine ev_ixor (q := 91) dX3_tellFrom_90 rfl ?_
          refine ev_iand (q := 92) dX3_tellFrom_91 rfl ?_
          rw [zwg_eq hth, nI_1]
          refine ev_cS (q := 95) dX3_tellFrom_92 rfl okX3_tellFrom lmRX3_41 smX3_tellFrom (c_tell2 G fo I69 ((z568_FC hfr2).S hs) (yr := yr + 1) (upd lf yr (nI g)) (zwg_lt hth) h63 (by omega) (by rw [h53, h5])) (by decide) rfl rfl (Nat.le_of_ble_eq_true rfl) (fun v92 n92 I92 P92 hR92 => ?_)
          obtain ⟨rfl, rfl, rfl, hfr3, h533, h633, hws3⟩ := hR92
          rw [(z568_FC hfr2 : zFC fo I I69).V, hfr2 119 (by decide) (by decide) (by decide), hfr2 7 (by decide) (by decide) (by decide), hws] at hws3
          refine ev_iload (q := 97) dX3_tellFrom_95 rfl rfl ?_
          refine ev_iload_n (q := 98) dX3_tellFrom_97 rfl rfl ?_
          refine ev_pSN (q := 101) dX3_tellFrom_98 rfl okX7_nextPart lnRX3_55 smX7_nextPart (c_X7_nextPart G _ _ _ _ _) (by decide) rfl rfl (Nat.le_of_ble_eq_true rfl) ?_
          refine ev_istoreL (q := 103) (L9 := [_, _, _, _, _, _, _]) dX3_tellFrom_101 rfl (by decide) rfl rfl ?_
          refine ev_iincL (q := 106) (L9 := [_, _, _, _, _, _, _]) (1 : Int32) dX3_tellFrom_103 rfl rfl (by decide) (by decide) rfl rfl ?_
          refine ev_goto (t := 45) dX3_tellFrom_106 (by decide) ?_
          rw [nI_1]
          exact ih (i + 1) _ _ (by omega) (by omega) (fun c q5 q6 q8 => (hfr3 c q5 q6 q8).trans (hfr2 c q5 q6 q8)) (h533.trans h53) (fun y hy => by rw [h633 y (by omega)]; simp [upd]; omega) (by rw [zfold_s hg, if_pos h78]; exact hws3) (by show _ = (zpq (nI th) i - nI th) &&& nI th; rw [hzat _ _ hg])
  refine ev_iload_n (q := 1) dX3_tellFrom_0 rfl rfl ?_
  refine ev_aload_n (q := 2) dX3_tellFrom_1 rfl rfl ?_
  refine ev_getI (q := 5) (ci := 3) (f := 3) dX3_tellFrom_2 rfl (by first | rfl | assumption | exact zf_kd (by assumption) | exact zw_kd (by assumption) | exact zt_kd (by assumption)) (by first | decide | exact zf_lt (by assumption) | exact zf_lt1 (by assumption) | exact zf_lt2 (by assumption) | exact zf_lt3 (by assumption) | exact zf_lt4 (by assumption) | exact zw_lt (by assumption) | exact zw_lt1 (by assumption) | exact zw_lt2 (by assumption) | exact zw_lt3 (by assumption) | exact zw_lt4 (by assumption) | exact zt_lt (by assumption)) (by decide) (by decide) lfRX3_31 rfl ?_
  refine ev_icmp_lt (q := 8) (t := 31) dX3_tellFrom_5 rfl (by decide) (fun h5_ => ?_) (fun h5_ => ?_)
  · refine ev_iconst (q := 32) (1 : Int32) dX3_tellFrom_31 rfl (by decide) ?_
    refine ev_iload_n (q := 33) dX3_tellFrom_32 rfl rfl ?_
    refine ev_pS (q := 36) dX3_tellFrom_33 rfl okJ6_bitCount_0f7a4 lmRX3_45 smJ6_bitCount_0f7a4 (c_J6_bitCount_0f7a4 G _ _ _ _) (by decide) rfl rfl (Nat.le_of_ble_eq_true rfl) ?_
    refine ev_ishl (q := 37) dX3_tellFrom_36 rfl ?_
    rw [hd3]
    refine ev_istoreL (q := 39) (L9 := [_, _, _, _, _, _, _]) dX3_tellFrom_37 rfl (by decide) rfl rfl ?_
    refine ev_iconst (q := 40) (0 : Int32) dX3_tellFrom_39 rfl (by decide) ?_
    refine ev_istoreL (q := 42) (L9 := [_, _, _, _, _, _, _]) dX3_tellFrom_40 rfl (by decide) rfl rfl ?_
    refine ev_iconst (q := 43) (0 : Int32) dX3_tellFrom_42 rfl (by decide) ?_
    refine ev_istoreL (q := 45) (L9 := [_, _, _, _, _, _, _]) dX3_tellFrom_43 rfl (by decide) rfl rfl ?_
    exact lp45 (LN + 1) 0 _ _ (by omega) (by omega) (fun _ _ _ _ => rfl) rfl hlf rfl rfl
  · exact absurd (show I 5 3 ≤ nI yr from Int32.not_lt.mp h5_) (by rw [h5, nI_leI (by omega) (by omega)]; omega)
