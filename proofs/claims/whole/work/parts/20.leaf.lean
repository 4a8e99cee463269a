theorem zor_congr {f f' : Nat → Int32} {c c' : Nat → Bool} {n : Nat} (hc : ∀ i, i < n → c i = c' i) (hf : ∀ i, i < n → c i = true → f i = f' i) : zor f c n = zor f' c' n := by
  induction n with
  | zero => rfl
  | succ n ih =>
    have h1 := ih (fun i hi => hc i (by omega)) (fun i hi => hf i (by omega))
    have h2 := hc n (by omega)
    have h3 := hf n (by omega)
    simp only [zor, ← h2, ← h1]
    split
    · rename_i h; rw [h3 h]
    · rfl
theorem zsum_congr {f f' : Nat → Int32} {c c' : Nat → Bool} {n : Nat} (hc : ∀ i, i < n → c i = c' i) (hf : ∀ i, i < n → c i = true → f i = f' i) : zsum f c n = zsum f' c' n := by
  induction n with
  | zero => rfl
  | succ n ih =>
    have h1 := ih (fun i hi => hc i (by omega)) (fun i hi => hf i (by omega))
    have h2 := hc n (by omega)
    have h3 := hf n (by omega)
    simp only [zsum, ← h2, ← h1]
    split
    · rename_i h; rw [h3 h]
    · rfl
theorem zCnt_congr {l : Int32} {V : zq_V} {N : Nat} {g g' : Nat → Int32} {c c' : Nat → Bool} (hc : ∀ i, i < N → c i = c' i) (hg : ∀ i, i < N → c i = true → g i = g' i) : zCnt l V N g c = zCnt l V N g' c' := by
  unfold zCnt
  rw [zor_congr hc hg, zsum_congr hc (fun i hi h => by rw [hg i hi h])]
theorem zor_s {f : Nat → Int32} {c : Nat → Bool} {n : Nat} {b : Int32} (hb : b = zor f c n) (h : c n = true) : b ||| f n = zor f c (n + 1) := by rw [zor, if_pos h, hb]
theorem zor_n {f : Nat → Int32} {c : Nat → Bool} {n : Nat} {b : Int32} (hb : b = zor f c n) (h : c n = false) : b = zor f c (n + 1) := by rw [zor, if_neg (by rw [h]; decide), hb]
theorem zsum_s {f : Nat → Int32} {c : Nat → Bool} {n : Nat} {b : Int32} (hb : b = zsum f c n) (h : c n = true) : b + f n = zsum f c (n + 1) := by rw [zsum, if_pos h, hb]
theorem zsum_n {f : Nat → Int32} {c : Nat → Bool} {n : Nat} {b : Int32} (hb : b = zsum f c n) (h : c n = false) : b = zsum f c (n + 1) := by rw [zsum, if_neg (by rw [h]; decide), hb]
theorem zab_4 : ∀ a, a < 4 → ∀ b, b < 4 → (if 0 ≤ nI a - nI b then nI a - nI b else 0 - (nI a - nI b)) = if nI a < nI b then nI b - nI a else nI a - nI b := by decide +kernel
theorem zS.heard {fo : Bool} {N T Y p : Nat} {I : zq_I} (h : zS fo N T Y I) (hp : p < N) : I (91 + 3) p + (if 0 ≤ I (91 + 1) p - I (zF fo + 1) p then I (91 + 1) p - I (zF fo + 1) p else 0 - (I (91 + 1) p - I (zF fo + 1) p)) = vD (zV I) p + zAw (zV I) p := by
  have e1 := h.die hp
  have e2 := h.whe hp
  have e3 := h.hom hp
  obtain ⟨⟨a, ha, ea⟩, -, -, -, ⟨w, hw, ew⟩, -⟩ := h.2.2.2.2.2.1 p hp
  have h4 := h.t4
  simp only [Nat.reduceAdd, e1, e2, e3]
  unfold zAw
  rw [show vW (zV I) p = nI w from ew, show vH (zV I) p = nI a from ea, zab_4 w (by omega) a (by omega)]
set_option maxHeartbeats 4000000 in
set_option maxRecDepth 100000 in
theorem c_J6_bitCount_0f7a4 (G : zq_G) (n : Nat) (I : zq_I) (P : zq_P) (x : Int32) : zq_Met G mJ6_bitCount_0f7a4 0 0 0 [.int x] n I P (zq_pu (some (.int (zpop x))) n I P) := by
  refine zq_Met.of okJ6_bitCount_0f7a4 (Nat.le_of_ble_eq_true rfl) ?_
  show zq_E _ _ _ _ _ _ _ [some (.int x)] _ _ _ _ _
  refine ev_iload_n (q := 1) dJ6_bitCount_0f7a4_0 rfl rfl ?_
  refine ev_iload_n (q := 2) dJ6_bitCount_0f7a4_1 rfl rfl ?_
  refine ev_iconst (q := 3) (1 : Int32) dJ6_bitCount_0f7a4_2 rfl (by decide) ?_
  refine ev_iushr (q := 4) dJ6_bitCount_0f7a4_3 rfl ?_
  refine ev_ldcw (q := 7) dJ6_bitCount_0f7a4_4 rfl ctRJ6_265 ?_
  refine ev_iand (q := 8) dJ6_bitCount_0f7a4_7 rfl ?_
  refine ev_isub (q := 9) dJ6_bitCount_0f7a4_8 rfl ?_
  refine ev_istore_nL (q := 10) (L9 := [_]) dJ6_bitCount_0f7a4_9 rfl (by decide) rfl rfl ?_
  refine ev_iload_n (q := 11) dJ6_bitCount_0f7a4_10 rfl rfl ?_
  refine ev_ldcw (q := 14) dJ6_bitCount_0f7a4_11 rfl ctRJ6_266 ?_
  refine ev_iand (q := 15) dJ6_bitCount_0f7a4_14 rfl ?_
  refine ev_iload_n (q := 16) dJ6_bitCount_0f7a4_15 rfl rfl ?_
  refine ev_iconst (q := 17) (2 : Int32) dJ6_bitCount_0f7a4_16 rfl (by decide) ?_
  refine ev_iushr (q := 18) dJ6_bitCount_0f7a4_17 rfl ?_
  refine ev_ldcw (q := 21) dJ6_bitCount_0f7a4_18 rfl ctRJ6_266 ?_
  refine ev_iand (q := 22) dJ6_bitCount_0f7a4_21 rfl ?_
  refine ev_iadd (q := 23) dJ6_bitCount_0f7a4_22 rfl ?_
  refine ev_istore_nL (q := 24) (L9 := [_]) dJ6_bitCount_0f7a4_23 rfl (by decide) rfl rfl ?_
  refine ev_iload_n (q := 25) dJ6_bitCount_0f7a4_24 rfl rfl ?_
  refine ev_iload_n (q := 26) dJ6_bitCount_0f7a4_25 rfl rfl ?_
  refine ev_iconst (q := 27) (4 : Int32) dJ6_bitCount_0f7a4_26 rfl (by decide) ?_
  refine ev_iushr (q := 28) dJ6_bitCount_0f7a4_27 rfl ?_
  refine ev_iadd (q := 29) dJ6_bitCount_0f7a4_28 rfl ?_
  refine ev_ldcw (q := 32) dJ6_bitCount_0f7a4_29 rfl ctRJ6_267 ?_
  refine ev_iand (q := 33) dJ6_bitCount_0f7a4_32 rfl ?_
  refine ev_istore_nL (q := 34) (L9 := [_]) dJ6_bitCount_0f7a4_33 rfl (by decide) rfl rfl ?_
  refine ev_iload_n (q := 35) dJ6_bitCount_0f7a4_34 rfl rfl ?_
  refine ev_iload_n (q := 36) dJ6_bitCount_0f7a4_35 rfl rfl ?_
  refine ev_bipush (q := 38) (8 : Int32) dJ6_bitCount_0f7a4_36 rfl (by decide) ?_
  refine ev_iushr (q := 39) dJ6_bitCount_0f7a4_38 rfl ?_
  refine ev_iadd (q := 40) dJ6_bitCount_0f7a4_39 rfl ?_
  refine ev_istore_nL (q := 41) (L9 := [_]) dJ6_bitCount_0f7a4_40 rfl (by decide) rfl rfl ?_
  refine ev_iload_n (q := 42) dJ6_bitCount_0f7a4_41 rfl rfl ?_
  refine ev_iload_n (q := 43) dJ6_bitCount_0f7a4_42 rfl rfl ?_
  refine ev_bipush (q := 45) (16 : Int32) dJ6_bitCount_0f7a4_43 rfl (by decide) ?_
  refine ev_iushr (q := 46) dJ6_bitCount_0f7a4_45 rfl ?_
  refine ev_iadd (q := 47) dJ6_bitCount_0f7a4_46 rfl ?_
  refine ev_istore_nL (q := 48) (L9 := [_]) dJ6_bitCount_0f7a4_47 rfl (by decide) rfl rfl ?_
  refine ev_iload_n (q := 49) dJ6_bitCount_0f7a4_48 rfl rfl ?_
  refine ev_bipush (q := 51) (63 : Int32) dJ6_bitCount_0f7a4_49 rfl (by decide) ?_
  refine ev_iand (q := 52) dJ6_bitCount_0f7a4_51 rfl ?_
  exact ev_iret dJ6_bitCount_0f7a4_52 rfl (by first | rfl | exact zb_nar _ | assumption) (⟨rfl, rfl, rfl, rfl⟩)
set_option maxHeartbeats 4000000 in
set_option maxRecDepth 100000 in
theorem c_X7_has (G : zq_G) (n : Nat) (I : zq_I) (P : zq_P) (x : Int32) (k : Nat) : zq_Met G mX7_has 0 0 0 [.int x, .int (nI k)] n I P (zq_pu (some (.int (zb (zhas x k)))) n I P) := by
  refine zq_Met.of okX7_has (Nat.le_of_ble_eq_true rfl) ?_
  show zq_E _ _ _ _ _ _ _ [some (.int x), some (.int (nI k))] _ _ _ _ _
  refine ev_iload_n (q := 1) dX7_has_0 rfl rfl ?_
  refine ev_iload_n (q := 2) dX7_has_1 rfl rfl ?_
  refine ev_ishr (q := 3) dX7_has_2 rfl ?_
  refine ev_iconst (q := 4) (1 : Int32) dX7_has_3 rfl (by decide) ?_
  refine ev_iand (q := 5) dX7_has_4 rfl ?_
  refine ev_if_eq (q := 8) (t := 12) dX7_has_5 rfl (by decide) (fun h5 => ?_) (fun h5 => ?_)
  · refine ev_iconst (q := 13) (0 : Int32) dX7_has_12 rfl (by decide) ?_
    exact ev_iret dX7_has_13 rfl (by first | rfl | exact zb_nar _ | assumption) (⟨by simp [zhas, zb, h5], rfl, rfl, rfl⟩)
  · refine ev_iconst (q := 9) (1 : Int32) dX7_has_8 rfl (by decide) ?_
    refine ev_goto (t := 13) dX7_has_9 (by decide) ?_
    exact ev_iret dX7_has_13 rfl (by first | rfl | exact zb_nar _ | assumption) (⟨by simp [zhas, zb, h5], rfl, rfl, rfl⟩)
set_option maxHeartbeats 4000000 in
set_option maxRecDepth 100000 in
theorem c_X7_nextPart (G : zq_G) (n : Nat) (I : zq_I) (P : zq_P) (x y : Int32) : zq_Met G mX7_nextPart 0 0 0 [.int x, .int y] n I P (zq_pu (some (.int ((x - y) &&& y))) n I P) := by
  refine zq_Met.of okX7_nextPart (Nat.le_of_ble_eq_true rfl) ?_
  show zq_E _ _ _ _ _ _ _ [some (.int x), some (.int y)] _ _ _ _ _
  refine ev_iload_n (q := 1) dX7_nextPart_0 rfl rfl ?_
  refine ev_iload_n (q := 2) dX7_nextPart_1 rfl rfl ?_
  refine ev_isub (q := 3) dX7_nextPart_2 rfl ?_
  refine ev_iload_n (q := 4) dX7_nextPart_3 rfl rfl ?_
  refine ev_iand (q := 5) dX7_nextPart_4 rfl ?_
  exact ev_iret dX7_nextPart_5 rfl (by first | rfl | exact zb_nar _ | assumption) (⟨rfl, rfl, rfl, rfl⟩)
set_option maxHeartbeats 4000000 in
set_option maxRecDepth 100000 in
theorem c_X0_hasTown (G : zq_G) (fo : Bool) (I : zq_I) {f : Nat} (hf : zq_isF f) (x : Int32) : zq_Met G mX0_hasTown 0 0 0 [.ref f, .int x] 138 I (zPs fo) (zq_pu (some (.int (zb (zin x (I f 1))))) 138 I (zPs fo)) := by
  refine zq_Met.of okX0_hasTown (Nat.le_of_ble_eq_true rfl) ?_
  show zq_E _ _ _ _ _ _ _ [some (.ref f), some (.int x)] _ _ _ _ _
  refine ev_iload_n (q := 1) dX0_hasTown_0 rfl rfl ?_
  refine ev_if_lt (q := 4) (t := 16) dX0_hasTown_1 rfl (by decide) (fun h1 => ?_) (fun h1 => ?_)
  · refine ev_iconst (q := 17) (0 : Int32) dX0_hasTown_16 rfl (by decide) ?_
    exact ev_iret dX0_hasTown_17 rfl (by first | rfl | exact zb_nar _ | assumption) (⟨by simp [zin, zb, h1], rfl, rfl, rfl⟩)
  · refine ev_iload_n (q := 5) dX0_hasTown_4 rfl rfl ?_
    refine ev_aload_n (q := 6) dX0_hasTown_5 rfl rfl ?_
    refine ev_getI (q := 9) (ci := 0) (f := 1) dX0_hasTown_6 rfl (by first | rfl | assumption | exact zf_kd (by assumption) | exact zw_kd (by assumption) | exact zt_kd (by assumption)) (by first | decide | exact zf_lt (by assumption) | exact zf_lt1 (by assumption) | exact zf_lt2 (by assumption) | exact zf_lt3 (by assumption) | exact zf_lt4 (by assumption) | exact zw_lt (by assumption) | exact zw_lt1 (by assumption) | exact zw_lt2 (by assumption) | exact zw_lt3 (by assumption) | exact zw_lt4 (by assumption) | exact zt_lt (by assumption)) (by decide) (by decide) lfRX0_9 rfl ?_
    refine ev_icmp_ge (q := 12) (t := 16) dX0_hasTown_9 rfl (by decide) (fun h9 => ?_) (fun h9 => ?_)
    · refine ev_iconst (q := 17) (0 : Int32) dX0_hasTown_16 rfl (by decide) ?_
      exact ev_iret dX0_hasTown_17 rfl (by first | rfl | exact zb_nar _ | assumption) (⟨by simp [zin, zb, h1, h9], rfl, rfl, rfl⟩)
    · refine ev_iconst (q := 13) (1 : Int32) dX0_hasTown_12 rfl (by decide) ?_
      refine ev_goto (t := 17) dX0_hasTown_13 (by decide) ?_
      exact ev_iret dX0_hasTown_17 rfl (by first | rfl | exact zb_nar _ | assumption) (⟨by simp [zin, zb, h1, h9], rfl, rfl, rfl⟩)
set_option maxHeartbeats 4000000 in
set_option maxRecDepth 100000 in
theorem c_X0_hasPerson (G : zq_G) (fo : Bool) (I : zq_I) {f : Nat} (hf : zq_isF f) (x : Int32) : zq_Met G mX0_hasPerson 0 0 0 [.ref f, .int x] 138 I (zPs fo) (zq_pu (some (.int (zb (zin x (I f 2))))) 138 I (zPs fo)) := by
  refine zq_Met.of okX0_hasPerson (Nat.le_of_ble_eq_true rfl) ?_
  show zq_E _ _ _ _ _ _ _ [some (.ref f), some (.int x)] _ _ _ _ _
  refine ev_iload_n (q := 1) dX0_hasPerson_0 rfl rfl ?_
  refine ev_if_lt (q := 4) (t := 16) dX0_hasPerson_1 rfl (by decide) (fun h1 => ?_) (fun h1 => ?_)
  · refine ev_iconst (q := 17) (0 : Int32) dX0_hasPerson_16 rfl (by decide) ?_
    exact ev_iret dX0_hasPerson_17 rfl (by first | rfl | exact zb_nar _ | assumption) (⟨by simp [zin, zb, h1], rfl, rfl, rfl⟩)
  · refine ev_iload_n (q := 5) dX0_hasPerson_4 rfl rfl ?_
    refine ev_aload_n (q := 6) dX0_hasPerson_5 rfl rfl ?_
    refine ev_getI (q := 9) (ci := 0) (f := 2) dX0_hasPerson_6 rfl (by first | rfl | assumption | exact zf_kd (by assumption) | exact zw_kd (by assumption) | exact zt_kd (by assumption)) (by first | decide | exact zf_lt (by assumption) | exact zf_lt1 (by assumption) | exact zf_lt2 (by assumption) | exact zf_lt3 (by assumption) | exact zf_lt4 (by assumption) | exact zw_lt (by assumption) | exact zw_lt1 (by assumption) | exact zw_lt2 (by assumption) | exact zw_lt3 (by assumption) | exact zw_lt4 (by assumption) | exact zt_lt (by assumption)) (by decide) (by decide) lfRX0_31 rfl ?_
    refine ev_icmp_ge (q := 12) (t := 16) dX0_hasPerson_9 rfl (by decide) (fun h9 => ?_) (fun h9 => ?_)
    · refine ev_iconst (q := 17) (0 : Int32) dX0_hasPerson_16 rfl (by decide) ?_
      exact ev_iret dX0_hasPerson_17 rfl (by first | rfl | exact zb_nar _ | assumption) (⟨by simp [zin, zb, h1, h9], rfl, rfl, rfl⟩)
    · refine ev_iconst (q := 13) (1 : Int32) dX0_hasPerson_12 rfl (by decide) ?_
      refine ev_goto (t := 17) dX0_hasPerson_13 (by decide) ?_
      exact ev_iret dX0_hasPerson_17 rfl (by first | rfl | exact zb_nar _ | assumption) (⟨by simp [zin, zb, h1, h9], rfl, rfl, rfl⟩)
set_option maxHeartbeats 4000000 in
set_option maxRecDepth 100000 in
theorem c_X0_ofHome (G : zq_G) (fo : Bool) (I : zq_I) {f N : Nat} (V : zq_V) (hf : zq_isF f) (hN8 : N ≤ 8) (hN : I f 2 = nI N) (hh : ∀ p, p < N → I (f + 1) p = vH V p) (x : Int32) : zq_Met G mX0_ofHome 0 0 0 [.ref f, .int x] 138 I (zPs fo) (zq_pu (some (.int (zOH V N x))) 138 I (zPs fo)) := by
  refine zq_Met.of okX0_ofHome (Nat.le_of_ble_eq_true rfl) ?_
  show zq_E _ _ _ _ _ _ _ [some (.ref f), some (.int x), none, none] _ _ _ _ _
  have lp4 : ∀ (k i : Nat) (b : Int32), N + 1 ≤ i + k → i ≤ N → b = zor (zsh) (fun i => vH V i == x) i → zq_E G mX0_ofHome 0 0 0 false 4 [some (.ref f), some (.int x), some (.int b), some (.int (nI i))] [] 138 I (zPs fo) (zq_pu (some (.int (zOH V N x))) 138 I (zPs fo)) := by
    intro k
    induction k with
    | zero => intro i b hk hi; exact absurd hk (by omega)
    | succ k ih =>
      intro i b hk hi hb
      refine ev_iload_n (q := 5) dX0_ofHome_4 rfl rfl ?_
      refine ev_aload_n (q := 6) dX0_ofHome_5 rfl rfl ?_
      refine ev_getI (q := 9) (ci := 0) (f := 2) dX0_ofHome_6 rfl (by first | rfl | assumption | exact zf_kd (by assumption) | exact zw_kd (by assumption) | exact zt_kd (by assumption)) (by first | decide | exact zf_lt (by assumption) | exact zf_lt1 (by assumption) | exact zf_lt2 (by assumption) | exact zf_lt3 (by assumption) | exact zf_lt4 (by assumption) | exact zw_lt (by assumption) | exact zw_lt1 (by assumption) | exact zw_lt2 (by assumption) | exact zw_lt3 (by assumption) | exact zw_lt4 (by assumption) | exact zt_lt (by assumption)) (by decide) (by decide) lfRX0_31 rfl ?_
      refine ev_icmp_ge (q := 12) (t := 34) dX0_ofHome_9 rfl (by decide) (fun h9 => ?_) (fun h9 => ?_)
      · obtain rfl : i = N := by rw [hN, nI_leI (by omega) (by omega)] at h9; omega
        refine ev_iload_n (q := 35) dX0_ofHome_34 rfl rfl ?_
        exact ev_iret dX0_ofHome_35 rfl (by first | rfl | exact zb_nar _ | assumption) (⟨by subst hb; rfl, rfl, rfl, rfl⟩)
      · have hlt_i : i < N := by rw [hN, nI_leI (by omega) (by omega)] at h9; omega
        refine ev_aload_n (q := 13) dX0_ofHome_12 rfl rfl ?_
        refine ev_getR (q := 16) (ci := 0) (f := 4) dX0_ofHome_13 rfl (by first | rfl | assumption | exact zf_kd (by assumption) | exact zw_kd (by assumption) | exact zt_kd (by assumption)) (by first | decide | exact zf_lt (by assumption) | exact zf_lt1 (by assumption) | exact zf_lt2 (by assumption) | exact zf_lt3 (by assumption) | exact zf_lt4 (by assumption) | exact zw_lt (by assumption) | exact zw_lt1 (by assumption) | exact zw_lt2 (by assumption) | exact zw_lt3 (by assumption) | exact zw_lt4 (by assumption) | exact zt_lt (by assumption)) (by decide) (by decide) lfRX0_15 rfl (by first | rfl | assumption | exact zf_p4 _ (by assumption) | exact zf_p5 _ (by assumption) | exact zf_p6 _ (by assumption) | exact zf_p7 _ (by assumption) | exact zw_p1 _ (by assumption) | exact zw_p2 _ (by assumption) | exact zw_p3 _ (by assumption) | exact zw_p4 _ (by assumption)) ?_
        refine ev_iload_n (q := 17) dX0_ofHome_16 rfl rfl ?_
        refine ev_ialdN (q := 18) dX0_ofHome_17 rfl (by first | rfl | assumption | exact zf_kd1 (by assumption) | exact zf_kd2 (by assumption) | exact zf_kd3 (by assumption) | exact zf_kd4 (by assumption) | exact zw_kd1 (by assumption) | exact zw_kd2 (by assumption) | exact zw_kd3 (by assumption) | exact zw_kd4 (by assumption)) (by first | decide | exact zf_lt (by assumption) | exact zf_lt1 (by assumption) | exact zf_lt2 (by assumption) | exact zf_lt3 (by assumption) | exact zf_lt4 (by assumption) | exact zw_lt (by assumption) | exact zw_lt1 (by assumption) | exact zw_lt2 (by assumption) | exact zw_lt3 (by assumption) | exact zw_lt4 (by assumption) | exact zt_lt (by assumption)) (by first | omega | assumption) ?_
        refine ev_iload_n (q := 19) dX0_ofHome_18 rfl rfl ?_
        refine ev_icmp_ne (q := 22) (t := 28) dX0_ofHome_19 rfl (by decide) (fun h19 => ?_) (fun h19 => ?_)
        · refine ev_iincL (q := 31) (L9 := [_, _, _, _]) (1 : Int32) dX0_ofHome_28 rfl rfl (by decide) (by decide) rfl rfl ?_
          refine ev_goto (t := 4) dX0_ofHome_31 (by decide) ?_
          rw [nI_1]
          exact ih (i + 1) _ (by omega) (by omega) (by first | exact zor_s hb (by simp [← hh i hlt_i, h9, h19]) | exact zor_n hb (by simp [← hh i hlt_i, h9, h19]))
        · refine ev_iload_n (q := 23) dX0_ofHome_22 rfl rfl ?_
          refine ev_iconst (q := 24) (1 : Int32) dX0_ofHome_23 rfl (by decide) ?_
          refine ev_iload_n (q := 25) dX0_ofHome_24 rfl rfl ?_
          refine ev_ishl (q := 26) dX0_ofHome_25 rfl ?_
          refine ev_ior (q := 27) dX0_ofHome_26 rfl ?_
          refine ev_istore_nL (q := 28) (L9 := [_, _, _, _]) dX0_ofHome_27 rfl (by decide) rfl rfl ?_
          refine ev_iincL (q := 31) (L9 := [_, _, _, _]) (1 : Int32) dX0_ofHome_28 rfl rfl (by decide) (by decide) rfl rfl ?_
          refine ev_goto (t := 4) dX0_ofHome_31 (by decide) ?_
          rw [nI_1]
          exact ih (i + 1) _ (by omega) (by omega) (by first | exact zor_s hb (by simp [← hh i hlt_i, h9, h19]) | exact zor_n hb (by simp [← hh i hlt_i, h9, h19]))
  refine ev_iconst (q := 1) (0 : Int32) dX0_ofHome_0 rfl (by decide) ?_
  refine ev_istore_nL (q := 2) (L9 := [_, _, _, _]) dX0_ofHome_1 rfl (by decide) rfl rfl ?_
  refine ev_iconst (q := 3) (0 : Int32) dX0_ofHome_2 rfl (by decide) ?_
  refine ev_istore_nL (q := 4) (L9 := [_, _, _, _]) dX0_ofHome_3 rfl (by decide) rfl rfl ?_
  exact lp4 (N + 1) 0 0 (by omega) (by omega) rfl
set_option maxHeartbeats 4000000 in
set_option maxRecDepth 100000 in
theorem c_X0_namesOf (G : zq_G) (fo : Bool) (I : zq_I) {f N : Nat} (V : zq_V) (hf : zq_isF f) (hN8 : N ≤ 8) (hN : I f 2 = nI N) (hh : ∀ p, p < N → I (f + 2) p = vN V p) (x : Int32) : zq_Met G mX0_namesOf 1 0 0 [.ref f, .int x] 138 I (zPs fo) (zq_pu (some (.int (zNm V N x))) 138 I (zPs fo)) := by
  refine zq_Met.of okX0_namesOf (Nat.le_of_ble_eq_true rfl) ?_
  show zq_E _ _ _ _ _ _ _ [some (.ref f), some (.int x), none, none] _ _ _ _ _
  have lp4 : ∀ (k i : Nat) (b : Int32), N + 1 ≤ i + k → i ≤ N → b = zor (fun i => (1 : Int32) <<< (vN V i &&& 31)) (fun i => zhas x i) i → zq_E G mX0_namesOf 1 0 0 false 4 [some (.ref f), some (.int x), some (.int b), some (.int (nI i))] [] 138 I (zPs fo) (zq_pu (some (.int (zNm V N x))) 138 I (zPs fo)) := by
    intro k
    induction k with
    | zero => intro i b hk hi; exact absurd hk (by omega)
    | succ k ih =>
      intro i b hk hi hb
      refine ev_iload_n (q := 5) dX0_namesOf_4 rfl rfl ?_
      refine ev_aload_n (q := 6) dX0_namesOf_5 rfl rfl ?_
      refine ev_getI (q := 9) (ci := 0) (f := 2) dX0_namesOf_6 rfl (by first | rfl | assumption | exact zf_kd (by assumption) | exact zw_kd (by assumption) | exact zt_kd (by assumption)) (by first | decide | exact zf_lt (by assumption) | exact zf_lt1 (by assumption) | exact zf_lt2 (by assumption) | exact zf_lt3 (by assumption) | exact zf_lt4 (by assumption) | exact zw_lt (by assumption) | exact zw_lt1 (by assumption) | exact zw_lt2 (by assumption) | exact zw_lt3 (by assumption) | exact zw_lt4 (by assumption) | exact zt_lt (by assumption)) (by decide) (by decide) lfRX0_31 rfl ?_
      refine ev_icmp_ge (q := 12) (t := 37) dX0_namesOf_9 rfl (by decide) (fun h9 => ?_) (fun h9 => ?_)
      · obtain rfl : i = N := by rw [hN, nI_leI (by omega) (by omega)] at h9; omega
        refine ev_iload_n (q := 38) dX0_namesOf_37 rfl rfl ?_
        exact ev_iret dX0_namesOf_38 rfl (by first | rfl | exact zb_nar _ | assumption) (⟨by subst hb; rfl, rfl, rfl, rfl⟩)
      · have hlt_i : i < N := by rw [hN, nI_leI (by omega) (by omega)] at h9; omega
        refine ev_iload_n (q := 13) dX0_namesOf_12 rfl rfl ?_
        refine ev_iload_n (q := 14) dX0_namesOf_13 rfl rfl ?_
        refine ev_pSN (q := 17) dX0_namesOf_14 rfl okX7_has lnRX0_47 smX7_has (c_X7_has G _ _ _ _ _) (by decide) rfl rfl (Nat.le_of_ble_eq_true rfl) ?_
        refine ev_if_eq (q := 20) (t := 31) dX0_namesOf_17 rfl (by decide) (fun h17 => ?_) (fun h17 => ?_)
        · refine ev_iincL (q := 34) (L9 := [_, _, _, _]) (1 : Int32) dX0_namesOf_31 rfl rfl (by decide) (by decide) rfl rfl ?_
          refine ev_goto (t := 4) dX0_namesOf_34 (by decide) ?_
          rw [nI_1]
          exact ih (i + 1) _ (by omega) (by omega) (by first | exact zor_s hb (by simpa [zb_0] using h17) | exact zor_n hb (by simpa [zb_0] using h17))
        · refine ev_iload_n (q := 21) dX0_namesOf_20 rfl rfl ?_
          refine ev_iconst (q := 22) (1 : Int32) dX0_namesOf_21 rfl (by decide) ?_
          refine ev_aload_n (q := 23) dX0_namesOf_22 rfl rfl ?_
          refine ev_getR (q := 26) (ci := 0) (f := 5) dX0_namesOf_23 rfl (by first | rfl | assumption | exact zf_kd (by assumption) | exact zw_kd (by assumption) | exact zt_kd (by assumption)) (by first | decide | exact zf_lt (by assumption) | exact zf_lt1 (by assumption) | exact zf_lt2 (by assumption) | exact zf_lt3 (by assumption) | exact zf_lt4 (by assumption) | exact zw_lt (by assumption) | exact zw_lt1 (by assumption) | exact zw_lt2 (by assumption) | exact zw_lt3 (by assumption) | exact zw_lt4 (by assumption) | exact zt_lt (by assumption)) (by decide) (by decide) lfRX0_19 rfl (by first | rfl | assumption | exact zf_p4 _ (by assumption) | exact zf_p5 _ (by assumption) | exact zf_p6 _ (by assumption) | exact zf_p7 _ (by assumption) | exact zw_p1 _ (by assumption) | exact zw_p2 _ (by assumption) | exact zw_p3 _ (by assumption) | exact zw_p4 _ (by assumption)) ?_
          refine ev_iload_n (q := 27) dX0_namesOf_26 rfl rfl ?_
          refine ev_ialdN (q := 28) dX0_namesOf_27 rfl (by first | rfl | assumption | exact zf_kd1 (by assumption) | exact zf_kd2 (by assumption) | exact zf_kd3 (by assumption) | exact zf_kd4 (by assumption) | exact zw_kd1 (by assumption) | exact zw_kd2 (by assumption) | exact zw_kd3 (by assumption) | exact zw_kd4 (by assumption)) (by first | decide | exact zf_lt (by assumption) | exact zf_lt1 (by assumption) | exact zf_lt2 (by assumption) | exact zf_lt3 (by assumption) | exact zf_lt4 (by assumption) | exact zw_lt (by assumption) | exact zw_lt1 (by assumption) | exact zw_lt2 (by assumption) | exact zw_lt3 (by assumption) | exact zw_lt4 (by assumption) | exact zt_lt (by assumption)) (by first | omega | assumption) ?_
          rw [hh i hlt_i]
          refine ev_ishl (q := 29) dX0_namesOf_28 rfl ?_
          refine ev_ior (q := 30) dX0_namesOf_29 rfl ?_
          refine ev_istore_nL (q := 31) (L9 := [_, _, _, _]) dX0_namesOf_30 rfl (by decide) rfl rfl ?_
          refine ev_iincL (q := 34) (L9 := [_, _, _, _]) (1 : Int32) dX0_namesOf_31 rfl rfl (by decide) (by decide) rfl rfl ?_
          refine ev_goto (t := 4) dX0_namesOf_34 (by decide) ?_
          rw [nI_1]
          exact ih (i + 1) _ (by omega) (by omega) (by first | exact zor_s hb (by simpa [zb_0] using h17) | exact zor_n hb (by simpa [zb_0] using h17))
  refine ev_iconst (q := 1) (0 : Int32) dX0_namesOf_0 rfl (by decide) ?_
  refine ev_istore_nL (q := 2) (L9 := [_, _, _, _]) dX0_namesOf_1 rfl (by decide) rfl rfl ?_
  refine ev_iconst (q := 3) (0 : Int32) dX0_namesOf_2 rfl (by decide) ?_
  refine ev_istore_nL (q := 4) (L9 := [_, _, _, _]) dX0_namesOf_3 rfl (by decide) rfl rfl ?_
  exact lp4 (N + 1) 0 0 (by omega) (by omega) rfl
set_option maxHeartbeats 4000000 in
set_option maxRecDepth 100000 in
theorem c_X5_clear (G : zq_G) (fo : Bool) (I : zq_I) {tl : Nat} (ht : zq_isT tl) : zq_Met G mX5_clear 0 0 0 [.ref tl] 138 I (zPs fo) (fun v n' I' P' => v = none ∧ n' = 138 ∧ I' = zu (zu I tl 0 0) tl 1 0 ∧ P' = zPs fo) := by
  refine zq_Met.of okX5_clear (Nat.le_of_ble_eq_true rfl) ?_
  show zq_E _ _ _ _ _ _ _ [some (.ref tl)] _ _ _ _ _
  refine ev_aload_n (q := 1) dX5_clear_0 rfl rfl ?_
  refine ev_iconst (q := 2) (0 : Int32) dX5_clear_1 rfl (by decide) ?_
  refine ev_putI (q := 5) (ci := 5) (f := 0) dX5_clear_2 rfl (by first | rfl | assumption | exact zf_kd (by assumption) | exact zw_kd (by assumption) | exact zt_kd (by assumption)) (by first | decide | exact zf_lt (by assumption) | exact zf_lt1 (by assumption) | exact zf_lt2 (by assumption) | exact zf_lt3 (by assumption) | exact zf_lt4 (by assumption) | exact zw_lt (by assumption) | exact zw_lt1 (by assumption) | exact zw_lt2 (by assumption) | exact zw_lt3 (by assumption) | exact zw_lt4 (by assumption) | exact zt_lt (by assumption)) (by decide) (by decide) lfRX5_9 rfl rfl rfl rfl ?_
  refine ev_aload_n (q := 6) dX5_clear_5 rfl rfl ?_
  refine ev_iconst (q := 7) (0 : Int32) dX5_clear_6 rfl (by decide) ?_
  refine ev_putI (q := 10) (ci := 5) (f := 1) dX5_clear_7 rfl (by first | rfl | assumption | exact zf_kd (by assumption) | exact zw_kd (by assumption) | exact zt_kd (by assumption)) (by first | decide | exact zf_lt (by assumption) | exact zf_lt1 (by assumption) | exact zf_lt2 (by assumption) | exact zf_lt3 (by assumption) | exact zf_lt4 (by assumption) | exact zw_lt (by assumption) | exact zw_lt1 (by assumption) | exact zw_lt2 (by assumption) | exact zw_lt3 (by assumption) | exact zw_lt4 (by assumption) | exact zt_lt (by assumption)) (by decide) (by decide) lfRX5_15 rfl rfl rfl rfl ?_
  exact ev_vret dX5_clear_10 rfl (⟨rfl, rfl, by simp [zu], rfl⟩)
set_option maxHeartbeats 4000000 in
set_option maxRecDepth 100000 in
theorem c_X5_addMissed (G : zq_G) (fo : Bool) (I : zq_I) {tl : Nat} (ht : zq_isT tl) (x : Int32) : zq_Met G mX5_addMissed 1 0 0 [.ref tl, .int x] 138 I (zPs fo) (fun v n' I' P' => v = none ∧ n' = 138 ∧ I' = zu (zu I tl 0 (I tl 0 + zpop x)) tl 1 (I tl 1 ||| x) ∧ P' = zPs fo) := by
  refine zq_Met.of okX5_addMissed (Nat.le_of_ble_eq_true rfl) ?_
  show zq_E _ _ _ _ _ _ _ [some (.ref tl), some (.int x)] _ _ _ _ _
  refine ev_aload_n (q := 1) dX5_addMissed_0 rfl rfl ?_
  refine ev_dup (q := 2) dX5_addMissed_1 rfl rfl ?_
  refine ev_getI (q := 5) (ci := 5) (f := 0) dX5_addMissed_2 rfl (by first | rfl | assumption | exact zf_kd (by assumption) | exact zw_kd (by assumption) | exact zt_kd (by assumption)) (by first | decide | exact zf_lt (by assumption) | exact zf_lt1 (by assumption) | exact zf_lt2 (by assumption) | exact zf_lt3 (by assumption) | exact zf_lt4 (by assumption) | exact zw_lt (by assumption) | exact zw_lt1 (by assumption) | exact zw_lt2 (by assumption) | exact zw_lt3 (by assumption) | exact zw_lt4 (by assumption) | exact zt_lt (by assumption)) (by decide) (by decide) lfRX5_9 rfl ?_
  refine ev_iload_n (q := 6) dX5_addMissed_5 rfl rfl ?_
  refine ev_pS (q := 9) dX5_addMissed_6 rfl okJ6_bitCount_0f7a4 lmRX5_18 smJ6_bitCount_0f7a4 (c_J6_bitCount_0f7a4 G _ _ _ _) (by decide) rfl rfl (Nat.le_of_ble_eq_true rfl) ?_
  refine ev_iadd (q := 10) dX5_addMissed_9 rfl ?_
  refine ev_putI (q := 13) (ci := 5) (f := 0) dX5_addMissed_10 rfl (by first | rfl | assumption | exact zf_kd (by assumption) | exact zw_kd (by assumption) | exact zt_kd (by assumption)) (by first | decide | exact zf_lt (by assumption) | exact zf_lt1 (by assumption) | exact zf_lt2 (by assumption) | exact zf_lt3 (by assumption) | exact zf_lt4 (by assumption) | exact zw_lt (by assumption) | exact zw_lt1 (by assumption) | exact zw_lt2 (by assumption) | exact zw_lt3 (by assumption) | exact zw_lt4 (by assumption) | exact zt_lt (by assumption)) (by decide) (by decide) lfRX5_9 rfl rfl rfl rfl ?_
  refine ev_aload_n (q := 14) dX5_addMissed_13 rfl rfl ?_
  refine ev_dup (q := 15) dX5_addMissed_14 rfl rfl ?_
  refine ev_getI (q := 18) (ci := 5) (f := 1) dX5_addMissed_15 rfl (by first | rfl | assumption | exact zf_kd (by assumption) | exact zw_kd (by assumption) | exact zt_kd (by assumption)) (by first | decide | exact zf_lt (by assumption) | exact zf_lt1 (by assumption) | exact zf_lt2 (by assumption) | exact zf_lt3 (by assumption) | exact zf_lt4 (by assumption) | exact zw_lt (by assumption) | exact zw_lt1 (by assumption) | exact zw_lt2 (by assumption) | exact zw_lt3 (by assumption) | exact zw_lt4 (by assumption) | exact zt_lt (by assumption)) (by decide) (by decide) lfRX5_15 rfl ?_
  refine ev_iload_n (q := 19) dX5_addMissed_18 rfl rfl ?_
  refine ev_ior (q := 20) dX5_addMissed_19 rfl ?_
  refine ev_putI (q := 23) (ci := 5) (f := 1) dX5_addMissed_20 rfl (by first | rfl | assumption | exact zf_kd (by assumption) | exact zw_kd (by assumption) | exact zt_kd (by assumption)) (by first | decide | exact zf_lt (by assumption) | exact zf_lt1 (by assumption) | exact zf_lt2 (by assumption) | exact zf_lt3 (by assumption) | exact zf_lt4 (by assumption) | exact zw_lt (by assumption) | exact zw_lt1 (by assumption) | exact zw_lt2 (by assumption) | exact zw_lt3 (by assumption) | exact zw_lt4 (by assumption) | exact zt_lt (by assumption)) (by decide) (by decide) lfRX5_15 rfl rfl rfl rfl ?_
  exact ev_vret dX5_addMissed_23 rfl (⟨rfl, rfl, by simp [zu], rfl⟩)
set_option maxHeartbeats 4000000 in
set_option maxRecDepth 100000 in
theorem c_X5_countByLaw (G : zq_G) (fo : Bool) (I : zq_I) {f N tl : Nat} (V : zq_V) (ht : zq_isT tl) (hf : zq_isF f) (hN8 : N ≤ 8) (hN : I f 2 = nI N) (hh : ∀ p, p < N → I (f + 2) p = vN V p) : zq_Met G mX5_countByLaw 2 0 0 [.ref tl, .ref f] 138 I (zPs fo) (zq_pu (some (.int (zCt (I f 0) V N (I tl 0) (I tl 1)))) 138 I (zPs fo)) := by
  refine zq_Met.of okX5_countByLaw (Nat.le_of_ble_eq_true rfl) ?_
  show zq_E _ _ _ _ _ _ _ [some (.ref tl), some (.ref f)] _ _ _ _ _
  refine ev_aload_n (q := 1) dX5_countByLaw_0 rfl rfl ?_
  refine ev_getI (q := 4) (ci := 0) (f := 0) dX5_countByLaw_1 rfl (by first | rfl | assumption | exact zf_kd (by assumption) | exact zw_kd (by assumption) | exact zt_kd (by assumption)) (by first | decide | exact zf_lt (by assumption) | exact zf_lt1 (by assumption) | exact zf_lt2 (by assumption) | exact zf_lt3 (by assumption) | exact zf_lt4 (by assumption) | exact zw_lt (by assumption) | exact zw_lt1 (by assumption) | exact zw_lt2 (by assumption) | exact zw_lt3 (by assumption) | exact zw_lt4 (by assumption) | exact zt_lt (by assumption)) (by decide) (by decide) lfRX5_24 rfl ?_
  refine ev_if_ne (q := 7) (t := 12) dX5_countByLaw_4 rfl (by decide) (fun h4 => ?_) (fun h4 => ?_)
  · refine ev_aload_n (q := 13) dX5_countByLaw_12 rfl rfl ?_
    refine ev_getI (q := 16) (ci := 0) (f := 0) dX5_countByLaw_13 rfl (by first | rfl | assumption | exact zf_kd (by assumption) | exact zw_kd (by assumption) | exact zt_kd (by assumption)) (by first | decide | exact zf_lt (by assumption) | exact zf_lt1 (by assumption) | exact zf_lt2 (by assumption) | exact zf_lt3 (by assumption) | exact zf_lt4 (by assumption) | exact zw_lt (by assumption) | exact zw_lt1 (by assumption) | exact zw_lt2 (by assumption) | exact zw_lt3 (by assumption) | exact zw_lt4 (by assumption) | exact zt_lt (by assumption)) (by decide) (by decide) lfRX5_24 rfl ?_
    refine ev_iconst (q := 17) (1 : Int32) dX5_countByLaw_16 rfl (by decide) ?_
    refine ev_icmp_ne (q := 20) (t := 27) dX5_countByLaw_17 rfl (by decide) (fun h17 => ?_) (fun h17 => ?_)
    · refine ev_aload_n (q := 28) dX5_countByLaw_27 rfl rfl ?_
      refine ev_aload_n (q := 29) dX5_countByLaw_28 rfl rfl ?_
      refine ev_getI (q := 32) (ci := 5) (f := 1) dX5_countByLaw_29 rfl (by first | rfl | assumption | exact zf_kd (by assumption) | exact zw_kd (by assumption) | exact zt_kd (by assumption)) (by first | decide | exact zf_lt (by assumption) | exact zf_lt1 (by assumption) | exact zf_lt2 (by assumption) | exact zf_lt3 (by assumption) | exact zf_lt4 (by assumption) | exact zw_lt (by assumption) | exact zw_lt1 (by assumption) | exact zw_lt2 (by assumption) | exact zw_lt3 (by assumption) | exact zw_lt4 (by assumption) | exact zt_lt (by assumption)) (by decide) (by decide) lfRX5_15 rfl ?_
      refine ev_pV (q := 35) (ci := 0) dX5_countByLaw_32 rfl okX0_namesOf lmRX5_29 imX0_namesOf seX0_namesOf (by first | rfl | assumption | exact zf_kd (by assumption) | exact zw_kd (by assumption) | exact zt_kd (by assumption)) (by first | decide | exact zf_lt (by assumption) | exact zf_lt1 (by assumption) | exact zf_lt2 (by assumption) | exact zf_lt3 (by assumption) | exact zf_lt4 (by assumption) | exact zw_lt (by assumption) | exact zw_lt1 (by assumption) | exact zw_lt2 (by assumption) | exact zw_lt3 (by assumption) | exact zw_lt4 (by assumption) | exact zt_lt (by assumption)) (by decide) rfl (c_X0_namesOf G fo I V hf hN8 hN hh _) (by decide) rfl rfl (Nat.le_of_ble_eq_true rfl) ?_
      refine ev_pS (q := 38) dX5_countByLaw_35 rfl okJ6_bitCount_0f7a4 lmRX5_18 smJ6_bitCount_0f7a4 (c_J6_bitCount_0f7a4 G _ _ _ _) (by decide) rfl rfl (Nat.le_of_ble_eq_true rfl) ?_
      exact ev_iret dX5_countByLaw_38 rfl (by first | rfl | exact zb_nar _ | assumption) (⟨by simp [zCt, h4, h17], rfl, rfl, rfl⟩)
    · refine ev_aload_n (q := 21) dX5_countByLaw_20 rfl rfl ?_
      refine ev_getI (q := 24) (ci := 5) (f := 1) dX5_countByLaw_21 rfl (by first | rfl | assumption | exact zf_kd (by assumption) | exact zw_kd (by assumption) | exact zt_kd (by assumption)) (by first | decide | exact zf_lt (by assumption) | exact zf_lt1 (by assumption) | exact zf_lt2 (by assumption) | exact zf_lt3 (by assumption) | exact zf_lt4 (by assumption) | exact zw_lt (by assumption) | exact zw_lt1 (by assumption) | exact zw_lt2 (by assumption) | exact zw_lt3 (by assumption) | exact zw_lt4 (by assumption) | exact zt_lt (by assumption)) (by decide) (by decide) lfRX5_15 rfl ?_
      refine ev_goto (t := 35) dX5_countByLaw_24 (by decide) ?_
      refine ev_pS (q := 38) dX5_countByLaw_35 rfl okJ6_bitCount_0f7a4 lmRX5_18 smJ6_bitCount_0f7a4 (c_J6_bitCount_0f7a4 G _ _ _ _) (by decide) rfl rfl (Nat.le_of_ble_eq_true rfl) ?_
      exact ev_iret dX5_countByLaw_38 rfl (by first | rfl | exact zb_nar _ | assumption) (⟨by simp [zCt, h4, h17], rfl, rfl, rfl⟩)
  · refine ev_aload_n (q := 8) dX5_countByLaw_7 rfl rfl ?_
    refine ev_getI (q := 11) (ci := 5) (f := 0) dX5_countByLaw_8 rfl (by first | rfl | assumption | exact zf_kd (by assumption) | exact zw_kd (by assumption) | exact zt_kd (by assumption)) (by first | decide | exact zf_lt (by assumption) | exact zf_lt1 (by assumption) | exact zf_lt2 (by assumption) | exact zf_lt3 (by assumption) | exact zf_lt4 (by assumption) | exact zw_lt (by assumption) | exact zw_lt1 (by assumption) | exact zw_lt2 (by assumption) | exact zw_lt3 (by assumption) | exact zw_lt4 (by assumption) | exact zt_lt (by assumption)) (by decide) (by decide) lfRX5_9 rfl ?_
    exact ev_iret dX5_countByLaw_11 rfl (by first | rfl | exact zb_nar _ | assumption) (⟨by simp [zCt, h4], rfl, rfl, rfl⟩)
set_option maxHeartbeats 4000000 in
set_option maxRecDepth 100000 in
theorem c_X6_isAlive (G : zq_G) (fo : Bool) (I : zq_I) {w p : Nat} (hw : zq_isW w) (hp : p < 8) : zq_Met G mX6_isAlive 0 0 0 [.ref w, .int (nI p)] 138 I (zPs fo) (zq_pu (some (.int (zb (I (w + 3) p == -9)))) 138 I (zPs fo)) := by
  refine zq_Met.of okX6_isAlive (Nat.le_of_ble_eq_true rfl) ?_
  show zq_E _ _ _ _ _ _ _ [some (.ref w), some (.int (nI p))] _ _ _ _ _
  refine ev_aload_n (q := 1) dX6_isAlive_0 rfl rfl ?_
  refine ev_getR (q := 4) (ci := 6) (f := 3) dX6_isAlive_1 rfl (by first | rfl | assumption | exact zf_kd (by assumption) | exact zw_kd (by assumption) | exact zt_kd (by assumption)) (by first | decide | exact zf_lt (by assumption) | exact zf_lt1 (by assumption) | exact zf_lt2 (by assumption) | exact zf_lt3 (by assumption) | exact zf_lt4 (by assumption) | exact zw_lt (by assumption) | exact zw_lt1 (by assumption) | exact zw_lt2 (by assumption) | exact zw_lt3 (by assumption) | exact zw_lt4 (by assumption) | exact zt_lt (by assumption)) (by decide) (by decide) lfRX6_18 rfl (by first | rfl | assumption | exact zf_p4 _ (by assumption) | exact zf_p5 _ (by assumption) | exact zf_p6 _ (by assumption) | exact zf_p7 _ (by assumption) | exact zw_p1 _ (by assumption) | exact zw_p2 _ (by assumption) | exact zw_p3 _ (by assumption) | exact zw_p4 _ (by assumption)) ?_
  refine ev_iload_n (q := 5) dX6_isAlive_4 rfl rfl ?_
  refine ev_ialdN (q := 6) dX6_isAlive_5 rfl (by first | rfl | assumption | exact zf_kd1 (by assumption) | exact zf_kd2 (by assumption) | exact zf_kd3 (by assumption) | exact zf_kd4 (by assumption) | exact zw_kd1 (by assumption) | exact zw_kd2 (by assumption) | exact zw_kd3 (by assumption) | exact zw_kd4 (by assumption)) (by first | decide | exact zf_lt (by assumption) | exact zf_lt1 (by assumption) | exact zf_lt2 (by assumption) | exact zf_lt3 (by assumption) | exact zf_lt4 (by assumption) | exact zw_lt (by assumption) | exact zw_lt1 (by assumption) | exact zw_lt2 (by assumption) | exact zw_lt3 (by assumption) | exact zw_lt4 (by assumption) | exact zt_lt (by assumption)) (by first | omega | assumption) ?_
  refine ev_bipush (q := 8) ((-9) : Int32) dX6_isAlive_6 rfl (by decide) ?_
  refine ev_icmp_ne (q := 11) (t := 15) dX6_isAlive_8 rfl (by decide) (fun h8 => ?_) (fun h8 => ?_)
  · refine ev_iconst (q := 16) (0 : Int32) dX6_isAlive_15 rfl (by decide) ?_
    exact ev_iret dX6_isAlive_16 rfl (by first | rfl | exact zb_nar _ | assumption) (⟨by simp [zb, h8], rfl, rfl, rfl⟩)
  · refine ev_iconst (q := 12) (1 : Int32) dX6_isAlive_11 rfl (by decide) ?_
    refine ev_goto (t := 16) dX6_isAlive_12 (by decide) ?_
    exact ev_iret dX6_isAlive_16 rfl (by first | rfl | exact zb_nar _ | assumption) (⟨by simp [zb, h8], rfl, rfl, rfl⟩)
set_option maxHeartbeats 4000000 in
set_option maxRecDepth 100000 in
theorem c_X6_heardIn (G : zq_G) (fo : Bool) (I : zq_I) {w f p : Nat} (hw : zq_isW w) (hf : zq_isF f) (hp : p < 8) : zq_Met G mX6_heardIn 1 0 0 [.ref w, .int (nI p), .ref f] 138 I (zPs fo) (zq_pu (some (.int (I (w + 3) p + (if 0 ≤ I (w + 1) p - I (f + 1) p then I (w + 1) p - I (f + 1) p else 0 - (I (w + 1) p - I (f + 1) p))))) 138 I (zPs fo)) := by
  refine zq_Met.of okX6_heardIn (Nat.le_of_ble_eq_true rfl) ?_
  show zq_E _ _ _ _ _ _ _ [some (.ref w), some (.int (nI p)), some (.ref f)] _ _ _ _ _
  refine ev_aload_n (q := 1) dX6_heardIn_0 rfl rfl ?_
  refine ev_getR (q := 4) (ci := 6) (f := 3) dX6_heardIn_1 rfl (by first | rfl | assumption | exact zf_kd (by assumption) | exact zw_kd (by assumption) | exact zt_kd (by assumption)) (by first | decide | exact zf_lt (by assumption) | exact zf_lt1 (by assumption) | exact zf_lt2 (by assumption) | exact zf_lt3 (by assumption) | exact zf_lt4 (by assumption) | exact zw_lt (by assumption) | exact zw_lt1 (by assumption) | exact zw_lt2 (by assumption) | exact zw_lt3 (by assumption) | exact zw_lt4 (by assumption) | exact zt_lt (by assumption)) (by decide) (by decide) lfRX6_18 rfl (by first | rfl | assumption | exact zf_p4 _ (by assumption) | exact zf_p5 _ (by assumption) | exact zf_p6 _ (by assumption) | exact zf_p7 _ (by assumption) | exact zw_p1 _ (by assumption) | exact zw_p2 _ (by assumption) | exact zw_p3 _ (by assumption) | exact zw_p4 _ (by assumption)) ?_
  refine ev_iload_n (q := 5) dX6_heardIn_4 rfl rfl ?_
  refine ev_ialdN (q := 6) dX6_heardIn_5 rfl (by first | rfl | assumption | exact zf_kd1 (by assumption) | exact zf_kd2 (by assumption) | exact zf_kd3 (by assumption) | exact zf_kd4 (by assumption) | exact zw_kd1 (by assumption) | exact zw_kd2 (by assumption) | exact zw_kd3 (by assumption) | exact zw_kd4 (by assumption)) (by first | decide | exact zf_lt (by assumption) | exact zf_lt1 (by assumption) | exact zf_lt2 (by assumption) | exact zf_lt3 (by assumption) | exact zf_lt4 (by assumption) | exact zw_lt (by assumption) | exact zw_lt1 (by assumption) | exact zw_lt2 (by assumption) | exact zw_lt3 (by assumption) | exact zw_lt4 (by assumption) | exact zt_lt (by assumption)) (by first | omega | assumption) ?_
  refine ev_aload_n (q := 7) dX6_heardIn_6 rfl rfl ?_
  refine ev_getR (q := 10) (ci := 6) (f := 1) dX6_heardIn_7 rfl (by first | rfl | assumption | exact zf_kd (by assumption) | exact zw_kd (by assumption) | exact zt_kd (by assumption)) (by first | decide | exact zf_lt (by assumption) | exact zf_lt1 (by assumption) | exact zf_lt2 (by assumption) | exact zf_lt3 (by assumption) | exact zf_lt4 (by assumption) | exact zw_lt (by assumption) | exact zw_lt1 (by assumption) | exact zw_lt2 (by assumption) | exact zw_lt3 (by assumption) | exact zw_lt4 (by assumption) | exact zt_lt (by assumption)) (by decide) (by decide) lfRX6_9 rfl (by first | rfl | assumption | exact zf_p4 _ (by assumption) | exact zf_p5 _ (by assumption) | exact zf_p6 _ (by assumption) | exact zf_p7 _ (by assumption) | exact zw_p1 _ (by assumption) | exact zw_p2 _ (by assumption) | exact zw_p3 _ (by assumption) | exact zw_p4 _ (by assumption)) ?_
  refine ev_iload_n (q := 11) dX6_heardIn_10 rfl rfl ?_
  refine ev_ialdN (q := 12) dX6_heardIn_11 rfl (by first | rfl | assumption | exact zf_kd1 (by assumption) | exact zf_kd2 (by assumption) | exact zf_kd3 (by assumption) | exact zf_kd4 (by assumption) | exact zw_kd1 (by assumption) | exact zw_kd2 (by assumption) | exact zw_kd3 (by assumption) | exact zw_kd4 (by assumption)) (by first | decide | exact zf_lt (by assumption) | exact zf_lt1 (by assumption) | exact zf_lt2 (by assumption) | exact zf_lt3 (by assumption) | exact zf_lt4 (by assumption) | exact zw_lt (by assumption) | exact zw_lt1 (by assumption) | exact zw_lt2 (by assumption) | exact zw_lt3 (by assumption) | exact zw_lt4 (by assumption) | exact zt_lt (by assumption)) (by first | omega | assumption) ?_
  refine ev_aload_n (q := 13) dX6_heardIn_12 rfl rfl ?_
  refine ev_getR (q := 16) (ci := 0) (f := 4) dX6_heardIn_13 rfl (by first | rfl | assumption | exact zf_kd (by assumption) | exact zw_kd (by assumption) | exact zt_kd (by assumption)) (by first | decide | exact zf_lt (by assumption) | exact zf_lt1 (by assumption) | exact zf_lt2 (by assumption) | exact zf_lt3 (by assumption) | exact zf_lt4 (by assumption) | exact zw_lt (by assumption) | exact zw_lt1 (by assumption) | exact zw_lt2 (by assumption) | exact zw_lt3 (by assumption) | exact zw_lt4 (by assumption) | exact zt_lt (by assumption)) (by decide) (by decide) lfRX6_28 rfl (by first | rfl | assumption | exact zf_p4 _ (by assumption) | exact zf_p5 _ (by assumption) | exact zf_p6 _ (by assumption) | exact zf_p7 _ (by assumption) | exact zw_p1 _ (by assumption) | exact zw_p2 _ (by assumption) | exact zw_p3 _ (by assumption) | exact zw_p4 _ (by assumption)) ?_
  refine ev_iload_n (q := 17) dX6_heardIn_16 rfl rfl ?_
  refine ev_ialdN (q := 18) dX6_heardIn_17 rfl (by first | rfl | assumption | exact zf_kd1 (by assumption) | exact zf_kd2 (by assumption) | exact zf_kd3 (by assumption) | exact zf_kd4 (by assumption) | exact zw_kd1 (by assumption) | exact zw_kd2 (by assumption) | exact zw_kd3 (by assumption) | exact zw_kd4 (by assumption)) (by first | decide | exact zf_lt (by assumption) | exact zf_lt1 (by assumption) | exact zf_lt2 (by assumption) | exact zf_lt3 (by assumption) | exact zf_lt4 (by assumption) | exact zw_lt (by assumption) | exact zw_lt1 (by assumption) | exact zw_lt2 (by assumption) | exact zw_lt3 (by assumption) | exact zw_lt4 (by assumption) | exact zt_lt (by assumption)) (by first | omega | assumption) ?_
  refine ev_isub (q := 19) dX6_heardIn_18 rfl ?_
  refine ev_absI (q := 22) dX6_heardIn_19 rfl lmRX6_36 smabsI iniMath cdabsI (by decide) (Nat.le_of_ble_eq_true rfl) ?_
  refine ev_iadd (q := 23) dX6_heardIn_22 rfl ?_
  exact ev_iret dX6_heardIn_23 rfl (by first | rfl | exact zb_nar _ | assumption) (⟨rfl, rfl, rfl, rfl⟩)
set_option maxHeartbeats 4000000 in
set_option maxRecDepth 100000 in
theorem c_X7_isAtHome (G : zq_G) (fo : Bool) (I : zq_I) {N T Y : Nat} (hs : zS fo N T Y I) {p : Nat} (hp : p < N) : zq_Met G mX7_isAtHome 1 0 0 [.ref 0, .int (nI p)] 138 I (zPs fo) (zq_pu (some (.int (zb (zTh (zV I) p)))) 138 I (zPs fo)) := by
  refine zq_Met.of okX7_isAtHome (Nat.le_of_ble_eq_true rfl) ?_
  show zq_E _ _ _ _ _ _ _ [some (.ref 0), some (.int (nI p))] _ _ _ _ _
  have hN8 := hs.n8
  have hN := hs.ppl
  have hfF := zF_is fo
  have e1 := hs.die hp
  have e2 := hs.whe hp
  have e3 := hs.hom hp
  refine ev_aload_n (q := 1) dX7_isAtHome_0 rfl rfl ?_
  refine ev_getR (q := 4) (ci := 7) (f := 5) dX7_isAtHome_1 rfl (by first | rfl | assumption | exact zf_kd (by assumption) | exact zw_kd (by assumption) | exact zt_kd (by assumption)) (by first | decide | exact zf_lt (by assumption) | exact zf_lt1 (by assumption) | exact zf_lt2 (by assumption) | exact zf_lt3 (by assumption) | exact zf_lt4 (by assumption) | exact zw_lt (by assumption) | exact zw_lt1 (by assumption) | exact zw_lt2 (by assumption) | exact zw_lt3 (by assumption) | exact zw_lt4 (by assumption) | exact zt_lt (by assumption)) (by decide) (by decide) lfRX7_47 rfl (by first | rfl | assumption | exact zf_p4 _ (by assumption) | exact zf_p5 _ (by assumption) | exact zf_p6 _ (by assumption) | exact zf_p7 _ (by assumption) | exact zw_p1 _ (by assumption) | exact zw_p2 _ (by assumption) | exact zw_p3 _ (by assumption) | exact zw_p4 _ (by assumption)) ?_
  refine ev_iload_n (q := 5) dX7_isAtHome_4 rfl rfl ?_
  refine ev_pV (q := 8) (ci := 6) dX7_isAtHome_5 rfl okX6_isAlive lmRX7_167 imX6_isAlive seX6_isAlive (by first | rfl | assumption | exact zf_kd (by assumption) | exact zw_kd (by assumption) | exact zt_kd (by assumption)) (by first | decide | exact zf_lt (by assumption) | exact zf_lt1 (by assumption) | exact zf_lt2 (by assumption) | exact zf_lt3 (by assumption) | exact zf_lt4 (by assumption) | exact zw_lt (by assumption) | exact zw_lt1 (by assumption) | exact zw_lt2 (by assumption) | exact zw_lt3 (by assumption) | exact zw_lt4 (by assumption) | exact zt_lt (by assumption)) (by decide) rfl (c_X6_isAlive G fo I zW_now (by omega)) (by decide) rfl rfl (Nat.le_of_ble_eq_true rfl) ?_
  refine ev_if_eq (q := 11) (t := 36) dX7_isAtHome_8 rfl (by decide) (fun h8 => ?_) (fun h8 => ?_)
  · simp only [zb_0, Nat.reduceAdd, e1] at h8
    refine ev_iconst (q := 37) (0 : Int32) dX7_isAtHome_36 rfl (by decide) ?_
    exact ev_iret dX7_isAtHome_37 rfl (by first | rfl | exact zb_nar _ | assumption) (⟨by simp_all [zTh, zAl, zb], rfl, rfl, rfl⟩)
  · simp only [zb_0, Nat.reduceAdd, e1] at h8
    refine ev_aload_n (q := 12) dX7_isAtHome_11 rfl rfl ?_
    refine ev_getR (q := 15) (ci := 7) (f := 5) dX7_isAtHome_12 rfl (by first | rfl | assumption | exact zf_kd (by assumption) | exact zw_kd (by assumption) | exact zt_kd (by assumption)) (by first | decide | exact zf_lt (by assumption) | exact zf_lt1 (by assumption) | exact zf_lt2 (by assumption) | exact zf_lt3 (by assumption) | exact zf_lt4 (by assumption) | exact zw_lt (by assumption) | exact zw_lt1 (by assumption) | exact zw_lt2 (by assumption) | exact zw_lt3 (by assumption) | exact zw_lt4 (by assumption) | exact zt_lt (by assumption)) (by decide) (by decide) lfRX7_47 rfl (by first | rfl | assumption | exact zf_p4 _ (by assumption) | exact zf_p5 _ (by assumption) | exact zf_p6 _ (by assumption) | exact zf_p7 _ (by assumption) | exact zw_p1 _ (by assumption) | exact zw_p2 _ (by assumption) | exact zw_p3 _ (by assumption) | exact zw_p4 _ (by assumption)) ?_
    refine ev_getR (q := 18) (ci := 6) (f := 1) dX7_isAtHome_15 rfl (by first | rfl | assumption | exact zf_kd (by assumption) | exact zw_kd (by assumption) | exact zt_kd (by assumption)) (by first | decide | exact zf_lt (by assumption) | exact zf_lt1 (by assumption) | exact zf_lt2 (by assumption) | exact zf_lt3 (by assumption) | exact zf_lt4 (by assumption) | exact zw_lt (by assumption) | exact zw_lt1 (by assumption) | exact zw_lt2 (by assumption) | exact zw_lt3 (by assumption) | exact zw_lt4 (by assumption) | exact zt_lt (by assumption)) (by decide) (by decide) lfRX7_133 rfl (by first | rfl | assumption | exact zf_p4 _ (by assumption) | exact zf_p5 _ (by assumption) | exact zf_p6 _ (by assumption) | exact zf_p7 _ (by assumption) | exact zw_p1 _ (by assumption) | exact zw_p2 _ (by assumption) | exact zw_p3 _ (by assumption) | exact zw_p4 _ (by assumption)) ?_
    refine ev_iload_n (q := 19) dX7_isAtHome_18 rfl rfl ?_
    refine ev_ialdN (q := 20) dX7_isAtHome_19 rfl (by first | rfl | assumption | exact zf_kd1 (by assumption) | exact zf_kd2 (by assumption) | exact zf_kd3 (by assumption) | exact zf_kd4 (by assumption) | exact zw_kd1 (by assumption) | exact zw_kd2 (by assumption) | exact zw_kd3 (by assumption) | exact zw_kd4 (by assumption)) (by first | decide | exact zf_lt (by assumption) | exact zf_lt1 (by assumption) | exact zf_lt2 (by assumption) | exact zf_lt3 (by assumption) | exact zf_lt4 (by assumption) | exact zw_lt (by assumption) | exact zw_lt1 (by assumption) | exact zw_lt2 (by assumption) | exact zw_lt3 (by assumption) | exact zw_lt4 (by assumption) | exact zt_lt (by assumption)) (by first | omega | assumption) ?_
    refine ev_aload_n (q := 21) dX7_isAtHome_20 rfl rfl ?_
    refine ev_getR (q := 24) (ci := 7) (f := 9) dX7_isAtHome_21 rfl (by first | rfl | assumption | exact zf_kd (by assumption) | exact zw_kd (by assumption) | exact zt_kd (by assumption)) (by first | decide | exact zf_lt (by assumption) | exact zf_lt1 (by assumption) | exact zf_lt2 (by assumption) | exact zf_lt3 (by assumption) | exact zf_lt4 (by assumption) | exact zw_lt (by assumption) | exact zw_lt1 (by assumption) | exact zw_lt2 (by assumption) | exact zw_lt3 (by assumption) | exact zw_lt4 (by assumption) | exact zt_lt (by assumption)) (by decide) (by decide) lfRX7_66 rfl (by first | rfl | assumption | exact zf_p4 _ (by assumption) | exact zf_p5 _ (by assumption) | exact zf_p6 _ (by assumption) | exact zf_p7 _ (by assumption) | exact zw_p1 _ (by assumption) | exact zw_p2 _ (by assumption) | exact zw_p3 _ (by assumption) | exact zw_p4 _ (by assumption)) ?_
    refine ev_getR (q := 27) (ci := 0) (f := 4) dX7_isAtHome_24 rfl (by first | rfl | assumption | exact zf_kd (by assumption) | exact zw_kd (by assumption) | exact zt_kd (by assumption)) (by first | decide | exact zf_lt (by assumption) | exact zf_lt1 (by assumption) | exact zf_lt2 (by assumption) | exact zf_lt3 (by assumption) | exact zf_lt4 (by assumption) | exact zw_lt (by assumption) | exact zw_lt1 (by assumption) | exact zw_lt2 (by assumption) | exact zw_lt3 (by assumption) | exact zw_lt4 (by assumption) | exact zt_lt (by assumption)) (by decide) (by decide) lfRX7_124 rfl (by first | rfl | assumption | exact zf_p4 _ (by assumption) | exact zf_p5 _ (by assumption) | exact zf_p6 _ (by assumption) | exact zf_p7 _ (by assumption) | exact zw_p1 _ (by assumption) | exact zw_p2 _ (by assumption) | exact zw_p3 _ (by assumption) | exact zw_p4 _ (by assumption)) ?_
    refine ev_iload_n (q := 28) dX7_isAtHome_27 rfl rfl ?_
    refine ev_ialdN (q := 29) dX7_isAtHome_28 rfl (by first | rfl | assumption | exact zf_kd1 (by assumption) | exact zf_kd2 (by assumption) | exact zf_kd3 (by assumption) | exact zf_kd4 (by assumption) | exact zw_kd1 (by assumption) | exact zw_kd2 (by assumption) | exact zw_kd3 (by assumption) | exact zw_kd4 (by assumption)) (by first | decide | exact zf_lt (by assumption) | exact zf_lt1 (by assumption) | exact zf_lt2 (by assumption) | exact zf_lt3 (by assumption) | exact zf_lt4 (by assumption) | exact zw_lt (by assumption) | exact zw_lt1 (by assumption) | exact zw_lt2 (by assumption) | exact zw_lt3 (by assumption) | exact zw_lt4 (by assumption) | exact zt_lt (by assumption)) (by first | omega | assumption) ?_
    refine ev_icmp_ne (q := 32) (t := 36) dX7_isAtHome_29 rfl (by decide) (fun h29 => ?_) (fun h29 => ?_)
    · simp only [e2, e3] at h29
      refine ev_iconst (q := 37) (0 : Int32) dX7_isAtHome_36 rfl (by decide) ?_
      exact ev_iret dX7_isAtHome_37 rfl (by first | rfl | exact zb_nar _ | assumption) (⟨by simp_all [zTh, zAl, zb], rfl, rfl, rfl⟩)
    · simp only [e2, e3] at h29
      refine ev_iconst (q := 33) (1 : Int32) dX7_isAtHome_32 rfl (by decide) ?_
      refine ev_goto (t := 37) dX7_isAtHome_33 (by decide) ?_
      exact ev_iret dX7_isAtHome_37 rfl (by first | rfl | exact zb_nar _ | assumption) (⟨by simp_all [zTh, zAl, zb], rfl, rfl, rfl⟩)
set_option maxHeartbeats 4000000 in
set_option maxRecDepth 100000 in
theorem c_X7_isMissing (G : zq_G) (fo : Bool) (I : zq_I) {N T Y : Nat} (hs : zS fo N T Y I) {p : Nat} (hp : p < N) (y : Int32) : zq_Met G mX7_isMissing 2 0 0 [.ref 0, .int (nI p), .int y] 138 I (zPs fo) (zq_pu (some (.int (zb (zMi (zV I) p y)))) 138 I (zPs fo)) := by
  refine zq_Met.of okX7_isMissing (Nat.le_of_ble_eq_true rfl) ?_
  show zq_E _ _ _ _ _ _ _ [some (.ref 0), some (.int (nI p)), some (.int y)] _ _ _ _ _
  have hN8 := hs.n8
  have hN := hs.ppl
  have hfF := zF_is fo
  have e1 := hs.die hp
  have e2 := hs.whe hp
  have e3 := hs.hom hp
  refine ev_aload_n (q := 1) dX7_isMissing_0 rfl rfl ?_
  refine ev_getR (q := 4) (ci := 7) (f := 5) dX7_isMissing_1 rfl (by first | rfl | assumption | exact zf_kd (by assumption) | exact zw_kd (by assumption) | exact zt_kd (by assumption)) (by first | decide | exact zf_lt (by assumption) | exact zf_lt1 (by assumption) | exact zf_lt2 (by assumption) | exact zf_lt3 (by assumption) | exact zf_lt4 (by assumption) | exact zw_lt (by assumption) | exact zw_lt1 (by assumption) | exact zw_lt2 (by assumption) | exact zw_lt3 (by assumption) | exact zw_lt4 (by assumption) | exact zt_lt (by assumption)) (by decide) (by decide) lfRX7_47 rfl (by first | rfl | assumption | exact zf_p4 _ (by assumption) | exact zf_p5 _ (by assumption) | exact zf_p6 _ (by assumption) | exact zf_p7 _ (by assumption) | exact zw_p1 _ (by assumption) | exact zw_p2 _ (by assumption) | exact zw_p3 _ (by assumption) | exact zw_p4 _ (by assumption)) ?_
  refine ev_iload_n (q := 5) dX7_isMissing_4 rfl rfl ?_
  refine ev_pV (q := 8) (ci := 6) dX7_isMissing_5 rfl okX6_isAlive lmRX7_167 imX6_isAlive seX6_isAlive (by first | rfl | assumption | exact zf_kd (by assumption) | exact zw_kd (by assumption) | exact zt_kd (by assumption)) (by first | decide | exact zf_lt (by assumption) | exact zf_lt1 (by assumption) | exact zf_lt2 (by assumption) | exact zf_lt3 (by assumption) | exact zf_lt4 (by assumption) | exact zw_lt (by assumption) | exact zw_lt1 (by assumption) | exact zw_lt2 (by assumption) | exact zw_lt3 (by assumption) | exact zw_lt4 (by assumption) | exact zt_lt (by assumption)) (by decide) rfl (c_X6_isAlive G fo I zW_now (by omega)) (by decide) rfl rfl (Nat.le_of_ble_eq_true rfl) ?_
  refine ev_if_eq (q := 11) (t := 38) dX7_isMissing_8 rfl (by decide) (fun h8 => ?_) (fun h8 => ?_)
  · simp only [zb_0, Nat.reduceAdd, e1] at h8
    refine ev_iload_n (q := 39) dX7_isMissing_38 rfl rfl ?_
    refine ev_aload_n (q := 40) dX7_isMissing_39 rfl rfl ?_
    refine ev_getR (q := 43) (ci := 7) (f := 5) dX7_isMissing_40 rfl (by first | rfl | assumption | exact zf_kd (by assumption) | exact zw_kd (by assumption) | exact zt_kd (by assumption)) (by first | decide | exact zf_lt (by assumption) | exact zf_lt1 (by assumption) | exact zf_lt2 (by assumption) | exact zf_lt3 (by assumption) | exact zf_lt4 (by assumption) | exact zw_lt (by assumption) | exact zw_lt1 (by assumption) | exact zw_lt2 (by assumption) | exact zw_lt3 (by assumption) | exact zw_lt4 (by assumption) | exact zt_lt (by assumption)) (by decide) (by decide) lfRX7_47 rfl (by first | rfl | assumption | exact zf_p4 _ (by assumption) | exact zf_p5 _ (by assumption) | exact zf_p6 _ (by assumption) | exact zf_p7 _ (by assumption) | exact zw_p1 _ (by assumption) | exact zw_p2 _ (by assumption) | exact zw_p3 _ (by assumption) | exact zw_p4 _ (by assumption)) ?_
    refine ev_iload_n (q := 44) dX7_isMissing_43 rfl rfl ?_
    refine ev_aload_n (q := 45) dX7_isMissing_44 rfl rfl ?_
    refine ev_getR (q := 48) (ci := 7) (f := 9) dX7_isMissing_45 rfl (by first | rfl | assumption | exact zf_kd (by assumption) | exact zw_kd (by assumption) | exact zt_kd (by assumption)) (by first | decide | exact zf_lt (by assumption) | exact zf_lt1 (by assumption) | exact zf_lt2 (by assumption) | exact zf_lt3 (by assumption) | exact zf_lt4 (by assumption) | exact zw_lt (by assumption) | exact zw_lt1 (by assumption) | exact zw_lt2 (by assumption) | exact zw_lt3 (by assumption) | exact zw_lt4 (by assumption) | exact zt_lt (by assumption)) (by decide) (by decide) lfRX7_66 rfl (by first | rfl | assumption | exact zf_p4 _ (by assumption) | exact zf_p5 _ (by assumption) | exact zf_p6 _ (by assumption) | exact zf_p7 _ (by assumption) | exact zw_p1 _ (by assumption) | exact zw_p2 _ (by assumption) | exact zw_p3 _ (by assumption) | exact zw_p4 _ (by assumption)) ?_
    refine ev_pV (q := 51) (ci := 6) dX7_isMissing_48 rfl okX6_heardIn lmRX7_174 imX6_heardIn seX6_heardIn (by first | rfl | assumption | exact zf_kd (by assumption) | exact zw_kd (by assumption) | exact zt_kd (by assumption)) (by first | decide | exact zf_lt (by assumption) | exact zf_lt1 (by assumption) | exact zf_lt2 (by assumption) | exact zf_lt3 (by assumption) | exact zf_lt4 (by assumption) | exact zw_lt (by assumption) | exact zw_lt1 (by assumption) | exact zw_lt2 (by assumption) | exact zw_lt3 (by assumption) | exact zw_lt4 (by assumption) | exact zt_lt (by assumption)) (by decide) rfl (c_X6_heardIn G fo I zW_now hfF (by omega)) (by decide) rfl rfl (Nat.le_of_ble_eq_true rfl) ?_
    rw [hs.heard hp]
    refine ev_icmp_ge (q := 54) (t := 58) dX7_isMissing_51 rfl (by decide) (fun h51 => ?_) (fun h51 => ?_)
    · refine ev_iconst (q := 59) (0 : Int32) dX7_isMissing_58 rfl (by decide) ?_
      exact ev_iret dX7_isMissing_59 rfl (by first | rfl | exact zb_nar _ | assumption) (⟨by simp_all [zMi, zAl, zb], rfl, rfl, rfl⟩)
    · refine ev_iconst (q := 55) (1 : Int32) dX7_isMissing_54 rfl (by decide) ?_
      refine ev_goto (t := 59) dX7_isMissing_55 (by decide) ?_
      exact ev_iret dX7_isMissing_59 rfl (by first | rfl | exact zb_nar _ | assumption) (⟨by simp_all [zMi, zAl, zb], rfl, rfl, rfl⟩)
  · simp only [zb_0, Nat.reduceAdd, e1] at h8
    refine ev_aload_n (q := 12) dX7_isMissing_11 rfl rfl ?_
    refine ev_getR (q := 15) (ci := 7) (f := 5) dX7_isMissing_12 rfl (by first | rfl | assumption | exact zf_kd (by assumption) | exact zw_kd (by assumption) | exact zt_kd (by assumption)) (by first | decide | exact zf_lt (by assumption) | exact zf_lt1 (by assumption) | exact zf_lt2 (by assumption) | exact zf_lt3 (by assumption) | exact zf_lt4 (by assumption) | exact zw_lt (by assumption) | exact zw_lt1 (by assumption) | exact zw_lt2 (by assumption) | exact zw_lt3 (by assumption) | exact zw_lt4 (by assumption) | exact zt_lt (by assumption)) (by decide) (by decide) lfRX7_47 rfl (by first | rfl | assumption | exact zf_p4 _ (by assumption) | exact zf_p5 _ (by assumption) | exact zf_p6 _ (by assumption) | exact zf_p7 _ (by assumption) | exact zw_p1 _ (by assumption) | exact zw_p2 _ (by assumption) | exact zw_p3 _ (by assumption) | exact zw_p4 _ (by assumption)) ?_
    refine ev_getR (q := 18) (ci := 6) (f := 1) dX7_isMissing_15 rfl (by first | rfl | assumption | exact zf_kd (by assumption) | exact zw_kd (by assumption) | exact zt_kd (by assumption)) (by first | decide | exact zf_lt (by assumption) | exact zf_lt1 (by assumption) | exact zf_lt2 (by assumption) | exact zf_lt3 (by assumption) | exact zf_lt4 (by assumption) | exact zw_lt (by assumption) | exact zw_lt1 (by assumption) | exact zw_lt2 (by assumption) | exact zw_lt3 (by assumption) | exact zw_lt4 (by assumption) | exact zt_lt (by assumption)) (by decide) (by decide) lfRX7_133 rfl (by first | rfl | assumption | exact zf_p4 _ (by assumption) | exact zf_p5 _ (by assumption) | exact zf_p6 _ (by assumption) | exact zf_p7 _ (by assumption) | exact zw_p1 _ (by assumption) | exact zw_p2 _ (by assumption) | exact zw_p3 _ (by assumption) | exact zw_p4 _ (by assumption)) ?_
    refine ev_iload_n (q := 19) dX7_isMissing_18 rfl rfl ?_
    refine ev_ialdN (q := 20) dX7_isMissing_19 rfl (by first | rfl | assumption | exact zf_kd1 (by assumption) | exact zf_kd2 (by assumption) | exact zf_kd3 (by assumption) | exact zf_kd4 (by assumption) | exact zw_kd1 (by assumption) | exact zw_kd2 (by assumption) | exact zw_kd3 (by assumption) | exact zw_kd4 (by assumption)) (by first | decide | exact zf_lt (by assumption) | exact zf_lt1 (by assumption) | exact zf_lt2 (by assumption) | exact zf_lt3 (by assumption) | exact zf_lt4 (by assumption) | exact zw_lt (by assumption) | exact zw_lt1 (by assumption) | exact zw_lt2 (by assumption) | exact zw_lt3 (by assumption) | exact zw_lt4 (by assumption) | exact zt_lt (by assumption)) (by first | omega | assumption) ?_
    refine ev_aload_n (q := 21) dX7_isMissing_20 rfl rfl ?_
    refine ev_getR (q := 24) (ci := 7) (f := 9) dX7_isMissing_21 rfl (by first | rfl | assumption | exact zf_kd (by assumption) | exact zw_kd (by assumption) | exact zt_kd (by assumption)) (by first | decide | exact zf_lt (by assumption) | exact zf_lt1 (by assumption) | exact zf_lt2 (by assumption) | exact zf_lt3 (by assumption) | exact zf_lt4 (by assumption) | exact zw_lt (by assumption) | exact zw_lt1 (by assumption) | exact zw_lt2 (by assumption) | exact zw_lt3 (by assumption) | exact zw_lt4 (by assumption) | exact zt_lt (by assumption)) (by decide) (by decide) lfRX7_66 rfl (by first | rfl | assumption | exact zf_p4 _ (by assumption) | exact zf_p5 _ (by assumption) | exact zf_p6 _ (by assumption) | exact zf_p7 _ (by assumption) | exact zw_p1 _ (by assumption) | exact zw_p2 _ (by assumption) | exact zw_p3 _ (by assumption) | exact zw_p4 _ (by assumption)) ?_
    refine ev_getR (q := 27) (ci := 0) (f := 4) dX7_isMissing_24 rfl (by first | rfl | assumption | exact zf_kd (by assumption) | exact zw_kd (by assumption) | exact zt_kd (by assumption)) (by first | decide | exact zf_lt (by assumption) | exact zf_lt1 (by assumption) | exact zf_lt2 (by assumption) | exact zf_lt3 (by assumption) | exact zf_lt4 (by assumption) | exact zw_lt (by assumption) | exact zw_lt1 (by assumption) | exact zw_lt2 (by assumption) | exact zw_lt3 (by assumption) | exact zw_lt4 (by assumption) | exact zt_lt (by assumption)) (by decide) (by decide) lfRX7_124 rfl (by first | rfl | assumption | exact zf_p4 _ (by assumption) | exact zf_p5 _ (by assumption) | exact zf_p6 _ (by assumption) | exact zf_p7 _ (by assumption) | exact zw_p1 _ (by assumption) | exact zw_p2 _ (by assumption) | exact zw_p3 _ (by assumption) | exact zw_p4 _ (by assumption)) ?_
    refine ev_iload_n (q := 28) dX7_isMissing_27 rfl rfl ?_
    refine ev_ialdN (q := 29) dX7_isMissing_28 rfl (by first | rfl | assumption | exact zf_kd1 (by assumption) | exact zf_kd2 (by assumption) | exact zf_kd3 (by assumption) | exact zf_kd4 (by assumption) | exact zw_kd1 (by assumption) | exact zw_kd2 (by assumption) | exact zw_kd3 (by assumption) | exact zw_kd4 (by assumption)) (by first | decide | exact zf_lt (by assumption) | exact zf_lt1 (by assumption) | exact zf_lt2 (by assumption) | exact zf_lt3 (by assumption) | exact zf_lt4 (by assumption) | exact zw_lt (by assumption) | exact zw_lt1 (by assumption) | exact zw_lt2 (by assumption) | exact zw_lt3 (by assumption) | exact zw_lt4 (by assumption) | exact zt_lt (by assumption)) (by first | omega | assumption) ?_
    refine ev_icmp_eq (q := 32) (t := 36) dX7_isMissing_29 rfl (by decide) (fun h29 => ?_) (fun h29 => ?_)
    · simp only [e2, e3] at h29
      refine ev_iconst (q := 37) (0 : Int32) dX7_isMissing_36 rfl (by decide) ?_
      exact ev_iret dX7_isMissing_37 rfl (by first | rfl | exact zb_nar _ | assumption) (⟨by simp_all [zMi, zAl, zb], rfl, rfl, rfl⟩)
    · simp only [e2, e3] at h29
      refine ev_iconst (q := 33) (1 : Int32) dX7_isMissing_32 rfl (by decide) ?_
      refine ev_goto (t := 37) dX7_isMissing_33 (by decide) ?_
      exact ev_iret dX7_isMissing_37 rfl (by first | rfl | exact zb_nar _ | assumption) (⟨by simp_all [zMi, zAl, zb], rfl, rfl, rfl⟩)
