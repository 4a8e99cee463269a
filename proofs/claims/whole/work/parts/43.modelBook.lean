theorem zu_ne {I : zq_I} {c k j : Nat} {v : Int32} (h : j ≠ k) : zu I c k v c j = I c j := by simp [zu, h]
theorem zu_eq {I : zq_I} {c k : Nat} {v : Int32} : zu I c k v c k = v := by simp [zu]
/-- a page of the book b, from off on, holds the model's people and rumours of I, the year too -/
def zpag (b off : Nat) (I I' : zq_I) : Prop := (∀ p, p < 8 → I' b (off + p) = I 125 p ∧ I' b (off + 8 + p) = I 126 p ∧ I' b (off + 16 + p) = I 127 p) ∧ (∀ t, t < 4 → I' b (off + 24 + t) = I 128 t) ∧ I' b (off + 28) = I 119 15
set_option maxHeartbeats 4000000 in
set_option maxRecDepth 100000 in
theorem c_X8_layPage (G : zq_G) (fo : Bool) (I : zq_I) {pg L off : Nat} (hpg : pg = 133 ∨ pg = 134) (hkd : zq_kd pg = some (.inr (0, L))) (hL : off + 29 ≤ L)  : zq_Met G mX8_layPage 0 0 0 [.ref 119, .ref pg, .int (nI off)] 138 I (zPs fo) (fun v n' I' P' => v = none ∧ n' = 138 ∧ P' = zPs fo ∧ (∀ c, c ≠ pg → I' c = I c) ∧ (∀ k, (k < off ∨ off + 29 ≤ k) → I' pg k = I pg k) ∧ zpag pg off I I') := by
  refine zq_Met.of okX8_layPage (Nat.le_of_ble_eq_true rfl) ?_
  show zq_E _ _ _ _ _ _ _ [some (.ref 119), some (.ref pg), some (.int (nI off)), none] _ _ _ _ _
  have hL2 := zq_kdN hkd
  have hpn : pg < 138 := by omega
  have lp55 : ∀ (k i : Nat) (I1 : zq_I), 4 + 1 ≤ i + k → i ≤ 4 → (∀ c, c ≠ pg → I1 c = I c) → (∀ k, (k < off ∨ off + 29 ≤ k) → I1 pg k = I pg k) → (∀ p, p < 8 → I1 pg (off + p) = I 125 p ∧ I1 pg (off + 8 + p) = I 126 p ∧ I1 pg (off + 16 + p) = I 127 p) → (∀ t, t < i → I1 pg (off + 24 + t) = I 128 t) → zq_E G mX8_layPage 0 0 0 false 55 [some (.ref 119), some (.ref pg), some (.int (nI off)), some (.int (nI i))] [] 138 I1 (zPs fo) (fun v n' I' P' => v = none ∧ n' = 138 ∧ P' = zPs fo ∧ (∀ c, c ≠ pg → I' c = I c) ∧ (∀ k, (k < off ∨ off + 29 ≤ k) → I' pg k = I pg k) ∧ zpag pg off I I') := by
    intro k
    induction k with
    | zero => intro i I1 hk hi; exact absurd hk (by omega)
    | succ k ih =>
      intro i I1 hk hi hf hk0 h8 h4
      refine ev_iload_n (q := 56) dX8_layPage_55 rfl rfl ?_
      refine ev_iconst (q := 57) (nI 4 : Int32) dX8_layPage_56 rfl (by decide) ?_
      refine ev_icmp_ge (q := 60) (t := 80) dX8_layPage_57 rfl (by decide) (fun h57 => ?_) (fun h57 => ?_)
      · obtain rfl : i = 4 := by rw [nI_leI (by omega) (by omega)] at h57; omega
        refine ev_aload_n (q := 81) dX8_layPage_80 rfl rfl ?_
        refine ev_iload_n (q := 82) dX8_layPage_81 rfl rfl ?_
        refine ev_bipush (q := 84) (nI 28 : Int32) dX8_layPage_82 rfl (by decide) ?_
        refine ev_iadd (q := 85) dX8_layPage_84 rfl ?_
        rw [nI_add]
        refine ev_aload_n (q := 86) dX8_layPage_85 rfl rfl ?_
        refine ev_getI (q := 89) (ci := 8) (f := 15) dX8_layPage_86 rfl (by first | rfl | assumption | exact zf_kd (by assumption) | exact zw_kd (by assumption) | exact zt_kd (by assumption)) (by first | decide | exact zf_lt (by assumption) | exact zf_lt1 (by assumption) | exact zf_lt2 (by assumption) | exact zf_lt3 (by assumption) | exact zf_lt4 (by assumption) | exact zw_lt (by assumption) | exact zw_lt1 (by assumption) | exact zw_lt2 (by assumption) | exact zw_lt3 (by assumption) | exact zw_lt4 (by assumption) | exact zt_lt (by assumption)) (by decide) (by decide) lfRX8_131 rfl ?_
        rw [hf 119 (by omega)]
        refine ev_iastN (q := 90) dX8_layPage_89 rfl (by first | rfl | assumption | exact zf_kd1 (by assumption) | exact zf_kd2 (by assumption) | exact zf_kd3 (by assumption) | exact zf_kd4 (by assumption) | exact zw_kd1 (by assumption) | exact zw_kd2 (by assumption) | exact zw_kd3 (by assumption) | exact zw_kd4 (by assumption)) hpn (show off + 28 < L by omega) ?_
        exact ev_vret dX8_layPage_90 rfl (⟨rfl, rfl, rfl, fun c hc => by rw [zu_other hc]; exact hf c hc, fun k hk => by rw [zu_ne (by omega)]; exact hk0 k hk, fun p hp => by rw [zu_ne (by omega), zu_ne (by omega), zu_ne (by omega)]; exact h8 p hp, fun t ht => by rw [zu_ne (by omega)]; exact h4 t ht, zu_eq⟩)
      · have hlt_i : i < 4 := by rw [nI_leI (by omega) (by omega)] at h57; omega
        refine ev_aload_n (q := 61) dX8_layPage_60 rfl rfl ?_
        refine ev_iload_n (q := 62) dX8_layPage_61 rfl rfl ?_
        refine ev_bipush (q := 64) (nI 24 : Int32) dX8_layPage_62 rfl (by decide) ?_
        refine ev_iadd (q := 65) dX8_layPage_64 rfl ?_
        rw [nI_add]
        refine ev_iload_n (q := 66) dX8_layPage_65 rfl rfl ?_
        refine ev_iadd (q := 67) dX8_layPage_66 rfl ?_
        rw [nI_add]
        refine ev_aload_n (q := 68) dX8_layPage_67 rfl rfl ?_
        refine ev_getR (q := 71) (ci := 8) (f := 14) dX8_layPage_68 rfl (by first | rfl | assumption | exact zf_kd (by assumption) | exact zw_kd (by assumption) | exact zt_kd (by assumption)) (by first | decide | exact zf_lt (by assumption) | exact zf_lt1 (by assumption) | exact zf_lt2 (by assumption) | exact zf_lt3 (by assumption) | exact zf_lt4 (by assumption) | exact zw_lt (by assumption) | exact zw_lt1 (by assumption) | exact zw_lt2 (by assumption) | exact zw_lt3 (by assumption) | exact zw_lt4 (by assumption) | exact zt_lt (by assumption)) (by decide) (by decide) lfRX8_38 rfl (by first | rfl | assumption | exact zf_p4 _ (by assumption) | exact zf_p5 _ (by assumption) | exact zf_p6 _ (by assumption) | exact zf_p7 _ (by assumption) | exact zw_p1 _ (by assumption) | exact zw_p2 _ (by assumption) | exact zw_p3 _ (by assumption) | exact zw_p4 _ (by assumption)) ?_
        refine ev_iload_n (q := 72) dX8_layPage_71 rfl rfl ?_
        refine ev_ialdN (q := 73) dX8_layPage_72 rfl (by first | rfl | assumption | exact zf_kd1 (by assumption) | exact zf_kd2 (by assumption) | exact zf_kd3 (by assumption) | exact zf_kd4 (by assumption) | exact zw_kd1 (by assumption) | exact zw_kd2 (by assumption) | exact zw_kd3 (by assumption) | exact zw_kd4 (by assumption)) (by first | decide | exact zf_lt (by assumption) | exact zf_lt1 (by assumption) | exact zf_lt2 (by assumption) | exact zf_lt3 (by assumption) | exact zf_lt4 (by assumption) | exact zw_lt (by assumption) | exact zw_lt1 (by assumption) | exact zw_lt2 (by assumption) | exact zw_lt3 (by assumption) | exact zw_lt4 (by assumption) | exact zt_lt (by assumption)) (by first | omega | assumption) ?_
        rw [hf 128 (by omega)]
        refine ev_iastN (q := 74) dX8_layPage_73 rfl (by first | rfl | assumption | exact zf_kd1 (by assumption) | exact zf_kd2 (by assumption) | exact zf_kd3 (by assumption) | exact zf_kd4 (by assumption) | exact zw_kd1 (by assumption) | exact zw_kd2 (by assumption) | exact zw_kd3 (by assumption) | exact zw_kd4 (by assumption)) hpn (show off + 24 + i < L by omega) ?_
        refine ev_iincL (q := 77) (L9 := [_, _, _, _]) (1 : Int32) dX8_layPage_74 rfl rfl (by decide) (by decide) rfl rfl ?_
        refine ev_goto (t := 55) dX8_layPage_77 (by decide) ?_
        rw [nI_1]
        exact ih (i + 1) _ (by omega) (by omega) (fun c hc => by rw [zu_other hc]; exact hf c hc) (fun k hk => by rw [zu_ne (by omega)]; exact hk0 k hk) (fun p hp => by rw [zu_ne (by omega), zu_ne (by omega), zu_ne (by omega)]; exact h8 p hp) (fun t ht => by
          by_cases hti : t = i
          · subst hti; exact zu_eq
          · rw [zu_ne (by omega)]; exact h4 t (by omega))
  have lp2 : ∀ (k i : Nat) (I1 : zq_I), 8 + 1 ≤ i + k → i ≤ 8 → (∀ c, c ≠ pg → I1 c = I c) → (∀ k, (k < off ∨ off + 29 ≤ k) → I1 pg k = I pg k) → (∀ p, p < i → I1 pg (off + p) = I 125 p ∧ I1 pg (off + 8 + p) = I 126 p ∧ I1 pg (off + 16 + p) = I 127 p) → zq_E G mX8_layPage 0 0 0 false 2 [some (.ref 119), some (.ref pg), some (.int (nI off)), some (.int (nI i))] [] 138 I1 (zPs fo) (fun v n' I' P' => v = none ∧ n' = 138 ∧ P' = zPs fo ∧ (∀ c, c ≠ pg → I' c = I c) ∧ (∀ k, (k < off ∨ off + 29 ≤ k) → I' pg k = I pg k) ∧ zpag pg off I I') := by
    intro k
    induction k with
    | zero => intro i I1 hk hi; exact absurd hk (by omega)
    | succ k ih =>
      intro i I1 hk hi hf hk0 h8
      refine ev_iload_n (q := 3) dX8_layPage_2 rfl rfl ?_
      refine ev_bipush (q := 5) (nI 8 : Int32) dX8_layPage_3 rfl (by decide) ?_
      refine ev_icmp_ge (q := 8) (t := 53) dX8_layPage_5 rfl (by decide) (fun h5 => ?_) (fun h5 => ?_)
      · obtain rfl : i = 8 := by rw [nI_leI (by omega) (by omega)] at h5; omega
        refine ev_iconst (q := 54) (0 : Int32) dX8_layPage_53 rfl (by decide) ?_
        refine ev_istore_nL (q := 55) (L9 := [_, _, _, _]) dX8_layPage_54 rfl (by decide) rfl rfl ?_
        exact lp55 5 0 _ (by omega) (by omega) hf hk0 h8 (fun t ht => absurd ht (by omega))
      · have hlt_i : i < 8 := by rw [nI_leI (by omega) (by omega)] at h5; omega
        refine ev_aload_n (q := 9) dX8_layPage_8 rfl rfl ?_
        refine ev_iload_n (q := 10) dX8_layPage_9 rfl rfl ?_
        refine ev_iload_n (q := 11) dX8_layPage_10 rfl rfl ?_
        refine ev_iadd (q := 12) dX8_layPage_11 rfl ?_
        rw [nI_add]
        refine ev_aload_n (q := 13) dX8_layPage_12 rfl rfl ?_
        refine ev_getR (q := 16) (ci := 8) (f := 11) dX8_layPage_13 rfl (by first | rfl | assumption | exact zf_kd (by assumption) | exact zw_kd (by assumption) | exact zt_kd (by assumption)) (by first | decide | exact zf_lt (by assumption) | exact zf_lt1 (by assumption) | exact zf_lt2 (by assumption) | exact zf_lt3 (by assumption) | exact zf_lt4 (by assumption) | exact zw_lt (by assumption) | exact zw_lt1 (by assumption) | exact zw_lt2 (by assumption) | exact zw_lt3 (by assumption) | exact zw_lt4 (by assumption) | exact zt_lt (by assumption)) (by decide) (by decide) lfRX8_29 rfl (by first | rfl | assumption | exact zf_p4 _ (by assumption) | exact zf_p5 _ (by assumption) | exact zf_p6 _ (by assumption) | exact zf_p7 _ (by assumption) | exact zw_p1 _ (by assumption) | exact zw_p2 _ (by assumption) | exact zw_p3 _ (by assumption) | exact zw_p4 _ (by assumption)) ?_
        refine ev_iload_n (q := 17) dX8_layPage_16 rfl rfl ?_
        refine ev_ialdN (q := 18) dX8_layPage_17 rfl (by first | rfl | assumption | exact zf_kd1 (by assumption) | exact zf_kd2 (by assumption) | exact zf_kd3 (by assumption) | exact zf_kd4 (by assumption) | exact zw_kd1 (by assumption) | exact zw_kd2 (by assumption) | exact zw_kd3 (by assumption) | exact zw_kd4 (by assumption)) (by first | decide | exact zf_lt (by assumption) | exact zf_lt1 (by assumption) | exact zf_lt2 (by assumption) | exact zf_lt3 (by assumption) | exact zf_lt4 (by assumption) | exact zw_lt (by assumption) | exact zw_lt1 (by assumption) | exact zw_lt2 (by assumption) | exact zw_lt3 (by assumption) | exact zw_lt4 (by assumption) | exact zt_lt (by assumption)) (by first | omega | assumption) ?_
        rw [hf 125 (by omega)]
        refine ev_iastN (q := 19) dX8_layPage_18 rfl (by first | rfl | assumption | exact zf_kd1 (by assumption) | exact zf_kd2 (by assumption) | exact zf_kd3 (by assumption) | exact zf_kd4 (by assumption) | exact zw_kd1 (by assumption) | exact zw_kd2 (by assumption) | exact zw_kd3 (by assumption) | exact zw_kd4 (by assumption)) hpn (show off + i < L by omega) ?_
        refine ev_aload_n (q := 20) dX8_layPage_19 rfl rfl ?_
        refine ev_iload_n (q := 21) dX8_layPage_20 rfl rfl ?_
        refine ev_bipush (q := 23) (nI 8 : Int32) dX8_layPage_21 rfl (by decide) ?_
        refine ev_iadd (q := 24) dX8_layPage_23 rfl ?_
        rw [nI_add]
        refine ev_iload_n (q := 25) dX8_layPage_24 rfl rfl ?_
        refine ev_iadd (q := 26) dX8_layPage_25 rfl ?_
        rw [nI_add]
        refine ev_aload_n (q := 27) dX8_layPage_26 rfl rfl ?_
        refine ev_getR (q := 30) (ci := 8) (f := 12) dX8_layPage_27 rfl (by first | rfl | assumption | exact zf_kd (by assumption) | exact zw_kd (by assumption) | exact zt_kd (by assumption)) (by first | decide | exact zf_lt (by assumption) | exact zf_lt1 (by assumption) | exact zf_lt2 (by assumption) | exact zf_lt3 (by assumption) | exact zf_lt4 (by assumption) | exact zw_lt (by assumption) | exact zw_lt1 (by assumption) | exact zw_lt2 (by assumption) | exact zw_lt3 (by assumption) | exact zw_lt4 (by assumption) | exact zt_lt (by assumption)) (by decide) (by decide) lfRX8_32 rfl (by first | rfl | assumption | exact zf_p4 _ (by assumption) | exact zf_p5 _ (by assumption) | exact zf_p6 _ (by assumption) | exact zf_p7 _ (by assumption) | exact zw_p1 _ (by assumption) | exact zw_p2 _ (by assumption) | exact zw_p3 _ (by assumption) | exact zw_p4 _ (by assumption)) ?_
        refine ev_iload_n (q := 31) dX8_layPage_30 rfl rfl ?_
        refine ev_ialdN (q := 32) dX8_layPage_31 rfl (by first | rfl | assumption | exact zf_kd1 (by assumption) | exact zf_kd2 (by assumption) | exact zf_kd3 (by assumption) | exact zf_kd4 (by assumption) | exact zw_kd1 (by assumption) | exact zw_kd2 (by assumption) | exact zw_kd3 (by assumption) | exact zw_kd4 (by assumption)) (by first | decide | exact zf_lt (by assumption) | exact zf_lt1 (by assumption) | exact zf_lt2 (by assumption) | exact zf_lt3 (by assumption) | exact zf_lt4 (by assumption) | exact zw_lt (by assumption) | exact zw_lt1 (by assumption) | exact zw_lt2 (by assumption) | exact zw_lt3 (by assumption) | exact zw_lt4 (by assumption) | exact zt_lt (by assumption)) (by first | omega | assumption) ?_
        rw [zu_other (show 126 ≠ pg by omega), hf 126 (by omega)]
        refine ev_iastN (q := 33) dX8_layPage_32 rfl (by first | rfl | assumption | exact zf_kd1 (by assumption) | exact zf_kd2 (by assumption) | exact zf_kd3 (by assumption) | exact zf_kd4 (by assumption) | exact zw_kd1 (by assumption) | exact zw_kd2 (by assumption) | exact zw_kd3 (by assumption) | exact zw_kd4 (by assumption)) hpn (show off + 8 + i < L by omega) ?_
        refine ev_aload_n (q := 34) dX8_layPage_33 rfl rfl ?_
        refine ev_iload_n (q := 35) dX8_layPage_34 rfl rfl ?_
        refine ev_bipush (q := 37) (nI 16 : Int32) dX8_layPage_35 rfl (by decide) ?_
        refine ev_iadd (q := 38) dX8_layPage_37 rfl ?_
        rw [nI_add]
        refine ev_iload_n (q := 39) dX8_layPage_38 rfl rfl ?_
        refine ev_iadd (q := 40) dX8_layPage_39 rfl ?_
        rw [nI_add]
        refine ev_aload_n (q := 41) dX8_layPage_40 rfl rfl ?_
        refine ev_getR (q := 44) (ci := 8) (f := 13) dX8_layPage_41 rfl (by first | rfl | assumption | exact zf_kd (by assumption) | exact zw_kd (by assumption) | exact zt_kd (by assumption)) (by first | decide | exact zf_lt (by assumption) | exact zf_lt1 (by assumption) | exact zf_lt2 (by assumption) | exact zf_lt3 (by assumption) | exact zf_lt4 (by assumption) | exact zw_lt (by assumption) | exact zw_lt1 (by assumption) | exact zw_lt2 (by assumption) | exact zw_lt3 (by assumption) | exact zw_lt4 (by assumption) | exact zt_lt (by assumption)) (by decide) (by decide) lfRX8_35 rfl (by first | rfl | assumption | exact zf_p4 _ (by assumption) | exact zf_p5 _ (by assumption) | exact zf_p6 _ (by assumption) | exact zf_p7 _ (by assumption) | exact zw_p1 _ (by assumption) | exact zw_p2 _ (by assumption) | exact zw_p3 _ (by assumption) | exact zw_p4 _ (by assumption)) ?_
        refine ev_iload_n (q := 45) dX8_layPage_44 rfl rfl ?_
        refine ev_ialdN (q := 46) dX8_layPage_45 rfl (by first | rfl | assumption | exact zf_kd1 (by assumption) | exact zf_kd2 (by assumption) | exact zf_kd3 (by assumption) | exact zf_kd4 (by assumption) | exact zw_kd1 (by assumption) | exact zw_kd2 (by assumption) | exact zw_kd3 (by assumption) | exact zw_kd4 (by assumption)) (by first | decide | exact zf_lt (by assumption) | exact zf_lt1 (by assumption) | exact zf_lt2 (by assumption) | exact zf_lt3 (by assumption) | exact zf_lt4 (by assumption) | exact zw_lt (by assumption) | exact zw_lt1 (by assumption) | exact zw_lt2 (by assumption) | exact zw_lt3 (by assumption) | exact zw_lt4 (by assumption) | exact zt_lt (by assumption)) (by first | omega | assumption) ?_
        rw [zu_other (show 127 ≠ pg by omega), zu_other (show 127 ≠ pg by omega), hf 127 (by omega)]
        refine ev_iastN (q := 47) dX8_layPage_46 rfl (by first | rfl | assumption | exact zf_kd1 (by assumption) | exact zf_kd2 (by assumption) | exact zf_kd3 (by assumption) | exact zf_kd4 (by assumption) | exact zw_kd1 (by assumption) | exact zw_kd2 (by assumption) | exact zw_kd3 (by assumption) | exact zw_kd4 (by assumption)) hpn (show off + 16 + i < L by omega) ?_
        refine ev_iincL (q := 50) (L9 := [_, _, _, _]) (1 : Int32) dX8_layPage_47 rfl rfl (by decide) (by decide) rfl rfl ?_
        refine ev_goto (t := 2) dX8_layPage_50 (by decide) ?_
        rw [nI_1]
        exact ih (i + 1) _ (by omega) (by omega) (fun c hc => by rw [zu_other hc, zu_other hc, zu_other hc]; exact hf c hc) (fun k hk => by rw [zu_ne (by omega), zu_ne (by omega), zu_ne (by omega)]; exact hk0 k hk) (fun p hp => by
          by_cases hpi : p = i
          · subst hpi; exact ⟨by rw [zu_ne (by omega), zu_ne (by omega), zu_eq], by rw [zu_ne (by omega), zu_eq], zu_eq⟩
          · rw [zu_ne (by omega), zu_ne (by omega), zu_ne (by omega), zu_ne (by omega), zu_ne (by omega), zu_ne (by omega), zu_ne (by omega), zu_ne (by omega), zu_ne (by omega)]; exact h8 p (by omega))
  refine ev_iconst (q := 1) (0 : Int32) dX8_layPage_0 rfl (by decide) ?_
  refine ev_istore_nL (q := 2) (L9 := [_, _, _, _]) dX8_layPage_1 rfl (by decide) rfl rfl ?_
  exact lp2 9 0 _ (by omega) (by omega) (fun _ _ => rfl) (fun _ _ => rfl) (fun p hp => absurd hp (by omega))
set_option maxHeartbeats 4000000 in
set_option maxRecDepth 100000 in
theorem c_X8_takePage (G : zq_G) (fo : Bool) (I : zq_I) {pg L off : Nat} (hpg : pg = 133 ∨ pg = 134) (hkd : zq_kd pg = some (.inr (0, L))) (hL : off + 29 ≤ L)  : zq_Met G mX8_takePage 0 0 0 [.ref 119, .ref pg, .int (nI off)] 138 I (zPs fo) (fun v n' I' P' => v = none ∧ n' = 138 ∧ P' = zPs fo ∧ (∀ c, c ≠ 119 → c ≠ 125 → c ≠ 126 → c ≠ 127 → c ≠ 128 → I' c = I c) ∧ (∀ k, k ≠ 15 → I' 119 k = I 119 k) ∧ zpag pg off I' I) := by
  refine zq_Met.of okX8_takePage (Nat.le_of_ble_eq_true rfl) ?_
  show zq_E _ _ _ _ _ _ _ [some (.ref 119), some (.ref pg), some (.int (nI off)), none] _ _ _ _ _
  have hL2 := zq_kdN hkd
  have hpn : pg < 138 := by omega
  have lp55 : ∀ (k i : Nat) (I1 : zq_I), 4 + 1 ≤ i + k → i ≤ 4 → (∀ c, c ≠ 125 → c ≠ 126 → c ≠ 127 → c ≠ 128 → I1 c = I c) → (∀ p, p < 8 → I pg (off + p) = I1 125 p ∧ I pg (off + 8 + p) = I1 126 p ∧ I pg (off + 16 + p) = I1 127 p) → (∀ t, t < i → I pg (off + 24 + t) = I1 128 t) → zq_E G mX8_takePage 0 0 0 false 55 [some (.ref 119), some (.ref pg), some (.int (nI off)), some (.int (nI i))] [] 138 I1 (zPs fo) (fun v n' I' P' => v = none ∧ n' = 138 ∧ P' = zPs fo ∧ (∀ c, c ≠ 119 → c ≠ 125 → c ≠ 126 → c ≠ 127 → c ≠ 128 → I' c = I c) ∧ (∀ k, k ≠ 15 → I' 119 k = I 119 k) ∧ zpag pg off I' I) := by
    intro k
    induction k with
    | zero => intro i I1 hk hi; exact absurd hk (by omega)
    | succ k ih =>
      intro i I1 hk hi hf h8 h4
      refine ev_iload_n (q := 56) dX8_takePage_55 rfl rfl ?_
      refine ev_iconst (q := 57) (nI 4 : Int32) dX8_takePage_56 rfl (by decide) ?_
      refine ev_icmp_ge (q := 60) (t := 80) dX8_takePage_57 rfl (by decide) (fun h57 => ?_) (fun h57 => ?_)
      · obtain rfl : i = 4 := by rw [nI_leI (by omega) (by omega)] at h57; omega
        refine ev_aload_n (q := 81) dX8_takePage_80 rfl rfl ?_
        refine ev_aload_n (q := 82) dX8_takePage_81 rfl rfl ?_
        refine ev_iload_n (q := 83) dX8_takePage_82 rfl rfl ?_
        refine ev_bipush (q := 85) (nI 28 : Int32) dX8_takePage_83 rfl (by decide) ?_
        refine ev_iadd (q := 86) dX8_takePage_85 rfl ?_
        rw [nI_add]
        refine ev_ialdN (q := 87) dX8_takePage_86 rfl (by first | rfl | assumption | exact zf_kd1 (by assumption) | exact zf_kd2 (by assumption) | exact zf_kd3 (by assumption) | exact zf_kd4 (by assumption) | exact zw_kd1 (by assumption) | exact zw_kd2 (by assumption) | exact zw_kd3 (by assumption) | exact zw_kd4 (by assumption)) hpn (show off + 28 < L by omega) ?_
        rw [hf pg (by omega) (by omega) (by omega) (by omega)]
        refine ev_putI (q := 90) (ci := 8) (f := 15) dX8_takePage_87 rfl (by first | rfl | assumption | exact zf_kd (by assumption) | exact zw_kd (by assumption) | exact zt_kd (by assumption)) (by first | decide | exact zf_lt (by assumption) | exact zf_lt1 (by assumption) | exact zf_lt2 (by assumption) | exact zf_lt3 (by assumption) | exact zf_lt4 (by assumption) | exact zw_lt (by assumption) | exact zw_lt1 (by assumption) | exact zw_lt2 (by assumption) | exact zw_lt3 (by assumption) | exact zw_lt4 (by assumption) | exact zt_lt (by assumption)) (by decide) (by decide) lfRX8_131 rfl rfl rfl rfl ?_
        exact ev_vret dX8_takePage_90 rfl (⟨rfl, rfl, rfl, fun c q0 q1 q2 q3 q4 => by rw [zu_other q0]; exact hf c q1 q2 q3 q4, fun k hk => by rw [zu_ne hk, hf 119 (by omega) (by omega) (by omega) (by omega)], fun p hp => by rw [zu_other (by decide), zu_other (by decide), zu_other (by decide)]; exact h8 p hp, fun t ht => by rw [zu_other (by decide)]; exact h4 t ht, zu_eq.symm⟩)
      · have hlt_i : i < 4 := by rw [nI_leI (by omega) (by omega)] at h57; omega
        refine ev_aload_n (q := 61) dX8_takePage_60 rfl rfl ?_
        refine ev_getR (q := 64) (ci := 8) (f := 14) dX8_takePage_61 rfl (by first | rfl | assumption | exact zf_kd (by assumption) | exact zw_kd (by assumption) | exact zt_kd (by assumption)) (by first | decide | exact zf_lt (by assumption) | exact zf_lt1 (by assumption) | exact zf_lt2 (by assumption) | exact zf_lt3 (by assumption) | exact zf_lt4 (by assumption) | exact zw_lt (by assumption) | exact zw_lt1 (by assumption) | exact zw_lt2 (by assumption) | exact zw_lt3 (by assumption) | exact zw_lt4 (by assumption) | exact zt_lt (by assumption)) (by decide) (by decide) lfRX8_38 rfl (by first | rfl | assumption | exact zf_p4 _ (by assumption) | exact zf_p5 _ (by assumption) | exact zf_p6 _ (by assumption) | exact zf_p7 _ (by assumption) | exact zw_p1 _ (by assumption) | exact zw_p2 _ (by assumption) | exact zw_p3 _ (by assumption) | exact zw_p4 _ (by assumption)) ?_
        refine ev_iload_n (q := 65) dX8_takePage_64 rfl rfl ?_
        refine ev_aload_n (q := 66) dX8_takePage_65 rfl rfl ?_
        refine ev_iload_n (q := 67) dX8_takePage_66 rfl rfl ?_
        refine ev_bipush (q := 69) (nI 24 : Int32) dX8_takePage_67 rfl (by decide) ?_
        refine ev_iadd (q := 70) dX8_takePage_69 rfl ?_
        rw [nI_add]
        refine ev_iload_n (q := 71) dX8_takePage_70 rfl rfl ?_
        refine ev_iadd (q := 72) dX8_takePage_71 rfl ?_
        rw [nI_add]
        refine ev_ialdN (q := 73) dX8_takePage_72 rfl (by first | rfl | assumption | exact zf_kd1 (by assumption) | exact zf_kd2 (by assumption) | exact zf_kd3 (by assumption) | exact zf_kd4 (by assumption) | exact zw_kd1 (by assumption) | exact zw_kd2 (by assumption) | exact zw_kd3 (by assumption) | exact zw_kd4 (by assumption)) hpn (show off + 24 + i < L by omega) ?_
        rw [hf pg (by omega) (by omega) (by omega) (by omega)]
        refine ev_iastN (q := 74) dX8_takePage_73 rfl (by first | rfl | assumption | exact zf_kd1 (by assumption) | exact zf_kd2 (by assumption) | exact zf_kd3 (by assumption) | exact zf_kd4 (by assumption) | exact zw_kd1 (by assumption) | exact zw_kd2 (by assumption) | exact zw_kd3 (by assumption) | exact zw_kd4 (by assumption)) (by first | decide | exact zf_lt (by assumption) | exact zf_lt1 (by assumption) | exact zf_lt2 (by assumption) | exact zf_lt3 (by assumption) | exact zf_lt4 (by assumption) | exact zw_lt (by assumption) | exact zw_lt1 (by assumption) | exact zw_lt2 (by assumption) | exact zw_lt3 (by assumption) | exact zw_lt4 (by assumption) | exact zt_lt (by assumption)) (by first | omega | assumption) ?_
        refine ev_iincL (q := 77) (L9 := [_, _, _, _]) (1 : Int32) dX8_takePage_74 rfl rfl (by decide) (by decide) rfl rfl ?_
        refine ev_goto (t := 55) dX8_takePage_77 (by decide) ?_
        rw [nI_1]
        exact ih (i + 1) _ (by omega) (by omega) (fun c q1 q2 q3 q4 => by rw [zu_other q4]; exact hf c q1 q2 q3 q4) (fun p hp => by rw [zu_other (by decide), zu_other (by decide), zu_other (by decide)]; exact h8 p hp) (fun t ht => by
          by_cases hti : t = i
          · subst hti; exact zu_eq.symm
          · rw [zu_ne (by omega)]; exact h4 t (by omega))
  have lp2 : ∀ (k i : Nat) (I1 : zq_I), 8 + 1 ≤ i + k → i ≤ 8 → (∀ c, c ≠ 125 → c ≠ 126 → c ≠ 127 → I1 c = I c) → (∀ p, p < i → I pg (off + p) = I1 125 p ∧ I pg (off + 8 + p) = I1 126 p ∧ I pg (off + 16 + p) = I1 127 p) → zq_E G mX8_takePage 0 0 0 false 2 [some (.ref 119), some (.ref pg), some (.int (nI off)), some (.int (nI i))] [] 138 I1 (zPs fo) (fun v n' I' P' => v = none ∧ n' = 138 ∧ P' = zPs fo ∧ (∀ c, c ≠ 119 → c ≠ 125 → c ≠ 126 → c ≠ 127 → c ≠ 128 → I' c = I c) ∧ (∀ k, k ≠ 15 → I' 119 k = I 119 k) ∧ zpag pg off I' I) := by
    intro k
    induction k with
    | zero => intro i I1 hk hi; exact absurd hk (by omega)
    | succ k ih =>
      intro i I1 hk hi hf h8
      refine ev_iload_n (q := 3) dX8_takePage_2 rfl rfl ?_
      refine ev_bipush (q := 5) (nI 8 : Int32) dX8_takePage_3 rfl (by decide) ?_
      refine ev_icmp_ge (q := 8) (t := 53) dX8_takePage_5 rfl (by decide) (fun h5 => ?_) (fun h5 => ?_)
      · obtain rfl : i = 8 := by rw [nI_leI (by omega) (by omega)] at h5; omega
        refine ev_iconst (q := 54) (0 : Int32) dX8_takePage_53 rfl (by decide) ?_
        refine ev_istore_nL (q := 55) (L9 := [_, _, _, _]) dX8_takePage_54 rfl (by decide) rfl rfl ?_
        exact lp55 5 0 _ (by omega) (by omega) (fun c q1 q2 q3 _ => hf c q1 q2 q3) h8 (fun t ht => absurd ht (by omega))
      · have hlt_i : i < 8 := by rw [nI_leI (by omega) (by omega)] at h5; omega
        refine ev_aload_n (q := 9) dX8_takePage_8 rfl rfl ?_
        refine ev_getR (q := 12) (ci := 8) (f := 11) dX8_takePage_9 rfl (by first | rfl | assumption | exact zf_kd (by assumption) | exact zw_kd (by assumption) | exact zt_kd (by assumption)) (by first | decide | exact zf_lt (by assumption) | exact zf_lt1 (by assumption) | exact zf_lt2 (by assumption) | exact zf_lt3 (by assumption) | exact zf_lt4 (by assumption) | exact zw_lt (by assumption) | exact zw_lt1 (by assumption) | exact zw_lt2 (by assumption) | exact zw_lt3 (by assumption) | exact zw_lt4 (by assumption) | exact zt_lt (by assumption)) (by decide) (by decide) lfRX8_29 rfl (by first | rfl | assumption | exact zf_p4 _ (by assumption) | exact zf_p5 _ (by assumption) | exact zf_p6 _ (by assumption) | exact zf_p7 _ (by assumption) | exact zw_p1 _ (by assumption) | exact zw_p2 _ (by assumption) | exact zw_p3 _ (by assumption) | exact zw_p4 _ (by assumption)) ?_
        refine ev_iload_n (q := 13) dX8_takePage_12 rfl rfl ?_
        refine ev_aload_n (q := 14) dX8_takePage_13 rfl rfl ?_
        refine ev_iload_n (q := 15) dX8_takePage_14 rfl rfl ?_
        refine ev_iload_n (q := 16) dX8_takePage_15 rfl rfl ?_
        refine ev_iadd (q := 17) dX8_takePage_16 rfl ?_
        rw [nI_add]
        refine ev_ialdN (q := 18) dX8_takePage_17 rfl (by first | rfl | assumption | exact zf_kd1 (by assumption) | exact zf_kd2 (by assumption) | exact zf_kd3 (by assumption) | exact zf_kd4 (by assumption) | exact zw_kd1 (by assumption) | exact zw_kd2 (by assumption) | exact zw_kd3 (by assumption) | exact zw_kd4 (by assumption)) hpn (show off + i < L by omega) ?_
        rw [hf pg (by omega) (by omega) (by omega)]
        refine ev_iastN (q := 19) dX8_takePage_18 rfl (by first | rfl | assumption | exact zf_kd1 (by assumption) | exact zf_kd2 (by assumption) | exact zf_kd3 (by assumption) | exact zf_kd4 (by assumption) | exact zw_kd1 (by assumption) | exact zw_kd2 (by assumption) | exact zw_kd3 (by assumption) | exact zw_kd4 (by assumption)) (by first | decide | exact zf_lt (by assumption) | exact zf_lt1 (by assumption) | exact zf_lt2 (by assumption) | exact zf_lt3 (by assumption) | exact zf_lt4 (by assumption) | exact zw_lt (by assumption) | exact zw_lt1 (by assumption) | exact zw_lt2 (by assumption) | exact zw_lt3 (by assumption) | exact zw_lt4 (by assumption) | exact zt_lt (by assumption)) (by first | omega | assumption) ?_
        refine ev_aload_n (q := 20) dX8_takePage_19 rfl rfl ?_
        refine ev_getR (q := 23) (ci := 8) (f := 12) dX8_takePage_20 rfl (by first | rfl | assumption | exact zf_kd (by assumption) | exact zw_kd (by assumption) | exact zt_kd (by assumption)) (by first | decide | exact zf_lt (by assumption) | exact zf_lt1 (by assumption) | exact zf_lt2 (by assumption) | exact zf_lt3 (by assumption) | exact zf_lt4 (by assumption) | exact zw_lt (by assumption) | exact zw_lt1 (by assumption) | exact zw_lt2 (by assumption) | exact zw_lt3 (by assumption) | exact zw_lt4 (by assumption) | exact zt_lt (by assumption)) (by decide) (by decide) lfRX8_32 rfl (by first | rfl | assumption | exact zf_p4 _ (by assumption) | exact zf_p5 _ (by assumption) | exact zf_p6 _ (by assumption) | exact zf_p7 _ (by assumption) | exact zw_p1 _ (by assumption) | exact zw_p2 _ (by assumption) | exact zw_p3 _ (by assumption) | exact zw_p4 _ (by assumption)) ?_
        refine ev_iload_n (q := 24) dX8_takePage_23 rfl rfl ?_
        refine ev_aload_n (q := 25) dX8_takePage_24 rfl rfl ?_
        refine ev_iload_n (q := 26) dX8_takePage_25 rfl rfl ?_
        refine ev_bipush (q := 28) (nI 8 : Int32) dX8_takePage_26 rfl (by decide) ?_
        refine ev_iadd (q := 29) dX8_takePage_28 rfl ?_
        rw [nI_add]
        refine ev_iload_n (q := 30) dX8_takePage_29 rfl rfl ?_
        refine ev_iadd (q := 31) dX8_takePage_30 rfl ?_
        rw [nI_add]
        refine ev_ialdN (q := 32) dX8_takePage_31 rfl (by first | rfl | assumption | exact zf_kd1 (by assumption) | exact zf_kd2 (by assumption) | exact zf_kd3 (by assumption) | exact zf_kd4 (by assumption) | exact zw_kd1 (by assumption) | exact zw_kd2 (by assumption) | exact zw_kd3 (by assumption) | exact zw_kd4 (by assumption)) hpn (show off + 8 + i < L by omega) ?_
        rw [zu_other (show pg ≠ 125 by omega), hf pg (by omega) (by omega) (by omega)]
        refine ev_iastN (q := 33) dX8_takePage_32 rfl (by first | rfl | assumption | exact zf_kd1 (by assumption) | exact zf_kd2 (by assumption) | exact zf_kd3 (by assumption) | exact zf_kd4 (by assumption) | exact zw_kd1 (by assumption) | exact zw_kd2 (by assumption) | exact zw_kd3 (by assumption) | exact zw_kd4 (by assumption)) (by first | decide | exact zf_lt (by assumption) | exact zf_lt1 (by assumption) | exact zf_lt2 (by assumption) | exact zf_lt3 (by assumption) | exact zf_lt4 (by assumption) | exact zw_lt (by assumption) | exact zw_lt1 (by assumption) | exact zw_lt2 (by assumption) | exact zw_lt3 (by assumption) | exact zw_lt4 (by assumption) | exact zt_lt (by assumption)) (by first | omega | assumption) ?_
        refine ev_aload_n (q := 34) dX8_takePage_33 rfl rfl ?_
        refine ev_getR (q := 37) (ci := 8) (f := 13) dX8_takePage_34 rfl (by first | rfl | assumption | exact zf_kd (by assumption) | exact zw_kd (by assumption) | exact zt_kd (by assumption)) (by first | decide | exact zf_lt (by assumption) | exact zf_lt1 (by assumption) | exact zf_lt2 (by assumption) | exact zf_lt3 (by assumption) | exact zf_lt4 (by assumption) | exact zw_lt (by assumption) | exact zw_lt1 (by assumption) | exact zw_lt2 (by assumption) | exact zw_lt3 (by assumption) | exact zw_lt4 (by assumption) | exact zt_lt (by assumption)) (by decide) (by decide) lfRX8_35 rfl (by first | rfl | assumption | exact zf_p4 _ (by assumption) | exact zf_p5 _ (by assumption) | exact zf_p6 _ (by assumption) | exact zf_p7 _ (by assumption) | exact zw_p1 _ (by assumption) | exact zw_p2 _ (by assumption) | exact zw_p3 _ (by assumption) | exact zw_p4 _ (by assumption)) ?_
        refine ev_iload_n (q := 38) dX8_takePage_37 rfl rfl ?_
        refine ev_aload_n (q := 39) dX8_takePage_38 rfl rfl ?_
        refine ev_iload_n (q := 40) dX8_takePage_39 rfl rfl ?_
        refine ev_bipush (q := 42) (nI 16 : Int32) dX8_takePage_40 rfl (by decide) ?_
        refine ev_iadd (q := 43) dX8_takePage_42 rfl ?_
        rw [nI_add]
        refine ev_iload_n (q := 44) dX8_takePage_43 rfl rfl ?_
        refine ev_iadd (q := 45) dX8_takePage_44 rfl ?_
        rw [nI_add]
        refine ev_ialdN (q := 46) dX8_takePage_45 rfl (by first | rfl | assumption | exact zf_kd1 (by assumption) | exact zf_kd2 (by assumption) | exact zf_kd3 (by assumption) | exact zf_kd4 (by assumption) | exact zw_kd1 (by assumption) | exact zw_kd2 (by assumption) | exact zw_kd3 (by assumption) | exact zw_kd4 (by assumption)) hpn (show off + 16 + i < L by omega) ?_
        rw [zu_other (show pg ≠ 126 by omega), zu_other (show pg ≠ 125 by omega), hf pg (by omega) (by omega) (by omega)]
        refine ev_iastN (q := 47) dX8_takePage_46 rfl (by first | rfl | assumption | exact zf_kd1 (by assumption) | exact zf_kd2 (by assumption) | exact zf_kd3 (by assumption) | exact zf_kd4 (by assumption) | exact zw_kd1 (by assumption) | exact zw_kd2 (by assumption) | exact zw_kd3 (by assumption) | exact zw_kd4 (by assumption)) (by first | decide | exact zf_lt (by assumption) | exact zf_lt1 (by assumption) | exact zf_lt2 (by assumption) | exact zf_lt3 (by assumption) | exact zf_lt4 (by assumption) | exact zw_lt (by assumption) | exact zw_lt1 (by assumption) | exact zw_lt2 (by assumption) | exact zw_lt3 (by assumption) | exact zw_lt4 (by assumption) | exact zt_lt (by assumption)) (by first | omega | assumption) ?_
        refine ev_iincL (q := 50) (L9 := [_, _, _, _]) (1 : Int32) dX8_takePage_47 rfl rfl (by decide) (by decide) rfl rfl ?_
        refine ev_goto (t := 2) dX8_takePage_50 (by decide) ?_
        rw [nI_1]
        exact ih (i + 1) _ (by omega) (by omega) (fun c q1 q2 q3 => by rw [zu_other q3, zu_other q2, zu_other q1]; exact hf c q1 q2 q3) (fun p hp => by
          rw [zu_other (show 125 ≠ 127 by decide), zu_other (show 125 ≠ 126 by decide), zu_other (show 126 ≠ 127 by decide)]
          by_cases hpi : p = i
          · subst hpi; exact ⟨zu_eq.symm, zu_eq.symm, zu_eq.symm⟩
          · rw [zu_ne hpi, zu_ne hpi, zu_ne hpi, zu_other (show 126 ≠ 125 by decide), zu_other (show 127 ≠ 126 by decide), zu_other (show 127 ≠ 125 by decide)]; exact h8 p (by omega))
  refine ev_iconst (q := 1) (0 : Int32) dX8_takePage_0 rfl (by decide) ?_
  refine ev_istore_nL (q := 2) (L9 := [_, _, _, _]) dX8_takePage_1 rfl (by decide) rfl rfl ?_
  exact lp2 9 0 _ (by omega) (by omega) (fun _ _ _ _ => rfl) (fun p hp => absurd hp (by omega))
/-- the model's book behind a note: an pages were there -/
def znote (an : Nat) (I I' : zq_I) : Prop := (∀ c, c ≠ 119 → c ≠ 133 → I' c = I c) ∧ (∀ k, k ≠ 25 → I' 119 k = I 119 k) ∧ I' 119 25 = nI (zhc an + 1) ∧ (∀ k, k < 29 * zhc an → I' 133 k = if an = 16 then I 133 (k + 29) else I 133 k) ∧ zpag 133 (29 * zhc an) I I' 
set_option maxHeartbeats 4000000 in
set_option maxRecDepth 100000 in
theorem lp_X8_note (G : zq_G) (fo : Bool) (I : zq_I) (ha : I 119 25 = nI 16) : zq_E G mX8_note 1 0 0 false 11 [some (.ref 119), some (.int 0)] [] 138 I (zPs fo) (fun v n' I' P' => v = none ∧ n' = 138 ∧ P' = zPs fo ∧ znote 16 I I') := by
  have lp11 : ∀ (k i : Nat) (I1 : zq_I), 435 + 1 ≤ i + k → i ≤ 435 → (∀ c, c ≠ 133 → I1 c = I c) → (∀ k, k < i → I1 133 k = I 133 (k + 29)) → (∀ k, i ≤ k → I1 133 k = I 133 k) → zq_E G mX8_note 1 0 0 false 11 [some (.ref 119), some (.int (nI i))] [] 138 I1 (zPs fo) (fun v n' I' P' => v = none ∧ n' = 138 ∧ P' = zPs fo ∧ znote 16 I I') := by
    intro k
    induction k with
    | zero => intro i I1 hk hi; exact absurd hk (by omega)
    | succ k ih =>
      intro i I1 hk hi hf h0 h29
      refine ev_iload_n (q := 12) dX8_note_11 rfl rfl ?_
      refine ev_sipush (q := 15) (nI 435 : Int32) dX8_note_12 rfl (by decide) ?_
      refine ev_icmp_ge (q := 18) (t := 39) dX8_note_15 rfl (by decide) (fun h15 => ?_) (fun h15 => ?_)
      · obtain rfl : i = 435 := by rw [nI_leI (by omega) (by omega)] at h15; omega
        refine ev_aload_n (q := 40) dX8_note_39 rfl rfl ?_
        refine ev_dup (q := 41) dX8_note_40 rfl rfl ?_
        refine ev_getI (q := 44) (ci := 8) (f := 25) dX8_note_41 rfl (by first | rfl | assumption | exact zf_kd (by assumption) | exact zw_kd (by assumption) | exact zt_kd (by assumption)) (by first | decide | exact zf_lt (by assumption) | exact zf_lt1 (by assumption) | exact zf_lt2 (by assumption) | exact zf_lt3 (by assumption) | exact zf_lt4 (by assumption) | exact zw_lt (by assumption) | exact zw_lt1 (by assumption) | exact zw_lt2 (by assumption) | exact zw_lt3 (by assumption) | exact zw_lt4 (by assumption) | exact zt_lt (by assumption)) (by decide) (by decide) lfRX8_134 rfl ?_
        refine ev_iconst (q := 45) (1 : Int32) dX8_note_44 rfl (by decide) ?_
        refine ev_isub (q := 46) dX8_note_45 rfl ?_
        refine ev_putI (q := 49) (ci := 8) (f := 25) dX8_note_46 rfl (by first | rfl | assumption | exact zf_kd (by assumption) | exact zw_kd (by assumption) | exact zt_kd (by assumption)) (by first | decide | exact zf_lt (by assumption) | exact zf_lt1 (by assumption) | exact zf_lt2 (by assumption) | exact zf_lt3 (by assumption) | exact zf_lt4 (by assumption) | exact zw_lt (by assumption) | exact zw_lt1 (by assumption) | exact zw_lt2 (by assumption) | exact zw_lt3 (by assumption) | exact zw_lt4 (by assumption) | exact zt_lt (by assumption)) (by decide) (by decide) lfRX8_134 rfl rfl rfl rfl ?_
        obtain ⟨I2, hI2⟩ : ∃ I2, I2 = zu I1 119 25 (I1 119 25 - 1) := ⟨_, rfl⟩
        rw [← hI2]
        have g25 : I2 119 25 = nI 15 := by rw [hI2, zu_eq, hf 119 (by decide), ha]; decide
        refine ev_aload_n (q := 50) dX8_note_49 rfl rfl ?_
        refine ev_aload_n (q := 51) dX8_note_50 rfl rfl ?_
        refine ev_getR (q := 54) (ci := 8) (f := 24) dX8_note_51 rfl (by first | rfl | assumption | exact zf_kd (by assumption) | exact zw_kd (by assumption) | exact zt_kd (by assumption)) (by first | decide | exact zf_lt (by assumption) | exact zf_lt1 (by assumption) | exact zf_lt2 (by assumption) | exact zf_lt3 (by assumption) | exact zf_lt4 (by assumption) | exact zw_lt (by assumption) | exact zw_lt1 (by assumption) | exact zw_lt2 (by assumption) | exact zw_lt3 (by assumption) | exact zw_lt4 (by assumption) | exact zt_lt (by assumption)) (by decide) (by decide) lfRX8_53 rfl (by first | rfl | assumption | exact zf_p4 _ (by assumption) | exact zf_p5 _ (by assumption) | exact zf_p6 _ (by assumption) | exact zf_p7 _ (by assumption) | exact zw_p1 _ (by assumption) | exact zw_p2 _ (by assumption) | exact zw_p3 _ (by assumption) | exact zw_p4 _ (by assumption)) ?_
        refine ev_bipush (q := 56) (nI 29 : Int32) dX8_note_54 rfl (by decide) ?_
        refine ev_aload_n (q := 57) dX8_note_56 rfl rfl ?_
        refine ev_getI (q := 60) (ci := 8) (f := 25) dX8_note_57 rfl (by first | rfl | assumption | exact zf_kd (by assumption) | exact zw_kd (by assumption) | exact zt_kd (by assumption)) (by first | decide | exact zf_lt (by assumption) | exact zf_lt1 (by assumption) | exact zf_lt2 (by assumption) | exact zf_lt3 (by assumption) | exact zf_lt4 (by assumption) | exact zw_lt (by assumption) | exact zw_lt1 (by assumption) | exact zw_lt2 (by assumption) | exact zw_lt3 (by assumption) | exact zw_lt4 (by assumption) | exact zt_lt (by assumption)) (by decide) (by decide) lfRX8_134 rfl ?_
        rw [g25]
        refine ev_imul (q := 61) dX8_note_60 rfl ?_
        rw [show nI 29 * nI 15 = nI 435 by decide]
        refine ev_cV (q := 64) (ci := 8) dX8_note_61 rfl okX8_layPage lmRX8_178 imX8_layPage seX8_layPage (by first | rfl | assumption | exact zf_kd (by assumption) | exact zw_kd (by assumption) | exact zt_kd (by assumption)) (by first | decide | exact zf_lt (by assumption) | exact zf_lt1 (by assumption) | exact zf_lt2 (by assumption) | exact zf_lt3 (by assumption) | exact zf_lt4 (by assumption) | exact zw_lt (by assumption) | exact zw_lt1 (by assumption) | exact zw_lt2 (by assumption) | exact zw_lt3 (by assumption) | exact zw_lt4 (by assumption) | exact zt_lt (by assumption)) (by decide) rfl (c_X8_layPage G fo I2 (pg := 133) (L := 464) (off := 435) (Or.inl rfl) rfl (by omega)) (by decide) rfl rfl (Nat.le_of_ble_eq_true rfl) (fun v61 n61 I61 P61 hR61 => ?_)
        obtain ⟨rfl, rfl, rfl, hf2, hk2, hp8, hp4, hpy⟩ := hR61
        refine ev_aload_n (q := 65) dX8_note_64 rfl rfl ?_
        refine ev_dup (q := 66) dX8_note_65 rfl rfl ?_
        refine ev_getI (q := 69) (ci := 8) (f := 25) dX8_note_66 rfl (by first | rfl | assumption | exact zf_kd (by assumption) | exact zw_kd (by assumption) | exact zt_kd (by assumption)) (by first | decide | exact zf_lt (by assumption) | exact zf_lt1 (by assumption) | exact zf_lt2 (by assumption) | exact zf_lt3 (by assumption) | exact zf_lt4 (by assumption) | exact zw_lt (by assumption) | exact zw_lt1 (by assumption) | exact zw_lt2 (by assumption) | exact zw_lt3 (by assumption) | exact zw_lt4 (by assumption) | exact zt_lt (by assumption)) (by decide) (by decide) lfRX8_134 rfl ?_
        refine ev_iconst (q := 70) (1 : Int32) dX8_note_69 rfl (by decide) ?_
        refine ev_iadd (q := 71) dX8_note_70 rfl ?_
        refine ev_putI (q := 74) (ci := 8) (f := 25) dX8_note_71 rfl (by first | rfl | assumption | exact zf_kd (by assumption) | exact zw_kd (by assumption) | exact zt_kd (by assumption)) (by first | decide | exact zf_lt (by assumption) | exact zf_lt1 (by assumption) | exact zf_lt2 (by assumption) | exact zf_lt3 (by assumption) | exact zf_lt4 (by assumption) | exact zw_lt (by assumption) | exact zw_lt1 (by assumption) | exact zw_lt2 (by assumption) | exact zw_lt3 (by assumption) | exact zw_lt4 (by assumption) | exact zt_lt (by assumption)) (by decide) (by decide) lfRX8_134 rfl rfl rfl rfl ?_
        exact ev_vret dX8_note_74 rfl (⟨rfl, rfl, rfl, fun c q1 q2 => by rw [zu_other q1, hf2 c q2, hI2, zu_other q1]; exact hf c q2, fun k hk => by rw [zu_ne hk, hf2 119 (by decide), hI2, zu_ne hk, hf 119 (by decide)], by rw [zu_eq, hf2 119 (by decide), g25]; decide, fun k hk => by rw [zu_other (by decide), hk2 k (Or.inl hk), hI2, zu_other (by decide)]; exact h0 k hk, fun p hp => by rw [zu_other (by decide)]; have q := hp8 p hp; rw [hI2, zu_other (by decide), zu_other (by decide), zu_other (by decide), hf 125 (by decide), hf 126 (by decide), hf 127 (by decide)] at q; exact q, fun t ht => by rw [zu_other (by decide)]; have q := hp4 t ht; rw [hI2, zu_other (by decide), hf 128 (by decide)] at q; exact q, by rw [zu_other (by decide)]; have q := hpy; rw [hI2, zu_ne (by decide), hf 119 (by decide)] at q; exact q⟩)
      · have hlt_i : i < 435 := by rw [nI_leI (by omega) (by omega)] at h15; omega
        refine ev_aload_n (q := 19) dX8_note_18 rfl rfl ?_
        refine ev_getR (q := 22) (ci := 8) (f := 24) dX8_note_19 rfl (by first | rfl | assumption | exact zf_kd (by assumption) | exact zw_kd (by assumption) | exact zt_kd (by assumption)) (by first | decide | exact zf_lt (by assumption) | exact zf_lt1 (by assumption) | exact zf_lt2 (by assumption) | exact zf_lt3 (by assumption) | exact zf_lt4 (by assumption) | exact zw_lt (by assumption) | exact zw_lt1 (by assumption) | exact zw_lt2 (by assumption) | exact zw_lt3 (by assumption) | exact zw_lt4 (by assumption) | exact zt_lt (by assumption)) (by decide) (by decide) lfRX8_53 rfl (by first | rfl | assumption | exact zf_p4 _ (by assumption) | exact zf_p5 _ (by assumption) | exact zf_p6 _ (by assumption) | exact zf_p7 _ (by assumption) | exact zw_p1 _ (by assumption) | exact zw_p2 _ (by assumption) | exact zw_p3 _ (by assumption) | exact zw_p4 _ (by assumption)) ?_
        refine ev_iload_n (q := 23) dX8_note_22 rfl rfl ?_
        refine ev_aload_n (q := 24) dX8_note_23 rfl rfl ?_
        refine ev_getR (q := 27) (ci := 8) (f := 24) dX8_note_24 rfl (by first | rfl | assumption | exact zf_kd (by assumption) | exact zw_kd (by assumption) | exact zt_kd (by assumption)) (by first | decide | exact zf_lt (by assumption) | exact zf_lt1 (by assumption) | exact zf_lt2 (by assumption) | exact zf_lt3 (by assumption) | exact zf_lt4 (by assumption) | exact zw_lt (by assumption) | exact zw_lt1 (by assumption) | exact zw_lt2 (by assumption) | exact zw_lt3 (by assumption) | exact zw_lt4 (by assumption) | exact zt_lt (by assumption)) (by decide) (by decide) lfRX8_53 rfl (by first | rfl | assumption | exact zf_p4 _ (by assumption) | exact zf_p5 _ (by assumption) | exact zf_p6 _ (by assumption) | exact zf_p7 _ (by assumption) | exact zw_p1 _ (by assumption) | exact zw_p2 _ (by assumption) | exact zw_p3 _ (by assumption) | exact zw_p4 _ (by assumption)) ?_
        refine ev_iload_n (q := 28) dX8_note_27 rfl rfl ?_
        refine ev_bipush (q := 30) (nI 29 : Int32) dX8_note_28 rfl (by decide) ?_
        refine ev_iadd (q := 31) dX8_note_30 rfl ?_
        rw [nI_add]
        refine ev_ialdN (q := 32) dX8_note_31 rfl (by first | rfl | assumption | exact zf_kd1 (by assumption) | exact zf_kd2 (by assumption) | exact zf_kd3 (by assumption) | exact zf_kd4 (by assumption) | exact zw_kd1 (by assumption) | exact zw_kd2 (by assumption) | exact zw_kd3 (by assumption) | exact zw_kd4 (by assumption)) (by first | decide | exact zf_lt (by assumption) | exact zf_lt1 (by assumption) | exact zf_lt2 (by assumption) | exact zf_lt3 (by assumption) | exact zf_lt4 (by assumption) | exact zw_lt (by assumption) | exact zw_lt1 (by assumption) | exact zw_lt2 (by assumption) | exact zw_lt3 (by assumption) | exact zw_lt4 (by assumption) | exact zt_lt (by assumption)) (show i + 29 < 464 by omega) ?_
        rw [h29 (i + 29) (by omega)]
        refine ev_iastN (q := 33) dX8_note_32 rfl (by first | rfl | assumption | exact zf_kd1 (by assumption) | exact zf_kd2 (by assumption) | exact zf_kd3 (by assumption) | exact zf_kd4 (by assumption) | exact zw_kd1 (by assumption) | exact zw_kd2 (by assumption) | exact zw_kd3 (by assumption) | exact zw_kd4 (by assumption)) (by first | decide | exact zf_lt (by assumption) | exact zf_lt1 (by assumption) | exact zf_lt2 (by assumption) | exact zf_lt3 (by assumption) | exact zf_lt4 (by assumption) | exact zw_lt (by assumption) | exact zw_lt1 (by assumption) | exact zw_lt2 (by assumption) | exact zw_lt3 (by assumption) | exact zw_lt4 (by assumption) | exact zt_lt (by assumption)) (show i < 464 by omega) ?_
        refine ev_iincL (q := 36) (L9 := [_, _]) (1 : Int32) dX8_note_33 rfl rfl (by decide) (by decide) rfl rfl ?_
        refine ev_goto (t := 11) dX8_note_36 (by decide) ?_
        rw [nI_1]
        exact ih (i + 1) _ (by omega) (by omega) (fun c hc => by rw [zu_other hc]; exact hf c hc) (fun k hk => by
          by_cases hki : k = i
          · subst hki; exact zu_eq
          · rw [zu_ne hki]; exact h0 k (by omega)) (fun k hk => by rw [zu_ne (by omega)]; exact h29 k (by omega))
  exact lp11 436 0 _ (by omega) (by omega) (fun _ _ => rfl) (fun k hk => absurd hk (by omega)) (fun _ _ => rfl)
set_option maxHeartbeats 4000000 in
set_option maxRecDepth 100000 in
theorem c_X8_note (G : zq_G) (fo : Bool) (I : zq_I) {an : Nat} (han : an ≤ 16) (ha : I 119 25 = nI an) : zq_Met G mX8_note 1 0 0 [.ref 119] 138 I (zPs fo) (fun v n' I' P' => v = none ∧ n' = 138 ∧ P' = zPs fo ∧ znote an I I') := by
  refine zq_Met.of okX8_note (Nat.le_of_ble_eq_true rfl) ?_
  show zq_E _ _ _ _ _ _ _ [some (.ref 119), none] _ _ _ _ _
  refine ev_aload_n (q := 1) dX8_note_0 rfl rfl ?_
  refine ev_getI (q := 4) (ci := 8) (f := 25) dX8_note_1 rfl (by first | rfl | assumption | exact zf_kd (by assumption) | exact zw_kd (by assumption) | exact zt_kd (by assumption)) (by first | decide | exact zf_lt (by assumption) | exact zf_lt1 (by assumption) | exact zf_lt2 (by assumption) | exact zf_lt3 (by assumption) | exact zf_lt4 (by assumption) | exact zw_lt (by assumption) | exact zw_lt1 (by assumption) | exact zw_lt2 (by assumption) | exact zw_lt3 (by assumption) | exact zw_lt4 (by assumption) | exact zt_lt (by assumption)) (by decide) (by decide) lfRX8_134 rfl ?_
  refine ev_bipush (q := 6) (nI 16 : Int32) dX8_note_4 rfl (by decide) ?_
  refine ev_icmp_ne (q := 9) (t := 49) dX8_note_6 rfl (by decide) (fun h6 => ?_) (fun h6 => ?_)
  · have hc : an ≠ 16 := by rw [ha, nI_eq (by omega) (by omega)] at h6; exact h6
    have hz : zhc an = an := by simp [zhc, hc]
    refine ev_aload_n (q := 50) dX8_note_49 rfl rfl ?_
    refine ev_aload_n (q := 51) dX8_note_50 rfl rfl ?_
    refine ev_getR (q := 54) (ci := 8) (f := 24) dX8_note_51 rfl (by first | rfl | assumption | exact zf_kd (by assumption) | exact zw_kd (by assumption) | exact zt_kd (by assumption)) (by first | decide | exact zf_lt (by assumption) | exact zf_lt1 (by assumption) | exact zf_lt2 (by assumption) | exact zf_lt3 (by assumption) | exact zf_lt4 (by assumption) | exact zw_lt (by assumption) | exact zw_lt1 (by assumption) | exact zw_lt2 (by assumption) | exact zw_lt3 (by assumption) | exact zw_lt4 (by assumption) | exact zt_lt (by assumption)) (by decide) (by decide) lfRX8_53 rfl (by first | rfl | assumption | exact zf_p4 _ (by assumption) | exact zf_p5 _ (by assumption) | exact zf_p6 _ (by assumption) | exact zf_p7 _ (by assumption) | exact zw_p1 _ (by assumption) | exact zw_p2 _ (by assumption) | exact zw_p3 _ (by assumption) | exact zw_p4 _ (by assumption)) ?_
    refine ev_bipush (q := 56) (nI 29 : Int32) dX8_note_54 rfl (by decide) ?_
    refine ev_aload_n (q := 57) dX8_note_56 rfl rfl ?_
    refine ev_getI (q := 60) (ci := 8) (f := 25) dX8_note_57 rfl (by first | rfl | assumption | exact zf_kd (by assumption) | exact zw_kd (by assumption) | exact zt_kd (by assumption)) (by first | decide | exact zf_lt (by assumption) | exact zf_lt1 (by assumption) | exact zf_lt2 (by assumption) | exact zf_lt3 (by assumption) | exact zf_lt4 (by assumption) | exact zw_lt (by assumption) | exact zw_lt1 (by assumption) | exact zw_lt2 (by assumption) | exact zw_lt3 (by assumption) | exact zw_lt4 (by assumption) | exact zt_lt (by assumption)) (by decide) (by decide) lfRX8_134 rfl ?_
    rw [ha]
    refine ev_imul (q := 61) dX8_note_60 rfl ?_
    rw [pk_mul]
    refine ev_cV (q := 64) (ci := 8) dX8_note_61 rfl okX8_layPage lmRX8_178 imX8_layPage seX8_layPage (by first | rfl | assumption | exact zf_kd (by assumption) | exact zw_kd (by assumption) | exact zt_kd (by assumption)) (by first | decide | exact zf_lt (by assumption) | exact zf_lt1 (by assumption) | exact zf_lt2 (by assumption) | exact zf_lt3 (by assumption) | exact zf_lt4 (by assumption) | exact zw_lt (by assumption) | exact zw_lt1 (by assumption) | exact zw_lt2 (by assumption) | exact zw_lt3 (by assumption) | exact zw_lt4 (by assumption) | exact zt_lt (by assumption)) (by decide) rfl (c_X8_layPage G fo I (pg := 133) (L := 464) (off := 29 * an) (Or.inl rfl) rfl (by omega)) (by decide) rfl rfl (Nat.le_of_ble_eq_true rfl) (fun v61 n61 I61 P61 hR61 => ?_)
    obtain ⟨rfl, rfl, rfl, hf2, hk2, hp8, hp4, hpy⟩ := hR61
    refine ev_aload_n (q := 65) dX8_note_64 rfl rfl ?_
    refine ev_dup (q := 66) dX8_note_65 rfl rfl ?_
    refine ev_getI (q := 69) (ci := 8) (f := 25) dX8_note_66 rfl (by first | rfl | assumption | exact zf_kd (by assumption) | exact zw_kd (by assumption) | exact zt_kd (by assumption)) (by first | decide | exact zf_lt (by assumption) | exact zf_lt1 (by assumption) | exact zf_lt2 (by assumption) | exact zf_lt3 (by assumption) | exact zf_lt4 (by assumption) | exact zw_lt (by assumption) | exact zw_lt1 (by assumption) | exact zw_lt2 (by assumption) | exact zw_lt3 (by assumption) | exact zw_lt4 (by assumption) | exact zt_lt (by assumption)) (by decide) (by decide) lfRX8_134 rfl ?_
    refine ev_iconst (q := 70) (1 : Int32) dX8_note_69 rfl (by decide) ?_
    refine ev_iadd (q := 71) dX8_note_70 rfl ?_
    refine ev_putI (q := 74) (ci := 8) (f := 25) dX8_note_71 rfl (by first | rfl | assumption | exact zf_kd (by assumption) | exact zw_kd (by assumption) | exact zt_kd (by assumption)) (by first | decide | exact zf_lt (by assumption) | exact zf_lt1 (by assumption) | exact zf_lt2 (by assumption) | exact zf_lt3 (by assumption) | exact zf_lt4 (by assumption) | exact zw_lt (by assumption) | exact zw_lt1 (by assumption) | exact zw_lt2 (by assumption) | exact zw_lt3 (by assumption) | exact zw_lt4 (by assumption) | exact zt_lt (by assumption)) (by decide) (by decide) lfRX8_134 rfl rfl rfl rfl ?_
    exact ev_vret dX8_note_74 rfl (⟨rfl, rfl, rfl, fun c q1 q2 => by rw [zu_other q1]; exact hf2 c q2, fun k hk => by rw [zu_ne hk, hf2 119 (by decide)], by rw [zu_eq, hf2 119 (by decide), ha, hz, nI_1], fun k hk => by rw [hz] at hk; rw [zu_other (by decide), hk2 k (Or.inl hk), if_neg hc], by rw [hz]; exact ⟨fun p hp => by rw [zu_other (by decide)]; exact hp8 p hp, fun t ht => by rw [zu_other (by decide)]; exact hp4 t ht, by rw [zu_other (by decide)]; exact hpy⟩⟩)
  · obtain rfl : an = 16 := by rw [ha, nI_eq (by omega) (by omega)] at h6; exact h6
    refine ev_iconst (q := 10) (0 : Int32) dX8_note_9 rfl (by decide) ?_
    refine ev_istore_nL (q := 11) (L9 := [_, _]) dX8_note_10 rfl (by decide) rfl rfl ?_
    exact lp_X8_note G fo I ha
