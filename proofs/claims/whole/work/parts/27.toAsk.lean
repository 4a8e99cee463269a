def zTA (S : Int32) (c : Nat → Bool) (th : Nat → Int32) : Nat → Int32 × Int32
  | 0 => (-9, -1)
  | i + 1 => if c i = true then (if (zTA S c th i).2 < (if S - th i < th i then S - th i else th i) then (nI i, if S - th i < th i then S - th i else th i) else zTA S c th i) else zTA S c th i
theorem zTA_n {S : Int32} {c : Nat → Bool} {th : Nat → Int32} {i : Nat} (h : c i = false) : zTA S c th (i + 1) = zTA S c th i := by rw [zTA, if_neg (by rw [h]; decide)]
theorem zTA_0 {S : Int32} {c : Nat → Bool} {th : Nat → Int32} {i : Nat} {a b : Int32} (hh : (a, b) = zTA S c th i) (h : c i = true) (h2 : ¬ b < (if S - th i < th i then S - th i else th i)) : zTA S c th (i + 1) = (a, b) := by rw [zTA, if_pos h, ← hh, if_neg h2]
theorem zTA_1 {S : Int32} {c : Nat → Bool} {th : Nat → Int32} {i : Nat} {a b : Int32} (hh : (a, b) = zTA S c th i) (h : c i = true) (h2 : b < (if S - th i < th i then S - th i else th i)) : zTA S c th (i + 1) = (nI i, if S - th i < th i then S - th i else th i) := by rw [zTA, if_pos h, ← hh, if_pos h2]
noncomputable def zSW (l : Int32) (V : zq_V) (N h m : Nat) (c : Int32) : Int32 := nI ((zsub m).countP (fun g => zCIA l V N (nI h) (nI g) == c))
def zwo (h i : Nat) : Nat := h &&& (h ^^^ (h &&& 2 ^ i))
theorem zwo_lt {h i : Nat} (hh : h < 256) : zwo h i < 256 := Nat.lt_of_le_of_lt Nat.and_le_left hh
noncomputable def zAsk (l : Int32) (V : zq_V) (N : Nat) (c : Int32) (t : Nat) : Int32 := if zm99 c = false then -2 else if zSW l V N (zOHn V N (nI t)) (zOHn V N (nI t)) c ≤ 0 then -9 else
  (zTA (zSW l V N (zOHn V N (nI t)) (zOHn V N (nI t)) c) (fun i => zhas (nI (zOHn V N (nI t))) i) (fun i => zSW l V N (zOHn V N (nI t)) (zwo (zOHn V N (nI t)) i) c) N).1
theorem nI_not0 {h : Nat} (hh : h < 256) : nI h &&& ((0 : Int32) ^^^ (-1)) = nI h := by
  rw [show (0 : Int32) = nI 0 from rfl, nI_not (by omega), Nat.and_zero, Nat.xor_zero, Nat.and_self]
set_option maxHeartbeats 4000000 in
set_option maxRecDepth 100000 in
theorem lp_X7_toAsk (G : zq_G) (fo : Bool) (I : zq_I) {N T Y : Nat} (hs : zS fo N T Y I) {h t : Nat} {c S : Int32} (hm : h < 256) (hS : ¬ S ≤ 0) : zq_E G mX7_toAsk 5 0 0 false 54 [some (.ref 0), some (.int (nI t)), some (.int c), some (.int (nI h)), some (.int (-9)), some (.int (-1)), some (.int S), some (.int 0), none, none] [] 138 I (zPs fo) (zq_f4 (some (.int (zTA S (fun i => zhas (nI h) i) (fun i => zSW (I 119 4) (zV I) N h (zwo h i) c) N).1)) fo I) := by
  have hN8 := hs.n8
  have hN := hs.ppl
  have hfF := zF_is fo
  have lp54 : ∀ (k i : Nat) (I1 : zq_I) (bst bf : Int32), N + 1 ≤ i + k → i ≤ N → (∀ c, c ≠ 4 → I1 c = I c) → (bst, bf) = zTA S (fun i => zhas (nI h) i) (fun i => zSW (I 119 4) (zV I) N h (zwo h i) c) i → zq_E G mX7_toAsk 5 0 0 false 54 [some (.ref 0), some (.int (nI t)), some (.int c), some (.int (nI h)), some (.int bst), some (.int bf), some (.int S), some (.int (nI i)), none, none] [] 138 I1 (zPs fo) (zq_f4 (some (.int (zTA S (fun i => zhas (nI h) i) (fun i => zSW (I 119 4) (zV I) N h (zwo h i) c) N).1)) fo I) := by
    intro k
    induction k with
    | zero => intro i I1 bst bf hk hi; exact absurd hk (by omega)
    | succ k ih =>
      intro i I1 bst bf hk hi hf h0
      have hFC : zFC fo I I1 := z4_FC hf
      have hs1 := hFC.S hs
      have hV := hFC.V
      have hN1 : I1 (zF fo) 2 = nI N := by rw [hf _ (zFne0 (by decide))]; exact hN
      refine ev_iload (q := 56) dX7_toAsk_54 rfl rfl ?_
      refine ev_aload_n (q := 57) dX7_toAsk_56 rfl rfl ?_
      refine ev_getR (q := 60) (ci := 7) (f := 9) dX7_toAsk_57 rfl (by first | rfl | assumption | exact zf_kd (by assumption) | exact zw_kd (by assumption) | exact zt_kd (by assumption)) (by first | decide | exact zf_lt (by assumption) | exact zf_lt1 (by assumption) | exact zf_lt2 (by assumption) | exact zf_lt3 (by assumption) | exact zf_lt4 (by assumption) | exact zw_lt (by assumption) | exact zw_lt1 (by assumption) | exact zw_lt2 (by assumption) | exact zw_lt3 (by assumption) | exact zw_lt4 (by assumption) | exact zt_lt (by assumption)) (by decide) (by decide) lfRX7_66 rfl (by first | rfl | assumption | exact zf_p4 _ (by assumption) | exact zf_p5 _ (by assumption) | exact zf_p6 _ (by assumption) | exact zf_p7 _ (by assumption) | exact zw_p1 _ (by assumption) | exact zw_p2 _ (by assumption) | exact zw_p3 _ (by assumption) | exact zw_p4 _ (by assumption)) ?_
      refine ev_getI (q := 63) (ci := 0) (f := 2) dX7_toAsk_60 rfl (by first | rfl | assumption | exact zf_kd (by assumption) | exact zw_kd (by assumption) | exact zt_kd (by assumption)) (by first | decide | exact zf_lt (by assumption) | exact zf_lt1 (by assumption) | exact zf_lt2 (by assumption) | exact zf_lt3 (by assumption) | exact zf_lt4 (by assumption) | exact zw_lt (by assumption) | exact zw_lt1 (by assumption) | exact zw_lt2 (by assumption) | exact zw_lt3 (by assumption) | exact zw_lt4 (by assumption) | exact zt_lt (by assumption)) (by decide) (by decide) lfRX7_93 rfl ?_
      refine ev_icmp_ge (q := 66) (t := 128) dX7_toAsk_63 rfl (by decide) (fun h63 => ?_) (fun h63 => ?_)
      · obtain rfl : i = N := by rw [hN1, nI_leI (by omega) (by omega)] at h63; omega
        refine ev_iload (q := 130) dX7_toAsk_128 rfl rfl ?_
        exact ev_iret dX7_toAsk_130 rfl (by first | rfl | exact zb_nar _ | assumption) (⟨by rw [← h0], rfl, rfl, hf⟩)
      · have hlt_i : i < N := by rw [hN1, nI_leI (by omega) (by omega)] at h63; omega
        refine ev_iload (q := 68) dX7_toAsk_66 rfl rfl ?_
        refine ev_if_le (q := 71) (t := 128) dX7_toAsk_68 rfl (by decide) (fun h68 => ?_) (fun h68 => ?_)
        · exact absurd h68 hS
        · refine ev_iload_n (q := 72) dX7_toAsk_71 rfl rfl ?_
          refine ev_iload (q := 74) dX7_toAsk_72 rfl rfl ?_
          refine ev_pS (q := 77) dX7_toAsk_74 rfl okX7_has lmRX7_220 smX7_has (c_X7_has G _ _ _ _ _) (by decide) rfl rfl (Nat.le_of_ble_eq_true rfl) ?_
          refine ev_if_ne (q := 80) (t := 83) dX7_toAsk_77 rfl (by decide) (fun h77 => ?_) (fun h77 => ?_)
          · have hh := zb_ne h77
            refine ev_aload_n (q := 84) dX7_toAsk_83 rfl rfl ?_
            refine ev_iload_n (q := 85) dX7_toAsk_84 rfl rfl ?_
            refine ev_iload_n (q := 86) dX7_toAsk_85 rfl rfl ?_
            refine ev_iconst (q := 87) (1 : Int32) dX7_toAsk_86 rfl (by decide) ?_
            refine ev_iload (q := 89) dX7_toAsk_87 rfl rfl ?_
            refine ev_ishl (q := 90) dX7_toAsk_89 rfl ?_
            refine ev_cV (q := 93) (ci := 7) dX7_toAsk_90 rfl okX7_setsWithout lmRX7_216 imX7_setsWithout seX7_setsWithout (by first | rfl | assumption | exact zf_kd (by assumption) | exact zw_kd (by assumption) | exact zt_kd (by assumption)) (by first | decide | exact zf_lt (by assumption) | exact zf_lt1 (by assumption) | exact zf_lt2 (by assumption) | exact zf_lt3 (by assumption) | exact zf_lt4 (by assumption) | exact zw_lt (by assumption) | exact zw_lt1 (by assumption) | exact zw_lt2 (by assumption) | exact zw_lt3 (by assumption) | exact zw_lt4 (by assumption) | exact zt_lt (by assumption)) (by decide) rfl (c_X7_setsWithout G fo I1 hs1 (zwo_lt hm) (zsh i) c (show nI h &&& (zsh i ^^^ (-1)) = nI (zwo h i) by rw [zsh_N i (by omega), nI_not (by omega)]; rfl)) (by decide) rfl rfl (Nat.le_of_ble_eq_true rfl) (fun v90 n90 I90 P90 hR90 => ?_)
            obtain ⟨rfl, rfl, rfl, hf2⟩ := hR90
            rw [hV, hf 119 (by decide)]
            refine ev_istoreL (q := 95) (L9 := [_, _, _, _, _, _, _, _, _, _]) dX7_toAsk_93 rfl (by decide) rfl rfl ?_
            refine ev_iload (q := 97) dX7_toAsk_95 rfl rfl ?_
            refine ev_iload (q := 99) dX7_toAsk_97 rfl rfl ?_
            refine ev_iload (q := 101) dX7_toAsk_99 rfl rfl ?_
            refine ev_isub (q := 102) dX7_toAsk_101 rfl ?_
            refine ev_minI (q := 105) dX7_toAsk_102 rfl lmRX7_205 smminI iniMath cdminI (by decide) (Nat.le_of_ble_eq_true rfl) ?_
            refine ev_istoreL (q := 107) (L9 := [_, _, _, _, _, _, _, _, _, _]) dX7_toAsk_105 rfl (by decide) rfl rfl ?_
            refine ev_iload (q := 109) dX7_toAsk_107 rfl rfl ?_
            refine ev_iload (q := 111) dX7_toAsk_109 rfl rfl ?_
            refine ev_icmp_le (q := 114) (t := 122) dX7_toAsk_111 rfl (by decide) (fun h111 => ?_) (fun h111 => ?_)
            · refine ev_iincL (q := 125) (L9 := [_, _, _, _, _, _, _, _, _, _]) (1 : Int32) dX7_toAsk_122 rfl rfl (by decide) (by decide) rfl rfl ?_
              refine ev_goto (t := 54) dX7_toAsk_125 (by decide) ?_
              rw [nI_1]
              refine ev_wk (L' := [some (.ref 0), some (.int (nI t)), some (.int c), some (.int (nI h)), some (.int _), some (.int _), some (.int S), some (.int _), none, none]) ⟨rfl, rfl, rfl, rfl, rfl, rfl, rfl, rfl, trivial⟩ ?_
              exact ih (i + 1) _ _ _ (by omega) (by omega) (fun c hc => (hf2 c hc).trans (hf c hc)) (by rw [zTA_0 h0 hh (Int32.not_lt.mpr h111)])
            · refine ev_iload (q := 116) dX7_toAsk_114 rfl rfl ?_
              refine ev_istoreL (q := 118) (L9 := [_, _, _, _, _, _, _, _, _, _]) dX7_toAsk_116 rfl (by decide) rfl rfl ?_
              refine ev_iload (q := 120) dX7_toAsk_118 rfl rfl ?_
              refine ev_istoreL (q := 122) (L9 := [_, _, _, _, _, _, _, _, _, _]) dX7_toAsk_120 rfl (by decide) rfl rfl ?_
              refine ev_iincL (q := 125) (L9 := [_, _, _, _, _, _, _, _, _, _]) (1 : Int32) dX7_toAsk_122 rfl rfl (by decide) (by decide) rfl rfl ?_
              refine ev_goto (t := 54) dX7_toAsk_125 (by decide) ?_
              rw [nI_1]
              refine ev_wk (L' := [some (.ref 0), some (.int (nI t)), some (.int c), some (.int (nI h)), some (.int _), some (.int _), some (.int S), some (.int _), none, none]) ⟨rfl, rfl, rfl, rfl, rfl, rfl, rfl, rfl, trivial⟩ ?_
              exact ih (i + 1) _ _ _ (by omega) (by omega) (fun c hc => (hf2 c hc).trans (hf c hc)) (by rw [zTA_1 h0 hh (Int32.not_le.mp h111)]; rfl)
          · have hh := zb_eq h77
            refine ev_goto (t := 122) dX7_toAsk_80 (by decide) ?_
            refine ev_iincL (q := 125) (L9 := [_, _, _, _, _, _, _, _, _, _]) (1 : Int32) dX7_toAsk_122 rfl rfl (by decide) (by decide) rfl rfl ?_
            refine ev_goto (t := 54) dX7_toAsk_125 (by decide) ?_
            rw [nI_1]
            refine ev_wk (L' := [some (.ref 0), some (.int (nI t)), some (.int c), some (.int (nI h)), some (.int _), some (.int _), some (.int S), some (.int _), none, none]) ⟨rfl, rfl, rfl, rfl, rfl, rfl, rfl, rfl, trivial⟩ ?_
            exact ih (i + 1) _ _ _ (by omega) (by omega) hf (by rw [zTA_n hh]; exact h0)
  exact lp54 (N + 1) 0 _ _ _ (by omega) (by omega) (fun _ _ => rfl) rfl
set_option maxHeartbeats 4000000 in
set_option maxRecDepth 100000 in
theorem c_X7_toAsk (G : zq_G) (fo : Bool) (I : zq_I) {N T Y : Nat} (hs : zS fo N T Y I) (x c : Int32) : zq_Met G mX7_toAsk 5 0 0 [.ref 0, .int x, .int c] 138 I (zPs fo) (zq_fr (some (.int (zpick x T (-1) (fun t => zAsk (I 119 4) (zV I) N c t)))) fo I) := by
  refine zq_Met.of okX7_toAsk (Nat.le_of_ble_eq_true rfl) ?_
  show zq_E _ _ _ _ _ _ _ [some (.ref 0), some (.int x), some (.int c), none, none, none, none, none, none, none] _ _ _ _ _
  have hN8 := hs.n8
  have hN := hs.ppl
  have hfF := zF_is fo
  refine ev_aload_n (q := 1) dX7_toAsk_0 rfl rfl ?_
  refine ev_getR (q := 4) (ci := 7) (f := 9) dX7_toAsk_1 rfl (by first | rfl | assumption | exact zf_kd (by assumption) | exact zw_kd (by assumption) | exact zt_kd (by assumption)) (by first | decide | exact zf_lt (by assumption) | exact zf_lt1 (by assumption) | exact zf_lt2 (by assumption) | exact zf_lt3 (by assumption) | exact zf_lt4 (by assumption) | exact zw_lt (by assumption) | exact zw_lt1 (by assumption) | exact zw_lt2 (by assumption) | exact zw_lt3 (by assumption) | exact zw_lt4 (by assumption) | exact zt_lt (by assumption)) (by decide) (by decide) lfRX7_66 rfl (by first | rfl | assumption | exact zf_p4 _ (by assumption) | exact zf_p5 _ (by assumption) | exact zf_p6 _ (by assumption) | exact zf_p7 _ (by assumption) | exact zw_p1 _ (by assumption) | exact zw_p2 _ (by assumption) | exact zw_p3 _ (by assumption) | exact zw_p4 _ (by assumption)) ?_
  refine ev_iload_n (q := 5) dX7_toAsk_4 rfl rfl ?_
  refine ev_pV (q := 8) (ci := 0) dX7_toAsk_5 rfl okX0_hasTown lmRX7_149 imX0_hasTown seX0_hasTown (by first | rfl | assumption | exact zf_kd (by assumption) | exact zw_kd (by assumption) | exact zt_kd (by assumption)) (by first | decide | exact zf_lt (by assumption) | exact zf_lt1 (by assumption) | exact zf_lt2 (by assumption) | exact zf_lt3 (by assumption) | exact zf_lt4 (by assumption) | exact zw_lt (by assumption) | exact zw_lt1 (by assumption) | exact zw_lt2 (by assumption) | exact zw_lt3 (by assumption) | exact zw_lt4 (by assumption) | exact zt_lt (by assumption)) (by decide) rfl (c_X0_hasTown G fo I hfF _) (by decide) rfl rfl (Nat.le_of_ble_eq_true rfl) ?_
  refine ev_if_ne (q := 11) (t := 13) dX7_toAsk_8 rfl (by decide) (fun h8 => ?_) (fun h8 => ?_)
  · obtain ⟨t, ht, rfl⟩ := zin_t hs.t4' (show zin x (nI T) = true by rw [hs.twn] at h8; exact zb_ne h8)
    have ht4 : t < 4 := by have := hs.t4; omega
    refine ev_iload_n (q := 14) dX7_toAsk_13 rfl rfl ?_
    refine ev_if_lt (q := 17) (t := 23) dX7_toAsk_14 rfl (by decide) (fun h14 => ?_) (fun h14 => ?_)
    · refine ev_bipush (q := 25) ((-2) : Int32) dX7_toAsk_23 rfl (by decide) ?_
      exact ev_iret dX7_toAsk_25 rfl (by first | rfl | exact zb_nar _ | assumption) (⟨by rw [zpick_t ht hs.t4']; unfold zAsk; first | (rw [zm_f1 h14]; rfl) | (rw [zm_f2 h20]; rfl), rfl, rfl, zFC.rf⟩)
    · refine ev_iload_n (q := 18) dX7_toAsk_17 rfl rfl ?_
      refine ev_bipush (q := 20) (99 : Int32) dX7_toAsk_18 rfl (by decide) ?_
      refine ev_icmp_le (q := 23) (t := 26) dX7_toAsk_20 rfl (by decide) (fun h20 => ?_) (fun h20 => ?_)
      · refine ev_aload_n (q := 27) dX7_toAsk_26 rfl rfl ?_
        refine ev_getR (q := 30) (ci := 7) (f := 9) dX7_toAsk_27 rfl (by first | rfl | assumption | exact zf_kd (by assumption) | exact zw_kd (by assumption) | exact zt_kd (by assumption)) (by first | decide | exact zf_lt (by assumption) | exact zf_lt1 (by assumption) | exact zf_lt2 (by assumption) | exact zf_lt3 (by assumption) | exact zf_lt4 (by assumption) | exact zw_lt (by assumption) | exact zw_lt1 (by assumption) | exact zw_lt2 (by assumption) | exact zw_lt3 (by assumption) | exact zw_lt4 (by assumption) | exact zt_lt (by assumption)) (by decide) (by decide) lfRX7_66 rfl (by first | rfl | assumption | exact zf_p4 _ (by assumption) | exact zf_p5 _ (by assumption) | exact zf_p6 _ (by assumption) | exact zf_p7 _ (by assumption) | exact zw_p1 _ (by assumption) | exact zw_p2 _ (by assumption) | exact zw_p3 _ (by assumption) | exact zw_p4 _ (by assumption)) ?_
        refine ev_iload_n (q := 31) dX7_toAsk_30 rfl rfl ?_
        refine ev_pV (q := 34) (ci := 0) dX7_toAsk_31 rfl okX0_ofHome lmRX7_161 imX0_ofHome seX0_ofHome (by first | rfl | assumption | exact zf_kd (by assumption) | exact zw_kd (by assumption) | exact zt_kd (by assumption)) (by first | decide | exact zf_lt (by assumption) | exact zf_lt1 (by assumption) | exact zf_lt2 (by assumption) | exact zf_lt3 (by assumption) | exact zf_lt4 (by assumption) | exact zw_lt (by assumption) | exact zw_lt1 (by assumption) | exact zw_lt2 (by assumption) | exact zw_lt3 (by assumption) | exact zw_lt4 (by assumption) | exact zt_lt (by assumption)) (by decide) rfl (c_X0_ofHome G fo I (zV I) hfF hN8 hN (fun p hp => hs.hom hp) _) (by decide) rfl rfl (Nat.le_of_ble_eq_true rfl) ?_
        rw [zOH_n _ hN8]
        have hm := zOHn_lt (zV I) hN8 (nI t)
        refine ev_istore_nL (q := 35) (L9 := [_, _, _, _, _, _, _, _, _, _]) dX7_toAsk_34 rfl (by decide) rfl rfl ?_
        refine ev_bipush (q := 37) ((-9) : Int32) dX7_toAsk_35 rfl (by decide) ?_
        refine ev_istoreL (q := 39) (L9 := [_, _, _, _, _, _, _, _, _, _]) dX7_toAsk_37 rfl (by decide) rfl rfl ?_
        refine ev_iconst (q := 40) ((-1) : Int32) dX7_toAsk_39 rfl (by decide) ?_
        refine ev_istoreL (q := 42) (L9 := [_, _, _, _, _, _, _, _, _, _]) dX7_toAsk_40 rfl (by decide) rfl rfl ?_
        refine ev_aload_n (q := 43) dX7_toAsk_42 rfl rfl ?_
        refine ev_iload_n (q := 44) dX7_toAsk_43 rfl rfl ?_
        refine ev_iload_n (q := 45) dX7_toAsk_44 rfl rfl ?_
        refine ev_iconst (q := 46) (0 : Int32) dX7_toAsk_45 rfl (by decide) ?_
        refine ev_cV (q := 49) (ci := 7) dX7_toAsk_46 rfl okX7_setsWithout lmRX7_216 imX7_setsWithout seX7_setsWithout (by first | rfl | assumption | exact zf_kd (by assumption) | exact zw_kd (by assumption) | exact zt_kd (by assumption)) (by first | decide | exact zf_lt (by assumption) | exact zf_lt1 (by assumption) | exact zf_lt2 (by assumption) | exact zf_lt3 (by assumption) | exact zf_lt4 (by assumption) | exact zw_lt (by assumption) | exact zw_lt1 (by assumption) | exact zw_lt2 (by assumption) | exact zw_lt3 (by assumption) | exact zw_lt4 (by assumption) | exact zt_lt (by assumption)) (by decide) rfl (c_X7_setsWithout G fo I hs hm 0 c (nI_not0 hm)) (by decide) rfl rfl (Nat.le_of_ble_eq_true rfl) (fun v46 n46 I46 P46 hR46 => ?_)
        obtain ⟨rfl, rfl, rfl, hf2⟩ := hR46
        have hs1 := (z4_FC hf2 : zFC fo I I46).S hs
        have hV := (z4_FC hf2 : zFC fo I I46).V
        refine ev_istoreL (q := 51) (L9 := [_, _, _, _, _, _, _, _, _, _]) dX7_toAsk_49 rfl (by decide) rfl rfl ?_
        refine ev_iconst (q := 52) (0 : Int32) dX7_toAsk_51 rfl (by decide) ?_
        refine ev_istoreL (q := 54) (L9 := [_, _, _, _, _, _, _, _, _, _]) dX7_toAsk_52 rfl (by decide) rfl rfl ?_
        by_cases hS : zSW (I 119 4) (zV I) N (zOHn (zV I) N (nI t)) (zOHn (zV I) N (nI t)) c ≤ 0
        · refine ev_iload (q := 56) dX7_toAsk_54 rfl rfl ?_
          refine ev_aload_n (q := 57) dX7_toAsk_56 rfl rfl ?_
          refine ev_getR (q := 60) (ci := 7) (f := 9) dX7_toAsk_57 rfl (by first | rfl | assumption | exact zf_kd (by assumption) | exact zw_kd (by assumption) | exact zt_kd (by assumption)) (by first | decide | exact zf_lt (by assumption) | exact zf_lt1 (by assumption) | exact zf_lt2 (by assumption) | exact zf_lt3 (by assumption) | exact zf_lt4 (by assumption) | exact zw_lt (by assumption) | exact zw_lt1 (by assumption) | exact zw_lt2 (by assumption) | exact zw_lt3 (by assumption) | exact zw_lt4 (by assumption) | exact zt_lt (by assumption)) (by decide) (by decide) lfRX7_66 rfl (by first | rfl | assumption | exact zf_p4 _ (by assumption) | exact zf_p5 _ (by assumption) | exact zf_p6 _ (by assumption) | exact zf_p7 _ (by assumption) | exact zw_p1 _ (by assumption) | exact zw_p2 _ (by assumption) | exact zw_p3 _ (by assumption) | exact zw_p4 _ (by assumption)) ?_
          refine ev_getI (q := 63) (ci := 0) (f := 2) dX7_toAsk_60 rfl (by first | rfl | assumption | exact zf_kd (by assumption) | exact zw_kd (by assumption) | exact zt_kd (by assumption)) (by first | decide | exact zf_lt (by assumption) | exact zf_lt1 (by assumption) | exact zf_lt2 (by assumption) | exact zf_lt3 (by assumption) | exact zf_lt4 (by assumption) | exact zw_lt (by assumption) | exact zw_lt1 (by assumption) | exact zw_lt2 (by assumption) | exact zw_lt3 (by assumption) | exact zw_lt4 (by assumption) | exact zt_lt (by assumption)) (by decide) (by decide) lfRX7_93 rfl ?_
          refine ev_icmp_ge (q := 66) (t := 128) dX7_toAsk_63 rfl (by decide) (fun h63 => ?_) (fun h63 => ?_)
          · refine ev_iload (q := 130) dX7_toAsk_128 rfl rfl ?_
            exact ev_iret dX7_toAsk_130 rfl (by first | rfl | exact zb_nar _ | assumption) (⟨by rw [zpick_t ht hs.t4']; unfold zAsk; rw [zm_t h14 h20, if_neg (by decide)]; exact congrArg (fun z => some (Value.int z)) (if_pos hS).symm, rfl, rfl, z4_FC hf2⟩)
          · refine ev_iload (q := 68) dX7_toAsk_66 rfl rfl ?_
            refine ev_if_le (q := 71) (t := 128) dX7_toAsk_68 rfl (by decide) (fun h68 => ?_) (fun h68 => ?_)
            · refine ev_iload (q := 130) dX7_toAsk_128 rfl rfl ?_
              exact ev_iret dX7_toAsk_130 rfl (by first | rfl | exact zb_nar _ | assumption) (⟨by rw [zpick_t ht hs.t4']; unfold zAsk; rw [zm_t h14 h20, if_neg (by decide)]; exact congrArg (fun z => some (Value.int z)) (if_pos hS).symm, rfl, rfl, z4_FC hf2⟩)
            · exact absurd hS h68
        · rw [zpick_t ht hs.t4']
          unfold zAsk
          rw [zm_t h14 h20, if_neg (by decide), if_neg hS]
          refine ev_post ?_ (lp_X7_toAsk G fo _ hs1 (t := t) (c := c) hm hS)
          rintro v n' I' P' ⟨rfl, rfl, rfl, hf⟩
          exact ⟨by rw [hV, hf2 119 (by decide)]; rfl, rfl, rfl, (z4_FC hf2).tr (z4_FC hf)⟩
      · refine ev_bipush (q := 25) ((-2) : Int32) dX7_toAsk_23 rfl (by decide) ?_
        exact ev_iret dX7_toAsk_25 rfl (by first | rfl | exact zb_nar _ | assumption) (⟨by rw [zpick_t ht hs.t4']; unfold zAsk; first | (rw [zm_f1 h14]; rfl) | (rw [zm_f2 h20]; rfl), rfl, rfl, zFC.rf⟩)
  · have hz : zin x (nI T) = false := by rw [hs.twn] at h8; exact zb_eq h8
    refine ev_iconst (q := 12) ((-1) : Int32) dX7_toAsk_11 rfl (by decide) ?_
    exact ev_iret dX7_toAsk_12 rfl (by first | rfl | exact zb_nar _ | assumption) (⟨by rw [zpick_f hz], rfl, rfl, zFC.rf⟩)
