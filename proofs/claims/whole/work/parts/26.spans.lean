def zOHn (V : zq_V) (N : Nat) (t : Int32) : Nat := zbn (fun i => vH V i == t) N
theorem zOHn_lt (V : zq_V) {N : Nat} (hN : N ≤ 8) (t : Int32) : zOHn V N t < 256 := by
  have h1 := zbn_lt (fun i => vH V i == t) N
  have h2 : 2 ^ N ≤ 2 ^ 8 := Nat.pow_le_pow_right (by omega) hN
  unfold zOHn; omega
theorem zOH_n (V : zq_V) {N : Nat} (hN : N ≤ 8) (t : Int32) : zOH V N t = nI (zOHn V N t) := zbits_N _ N (by omega)
def zSpS (l : Int32) (V : zq_V) (N h : Nat) (c : Int32) (s : Int32 × Int32 × Int32) (g : Nat) : Int32 × Int32 × Int32 :=
  if zCIA l V N (nI h) (nI g) = c then (s.1 + 1, (if s.1 = 0 then zpop (nI h &&& (nI g ^^^ (-1))) else if zpop (nI h &&& (nI g ^^^ (-1))) < s.2.1 then zpop (nI h &&& (nI g ^^^ (-1))) else s.2.1), (if s.2.2 < zpop (nI h &&& (nI g ^^^ (-1))) then zpop (nI h &&& (nI g ^^^ (-1))) else s.2.2)) else s
theorem zSp_n {l : Int32} {V : zq_V} {N h : Nat} {c : Int32} {s : Int32 × Int32 × Int32} {g : Nat} (h1 : ¬ zCIA l V N (nI h) (nI g) = c) : zSpS l V N h c s g = s := by unfold zSpS; rw [if_neg h1]
theorem zSp_0 {l : Int32} {V : zq_V} {N h : Nat} {c a b e : Int32} {g : Nat} (h1 : zCIA l V N (nI h) (nI g) = c) (h2 : a = 0) : zSpS l V N h c (a, b, e) g = (a + 1, zpop (nI h &&& (nI g ^^^ (-1))), if e < zpop (nI h &&& (nI g ^^^ (-1))) then zpop (nI h &&& (nI g ^^^ (-1))) else e) := by
  unfold zSpS; rw [if_pos h1]; simp only [if_pos h2]
theorem zSp_1 {l : Int32} {V : zq_V} {N h : Nat} {c a b e : Int32} {g : Nat} (h1 : zCIA l V N (nI h) (nI g) = c) (h2 : ¬ a = 0) : zSpS l V N h c (a, b, e) g = (a + 1, (if zpop (nI h &&& (nI g ^^^ (-1))) < b then zpop (nI h &&& (nI g ^^^ (-1))) else b), if e < zpop (nI h &&& (nI g ^^^ (-1))) then zpop (nI h &&& (nI g ^^^ (-1))) else e) := by
  unfold zSpS; rw [if_pos h1]; simp only [if_neg h2]
noncomputable def zSpan (l : Int32) (V : zq_V) (N : Nat) (c w : Int32) (t : Nat) : Int32 := if zm99 c = false ∨ w < 0 ∨ ¬ w ≤ 2 then -2 else
  if w = 0 then ((zsub (zOHn V N (nI t))).foldl (zSpS l V N (zOHn V N (nI t)) c) (0, -9, -9)).1 else if w = 1 then ((zsub (zOHn V N (nI t))).foldl (zSpS l V N (zOHn V N (nI t)) c) (0, -9, -9)).2.1 else ((zsub (zOHn V N (nI t))).foldl (zSpS l V N (zOHn V N (nI t)) c) (0, -9, -9)).2.2
set_option maxHeartbeats 4000000 in
set_option maxRecDepth 100000 in
theorem lp_X7_spans (G : zq_G) (fo : Bool) (I : zq_I) {N T Y : Nat} (hs : zS fo N T Y I) {h t LN : Nat} {Z : List Nat} {c w : Int32} (hzat : ∀ k g, Z[k]? = some g → zpq (nI h) k = nI g) (hLN : LN = Z.length) (hlen : LN ≤ 256) : zq_E G mX7_spans 6 0 0 false 71 [some (.ref 0), some (.int (nI t)), some (.int c), some (.int w), some (.int (nI h)), some (.int (nI LN)), some (.int 0), some (.int (-9)), some (.int (-9)), some (.int 0), some (.int 0), none] [] 138 I (zPs fo) (zq_f4 (some (.int (if w = 0 then (Z.foldl (zSpS (I 119 4) (zV I) N h c) (0, -9, -9)).1 else if w = 1 then (Z.foldl (zSpS (I 119 4) (zV I) N h c) (0, -9, -9)).2.1 else (Z.foldl (zSpS (I 119 4) (zV I) N h c) (0, -9, -9)).2.2))) fo I) := by
  have hN8 := hs.n8
  have hN := hs.ppl
  have hfF := zF_is fo
  have lp71 : ∀ (k i : Nat) (I1 : zq_I) (sts few mst aw : Int32), LN + 1 ≤ i + k → i ≤ LN → (∀ c, c ≠ 4 → I1 c = I c) → (sts, few, mst) = (Z.take i).foldl (zSpS (I 119 4) (zV I) N h c) (0, -9, -9) → aw = zpq (nI h) i → zq_E G mX7_spans 6 0 0 false 71 [some (.ref 0), some (.int (nI t)), some (.int c), some (.int w), some (.int (nI h)), some (.int (nI LN)), some (.int sts), some (.int few), some (.int mst), some (.int aw), some (.int (nI i)), none] [] 138 I1 (zPs fo) (zq_f4 (some (.int (if w = 0 then (Z.foldl (zSpS (I 119 4) (zV I) N h c) (0, -9, -9)).1 else if w = 1 then (Z.foldl (zSpS (I 119 4) (zV I) N h c) (0, -9, -9)).2.1 else (Z.foldl (zSpS (I 119 4) (zV I) N h c) (0, -9, -9)).2.2))) fo I) := by
    intro k
    induction k with
    | zero => intro i I1 sts few mst aw hk hi; exact absurd hk (by omega)
    | succ k ih =>
      intro i I1 sts few mst aw hk hi hf h0 haw
      have hFC : zFC fo I I1 := z4_FC hf
      have hs1 := hFC.S hs
      have hV := hFC.V
      refine ev_iload (q := 73) dX7_spans_71 rfl rfl ?_
      refine ev_iload (q := 75) dX7_spans_73 rfl rfl ?_
      refine ev_icmp_ge (q := 78) (t := 148) dX7_spans_75 rfl (by decide) (fun h75 => ?_) (fun h75 => ?_)
      · obtain rfl : i = LN := by rw [nI_leI (by omega) (by omega)] at h75; omega
        refine ev_iload_n (q := 149) dX7_spans_148 rfl rfl ?_
        refine ev_if_ne (q := 152) (t := 157) dX7_spans_149 rfl (by decide) (fun h149 => ?_) (fun h149 => ?_)
        · refine ev_iload_n (q := 158) dX7_spans_157 rfl rfl ?_
          refine ev_iconst (q := 159) (1 : Int32) dX7_spans_158 rfl (by decide) ?_
          refine ev_icmp_ne (q := 162) (t := 167) dX7_spans_159 rfl (by decide) (fun h159 => ?_) (fun h159 => ?_)
          · refine ev_iload (q := 169) dX7_spans_167 rfl rfl ?_
            exact ev_iret dX7_spans_169 rfl (by first | rfl | exact zb_nar _ | assumption) (⟨by rw [hLN, List.take_length] at h0; rw [← h0]; simp [h75, h149, h159], rfl, rfl, hf⟩)
          · refine ev_iload (q := 164) dX7_spans_162 rfl rfl ?_
            refine ev_goto (t := 169) dX7_spans_164 (by decide) ?_
            exact ev_iret dX7_spans_169 rfl (by first | rfl | exact zb_nar _ | assumption) (⟨by rw [hLN, List.take_length] at h0; rw [← h0]; simp [h75, h149, h159], rfl, rfl, hf⟩)
        · refine ev_iload (q := 154) dX7_spans_152 rfl rfl ?_
          refine ev_goto (t := 169) dX7_spans_154 (by decide) ?_
          exact ev_iret dX7_spans_169 rfl (by first | rfl | exact zb_nar _ | assumption) (⟨by rw [hLN, List.take_length] at h0; rw [← h0]; simp [h75, h149], rfl, rfl, hf⟩)
      · have hlt_i : i < LN := by rw [nI_leI (by omega) (by omega)] at h75; omega
        obtain ⟨g, hg⟩ : ∃ g, Z[i]? = some g := ⟨_, List.getElem?_eq_getElem (by omega)⟩
        obtain rfl : aw = nI g := by rw [haw, hzat _ _ hg]
        refine ev_aload_n (q := 79) dX7_spans_78 rfl rfl ?_
        refine ev_iload (q := 81) dX7_spans_79 rfl rfl ?_
        refine ev_iload (q := 83) dX7_spans_81 rfl rfl ?_
        refine ev_cV (q := 86) (ci := 7) dX7_spans_83 rfl okX7_countIfAway lmRX7_202 imX7_countIfAway seX7_countIfAway (by first | rfl | assumption | exact zf_kd (by assumption) | exact zw_kd (by assumption) | exact zt_kd (by assumption)) (by first | decide | exact zf_lt (by assumption) | exact zf_lt1 (by assumption) | exact zf_lt2 (by assumption) | exact zf_lt3 (by assumption) | exact zf_lt4 (by assumption) | exact zw_lt (by assumption) | exact zw_lt1 (by assumption) | exact zw_lt2 (by assumption) | exact zw_lt3 (by assumption) | exact zw_lt4 (by assumption) | exact zt_lt (by assumption)) (by decide) rfl (c_X7_countIfAway G fo I1 hs1 _ _) (by decide) rfl rfl (Nat.le_of_ble_eq_true rfl) (fun v83 n83 I83 P83 hR83 => ?_)
        obtain ⟨rfl, rfl, rfl, hf2⟩ := hR83
        rw [hV, hf 119 (by decide)]
        refine ev_iload_n (q := 87) dX7_spans_86 rfl rfl ?_
        refine ev_icmp_ne (q := 90) (t := 133) dX7_spans_87 rfl (by decide) (fun h87 => ?_) (fun h87 => ?_)
        · refine ev_iload (q := 135) dX7_spans_133 rfl rfl ?_
          refine ev_iload (q := 137) dX7_spans_135 rfl rfl ?_
          refine ev_pS (q := 140) dX7_spans_137 rfl okX7_nextPart lmRX7_213 smX7_nextPart (c_X7_nextPart G _ _ _ _ _) (by decide) rfl rfl (Nat.le_of_ble_eq_true rfl) ?_
          refine ev_istoreL (q := 142) (L9 := [_, _, _, _, _, _, _, _, _, _, _, _]) dX7_spans_140 rfl (by decide) rfl rfl ?_
          refine ev_iincL (q := 145) (L9 := [_, _, _, _, _, _, _, _, _, _, _, _]) (1 : Int32) dX7_spans_142 rfl rfl (by decide) (by decide) rfl rfl ?_
          refine ev_goto (t := 71) dX7_spans_145 (by decide) ?_
          rw [nI_1]
          refine ev_wk (L' := [some (.ref 0), some (.int (nI t)), some (.int c), some (.int w), some (.int (nI h)), some (.int (nI LN)), some (.int _), some (.int _), some (.int _), some (.int _), some (.int _), none]) ⟨rfl, rfl, rfl, rfl, rfl, rfl, rfl, rfl, rfl, rfl, rfl, trivial⟩ ?_
          exact ih (i + 1) _ _ _ _ _ (by omega) (by omega) (fun c hc => (hf2 c hc).trans (hf c hc)) (by rw [zfold_s hg, ← h0, zSp_n h87]) (by show _ = (zpq (nI h) i - nI h) &&& nI h; rw [hzat _ _ hg])
        · refine ev_iload (q := 92) dX7_spans_90 rfl rfl ?_
          refine ev_iload (q := 94) dX7_spans_92 rfl rfl ?_
          refine ev_iconst (q := 95) ((-1) : Int32) dX7_spans_94 rfl (by decide) ?_
          refine ev_ixor (q := 96) dX7_spans_95 rfl ?_
          refine ev_iand (q := 97) dX7_spans_96 rfl ?_
          refine ev_pS (q := 100) dX7_spans_97 rfl okJ6_bitCount_0f7a4 lmRX7_197 smJ6_bitCount_0f7a4 (c_J6_bitCount_0f7a4 G _ _ _ _) (by decide) rfl rfl (Nat.le_of_ble_eq_true rfl) ?_
          refine ev_istoreL (q := 102) (L9 := [_, _, _, _, _, _, _, _, _, _, _, _]) dX7_spans_100 rfl (by decide) rfl rfl ?_
          refine ev_iload (q := 104) dX7_spans_102 rfl rfl ?_
          refine ev_if_ne (q := 107) (t := 112) dX7_spans_104 rfl (by decide) (fun h104 => ?_) (fun h104 => ?_)
          · refine ev_iload (q := 114) dX7_spans_112 rfl rfl ?_
            refine ev_iload (q := 116) dX7_spans_114 rfl rfl ?_
            refine ev_minI (q := 119) dX7_spans_116 rfl lmRX7_205 smminI iniMath cdminI (by decide) (Nat.le_of_ble_eq_true rfl) ?_
            refine ev_istoreL (q := 121) (L9 := [_, _, _, _, _, _, _, _, _, _, _, _]) dX7_spans_119 rfl (by decide) rfl rfl ?_
            refine ev_iload (q := 123) dX7_spans_121 rfl rfl ?_
            refine ev_iload (q := 125) dX7_spans_123 rfl rfl ?_
            refine ev_maxI (q := 128) dX7_spans_125 rfl lmRX7_210 smmaxI iniMath cdmaxI (by decide) (Nat.le_of_ble_eq_true rfl) ?_
            refine ev_istoreL (q := 130) (L9 := [_, _, _, _, _, _, _, _, _, _, _, _]) dX7_spans_128 rfl (by decide) rfl rfl ?_
            refine ev_iincL (q := 133) (L9 := [_, _, _, _, _, _, _, _, _, _, _, _]) (1 : Int32) dX7_spans_130 rfl rfl (by decide) (by decide) rfl rfl ?_
            refine ev_iload (q := 135) dX7_spans_133 rfl rfl ?_
            refine ev_iload (q := 137) dX7_spans_135 rfl rfl ?_
            refine ev_pS (q := 140) dX7_spans_137 rfl okX7_nextPart lmRX7_213 smX7_nextPart (c_X7_nextPart G _ _ _ _ _) (by decide) rfl rfl (Nat.le_of_ble_eq_true rfl) ?_
            refine ev_istoreL (q := 142) (L9 := [_, _, _, _, _, _, _, _, _, _, _, _]) dX7_spans_140 rfl (by decide) rfl rfl ?_
            refine ev_iincL (q := 145) (L9 := [_, _, _, _, _, _, _, _, _, _, _, _]) (1 : Int32) dX7_spans_142 rfl rfl (by decide) (by decide) rfl rfl ?_
            refine ev_goto (t := 71) dX7_spans_145 (by decide) ?_
            rw [nI_1]
            refine ev_wk (L' := [some (.ref 0), some (.int (nI t)), some (.int c), some (.int w), some (.int (nI h)), some (.int (nI LN)), some (.int _), some (.int _), some (.int _), some (.int _), some (.int _), none]) ⟨rfl, rfl, rfl, rfl, rfl, rfl, rfl, rfl, rfl, rfl, rfl, trivial⟩ ?_
            exact ih (i + 1) _ _ _ _ _ (by omega) (by omega) (fun c hc => (hf2 c hc).trans (hf c hc)) (by rw [zfold_s hg, ← h0, zSp_1 h87 h104]) (by show _ = (zpq (nI h) i - nI h) &&& nI h; rw [hzat _ _ hg])
          · refine ev_iload (q := 109) dX7_spans_107 rfl rfl ?_
            refine ev_goto (t := 119) dX7_spans_109 (by decide) ?_
            refine ev_istoreL (q := 121) (L9 := [_, _, _, _, _, _, _, _, _, _, _, _]) dX7_spans_119 rfl (by decide) rfl rfl ?_
            refine ev_iload (q := 123) dX7_spans_121 rfl rfl ?_
            refine ev_iload (q := 125) dX7_spans_123 rfl rfl ?_
            refine ev_maxI (q := 128) dX7_spans_125 rfl lmRX7_210 smmaxI iniMath cdmaxI (by decide) (Nat.le_of_ble_eq_true rfl) ?_
            refine ev_istoreL (q := 130) (L9 := [_, _, _, _, _, _, _, _, _, _, _, _]) dX7_spans_128 rfl (by decide) rfl rfl ?_
            refine ev_iincL (q := 133) (L9 := [_, _, _, _, _, _, _, _, _, _, _, _]) (1 : Int32) dX7_spans_130 rfl rfl (by decide) (by decide) rfl rfl ?_
            refine ev_iload (q := 135) dX7_spans_133 rfl rfl ?_
            refine ev_iload (q := 137) dX7_spans_135 rfl rfl ?_
            refine ev_pS (q := 140) dX7_spans_137 rfl okX7_nextPart lmRX7_213 smX7_nextPart (c_X7_nextPart G _ _ _ _ _) (by decide) rfl rfl (Nat.le_of_ble_eq_true rfl) ?_
            refine ev_istoreL (q := 142) (L9 := [_, _, _, _, _, _, _, _, _, _, _, _]) dX7_spans_140 rfl (by decide) rfl rfl ?_
            refine ev_iincL (q := 145) (L9 := [_, _, _, _, _, _, _, _, _, _, _, _]) (1 : Int32) dX7_spans_142 rfl rfl (by decide) (by decide) rfl rfl ?_
            refine ev_goto (t := 71) dX7_spans_145 (by decide) ?_
            rw [nI_1]
            refine ev_wk (L' := [some (.ref 0), some (.int (nI t)), some (.int c), some (.int w), some (.int (nI h)), some (.int (nI LN)), some (.int _), some (.int _), some (.int _), some (.int _), some (.int _), none]) ⟨rfl, rfl, rfl, rfl, rfl, rfl, rfl, rfl, rfl, rfl, rfl, trivial⟩ ?_
            exact ih (i + 1) _ _ _ _ _ (by omega) (by omega) (fun c hc => (hf2 c hc).trans (hf c hc)) (by rw [zfold_s hg, ← h0, zSp_0 h87 h104]) (by show _ = (zpq (nI h) i - nI h) &&& nI h; rw [hzat _ _ hg])
  exact lp71 (LN + 1) 0 _ _ _ _ _ (by omega) (by omega) (fun _ _ => rfl) rfl rfl
set_option maxHeartbeats 4000000 in
set_option maxRecDepth 100000 in
theorem c_X7_spans (G : zq_G) (fo : Bool) (I : zq_I) {N T Y : Nat} (hs : zS fo N T Y I) (x c w : Int32) : zq_Met G mX7_spans 6 0 0 [.ref 0, .int x, .int c, .int w] 138 I (zPs fo) (zq_fr (some (.int (zpick x T (-1) (fun t => zSpan (I 119 4) (zV I) N c w t)))) fo I) := by
  refine zq_Met.of okX7_spans (Nat.le_of_ble_eq_true rfl) ?_
  show zq_E _ _ _ _ _ _ _ [some (.ref 0), some (.int x), some (.int c), some (.int w), none, none, none, none, none, none, none, none] _ _ _ _ _
  have hN8 := hs.n8
  have hN := hs.ppl
  have hfF := zF_is fo
  refine ev_aload_n (q := 1) dX7_spans_0 rfl rfl ?_
  refine ev_getR (q := 4) (ci := 7) (f := 9) dX7_spans_1 rfl (by first | rfl | assumption | exact zf_kd (by assumption) | exact zw_kd (by assumption) | exact zt_kd (by assumption)) (by first | decide | exact zf_lt (by assumption) | exact zf_lt1 (by assumption) | exact zf_lt2 (by assumption) | exact zf_lt3 (by assumption) | exact zf_lt4 (by assumption) | exact zw_lt (by assumption) | exact zw_lt1 (by assumption) | exact zw_lt2 (by assumption) | exact zw_lt3 (by assumption) | exact zw_lt4 (by assumption) | exact zt_lt (by assumption)) (by decide) (by decide) lfRX7_66 rfl (by first | rfl | assumption | exact zf_p4 _ (by assumption) | exact zf_p5 _ (by assumption) | exact zf_p6 _ (by assumption) | exact zf_p7 _ (by assumption) | exact zw_p1 _ (by assumption) | exact zw_p2 _ (by assumption) | exact zw_p3 _ (by assumption) | exact zw_p4 _ (by assumption)) ?_
  refine ev_iload_n (q := 5) dX7_spans_4 rfl rfl ?_
  refine ev_pV (q := 8) (ci := 0) dX7_spans_5 rfl okX0_hasTown lmRX7_149 imX0_hasTown seX0_hasTown (by first | rfl | assumption | exact zf_kd (by assumption) | exact zw_kd (by assumption) | exact zt_kd (by assumption)) (by first | decide | exact zf_lt (by assumption) | exact zf_lt1 (by assumption) | exact zf_lt2 (by assumption) | exact zf_lt3 (by assumption) | exact zf_lt4 (by assumption) | exact zw_lt (by assumption) | exact zw_lt1 (by assumption) | exact zw_lt2 (by assumption) | exact zw_lt3 (by assumption) | exact zw_lt4 (by assumption) | exact zt_lt (by assumption)) (by decide) rfl (c_X0_hasTown G fo I hfF _) (by decide) rfl rfl (Nat.le_of_ble_eq_true rfl) ?_
  refine ev_if_ne (q := 11) (t := 13) dX7_spans_8 rfl (by decide) (fun h8 => ?_) (fun h8 => ?_)
  · obtain ⟨t, ht, rfl⟩ := zin_t hs.t4' (show zin x (nI T) = true by rw [hs.twn] at h8; exact zb_ne h8)
    have ht4 : t < 4 := by have := hs.t4; omega
    refine ev_iload_n (q := 14) dX7_spans_13 rfl rfl ?_
    refine ev_if_lt (q := 17) (t := 32) dX7_spans_14 rfl (by decide) (fun h14 => ?_) (fun h14 => ?_)
    · refine ev_bipush (q := 34) ((-2) : Int32) dX7_spans_32 rfl (by decide) ?_
      exact ev_iret dX7_spans_34 rfl (by first | rfl | exact zb_nar _ | assumption) (⟨by rw [zpick_t ht hs.t4']; unfold zSpan; rw [if_pos (by first | exact Or.inl (zm_f1 h14) | exact Or.inl (zm_f2 (Int32.not_le.mpr h20)) | exact Or.inr (Or.inl h24) | exact Or.inr (Or.inr h29))], rfl, rfl, zFC.rf⟩)
    · refine ev_iload_n (q := 18) dX7_spans_17 rfl rfl ?_
      refine ev_bipush (q := 20) (99 : Int32) dX7_spans_18 rfl (by decide) ?_
      refine ev_icmp_gt (q := 23) (t := 32) dX7_spans_20 rfl (by decide) (fun h20 => ?_) (fun h20 => ?_)
      · refine ev_bipush (q := 34) ((-2) : Int32) dX7_spans_32 rfl (by decide) ?_
        exact ev_iret dX7_spans_34 rfl (by first | rfl | exact zb_nar _ | assumption) (⟨by rw [zpick_t ht hs.t4']; unfold zSpan; rw [if_pos (by first | exact Or.inl (zm_f1 h14) | exact Or.inl (zm_f2 (Int32.not_le.mpr h20)) | exact Or.inr (Or.inl h24) | exact Or.inr (Or.inr h29))], rfl, rfl, zFC.rf⟩)
      · refine ev_iload_n (q := 24) dX7_spans_23 rfl rfl ?_
        refine ev_if_lt (q := 27) (t := 32) dX7_spans_24 rfl (by decide) (fun h24 => ?_) (fun h24 => ?_)
        · refine ev_bipush (q := 34) ((-2) : Int32) dX7_spans_32 rfl (by decide) ?_
          exact ev_iret dX7_spans_34 rfl (by first | rfl | exact zb_nar _ | assumption) (⟨by rw [zpick_t ht hs.t4']; unfold zSpan; rw [if_pos (by first | exact Or.inl (zm_f1 h14) | exact Or.inl (zm_f2 (Int32.not_le.mpr h20)) | exact Or.inr (Or.inl h24) | exact Or.inr (Or.inr h29))], rfl, rfl, zFC.rf⟩)
        · refine ev_iload_n (q := 28) dX7_spans_27 rfl rfl ?_
          refine ev_iconst (q := 29) (2 : Int32) dX7_spans_28 rfl (by decide) ?_
          refine ev_icmp_le (q := 32) (t := 35) dX7_spans_29 rfl (by decide) (fun h29 => ?_) (fun h29 => ?_)
          · refine ev_aload_n (q := 36) dX7_spans_35 rfl rfl ?_
            refine ev_getR (q := 39) (ci := 7) (f := 9) dX7_spans_36 rfl (by first | rfl | assumption | exact zf_kd (by assumption) | exact zw_kd (by assumption) | exact zt_kd (by assumption)) (by first | decide | exact zf_lt (by assumption) | exact zf_lt1 (by assumption) | exact zf_lt2 (by assumption) | exact zf_lt3 (by assumption) | exact zf_lt4 (by assumption) | exact zw_lt (by assumption) | exact zw_lt1 (by assumption) | exact zw_lt2 (by assumption) | exact zw_lt3 (by assumption) | exact zw_lt4 (by assumption) | exact zt_lt (by assumption)) (by decide) (by decide) lfRX7_66 rfl (by first | rfl | assumption | exact zf_p4 _ (by assumption) | exact zf_p5 _ (by assumption) | exact zf_p6 _ (by assumption) | exact zf_p7 _ (by assumption) | exact zw_p1 _ (by assumption) | exact zw_p2 _ (by assumption) | exact zw_p3 _ (by assumption) | exact zw_p4 _ (by assumption)) ?_
            refine ev_iload_n (q := 40) dX7_spans_39 rfl rfl ?_
            refine ev_pV (q := 43) (ci := 0) dX7_spans_40 rfl okX0_ofHome lmRX7_161 imX0_ofHome seX0_ofHome (by first | rfl | assumption | exact zf_kd (by assumption) | exact zw_kd (by assumption) | exact zt_kd (by assumption)) (by first | decide | exact zf_lt (by assumption) | exact zf_lt1 (by assumption) | exact zf_lt2 (by assumption) | exact zf_lt3 (by assumption) | exact zf_lt4 (by assumption) | exact zw_lt (by assumption) | exact zw_lt1 (by assumption) | exact zw_lt2 (by assumption) | exact zw_lt3 (by assumption) | exact zw_lt4 (by assumption) | exact zt_lt (by assumption)) (by decide) rfl (c_X0_ofHome G fo I (zV I) hfF hN8 hN (fun p hp => hs.hom hp) _) (by decide) rfl rfl (Nat.le_of_ble_eq_true rfl) ?_
            rw [zOH_n _ hN8]
            have hm := zOHn_lt (zV I) hN8 (nI t)
            have hd := zsub_dec _ hm
            refine ev_istoreL (q := 45) (L9 := [_, _, _, _, _, _, _, _, _, _, _, _]) dX7_spans_43 rfl (by decide) rfl rfl ?_
            refine ev_iconst (q := 46) (1 : Int32) dX7_spans_45 rfl (by decide) ?_
            refine ev_iload (q := 48) dX7_spans_46 rfl rfl ?_
            refine ev_pS (q := 51) dX7_spans_48 rfl okJ6_bitCount_0f7a4 lmRX7_197 smJ6_bitCount_0f7a4 (c_J6_bitCount_0f7a4 G _ _ _ _) (by decide) rfl rfl (Nat.le_of_ble_eq_true rfl) ?_
            refine ev_ishl (q := 52) dX7_spans_51 rfl ?_
            rw [hd.2.2]
            refine ev_istoreL (q := 54) (L9 := [_, _, _, _, _, _, _, _, _, _, _, _]) dX7_spans_52 rfl (by decide) rfl rfl ?_
            refine ev_iconst (q := 55) (0 : Int32) dX7_spans_54 rfl (by decide) ?_
            refine ev_istoreL (q := 57) (L9 := [_, _, _, _, _, _, _, _, _, _, _, _]) dX7_spans_55 rfl (by decide) rfl rfl ?_
            refine ev_bipush (q := 59) ((-9) : Int32) dX7_spans_57 rfl (by decide) ?_
            refine ev_istoreL (q := 61) (L9 := [_, _, _, _, _, _, _, _, _, _, _, _]) dX7_spans_59 rfl (by decide) rfl rfl ?_
            refine ev_bipush (q := 63) ((-9) : Int32) dX7_spans_61 rfl (by decide) ?_
            refine ev_istoreL (q := 65) (L9 := [_, _, _, _, _, _, _, _, _, _, _, _]) dX7_spans_63 rfl (by decide) rfl rfl ?_
            refine ev_iconst (q := 66) (0 : Int32) dX7_spans_65 rfl (by decide) ?_
            refine ev_istoreL (q := 68) (L9 := [_, _, _, _, _, _, _, _, _, _, _, _]) dX7_spans_66 rfl (by decide) rfl rfl ?_
            refine ev_iconst (q := 69) (0 : Int32) dX7_spans_68 rfl (by decide) ?_
            refine ev_istoreL (q := 71) (L9 := [_, _, _, _, _, _, _, _, _, _, _, _]) dX7_spans_69 rfl (by decide) rfl rfl ?_
            rw [zpick_t ht hs.t4']
            unfold zSpan
            rw [if_neg (by rw [zm_t h14 (Int32.not_lt.mp h20)]; rintro (q | q | q); cases q; exact h24 q; exact q h29)]
            refine ev_post ?_ (lp_X7_spans G fo I hs (h := zOHn (zV I) N (nI t)) (Z := zsub (zOHn (zV I) N (nI t))) (fun k g hk => zsub_at hm hk) rfl hd.2.1)
            rintro v n' I' P' ⟨rfl, rfl, rfl, hf⟩
            exact ⟨rfl, rfl, rfl, z4_FC hf⟩
          · refine ev_bipush (q := 34) ((-2) : Int32) dX7_spans_32 rfl (by decide) ?_
            exact ev_iret dX7_spans_34 rfl (by first | rfl | exact zb_nar _ | assumption) (⟨by rw [zpick_t ht hs.t4']; unfold zSpan; rw [if_pos (by first | exact Or.inl (zm_f1 h14) | exact Or.inl (zm_f2 (Int32.not_le.mpr h20)) | exact Or.inr (Or.inl h24) | exact Or.inr (Or.inr h29))], rfl, rfl, zFC.rf⟩)
  · have hz : zin x (nI T) = false := by rw [hs.twn] at h8; exact zb_eq h8
    refine ev_iconst (q := 12) ((-1) : Int32) dX7_spans_11 rfl (by decide) ?_
    exact ev_iret dX7_spans_12 rfl (by first | rfl | exact zb_nar _ | assumption) (⟨by rw [zpick_f hz], rfl, rfl, zFC.rf⟩)
