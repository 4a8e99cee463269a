theorem zpop_woR : ∀ h, h < 256 → ∀ g ∈ zsubR h, zpop (nI h &&& (nI g ^^^ (-1))) = nI (zpc h - zpc g) := by decide +kernel
theorem zpop_wo {h g : Nat} (hh : h < 256) (hg : g ∈ zsub h) : zpop (nI h &&& (nI g ^^^ (-1))) = nI (zpc h - zpc g) := by rw [zsub_eq] at hg; exact zpop_woR h hh g hg
theorem zpop_sub {h g : Nat} (hh : h < 256) (hg : g ∈ zsub h) : zpop (nI h) - zpop (nI g) = nI (zpc h - zpc g) := by
  rw [zpop_n h hh, zpop_n g (zsub_mem hg).1, pk_sub (zpc_le hh hg)]
theorem nI_n9 {m : Nat} (h : m < 2 ^ 31) : ¬ nI m = -9 := fun e => nI_pos h (by rw [e]; decide)
/-- the model's and the class's way through the sets of spans -/
theorem zSpL_eq {l : Int32} {V : zq_V} {N h : Nat} {c : Int32} (hh : h < 256) : ∀ (L : List Nat), (∀ g ∈ L, g ∈ zsub h) → ∀ (k : Nat) (b e : Int32), k + L.length ≤ 1000 → (k = 0 ↔ b = -9) → L.foldl (zSpM l V N h c) (nI k, b, e) = L.foldl (zSpS l V N h c) (nI k, b, e) := by
  intro L
  induction L with
  | nil => intro _ k b e _ _; rw [List.foldl_nil, List.foldl_nil]
  | cons g L ih =>
    intro hm k b e hk hb
    have hg := hm g List.mem_cons_self
    have hL : ∀ g' ∈ L, g' ∈ zsub h := fun g' h' => hm g' (List.mem_cons_of_mem _ h')
    rw [List.length_cons] at hk
    rw [List.foldl_cons, List.foldl_cons]
    have hk2 : k + 1 + L.length ≤ 1000 := by omega
    by_cases hc : zCIA l V N (nI h) (nI g) = c
    · have h8 := zpc_8 h
      obtain ⟨z, hz⟩ : ∃ z, z = zpc h - zpc g := ⟨_, rfl⟩
      have hzl : z < 2 ^ 31 := by omega
      have hs1 := zpop_sub hh hg
      have hs2 := zpop_wo hh hg
      rw [← hz] at hs1 hs2
      rw [zSpM_s hc, hs1]
      by_cases h0 : k = 0
      · have hb9 := hb.mp h0
        have hk0 : nI k = 0 := by rw [h0]; exact nI_0
        rw [zSp_0 hc hk0, hs2, if_pos hb9, nI_1]
        exact ih hL (k + 1) _ _ hk2 ⟨fun q => absurd q (Nat.succ_ne_zero k), fun q => absurd q (nI_n9 hzl)⟩
      · have hb9 : ¬ b = -9 := fun q => h0 (hb.mpr q)
        have hk0 : ¬ nI k = 0 := nI_ne0 (Nat.pos_of_ne_zero h0) (by omega)
        rw [zSp_1 hc hk0, hs2, if_neg hb9, nI_1]
        refine ih hL (k + 1) _ _ hk2 ⟨fun q => absurd q (Nat.succ_ne_zero k), fun q => ?_⟩
        by_cases hlt : nI z < b
        · rw [if_pos hlt] at q; exact absurd q (nI_n9 hzl)
        · rw [if_neg hlt] at q; exact absurd q hb9
    · rw [zSpM_n hc, zSp_n hc]
      exact ih hL k b e (by omega) hb
theorem zSpL_sub {l : Int32} {V : zq_V} {N h : Nat} {c : Int32} (hh : h < 256) : zSpL l V N h c (zsub h) = (zsub h).foldl (zSpS l V N h c) (0, -9, -9) :=
  zSpL_eq hh (zsub h) (fun _ q => q) 0 (-9) (-9) (by have := (zsub_dec h hh).2.1; omega) ⟨fun _ => rfl, fun _ => rfl⟩
theorem zinL_3 (x : Int32) : zinL x.toInt64 0 2 = (!decide (x < 0) && decide (x ≤ 2)) := zinL_c x 0 2
theorem zSp_cnt {l : Int32} {V : zq_V} {N h : Nat} {c : Int32} : ∀ (L : List Nat) (s : Int32 × Int32 × Int32), (L.foldl (zSpM l V N h c) s).1 = s.1 + nI (L.countP (fun g => zCIA l V N (nI h) (nI g) == c)) := by
  intro L
  induction L with
  | nil => intro s; simp [show nI 0 = 0 from rfl]
  | cons g L ih =>
    intro s
    rw [List.foldl_cons, ih, List.countP_cons]
    by_cases hc : zCIA l V N (nI h) (nI g) = c
    · obtain ⟨a, b, e⟩ := s
      rw [zSpM_s hc]
      simp only [hc, beq_self_eq_true, if_true]
      rw [← nI_1, Int32.add_comm (nI _) 1, ← Int32.add_assoc]
    · rw [zSpM_n hc]
      simp [hc]
theorem zSpL_1 {l : Int32} {V : zq_V} {N h : Nat} {c : Int32} : (zSpL l V N h c (zsub h)).1 = zSW l V N h h c := by
  unfold zSpL zSW
  rw [zSp_cnt, Int32.zero_add]
theorem zcount_split {L : List Nat} {a b : Nat → Bool} : L.countP b = L.countP (fun g => a g && b g) + L.countP (fun g => !a g && b g) := by
  induction L with
  | nil => rfl
  | cons g L ih =>
    rw [List.countP_cons, List.countP_cons, List.countP_cons, ih]
    cases a g <;> cases b g <;> simp <;> omega
theorem zSW_wo {l : Int32} {V : zq_V} {N h i : Nat} {c : Int32} (hi : i < 8) (hh : h < 256) : zSW l V N h (zwo h i) c = zSW l V N h h c - zAwN l V N h c i (zsub h) := by
  unfold zSW zAwN zwo
  rw [zsub_less hi hh, List.countP_filter, zcount_split (L := zsub h) (a := fun g => g.testBit i) (b := fun g => zCIA l V N (nI h) (nI g) == c), pk_sub (by omega)]
  congr 1
  rw [Nat.add_sub_cancel_left]
  refine List.countP_congr (fun g _ => ?_)
  cases g.testBit i <;> simp
/-- the model's choice of whom to ask -/
def zTB (c : Nat → Bool) (f : Nat → Int32) : Nat → Int32 × Int32
  | 0 => (-9, -9)
  | i + 1 => if c i = true ∧ (zTB c f i).2 < f i then (nI i, f i) else zTB c f i
theorem zTB_n {c : Nat → Bool} {f : Nat → Int32} {i : Nat} {a b : Int32} (hh : (a, b) = zTB c f i) (h : ¬ (c i = true ∧ b < f i)) : (a, b) = zTB c f (i + 1) := by rw [zTB, ← hh, if_neg h]
theorem zTB_s {c : Nat → Bool} {f : Nat → Int32} {i : Nat} {a b : Int32} (hh : (a, b) = zTB c f i) (h : c i = true) (h2 : b < f i) : (nI i, f i) = zTB c f (i + 1) := by rw [zTB, ← hh, if_pos ⟨h, h2⟩]
theorem zTA_eq {S : Int32} {c : Nat → Bool} {th f : Nat → Int32} : ∀ i, (∀ j, j < i → (if S - th j < th j then S - th j else th j) = f j ∧ 0 ≤ f j) → (zTA S c th i).1 = (zTB c f i).1 ∧ ((zTA S c th i).2 = (zTB c f i).2 ∨ ((zTA S c th i).2 = -1 ∧ (zTB c f i).2 = -9)) := by
  intro i
  induction i with
  | zero => intro _; exact ⟨rfl, Or.inr ⟨rfl, rfl⟩⟩
  | succ i ih =>
    intro h
    obtain ⟨h1, h2⟩ := ih (fun j hj => h j (by omega))
    obtain ⟨h3, h4⟩ := h i (by omega)
    cases hc : c i with
    | false =>
      rw [zTA_n hc, zTB, if_neg (by rw [hc]; simp)]
      exact ⟨h1, h2⟩
    | true =>
      rcases h2 with h2 | ⟨h2, h5⟩
      · rw [zTA, if_pos hc, h3, zTB, h2]
        by_cases hl : (zTB c f i).2 < f i
        · rw [if_pos hl, if_pos ⟨hc, hl⟩]; exact ⟨rfl, Or.inl rfl⟩
        · rw [if_neg hl, if_neg (fun q => hl q.2)]; exact ⟨h1, Or.inl h2⟩
      · have g1 : (-1 : Int32) < f i := Int32.lt_of_lt_of_le (by decide) h4
        have g2 : (-9 : Int32) < f i := Int32.lt_of_lt_of_le (by decide) h4
        rw [zTA, if_pos hc, h3, zTB, h2, h5, if_pos g1, if_pos ⟨hc, g2⟩]
        exact ⟨rfl, Or.inl rfl⟩
theorem zb2 {x : Int32} (h : (!decide (x < 0) && decide (x ≤ 2)) = false) : x < 0 ∨ ¬ x ≤ 2 := by
  by_cases h1 : x < 0
  · exact Or.inl h1
  · exact Or.inr (fun h2 => by simp [h1, h2] at h)
theorem zb2t {x : Int32} (h : (!decide (x < 0) && decide (x ≤ 2)) = true) : ¬ x < 0 ∧ x ≤ 2 := by
  simp only [Bool.and_eq_true, Bool.not_eq_true', decide_eq_false_iff_not, decide_eq_true_eq] at h
  exact h
set_option maxHeartbeats 4000000 in
set_option maxRecDepth 100000 in
theorem k_X8_spans (G : zq_G) (fo : Bool) (I : zq_I) {N T Y : Nat} (hs : zS fo N T Y I) (x c w : Int32) : zq_E G mX8_spans 4 0 0 false 5 [some (.ref 119), some (.int x), some (.int c), some (.int w)] [] 138 I (zPs fo) (zq_fm (some (.int (zpick x T (-1) (fun t => zSpan (I 119 4) (zV I) N c w t)))) fo I) := by
  have hN8 := hs.n8
  have hN := hs.mppl
  refine ev_aload_n (q := 6) dX8_spans_5 rfl rfl ?_
  refine ev_iload_n (q := 7) dX8_spans_6 rfl rfl ?_
  refine ev_pV (q := 10) (ci := 8) dX8_spans_7 rfl okX8_noTown lmRX8_167 imX8_noTown seX8_noTown (by first | rfl | assumption | exact zf_kd (by assumption) | exact zw_kd (by assumption) | exact zt_kd (by assumption)) (by first | decide | exact zf_lt (by assumption) | exact zf_lt1 (by assumption) | exact zf_lt2 (by assumption) | exact zf_lt3 (by assumption) | exact zf_lt4 (by assumption) | exact zw_lt (by assumption) | exact zw_lt1 (by assumption) | exact zw_lt2 (by assumption) | exact zw_lt3 (by assumption) | exact zw_lt4 (by assumption) | exact zt_lt (by assumption)) (by decide) rfl (c_X8_noTown G fo I hs _) (by decide) rfl rfl (Nat.le_of_ble_eq_true rfl) ?_
  refine ev_if_eq (q := 13) (t := 15) dX8_spans_10 rfl (by decide) (fun h10 => ?_) (fun h10 => ?_)
  · have hz : zin x (nI T) = true := by simpa using zb_eq h10
    obtain ⟨t, ht, rfl⟩ := zin_t hs.t4' hz
    have ht4 : t < 4 := by have := hs.t4; omega
    refine ev_iload_n (q := 16) dX8_spans_15 rfl rfl ?_
    refine ev_i2l (q := 17) dX8_spans_16 rfl ?_
    refine ev_lconst (q := 18) (0 : Int64) dX8_spans_17 rfl (by decide) ?_
    refine ev_ldc2 (q := 21) dX8_spans_18 rfl ctRX8_190 ?_
    refine ev_pS (q := 24) dX8_spans_21 rfl okX8_in lmRX8_75 smX8_in (c_X8_in G _ _ _ _ _ _) (by decide) rfl rfl (Nat.le_of_ble_eq_true rfl) ?_
    rw [zinL_99]
    refine ev_if_eq (q := 27) (t := 39) dX8_spans_24 rfl (by decide) (fun h24 => ?_) (fun h24 => ?_)
    · have hc : zm99 c = false := zb_eq h24
      refine ev_bipush (q := 41) ((-2) : Int32) dX8_spans_39 rfl (by decide) ?_
      exact ev_iret dX8_spans_41 rfl (by first | rfl | exact zb_nar _ | assumption) (⟨by rw [zpick_t ht hs.t4']; unfold zSpan; rw [if_pos (by first | exact Or.inl hc | (rcases zb2 hw with q | q; exact Or.inr (Or.inl q); exact Or.inr (Or.inr q)))], rfl, rfl, zFM.rf⟩)
    · have hc : zm99 c = true := zb_ne h24
      refine ev_iload_n (q := 28) dX8_spans_27 rfl rfl ?_
      refine ev_i2l (q := 29) dX8_spans_28 rfl ?_
      refine ev_lconst (q := 30) (0 : Int64) dX8_spans_29 rfl (by decide) ?_
      refine ev_ldc2 (q := 33) dX8_spans_30 rfl ctRX8_176 ?_
      refine ev_pS (q := 36) dX8_spans_33 rfl okX8_in lmRX8_75 smX8_in (c_X8_in G _ _ _ _ _ _) (by decide) rfl rfl (Nat.le_of_ble_eq_true rfl) ?_
      rw [zinL_3]
      refine ev_if_ne (q := 39) (t := 42) dX8_spans_36 rfl (by decide) (fun h36 => ?_) (fun h36 => ?_)
      · have hw := zb_ne h36
        refine ev_aload_n (q := 43) dX8_spans_42 rfl rfl ?_
        refine ev_iload_n (q := 44) dX8_spans_43 rfl rfl ?_
        refine ev_iload_n (q := 45) dX8_spans_44 rfl rfl ?_
        refine ev_cV (q := 48) (ci := 8) dX8_spans_45 rfl okX8_laySets lmRX8_204 imX8_laySets seX8_laySets (by first | rfl | assumption | exact zf_kd (by assumption) | exact zw_kd (by assumption) | exact zt_kd (by assumption)) (by first | decide | exact zf_lt (by assumption) | exact zf_lt1 (by assumption) | exact zf_lt2 (by assumption) | exact zf_lt3 (by assumption) | exact zf_lt4 (by assumption) | exact zw_lt (by assumption) | exact zw_lt1 (by assumption) | exact zw_lt2 (by assumption) | exact zw_lt3 (by assumption) | exact zw_lt4 (by assumption) | exact zt_lt (by assumption)) (by decide) rfl (c_X8_laySets G fo I hs t c) (by decide) rfl rfl (Nat.le_of_ble_eq_true rfl) (fun v45 n45 I45 P45 hR45 => ?_)
        obtain ⟨rfl, rfl, rfl, hFM1, hsp, haw⟩ := hR45
        rw [zSpL_sub (zOHn_lt _ hN8 _)] at hsp
        have hnb : ¬ (zm99 c = false ∨ w < 0 ∨ ¬ w ≤ 2) := by rw [hc]; rintro (q | q | q); cases q; exact (zb2t hw).1 q; exact q (zb2t hw).2
        refine ev_iload_n (q := 49) dX8_spans_48 rfl rfl ?_
        refine ev_if_ne (q := 52) (t := 59) dX8_spans_49 rfl (by decide) (fun h49 => ?_) (fun h49 => ?_)
        · refine ev_iload_n (q := 60) dX8_spans_59 rfl rfl ?_
          refine ev_iconst (q := 61) (1 : Int32) dX8_spans_60 rfl (by decide) ?_
          refine ev_icmp_ne (q := 64) (t := 71) dX8_spans_61 rfl (by decide) (fun h61 => ?_) (fun h61 => ?_)
          · refine ev_aload_n (q := 72) dX8_spans_71 rfl rfl ?_
            refine ev_getI (q := 75) (ci := 8) (f := 31) dX8_spans_72 rfl (by first | rfl | assumption | exact zf_kd (by assumption) | exact zw_kd (by assumption) | exact zt_kd (by assumption)) (by first | decide | exact zf_lt (by assumption) | exact zf_lt1 (by assumption) | exact zf_lt2 (by assumption) | exact zf_lt3 (by assumption) | exact zf_lt4 (by assumption) | exact zw_lt (by assumption) | exact zw_lt1 (by assumption) | exact zw_lt2 (by assumption) | exact zw_lt3 (by assumption) | exact zw_lt4 (by assumption) | exact zt_lt (by assumption)) (by decide) (by decide) lfRX8_198 rfl ?_
            exact ev_iret dX8_spans_75 rfl (by first | rfl | exact zb_nar _ | assumption) (⟨by rw [zpick_t ht hs.t4']; unfold zSpan; rw [if_neg hnb]; first | rw [if_pos h49, ← hsp] | rw [if_neg h49, if_pos h61, ← hsp] | rw [if_neg h49, if_neg h61, ← hsp], rfl, rfl, hFM1⟩)
          · refine ev_aload_n (q := 65) dX8_spans_64 rfl rfl ?_
            refine ev_getI (q := 68) (ci := 8) (f := 30) dX8_spans_65 rfl (by first | rfl | assumption | exact zf_kd (by assumption) | exact zw_kd (by assumption) | exact zt_kd (by assumption)) (by first | decide | exact zf_lt (by assumption) | exact zf_lt1 (by assumption) | exact zf_lt2 (by assumption) | exact zf_lt3 (by assumption) | exact zf_lt4 (by assumption) | exact zw_lt (by assumption) | exact zw_lt1 (by assumption) | exact zw_lt2 (by assumption) | exact zw_lt3 (by assumption) | exact zw_lt4 (by assumption) | exact zt_lt (by assumption)) (by decide) (by decide) lfRX8_195 rfl ?_
            refine ev_goto (t := 75) dX8_spans_68 (by decide) ?_
            exact ev_iret dX8_spans_75 rfl (by first | rfl | exact zb_nar _ | assumption) (⟨by rw [zpick_t ht hs.t4']; unfold zSpan; rw [if_neg hnb]; first | rw [if_pos h49, ← hsp] | rw [if_neg h49, if_pos h61, ← hsp] | rw [if_neg h49, if_neg h61, ← hsp], rfl, rfl, hFM1⟩)
        · refine ev_aload_n (q := 53) dX8_spans_52 rfl rfl ?_
          refine ev_getI (q := 56) (ci := 8) (f := 28) dX8_spans_53 rfl (by first | rfl | assumption | exact zf_kd (by assumption) | exact zw_kd (by assumption) | exact zt_kd (by assumption)) (by first | decide | exact zf_lt (by assumption) | exact zf_lt1 (by assumption) | exact zf_lt2 (by assumption) | exact zf_lt3 (by assumption) | exact zf_lt4 (by assumption) | exact zw_lt (by assumption) | exact zw_lt1 (by assumption) | exact zw_lt2 (by assumption) | exact zw_lt3 (by assumption) | exact zw_lt4 (by assumption) | exact zt_lt (by assumption)) (by decide) (by decide) lfRX8_192 rfl ?_
          refine ev_goto (t := 75) dX8_spans_56 (by decide) ?_
          exact ev_iret dX8_spans_75 rfl (by first | rfl | exact zb_nar _ | assumption) (⟨by rw [zpick_t ht hs.t4']; unfold zSpan; rw [if_neg hnb]; first | rw [if_pos h49, ← hsp] | rw [if_neg h49, if_pos h61, ← hsp] | rw [if_neg h49, if_neg h61, ← hsp], rfl, rfl, hFM1⟩)
      · have hw := zb_eq h36
        refine ev_bipush (q := 41) ((-2) : Int32) dX8_spans_39 rfl (by decide) ?_
        exact ev_iret dX8_spans_41 rfl (by first | rfl | exact zb_nar _ | assumption) (⟨by rw [zpick_t ht hs.t4']; unfold zSpan; rw [if_pos (by first | exact Or.inl hc | (rcases zb2 hw with q | q; exact Or.inr (Or.inl q); exact Or.inr (Or.inr q)))], rfl, rfl, zFM.rf⟩)
  · have hz : zin x (nI T) = false := by simpa using zb_ne h10
    refine ev_iconst (q := 14) ((-1) : Int32) dX8_spans_13 rfl (by decide) ?_
    exact ev_iret dX8_spans_14 rfl (by first | rfl | exact zb_nar _ | assumption) (⟨by rw [zpick_f hz], rfl, rfl, zFM.rf⟩)
set_option maxHeartbeats 4000000 in
set_option maxRecDepth 100000 in
theorem c_X8_spans (G : zq_G) (fo : Bool) (I : zq_I) {N T Y : Nat} (hs : zS fo N T Y I) (x c w : Int32) : zq_Met G mX8_spans 4 0 0 [.ref 119, .int x, .int c, .int w] 138 I (zPs fo) (zq_fm (some (.int (zpick x T (-1) (fun t => zSpan (I 119 4) (zV I) N c w t)))) fo I) := by
  refine zq_Met.of okX8_spans (Nat.le_of_ble_eq_true rfl) ?_
  show zq_E _ _ _ _ _ _ _ [some (.ref 119), some (.int x), some (.int c), some (.int w)] _ _ _ _ _
  refine ev_aload_n (q := 1) dX8_spans_0 rfl rfl ?_
  refine ev_iconst (q := 2) (0 : Int32) dX8_spans_1 rfl (by decide) ?_
  refine ev_putI (q := 5) (ci := 8) (f := 0) dX8_spans_2 rfl (by first | rfl | assumption | exact zf_kd (by assumption) | exact zw_kd (by assumption) | exact zt_kd (by assumption)) (by first | decide | exact zf_lt (by assumption) | exact zf_lt1 (by assumption) | exact zf_lt2 (by assumption) | exact zf_lt3 (by assumption) | exact zf_lt4 (by assumption) | exact zw_lt (by assumption) | exact zw_lt1 (by assumption) | exact zw_lt2 (by assumption) | exact zw_lt3 (by assumption) | exact zw_lt4 (by assumption) | exact zt_lt (by assumption)) (by decide) (by decide) lfRX8_69 rfl rfl rfl rfl ?_
  obtain ⟨I1, hI1⟩ : ∃ I1, I1 = zu I 119 0 0 := ⟨_, rfl⟩
  rw [← hI1]
  have hFM : zFM I I1 := by rw [hI1]; exact zFM.rf.zu 119 0 0 rfl
  have hV := hFM.V
  have e2 : I1 119 2 = I 119 2 := hFM.2 2 rfl
  have e4 : I1 119 4 = I 119 4 := hFM.2 4 rfl
  have e5 : I1 119 5 = I 119 5 := hFM.2 5 rfl
  have e6 : I1 119 6 = I 119 6 := hFM.2 6 rfl
  have e15 : I1 119 15 = I 119 15 := hFM.2 15 rfl
  have e25 : I1 119 25 = I 119 25 := hFM.2 25 rfl
  have f128 : I1 128 = I 128 := hFM.1 128 rfl
  refine ev_post ?_ (k_X8_spans G fo I1 (hFM.S hs) x c w)
  rintro v n' I' P' ⟨rfl, rfl, rfl, hf⟩
  exact ⟨by simp only [hV, e2, e4, e5, e6, e15, e25, f128], rfl, rfl, hFM.tr hf⟩
set_option maxHeartbeats 4000000 in
set_option maxRecDepth 100000 in
theorem lp_X8_toAsk (G : zq_G) (fo : Bool) (I : zq_I) {N T Y : Nat} (hs : zS fo N T Y I) {t : Nat} {c S : Int32} {A : Nat → Int32} (hS : ¬ S ≤ 0) (hS1 : I 119 28 = S) (hA : ∀ p, p < N → I 136 p = A p) : zq_E G mX8_toAsk 4 0 0 false 46 [some (.ref 119), some (.int (nI t)), some (.int c), some (.int (-9)), some (.int (-9)), some (.int 0), none] [] 138 I (zPs fo) (zq_pu (some (.int (zTB (fun i => vH (zV I) i == nI t) (fun p => if A p < S - A p then A p else S - A p) N).1)) 138 I (zPs fo)) := by
  have hN8 := hs.n8
  have hN := hs.mppl
  have lp46 : ∀ (k i : Nat) (fd bs : Int32), N + 1 ≤ i + k → i ≤ N → (fd, bs) = zTB (fun i => vH (zV I) i == nI t) (fun p => if A p < S - A p then A p else S - A p) i → zq_E G mX8_toAsk 4 0 0 false 46 [some (.ref 119), some (.int (nI t)), some (.int c), some (.int fd), some (.int bs), some (.int (nI i)), none] [] 138 I (zPs fo) (zq_pu (some (.int (zTB (fun i => vH (zV I) i == nI t) (fun p => if A p < S - A p then A p else S - A p) N).1)) 138 I (zPs fo)) := by
    intro k
    induction k with
    | zero => intro i fd bs hk hi; exact absurd hk (by omega)
    | succ k ih =>
      intro i fd bs hk hi h0
      refine ev_iload (q := 48) dX8_toAsk_46 rfl rfl ?_
      refine ev_aload_n (q := 49) dX8_toAsk_48 rfl rfl ?_
      refine ev_getI (q := 52) (ci := 8) (f := 6) dX8_toAsk_49 rfl (by first | rfl | assumption | exact zf_kd (by assumption) | exact zw_kd (by assumption) | exact zt_kd (by assumption)) (by first | decide | exact zf_lt (by assumption) | exact zf_lt1 (by assumption) | exact zf_lt2 (by assumption) | exact zf_lt3 (by assumption) | exact zf_lt4 (by assumption) | exact zw_lt (by assumption) | exact zw_lt1 (by assumption) | exact zw_lt2 (by assumption) | exact zw_lt3 (by assumption) | exact zw_lt4 (by assumption) | exact zt_lt (by assumption)) (by decide) (by decide) lfRX8_72 rfl ?_
      refine ev_icmp_ge (q := 55) (t := 139) dX8_toAsk_52 rfl (by decide) (fun h52 => ?_) (fun h52 => ?_)
      · obtain rfl : i = N := by rw [hN, nI_leI (by omega) (by omega)] at h52; omega
        refine ev_iload_n (q := 140) dX8_toAsk_139 rfl rfl ?_
        exact ev_iret dX8_toAsk_140 rfl (by first | rfl | exact zb_nar _ | assumption) (⟨by rw [← h0], rfl, rfl, rfl⟩)
      · have hlt_i : i < N := by rw [hN, nI_leI (by omega) (by omega)] at h52; omega
        refine ev_aload_n (q := 56) dX8_toAsk_55 rfl rfl ?_
        refine ev_getI (q := 59) (ci := 8) (f := 28) dX8_toAsk_56 rfl (by first | rfl | assumption | exact zf_kd (by assumption) | exact zw_kd (by assumption) | exact zt_kd (by assumption)) (by first | decide | exact zf_lt (by assumption) | exact zf_lt1 (by assumption) | exact zf_lt2 (by assumption) | exact zf_lt3 (by assumption) | exact zf_lt4 (by assumption) | exact zw_lt (by assumption) | exact zw_lt1 (by assumption) | exact zw_lt2 (by assumption) | exact zw_lt3 (by assumption) | exact zw_lt4 (by assumption) | exact zt_lt (by assumption)) (by decide) (by decide) lfRX8_192 rfl ?_
        refine ev_if_le (q := 62) (t := 139) dX8_toAsk_59 rfl (by decide) (fun h59 => ?_) (fun h59 => ?_)
        · exact absurd (by rw [← hS1]; exact h59) hS
        · refine ev_aload_n (q := 63) dX8_toAsk_62 rfl rfl ?_
          refine ev_getR (q := 66) (ci := 8) (f := 29) dX8_toAsk_63 rfl (by first | rfl | assumption | exact zf_kd (by assumption) | exact zw_kd (by assumption) | exact zt_kd (by assumption)) (by first | decide | exact zf_lt (by assumption) | exact zf_lt1 (by assumption) | exact zf_lt2 (by assumption) | exact zf_lt3 (by assumption) | exact zf_lt4 (by assumption) | exact zw_lt (by assumption) | exact zw_lt1 (by assumption) | exact zw_lt2 (by assumption) | exact zw_lt3 (by assumption) | exact zw_lt4 (by assumption) | exact zt_lt (by assumption)) (by decide) (by decide) lfRX8_63 rfl (by first | rfl | assumption | exact zf_p4 _ (by assumption) | exact zf_p5 _ (by assumption) | exact zf_p6 _ (by assumption) | exact zf_p7 _ (by assumption) | exact zw_p1 _ (by assumption) | exact zw_p2 _ (by assumption) | exact zw_p3 _ (by assumption) | exact zw_p4 _ (by assumption)) ?_
          refine ev_iload (q := 68) dX8_toAsk_66 rfl rfl ?_
          refine ev_ialdN (q := 69) dX8_toAsk_68 rfl (by first | rfl | assumption | exact zf_kd1 (by assumption) | exact zf_kd2 (by assumption) | exact zf_kd3 (by assumption) | exact zf_kd4 (by assumption) | exact zw_kd1 (by assumption) | exact zw_kd2 (by assumption) | exact zw_kd3 (by assumption) | exact zw_kd4 (by assumption)) (by first | decide | exact zf_lt (by assumption) | exact zf_lt1 (by assumption) | exact zf_lt2 (by assumption) | exact zf_lt3 (by assumption) | exact zf_lt4 (by assumption) | exact zw_lt (by assumption) | exact zw_lt1 (by assumption) | exact zw_lt2 (by assumption) | exact zw_lt3 (by assumption) | exact zw_lt4 (by assumption) | exact zt_lt (by assumption)) (by first | omega | assumption) ?_
          rw [hA i hlt_i]
          refine ev_aload_n (q := 70) dX8_toAsk_69 rfl rfl ?_
          refine ev_getI (q := 73) (ci := 8) (f := 28) dX8_toAsk_70 rfl (by first | rfl | assumption | exact zf_kd (by assumption) | exact zw_kd (by assumption) | exact zt_kd (by assumption)) (by first | decide | exact zf_lt (by assumption) | exact zf_lt1 (by assumption) | exact zf_lt2 (by assumption) | exact zf_lt3 (by assumption) | exact zf_lt4 (by assumption) | exact zw_lt (by assumption) | exact zw_lt1 (by assumption) | exact zw_lt2 (by assumption) | exact zw_lt3 (by assumption) | exact zw_lt4 (by assumption) | exact zt_lt (by assumption)) (by decide) (by decide) lfRX8_192 rfl ?_
          rw [hS1]
          refine ev_aload_n (q := 74) dX8_toAsk_73 rfl rfl ?_
          refine ev_getR (q := 77) (ci := 8) (f := 29) dX8_toAsk_74 rfl (by first | rfl | assumption | exact zf_kd (by assumption) | exact zw_kd (by assumption) | exact zt_kd (by assumption)) (by first | decide | exact zf_lt (by assumption) | exact zf_lt1 (by assumption) | exact zf_lt2 (by assumption) | exact zf_lt3 (by assumption) | exact zf_lt4 (by assumption) | exact zw_lt (by assumption) | exact zw_lt1 (by assumption) | exact zw_lt2 (by assumption) | exact zw_lt3 (by assumption) | exact zw_lt4 (by assumption) | exact zt_lt (by assumption)) (by decide) (by decide) lfRX8_63 rfl (by first | rfl | assumption | exact zf_p4 _ (by assumption) | exact zf_p5 _ (by assumption) | exact zf_p6 _ (by assumption) | exact zf_p7 _ (by assumption) | exact zw_p1 _ (by assumption) | exact zw_p2 _ (by assumption) | exact zw_p3 _ (by assumption) | exact zw_p4 _ (by assumption)) ?_
          refine ev_iload (q := 79) dX8_toAsk_77 rfl rfl ?_
          refine ev_ialdN (q := 80) dX8_toAsk_79 rfl (by first | rfl | assumption | exact zf_kd1 (by assumption) | exact zf_kd2 (by assumption) | exact zf_kd3 (by assumption) | exact zf_kd4 (by assumption) | exact zw_kd1 (by assumption) | exact zw_kd2 (by assumption) | exact zw_kd3 (by assumption) | exact zw_kd4 (by assumption)) (by first | decide | exact zf_lt (by assumption) | exact zf_lt1 (by assumption) | exact zf_lt2 (by assumption) | exact zf_lt3 (by assumption) | exact zf_lt4 (by assumption) | exact zw_lt (by assumption) | exact zw_lt1 (by assumption) | exact zw_lt2 (by assumption) | exact zw_lt3 (by assumption) | exact zw_lt4 (by assumption) | exact zt_lt (by assumption)) (by first | omega | assumption) ?_
          rw [hA i hlt_i]
          refine ev_isub (q := 81) dX8_toAsk_80 rfl ?_
          refine ev_icmp_ge (q := 84) (t := 94) dX8_toAsk_81 rfl (by decide) (fun h81 => ?_) (fun h81 => ?_)
          · refine ev_aload_n (q := 95) dX8_toAsk_94 rfl rfl ?_
            refine ev_getI (q := 98) (ci := 8) (f := 28) dX8_toAsk_95 rfl (by first | rfl | assumption | exact zf_kd (by assumption) | exact zw_kd (by assumption) | exact zt_kd (by assumption)) (by first | decide | exact zf_lt (by assumption) | exact zf_lt1 (by assumption) | exact zf_lt2 (by assumption) | exact zf_lt3 (by assumption) | exact zf_lt4 (by assumption) | exact zw_lt (by assumption) | exact zw_lt1 (by assumption) | exact zw_lt2 (by assumption) | exact zw_lt3 (by assumption) | exact zw_lt4 (by assumption) | exact zt_lt (by assumption)) (by decide) (by decide) lfRX8_192 rfl ?_
            rw [hS1]
            refine ev_aload_n (q := 99) dX8_toAsk_98 rfl rfl ?_
            refine ev_getR (q := 102) (ci := 8) (f := 29) dX8_toAsk_99 rfl (by first | rfl | assumption | exact zf_kd (by assumption) | exact zw_kd (by assumption) | exact zt_kd (by assumption)) (by first | decide | exact zf_lt (by assumption) | exact zf_lt1 (by assumption) | exact zf_lt2 (by assumption) | exact zf_lt3 (by assumption) | exact zf_lt4 (by assumption) | exact zw_lt (by assumption) | exact zw_lt1 (by assumption) | exact zw_lt2 (by assumption) | exact zw_lt3 (by assumption) | exact zw_lt4 (by assumption) | exact zt_lt (by assumption)) (by decide) (by decide) lfRX8_63 rfl (by first | rfl | assumption | exact zf_p4 _ (by assumption) | exact zf_p5 _ (by assumption) | exact zf_p6 _ (by assumption) | exact zf_p7 _ (by assumption) | exact zw_p1 _ (by assumption) | exact zw_p2 _ (by assumption) | exact zw_p3 _ (by assumption) | exact zw_p4 _ (by assumption)) ?_
            refine ev_iload (q := 104) dX8_toAsk_102 rfl rfl ?_
            refine ev_ialdN (q := 105) dX8_toAsk_104 rfl (by first | rfl | assumption | exact zf_kd1 (by assumption) | exact zf_kd2 (by assumption) | exact zf_kd3 (by assumption) | exact zf_kd4 (by assumption) | exact zw_kd1 (by assumption) | exact zw_kd2 (by assumption) | exact zw_kd3 (by assumption) | exact zw_kd4 (by assumption)) (by first | decide | exact zf_lt (by assumption) | exact zf_lt1 (by assumption) | exact zf_lt2 (by assumption) | exact zf_lt3 (by assumption) | exact zf_lt4 (by assumption) | exact zw_lt (by assumption) | exact zw_lt1 (by assumption) | exact zw_lt2 (by assumption) | exact zw_lt3 (by assumption) | exact zw_lt4 (by assumption) | exact zt_lt (by assumption)) (by first | omega | assumption) ?_
            rw [hA i hlt_i]
            refine ev_isub (q := 106) dX8_toAsk_105 rfl ?_
            refine ev_istoreL (q := 108) (L9 := [_, _, _, _, _, _, _]) dX8_toAsk_106 rfl (by decide) rfl rfl ?_
            refine ev_aload_n (q := 109) dX8_toAsk_108 rfl rfl ?_
            refine ev_getR (q := 112) (ci := 8) (f := 7) dX8_toAsk_109 rfl (by first | rfl | assumption | exact zf_kd (by assumption) | exact zw_kd (by assumption) | exact zt_kd (by assumption)) (by first | decide | exact zf_lt (by assumption) | exact zf_lt1 (by assumption) | exact zf_lt2 (by assumption) | exact zf_lt3 (by assumption) | exact zf_lt4 (by assumption) | exact zw_lt (by assumption) | exact zw_lt1 (by assumption) | exact zw_lt2 (by assumption) | exact zw_lt3 (by assumption) | exact zw_lt4 (by assumption) | exact zt_lt (by assumption)) (by decide) (by decide) lfRX8_17 rfl (by first | rfl | assumption | exact zf_p4 _ (by assumption) | exact zf_p5 _ (by assumption) | exact zf_p6 _ (by assumption) | exact zf_p7 _ (by assumption) | exact zw_p1 _ (by assumption) | exact zw_p2 _ (by assumption) | exact zw_p3 _ (by assumption) | exact zw_p4 _ (by assumption)) ?_
            refine ev_iload (q := 114) dX8_toAsk_112 rfl rfl ?_
            refine ev_ialdN (q := 115) dX8_toAsk_114 rfl (by first | rfl | assumption | exact zf_kd1 (by assumption) | exact zf_kd2 (by assumption) | exact zf_kd3 (by assumption) | exact zf_kd4 (by assumption) | exact zw_kd1 (by assumption) | exact zw_kd2 (by assumption) | exact zw_kd3 (by assumption) | exact zw_kd4 (by assumption)) (by first | decide | exact zf_lt (by assumption) | exact zf_lt1 (by assumption) | exact zf_lt2 (by assumption) | exact zf_lt3 (by assumption) | exact zf_lt4 (by assumption) | exact zw_lt (by assumption) | exact zw_lt1 (by assumption) | exact zw_lt2 (by assumption) | exact zw_lt3 (by assumption) | exact zw_lt4 (by assumption) | exact zt_lt (by assumption)) (by first | omega | assumption) ?_
            refine ev_iload_n (q := 116) dX8_toAsk_115 rfl rfl ?_
            refine ev_icmp_ne (q := 119) (t := 133) dX8_toAsk_116 rfl (by decide) (fun h116 => ?_) (fun h116 => ?_)
            · refine ev_iincL (q := 136) (L9 := [_, _, _, _, _, _, _]) (1 : Int32) dX8_toAsk_133 rfl rfl (by decide) (by decide) rfl rfl ?_
              refine ev_goto (t := 46) dX8_toAsk_136 (by decide) ?_
              have ef : (if A i < S - A i then A i else S - A i) = S - A i := if_neg (Int32.not_lt.mpr h81)
              rw [nI_1]
              refine ev_wk (L' := [some (.ref 119), some (.int (nI t)), some (.int c), some (.int _), some (.int _), some (.int _), none]) ⟨rfl, rfl, rfl, rfl, rfl, rfl, trivial⟩ ?_
              exact ih (i + 1) _ _ (by omega) (by omega) (zTB_n h0 (fun q => h116 (beq_iff_eq.mp q.1)))
            · refine ev_iload (q := 121) dX8_toAsk_119 rfl rfl ?_
              refine ev_iload (q := 123) dX8_toAsk_121 rfl rfl ?_
              refine ev_icmp_le (q := 126) (t := 133) dX8_toAsk_123 rfl (by decide) (fun h123 => ?_) (fun h123 => ?_)
              · refine ev_iincL (q := 136) (L9 := [_, _, _, _, _, _, _]) (1 : Int32) dX8_toAsk_133 rfl rfl (by decide) (by decide) rfl rfl ?_
                refine ev_goto (t := 46) dX8_toAsk_136 (by decide) ?_
                have ef : (if A i < S - A i then A i else S - A i) = S - A i := if_neg (Int32.not_lt.mpr h81)
                rw [nI_1]
                refine ev_wk (L' := [some (.ref 119), some (.int (nI t)), some (.int c), some (.int _), some (.int _), some (.int _), none]) ⟨rfl, rfl, rfl, rfl, rfl, rfl, trivial⟩ ?_
                exact ih (i + 1) _ _ (by omega) (by omega) (zTB_n h0 (fun q => Int32.not_lt.mpr h123 (by rw [← ef]; exact q.2)))
              · refine ev_iload (q := 128) dX8_toAsk_126 rfl rfl ?_
                refine ev_istore_nL (q := 129) (L9 := [_, _, _, _, _, _, _]) dX8_toAsk_128 rfl (by decide) rfl rfl ?_
                refine ev_iload (q := 131) dX8_toAsk_129 rfl rfl ?_
                refine ev_istoreL (q := 133) (L9 := [_, _, _, _, _, _, _]) dX8_toAsk_131 rfl (by decide) rfl rfl ?_
                refine ev_iincL (q := 136) (L9 := [_, _, _, _, _, _, _]) (1 : Int32) dX8_toAsk_133 rfl rfl (by decide) (by decide) rfl rfl ?_
                refine ev_goto (t := 46) dX8_toAsk_136 (by decide) ?_
                have ef : (if A i < S - A i then A i else S - A i) = S - A i := if_neg (Int32.not_lt.mpr h81)
                rw [nI_1]
                refine ev_wk (L' := [some (.ref 119), some (.int (nI t)), some (.int c), some (.int _), some (.int _), some (.int _), none]) ⟨rfl, rfl, rfl, rfl, rfl, rfl, trivial⟩ ?_
                exact ih (i + 1) _ _ (by omega) (by omega) (by have q := zTB_s h0 (show (vH (zV I) i == nI t) = true from beq_iff_eq.mpr h116) (by rw [ef]; exact Int32.not_le.mp h123); rw [ef] at q; exact q)
          · refine ev_aload_n (q := 85) dX8_toAsk_84 rfl rfl ?_
            refine ev_getR (q := 88) (ci := 8) (f := 29) dX8_toAsk_85 rfl (by first | rfl | assumption | exact zf_kd (by assumption) | exact zw_kd (by assumption) | exact zt_kd (by assumption)) (by first | decide | exact zf_lt (by assumption) | exact zf_lt1 (by assumption) | exact zf_lt2 (by assumption) | exact zf_lt3 (by assumption) | exact zf_lt4 (by assumption) | exact zw_lt (by assumption) | exact zw_lt1 (by assumption) | exact zw_lt2 (by assumption) | exact zw_lt3 (by assumption) | exact zw_lt4 (by assumption) | exact zt_lt (by assumption)) (by decide) (by decide) lfRX8_63 rfl (by first | rfl | assumption | exact zf_p4 _ (by assumption) | exact zf_p5 _ (by assumption) | exact zf_p6 _ (by assumption) | exact zf_p7 _ (by assumption) | exact zw_p1 _ (by assumption) | exact zw_p2 _ (by assumption) | exact zw_p3 _ (by assumption) | exact zw_p4 _ (by assumption)) ?_
            refine ev_iload (q := 90) dX8_toAsk_88 rfl rfl ?_
            refine ev_ialdN (q := 91) dX8_toAsk_90 rfl (by first | rfl | assumption | exact zf_kd1 (by assumption) | exact zf_kd2 (by assumption) | exact zf_kd3 (by assumption) | exact zf_kd4 (by assumption) | exact zw_kd1 (by assumption) | exact zw_kd2 (by assumption) | exact zw_kd3 (by assumption) | exact zw_kd4 (by assumption)) (by first | decide | exact zf_lt (by assumption) | exact zf_lt1 (by assumption) | exact zf_lt2 (by assumption) | exact zf_lt3 (by assumption) | exact zf_lt4 (by assumption) | exact zw_lt (by assumption) | exact zw_lt1 (by assumption) | exact zw_lt2 (by assumption) | exact zw_lt3 (by assumption) | exact zw_lt4 (by assumption) | exact zt_lt (by assumption)) (by first | omega | assumption) ?_
            rw [hA i hlt_i]
            refine ev_goto (t := 106) dX8_toAsk_91 (by decide) ?_
            refine ev_istoreL (q := 108) (L9 := [_, _, _, _, _, _, _]) dX8_toAsk_106 rfl (by decide) rfl rfl ?_
            refine ev_aload_n (q := 109) dX8_toAsk_108 rfl rfl ?_
            refine ev_getR (q := 112) (ci := 8) (f := 7) dX8_toAsk_109 rfl (by first | rfl | assumption | exact zf_kd (by assumption) | exact zw_kd (by assumption) | exact zt_kd (by assumption)) (by first | decide | exact zf_lt (by assumption) | exact zf_lt1 (by assumption) | exact zf_lt2 (by assumption) | exact zf_lt3 (by assumption) | exact zf_lt4 (by assumption) | exact zw_lt (by assumption) | exact zw_lt1 (by assumption) | exact zw_lt2 (by assumption) | exact zw_lt3 (by assumption) | exact zw_lt4 (by assumption) | exact zt_lt (by assumption)) (by decide) (by decide) lfRX8_17 rfl (by first | rfl | assumption | exact zf_p4 _ (by assumption) | exact zf_p5 _ (by assumption) | exact zf_p6 _ (by assumption) | exact zf_p7 _ (by assumption) | exact zw_p1 _ (by assumption) | exact zw_p2 _ (by assumption) | exact zw_p3 _ (by assumption) | exact zw_p4 _ (by assumption)) ?_
            refine ev_iload (q := 114) dX8_toAsk_112 rfl rfl ?_
            refine ev_ialdN (q := 115) dX8_toAsk_114 rfl (by first | rfl | assumption | exact zf_kd1 (by assumption) | exact zf_kd2 (by assumption) | exact zf_kd3 (by assumption) | exact zf_kd4 (by assumption) | exact zw_kd1 (by assumption) | exact zw_kd2 (by assumption) | exact zw_kd3 (by assumption) | exact zw_kd4 (by assumption)) (by first | decide | exact zf_lt (by assumption) | exact zf_lt1 (by assumption) | exact zf_lt2 (by assumption) | exact zf_lt3 (by assumption) | exact zf_lt4 (by assumption) | exact zw_lt (by assumption) | exact zw_lt1 (by assumption) | exact zw_lt2 (by assumption) | exact zw_lt3 (by assumption) | exact zw_lt4 (by assumption) | exact zt_lt (by assumption)) (by first | omega | assumption) ?_
            refine ev_iload_n (q := 116) dX8_toAsk_115 rfl rfl ?_
            refine ev_icmp_ne (q := 119) (t := 133) dX8_toAsk_116 rfl (by decide) (fun h116 => ?_) (fun h116 => ?_)
            · refine ev_iincL (q := 136) (L9 := [_, _, _, _, _, _, _]) (1 : Int32) dX8_toAsk_133 rfl rfl (by decide) (by decide) rfl rfl ?_
              refine ev_goto (t := 46) dX8_toAsk_136 (by decide) ?_
              have ef : (if A i < S - A i then A i else S - A i) = A i := if_pos (Int32.not_le.mp h81)
              rw [nI_1]
              refine ev_wk (L' := [some (.ref 119), some (.int (nI t)), some (.int c), some (.int _), some (.int _), some (.int _), none]) ⟨rfl, rfl, rfl, rfl, rfl, rfl, trivial⟩ ?_
              exact ih (i + 1) _ _ (by omega) (by omega) (zTB_n h0 (fun q => h116 (beq_iff_eq.mp q.1)))
            · refine ev_iload (q := 121) dX8_toAsk_119 rfl rfl ?_
              refine ev_iload (q := 123) dX8_toAsk_121 rfl rfl ?_
              refine ev_icmp_le (q := 126) (t := 133) dX8_toAsk_123 rfl (by decide) (fun h123 => ?_) (fun h123 => ?_)
              · refine ev_iincL (q := 136) (L9 := [_, _, _, _, _, _, _]) (1 : Int32) dX8_toAsk_133 rfl rfl (by decide) (by decide) rfl rfl ?_
                refine ev_goto (t := 46) dX8_toAsk_136 (by decide) ?_
                have ef : (if A i < S - A i then A i else S - A i) = A i := if_pos (Int32.not_le.mp h81)
                rw [nI_1]
                refine ev_wk (L' := [some (.ref 119), some (.int (nI t)), some (.int c), some (.int _), some (.int _), some (.int _), none]) ⟨rfl, rfl, rfl, rfl, rfl, rfl, trivial⟩ ?_
                exact ih (i + 1) _ _ (by omega) (by omega) (zTB_n h0 (fun q => Int32.not_lt.mpr h123 (by rw [← ef]; exact q.2)))
              · refine ev_iload (q := 128) dX8_toAsk_126 rfl rfl ?_
                refine ev_istore_nL (q := 129) (L9 := [_, _, _, _, _, _, _]) dX8_toAsk_128 rfl (by decide) rfl rfl ?_
                refine ev_iload (q := 131) dX8_toAsk_129 rfl rfl ?_
                refine ev_istoreL (q := 133) (L9 := [_, _, _, _, _, _, _]) dX8_toAsk_131 rfl (by decide) rfl rfl ?_
                refine ev_iincL (q := 136) (L9 := [_, _, _, _, _, _, _]) (1 : Int32) dX8_toAsk_133 rfl rfl (by decide) (by decide) rfl rfl ?_
                refine ev_goto (t := 46) dX8_toAsk_136 (by decide) ?_
                have ef : (if A i < S - A i then A i else S - A i) = A i := if_pos (Int32.not_le.mp h81)
                rw [nI_1]
                refine ev_wk (L' := [some (.ref 119), some (.int (nI t)), some (.int c), some (.int _), some (.int _), some (.int _), none]) ⟨rfl, rfl, rfl, rfl, rfl, rfl, trivial⟩ ?_
                exact ih (i + 1) _ _ (by omega) (by omega) (by have q := zTB_s h0 (show (vH (zV I) i == nI t) = true from beq_iff_eq.mpr h116) (by rw [ef]; exact Int32.not_le.mp h123); rw [ef] at q; exact q)
  exact lp46 (N + 1) 0 _ _ (by omega) (by omega) rfl
theorem zTB_congr {c c' : Nat → Bool} {f : Nat → Int32} {n : Nat} (h : ∀ i, i < n → c i = c' i) : zTB c f n = zTB c' f n := by
  induction n with
  | zero => rfl
  | succ n ih => rw [zTB, zTB, ih (fun i hi => h i (by omega)), h n (by omega)]
theorem zAwN_b {l : Int32} {V : zq_V} {N h : Nat} {c : Int32} {p : Nat} (hh : h < 256) : ∃ a s, a ≤ s ∧ s ≤ 256 ∧ zAwN l V N h c p (zsub h) = nI a ∧ zSW l V N h h c = nI s := by
  refine ⟨_, _, ?_, ?_, rfl, rfl⟩
  · refine List.countP_mono_left (fun g _ q => ?_)
    simp only [Bool.and_eq_true] at q
    exact q.2
  · exact Nat.le_trans List.countP_le_length (zsub_dec h hh).2.1
set_option maxHeartbeats 4000000 in
set_option maxRecDepth 100000 in
theorem k_X8_toAsk (G : zq_G) (fo : Bool) (I : zq_I) {N T Y : Nat} (hs : zS fo N T Y I) (x c : Int32) : zq_E G mX8_toAsk 4 0 0 false 5 [some (.ref 119), some (.int x), some (.int c), none, none, none, none] [] 138 I (zPs fo) (zq_fm (some (.int (zpick x T (-1) (fun t => zAsk (I 119 4) (zV I) N c t)))) fo I) := by
  have hN8 := hs.n8
  have hN := hs.mppl
  refine ev_aload_n (q := 6) dX8_toAsk_5 rfl rfl ?_
  refine ev_iload_n (q := 7) dX8_toAsk_6 rfl rfl ?_
  refine ev_pV (q := 10) (ci := 8) dX8_toAsk_7 rfl okX8_noTown lmRX8_167 imX8_noTown seX8_noTown (by first | rfl | assumption | exact zf_kd (by assumption) | exact zw_kd (by assumption) | exact zt_kd (by assumption)) (by first | decide | exact zf_lt (by assumption) | exact zf_lt1 (by assumption) | exact zf_lt2 (by assumption) | exact zf_lt3 (by assumption) | exact zf_lt4 (by assumption) | exact zw_lt (by assumption) | exact zw_lt1 (by assumption) | exact zw_lt2 (by assumption) | exact zw_lt3 (by assumption) | exact zw_lt4 (by assumption) | exact zt_lt (by assumption)) (by decide) rfl (c_X8_noTown G fo I hs _) (by decide) rfl rfl (Nat.le_of_ble_eq_true rfl) ?_
  refine ev_if_eq (q := 13) (t := 15) dX8_toAsk_10 rfl (by decide) (fun h10 => ?_) (fun h10 => ?_)
  · have hz : zin x (nI T) = true := by simpa using zb_eq h10
    obtain ⟨t, ht, rfl⟩ := zin_t hs.t4' hz
    have ht4 : t < 4 := by have := hs.t4; omega
    refine ev_iload_n (q := 16) dX8_toAsk_15 rfl rfl ?_
    refine ev_i2l (q := 17) dX8_toAsk_16 rfl ?_
    refine ev_lconst (q := 18) (0 : Int64) dX8_toAsk_17 rfl (by decide) ?_
    refine ev_ldc2 (q := 21) dX8_toAsk_18 rfl ctRX8_190 ?_
    refine ev_pS (q := 24) dX8_toAsk_21 rfl okX8_in lmRX8_75 smX8_in (c_X8_in G _ _ _ _ _ _) (by decide) rfl rfl (Nat.le_of_ble_eq_true rfl) ?_
    rw [zinL_99]
    refine ev_if_ne (q := 27) (t := 30) dX8_toAsk_24 rfl (by decide) (fun h24 => ?_) (fun h24 => ?_)
    · have hc : zm99 c = true := zb_ne h24
      refine ev_aload_n (q := 31) dX8_toAsk_30 rfl rfl ?_
      refine ev_iload_n (q := 32) dX8_toAsk_31 rfl rfl ?_
      refine ev_iload_n (q := 33) dX8_toAsk_32 rfl rfl ?_
      refine ev_cV (q := 36) (ci := 8) dX8_toAsk_33 rfl okX8_laySets lmRX8_204 imX8_laySets seX8_laySets (by first | rfl | assumption | exact zf_kd (by assumption) | exact zw_kd (by assumption) | exact zt_kd (by assumption)) (by first | decide | exact zf_lt (by assumption) | exact zf_lt1 (by assumption) | exact zf_lt2 (by assumption) | exact zf_lt3 (by assumption) | exact zf_lt4 (by assumption) | exact zw_lt (by assumption) | exact zw_lt1 (by assumption) | exact zw_lt2 (by assumption) | exact zw_lt3 (by assumption) | exact zw_lt4 (by assumption) | exact zt_lt (by assumption)) (by decide) rfl (c_X8_laySets G fo I hs t c) (by decide) rfl rfl (Nat.le_of_ble_eq_true rfl) (fun v33 n33 I33 P33 hR33 => ?_)
      obtain ⟨rfl, rfl, rfl, hFM1, hsp, haw⟩ := hR33
      have hsp1 := congrArg Prod.fst hsp
      replace hsp1 : I33 119 28 = _ := hsp1
      refine ev_bipush (q := 38) ((-9) : Int32) dX8_toAsk_36 rfl (by decide) ?_
      refine ev_istore_nL (q := 39) (L9 := [_, _, _, _, _, _, _]) dX8_toAsk_38 rfl (by decide) rfl rfl ?_
      refine ev_bipush (q := 41) ((-9) : Int32) dX8_toAsk_39 rfl (by decide) ?_
      refine ev_istoreL (q := 43) (L9 := [_, _, _, _, _, _, _]) dX8_toAsk_41 rfl (by decide) rfl rfl ?_
      refine ev_iconst (q := 44) (0 : Int32) dX8_toAsk_43 rfl (by decide) ?_
      refine ev_istoreL (q := 46) (L9 := [_, _, _, _, _, _, _]) dX8_toAsk_44 rfl (by decide) rfl rfl ?_
      by_cases hS : I33 119 28 ≤ 0
      · refine ev_iload (q := 48) dX8_toAsk_46 rfl rfl ?_
        refine ev_aload_n (q := 49) dX8_toAsk_48 rfl rfl ?_
        refine ev_getI (q := 52) (ci := 8) (f := 6) dX8_toAsk_49 rfl (by first | rfl | assumption | exact zf_kd (by assumption) | exact zw_kd (by assumption) | exact zt_kd (by assumption)) (by first | decide | exact zf_lt (by assumption) | exact zf_lt1 (by assumption) | exact zf_lt2 (by assumption) | exact zf_lt3 (by assumption) | exact zf_lt4 (by assumption) | exact zw_lt (by assumption) | exact zw_lt1 (by assumption) | exact zw_lt2 (by assumption) | exact zw_lt3 (by assumption) | exact zw_lt4 (by assumption) | exact zt_lt (by assumption)) (by decide) (by decide) lfRX8_72 rfl ?_
        refine ev_icmp_ge (q := 55) (t := 139) dX8_toAsk_52 rfl (by decide) (fun h52 => ?_) (fun h52 => ?_)
        · refine ev_iload_n (q := 140) dX8_toAsk_139 rfl rfl ?_
          exact ev_iret dX8_toAsk_140 rfl (by first | rfl | exact zb_nar _ | assumption) (⟨by rw [zpick_t ht hs.t4']; unfold zAsk; rw [hc, if_neg (by decide), if_pos (by rw [zSpL_1] at hsp1; rw [← hsp1]; exact hS)], rfl, rfl, hFM1⟩)
        · refine ev_aload_n (q := 56) dX8_toAsk_55 rfl rfl ?_
          refine ev_getI (q := 59) (ci := 8) (f := 28) dX8_toAsk_56 rfl (by first | rfl | assumption | exact zf_kd (by assumption) | exact zw_kd (by assumption) | exact zt_kd (by assumption)) (by first | decide | exact zf_lt (by assumption) | exact zf_lt1 (by assumption) | exact zf_lt2 (by assumption) | exact zf_lt3 (by assumption) | exact zf_lt4 (by assumption) | exact zw_lt (by assumption) | exact zw_lt1 (by assumption) | exact zw_lt2 (by assumption) | exact zw_lt3 (by assumption) | exact zw_lt4 (by assumption) | exact zt_lt (by assumption)) (by decide) (by decide) lfRX8_192 rfl ?_
          refine ev_if_le (q := 62) (t := 139) dX8_toAsk_59 rfl (by decide) (fun h59 => ?_) (fun h59 => ?_)
          · refine ev_iload_n (q := 140) dX8_toAsk_139 rfl rfl ?_
            exact ev_iret dX8_toAsk_140 rfl (by first | rfl | exact zb_nar _ | assumption) (⟨by rw [zpick_t ht hs.t4']; unfold zAsk; rw [hc, if_neg (by decide), if_pos (by rw [zSpL_1] at hsp1; rw [← hsp1]; exact hS)], rfl, rfl, hFM1⟩)
          · exact absurd hS h59
      · rw [zpick_t ht hs.t4']
        unfold zAsk
        rw [hc, if_neg (by decide), if_neg (by rw [zSpL_1] at hsp1; rw [← hsp1]; exact hS)]
        refine ev_post ?_ (lp_X8_toAsk G fo _ (hFM1.S hs) (t := t) (c := c) hS rfl haw)
        rintro v n' I' P' ⟨rfl, rfl, hI', rfl⟩
        refine ⟨?_, rfl, rfl, hI' ▸ hFM1⟩
        rw [hFM1.V]
        have hh := zOHn_lt (zV I) hN8 (nI t)
        have hcn : ∀ i, i < N → (fun i => zhas (nI (zOHn (zV I) N (nI t))) i) i = (fun i => vH (zV I) i == nI t) i := fun i hi => by show zhas _ _ = _; rw [← zOH_n _ hN8, zhas_OH hN8 hi]
        have hq := zTA_eq (c := fun i => zhas (nI (zOHn (zV I) N (nI t))) i) (f := (fun p => if (zAwN (I 119 4) (zV I) N (zOHn (zV I) N (nI t)) c p (zsub (zOHn (zV I) N (nI t)))) < I33 119 28 - (zAwN (I 119 4) (zV I) N (zOHn (zV I) N (nI t)) c p (zsub (zOHn (zV I) N (nI t)))) then (zAwN (I 119 4) (zV I) N (zOHn (zV I) N (nI t)) c p (zsub (zOHn (zV I) N (nI t)))) else I33 119 28 - (zAwN (I 119 4) (zV I) N (zOHn (zV I) N (nI t)) c p (zsub (zOHn (zV I) N (nI t)))))) (S := zSW (I 119 4) (zV I) N (zOHn (zV I) N (nI t)) (zOHn (zV I) N (nI t)) c) (th := fun i => zSW (I 119 4) (zV I) N (zOHn (zV I) N (nI t)) (zwo (zOHn (zV I) N (nI t)) i) c) N (fun j hj => ?_)
        · rw [hq.1, zTB_congr hcn]
        · have hb := zAwN_b (l := I 119 4) (V := zV I) (N := N) (c := c) (p := j) hh
          obtain ⟨a, s, ha, hs2, ea, es⟩ := hb
          rw [zSpL_1] at hsp1
          rw [hsp1, zSW_wo (by omega) hh, es, ea, pk_sub ha, pk_sub (by omega), show s - (s - a) = a by omega]
          refine ⟨rfl, ?_⟩
          split <;> exact nI_pos' (by omega)
    · have hc : zm99 c = false := zb_eq h24
      refine ev_bipush (q := 29) ((-2) : Int32) dX8_toAsk_27 rfl (by decide) ?_
      exact ev_iret dX8_toAsk_29 rfl (by first | rfl | exact zb_nar _ | assumption) (⟨by rw [zpick_t ht hs.t4']; unfold zAsk; rw [hc]; rfl, rfl, rfl, zFM.rf⟩)
  · have hz : zin x (nI T) = false := by simpa using zb_ne h10
    refine ev_iconst (q := 14) ((-1) : Int32) dX8_toAsk_13 rfl (by decide) ?_
    exact ev_iret dX8_toAsk_14 rfl (by first | rfl | exact zb_nar _ | assumption) (⟨by rw [zpick_f hz], rfl, rfl, zFM.rf⟩)
set_option maxHeartbeats 4000000 in
set_option maxRecDepth 100000 in
theorem c_X8_toAsk (G : zq_G) (fo : Bool) (I : zq_I) {N T Y : Nat} (hs : zS fo N T Y I) (x c : Int32) : zq_Met G mX8_toAsk 4 0 0 [.ref 119, .int x, .int c] 138 I (zPs fo) (zq_fm (some (.int (zpick x T (-1) (fun t => zAsk (I 119 4) (zV I) N c t)))) fo I) := by
  refine zq_Met.of okX8_toAsk (Nat.le_of_ble_eq_true rfl) ?_
  show zq_E _ _ _ _ _ _ _ [some (.ref 119), some (.int x), some (.int c), none, none, none, none] _ _ _ _ _
  refine ev_aload_n (q := 1) dX8_toAsk_0 rfl rfl ?_
  refine ev_iconst (q := 2) (0 : Int32) dX8_toAsk_1 rfl (by decide) ?_
  refine ev_putI (q := 5) (ci := 8) (f := 0) dX8_toAsk_2 rfl (by first | rfl | assumption | exact zf_kd (by assumption) | exact zw_kd (by assumption) | exact zt_kd (by assumption)) (by first | decide | exact zf_lt (by assumption) | exact zf_lt1 (by assumption) | exact zf_lt2 (by assumption) | exact zf_lt3 (by assumption) | exact zf_lt4 (by assumption) | exact zw_lt (by assumption) | exact zw_lt1 (by assumption) | exact zw_lt2 (by assumption) | exact zw_lt3 (by assumption) | exact zw_lt4 (by assumption) | exact zt_lt (by assumption)) (by decide) (by decide) lfRX8_69 rfl rfl rfl rfl ?_
  obtain ⟨I1, hI1⟩ : ∃ I1, I1 = zu I 119 0 0 := ⟨_, rfl⟩
  rw [← hI1]
  have hFM : zFM I I1 := by rw [hI1]; exact zFM.rf.zu 119 0 0 rfl
  have hV := hFM.V
  have e2 : I1 119 2 = I 119 2 := hFM.2 2 rfl
  have e4 : I1 119 4 = I 119 4 := hFM.2 4 rfl
  have e5 : I1 119 5 = I 119 5 := hFM.2 5 rfl
  have e6 : I1 119 6 = I 119 6 := hFM.2 6 rfl
  have e15 : I1 119 15 = I 119 15 := hFM.2 15 rfl
  have e25 : I1 119 25 = I 119 25 := hFM.2 25 rfl
  have f128 : I1 128 = I 128 := hFM.1 128 rfl
  refine ev_post ?_ (k_X8_toAsk G fo I1 (hFM.S hs) x c)
  rintro v n' I' P' ⟨rfl, rfl, rfl, hf⟩
  exact ⟨by simp only [hV, e2, e4, e5, e6, e15, e25, f128], rfl, rfl, hFM.tr hf⟩
