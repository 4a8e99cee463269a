def zof : Option Nat → Int32
  | none => -9
  | some g => nI g
/-- the model's step of leave -/
def zLvS (ok : Nat → Bool) (f : Option Nat) (g : Nat) : Option Nat := if ok g = true ∧ (∀ b, f = some b → zpop (nI g) < zpop (nI b)) then some g else f
theorem zLvS_y {ok : Nat → Bool} {f : Option Nat} {g : Nat} (h1 : ok g = true) (h2 : ∀ b, f = some b → zpop (nI g) < zpop (nI b)) : zLvS ok f g = some g := by unfold zLvS; rw [if_pos ⟨h1, h2⟩]
theorem zLvS_n {ok : Nat → Bool} {f : Option Nat} {g : Nat} (h1 : ok g = false) : zLvS ok f g = f := by unfold zLvS; rw [if_neg (fun q => by rw [h1] at q; cases q.1)]
theorem zLvS_o {ok : Nat → Bool} {b g : Nat} (h1 : ¬ zpop (nI g) < zpop (nI b)) : zLvS ok (some b) g = some b := by unfold zLvS; rw [if_neg (fun q => h1 (q.2 b rfl))]
def zLvL (ok : Nat → Bool) (L : List Nat) : Option Nat := L.foldl (zLvS ok) none
theorem zLvL_app (ok : Nat → Bool) (L : List Nat) (g : Nat) : zLvL ok (L ++ [g]) = zLvS ok (zLvL ok L) g := by unfold zLvL; rw [List.foldl_append]; rfl
def zlok (I : zq_I) (N t : Nat) (m : Int32) (g : Nat) : Bool := decide (zCnt (I 119 4) (zV I) N (fun i => zMs (zV I) N i (I 119 15)) (fun i => (vH (zV I) i == nI t) && !(zhas (nI g) i)) + I 128 t ≤ m)
theorem zCnt_zero {l : Int32} {V : zq_V} {N : Nat} {g : Nat → Int32} {c c' : Nat → Bool} (h : ∀ i, i < N → c i = c' i ∨ g i = 0) : zCnt l V N g c = zCnt l V N g c' := by
  have hp : zpop 0 = 0 := by decide
  have h1 : zsum (fun i => zpop (g i)) c N = zsum (fun i => zpop (g i)) c' N := by
    induction N with
    | zero => rfl
    | succ n ih =>
      rw [zsum, zsum, ih (fun i hi => h i (by omega))]
      rcases h n (by omega) with e | e
      · rw [e]
      · rw [e, hp, Int32.add_zero, ite_self, ite_self]
  have h2 : zor g c N = zor g c' N := by
    clear h1
    induction N with
    | zero => rfl
    | succ n ih =>
      rw [zor, zor, ih (fun i hi => h i (by omega))]
      rcases h n (by omega) with e | e
      · rw [e]
      · rw [e, i32_or_0, ite_self, ite_self]
  unfold zCnt
  rw [h1, h2]
theorem zMs_nt {V : zq_V} {N i : Nat} {y : Int32} (h : zTh V i = false) : zMs V N i y = 0 := by
  unfold zMs
  exact zor_none (fun j _ => by rw [h]; simp)
theorem zCnt_b {fo : Bool} {N T Y : Nat} {I : zq_I} (h : zS fo N T Y I) {g : Nat → Int32} {c : Nat → Bool} (hg : ∀ i, i < N → ∃ a, a < 2 ^ 8 ∧ g i = nI a) : ∃ k, k ≤ 64 ∧ zCnt (I 119 4) (zV I) N g c = nI k := by
  have h8 := h.n8
  obtain ⟨a, ha, ea⟩ := zor_mask (c := c) hg
  have hs : ∀ n, n ≤ N → ∃ k, k ≤ 8 * n ∧ zsum (fun i => zpop (g i)) c n = nI k := by
    intro n
    induction n with
    | zero => intro _; exact ⟨0, by omega, rfl⟩
    | succ n ih =>
      intro hn
      obtain ⟨k, hk, ek⟩ := ih (by omega)
      obtain ⟨b, hb, eb⟩ := hg n (by omega)
      have h9 := zpc_8 b
      rw [zsum, ek]
      split
      · exact ⟨k + zpc b, by omega, by rw [eb, zpop_n b hb, nI_add]⟩
      · exact ⟨k, by omega, rfl⟩
  obtain ⟨k, hk, ek⟩ := hs N (Nat.le_refl _)
  obtain ⟨b, hb, eb⟩ := zNm_mask h (nI a)
  have hpa := zpc_8 a
  have hpb := zpc_8 b
  unfold zCnt zCt
  rw [ek, ea]
  split
  · exact ⟨k, by omega, rfl⟩
  · split
    · exact ⟨zpc a, by omega, zpop_n a ha⟩
    · exact ⟨zpc b, by omega, by rw [eb, zpop_n b hb]⟩
theorem zpc_ltR : ∀ h, h < 256 → ∀ g ∈ zsubR h, g ≠ h → zpc g < zpc h := by decide +kernel
theorem zpc_lt {h g : Nat} (hh : h < 256) (hg : g ∈ zsub h) (hn : g ≠ h) : zpc g < zpc h := by rw [zsub_eq] at hg; exact zpc_ltR h hh g hg hn
theorem zsub_of {h g : Nat} (hg : g < 256) (hp : g &&& h = g) : g ∈ zsub h := by
  rw [zsub_eq]; unfold zsubR; exact List.mem_filter.mpr ⟨List.mem_range.mpr hg, by rw [hp]; exact beq_self_eq_true g⟩
theorem zpop_lt {a b : Nat} (ha : a < 256) (hb : b < 256) : zpop (nI a) < zpop (nI b) ↔ zpc a < zpc b := by
  have h1 := zpc_8 a
  have h2 := zpc_8 b
  rw [zpop_n a ha, zpop_n b hb, nI_ltI (by omega) (by omega)]
/-- the class's and the model's way to the fewest that leave -/
theorem zFew_eq {fo : Bool} {N T Y t h : Nat} {m r : Nat} {I : zq_I} (hs : zS fo N T Y I) (hh : h < 256) (hh2 : h < 2 ^ N) (hbit : ∀ k, k < N → h.testBit k = ((vH (zV I) k == nI t) && zTh (zV I) k)) (hm : m ≤ 99) (hr : I 128 t = nI r) (hrm : r ≤ m) : zLvL (zlok I N t (nI m)) (zsub h) = some (zFew I N h (nI m - I 128 t)) := by
  have h8 := hs.n8
  have hp2 := zp2_le h8
  have hB : ∀ g, g ∈ zsub h → ∃ k, k ≤ 64 ∧ zCM (I 119 4) (zV I) N (I 119 15) (nI h &&& (nI g ^^^ (-1))) = nI k ∧ zlok I N t (nI m) g = decide (k + r ≤ m) := by
    intro g hg
    obtain ⟨hg1, hg2⟩ := zsub_mem hg
    obtain ⟨k, hk, ek⟩ := zCnt_b hs (g := fun i => zMs (zV I) N i (I 119 15)) (c := fun i => (vH (zV I) i == nI t) && !(zhas (nI g) i)) (fun i _ => zMs_mask hs i _)
    refine ⟨k, hk, ?_, ?_⟩
    · rw [← ek]
      unfold zCM
      refine zCnt_zero (fun i hi => ?_)
      rw [zhas_wo hh hg1 (by omega), zhas_N (by omega) (by omega), hbit i hi]
      cases ht : zTh (zV I) i
      · exact Or.inr (zMs_nt ht)
      · rw [Bool.and_true]; exact Or.inl rfl
    · unfold zlok
      rw [ek, hr, nI_add]
      exact decide_eq_decide.mpr (nI_leI (by omega) (by omega))
  have hfl : ∀ g k b, zCM (I 119 4) (zV I) N (I 119 15) (nI h &&& (nI g ^^^ (-1))) = nI k → k ≤ 64 → zFs I N h (nI m - I 128 t) b g = if zpop (nI g) < zpop (nI b) ∧ k + r ≤ m then g else b := by
    intro g k b ek hk
    unfold zFs
    rw [ek, hr, pk_sub hrm]
    have h9 : nI (m - r) < nI k ↔ ¬ (k + r ≤ m) := by rw [nI_ltI (by omega) (by omega)]; omega
    by_cases q1 : zpop (nI g) < zpop (nI b)
    · by_cases q2 : k + r ≤ m
      · rw [if_pos q1, if_neg (fun q => (h9.mp q) q2), if_pos ⟨q1, q2⟩]
      · rw [if_pos q1, if_pos (h9.mpr q2), if_neg (fun q => q2 q.2)]
    · rw [if_neg q1, if_neg (fun q => q1 q.1)]
  have hJ : ∀ i, i ≤ 2 ^ N → (i ≤ h → (zLvL (zlok I N t (nI m)) (zsb h i) = none ∧ (zsb h i).foldl (zFs I N h (nI m - I 128 t)) h = h) ∨ zLvL (zlok I N t (nI m)) (zsb h i) = some ((zsb h i).foldl (zFs I N h (nI m - I 128 t)) h)) ∧ (h < i → zLvL (zlok I N t (nI m)) (zsb h i) = some ((zsb h i).foldl (zFs I N h (nI m - I 128 t)) h)) := by
    intro i
    induction i with
    | zero => intro _; exact ⟨fun _ => Or.inl ⟨rfl, rfl⟩, fun q => absurd q (by omega)⟩
    | succ i ih =>
      intro hi
      obtain ⟨j1, j2⟩ := ih (by omega)
      by_cases hp : i &&& h = i
      · have hil : i ≤ h := by rw [← hp]; exact Nat.and_le_right
        have hmem := zsub_of (show i < 256 by omega) hp
        obtain ⟨k, hk, ek, eok⟩ := hB i hmem
        rw [zsb_s hp, zLvL_app, List.foldl_append, List.foldl_cons, List.foldl_nil, hfl i k _ ek hk]
        rcases j1 hil with ⟨q1, q2⟩ | q1
        · rw [q1, q2]
          by_cases hkr : k + r ≤ m
          · rw [zLvS_y (by rw [eok]; exact decide_eq_true hkr) (fun b hb => by cases hb)]
            by_cases hih : i = h
            · subst hih
              rw [ite_self]
              exact ⟨fun _ => Or.inr rfl, fun _ => rfl⟩
            · rw [if_pos ⟨(zpop_lt (by omega) hh).mpr (zpc_lt hh hmem hih), hkr⟩]
              exact ⟨fun _ => Or.inr rfl, fun _ => rfl⟩
          · rw [zLvS_n (by rw [eok]; exact decide_eq_false hkr), if_neg (fun q => hkr q.2)]
            refine ⟨fun _ => Or.inl ⟨rfl, rfl⟩, fun hlt => ?_⟩
            exfalso
            have hih : i = h := by omega
            subst hih
            apply hkr
            have hk0 : zCM (I 119 4) (zV I) N (I 119 15) (nI i &&& (nI i ^^^ (-1))) = 0 := by
              unfold zCM
              rw [zCnt_zero (c' := fun _ => false) (fun j hj => Or.inl (by rw [zhas_wo hh hh (by omega)]; cases zhas (nI i) j <;> rfl))]
              unfold zCnt zCt
              have e1 : ∀ n, zsum (fun j => zpop (zMs (zV I) N j (I 119 15))) (fun _ => false) n = 0 := by
                intro n
                induction n with
                | zero => rfl
                | succ n ih => rw [zsum, ih]; rfl
              rw [e1, zor_none (fun _ _ => rfl)]
              have e2 : zNm (zV I) N 0 = 0 := by
                unfold zNm
                exact zor_none (fun j _ => zhas_0 j)
              rw [e2]
              split
              · rfl
              · split <;> decide
            rw [ek] at hk0
            have := (nI_eq (b := 0) (by omega) (by omega)).mp hk0
            omega
        · rw [q1]
          generalize (zsb h i).foldl (zFs I N h (nI m - I 128 t)) h = b
          by_cases q2 : zpop (nI i) < zpop (nI b)
          · by_cases hkr : k + r ≤ m
            · rw [zLvS_y (by rw [eok]; exact decide_eq_true hkr) (fun b' hb => by cases hb; exact q2), if_pos ⟨q2, hkr⟩]
              exact ⟨fun _ => Or.inr rfl, fun _ => rfl⟩
            · rw [zLvS_n (by rw [eok]; exact decide_eq_false hkr), if_neg (fun q => hkr q.2)]
              exact ⟨fun _ => Or.inr rfl, fun _ => rfl⟩
          · rw [zLvS_o q2, if_neg (fun q => q2 q.1)]
            exact ⟨fun _ => Or.inr rfl, fun _ => rfl⟩
      · rw [zsb_n hp]
        refine ⟨fun q => j1 (by omega), fun q => ?_⟩
        by_cases q2 : h < i
        · exact j2 q2
        · have hih : i = h := by omega
          subst hih
          exact absurd (Nat.and_self i) hp
  have hend := (hJ (2 ^ N) (Nat.le_refl _)).2 hh2
  rw [zsb_end h8 hh2] at hend
  exact hend
theorem zLv_none {ok : Nat → Bool} (L : List Nat) (h : ∀ g ∈ L, ok g = false) : zLvL ok L = none := by
  unfold zLvL
  induction L with
  | nil => rfl
  | cons g L ih => rw [List.foldl_cons, zLvS_n (h g List.mem_cons_self)]; exact ih (fun g' h' => h g' (List.mem_cons_of_mem _ h'))
set_option maxHeartbeats 4000000 in
set_option maxRecDepth 100000 in
theorem lp_X8_leave (G : zq_G) (fo : Bool) (I : zq_I) {N T Y : Nat} (hs : zS fo N T Y I) {t h : Nat} {m : Int32} (ht4 : t < 4) (hh : h < 256) (hh2 : h < 2 ^ N) : zq_E G mX8_leave 5 0 0 false 88 [some (.ref 119), some (.int (nI t)), some (.int m), some (.int (nI h)), some (.int (-9)), some (.int 0), none] [] 138 I (zPs fo) (zq_pu (some (.int (zof (zLvL (zlok I N t m) (zsub h))))) 138 I (zPs fo)) := by
  have hN8 := hs.n8
  have hN := hs.mppl
  have hp2 := zp2_le hN8
  have lp88 : ∀ (k i : Nat) (f : Option Nat) (fd : Int32), 2 ^ N + 1 ≤ i + k → i ≤ 2 ^ N → fd = zof f → f = zLvL (zlok I N t m) (zsb h i) → (∀ b, f = some b → b < 256) → zq_E G mX8_leave 5 0 0 false 88 [some (.ref 119), some (.int (nI t)), some (.int m), some (.int (nI h)), some (.int fd), some (.int (nI i)), none] [] 138 I (zPs fo) (zq_pu (some (.int (zof (zLvL (zlok I N t m) (zsub h))))) 138 I (zPs fo)) := by
    intro k
    induction k with
    | zero => intro i f fd hk hi; exact absurd hk (by omega)
    | succ k ih =>
      intro i f fd hk hi h0 h1 hf256
      refine ev_iload (q := 90) dX8_leave_88 rfl rfl ?_
      refine ev_iconst (q := 91) (1 : Int32) dX8_leave_90 rfl (by decide) ?_
      refine ev_aload_n (q := 92) dX8_leave_91 rfl rfl ?_
      refine ev_getI (q := 95) (ci := 8) (f := 6) dX8_leave_92 rfl (by first | rfl | assumption | exact zf_kd (by assumption) | exact zw_kd (by assumption) | exact zt_kd (by assumption)) (by first | decide | exact zf_lt (by assumption) | exact zf_lt1 (by assumption) | exact zf_lt2 (by assumption) | exact zf_lt3 (by assumption) | exact zf_lt4 (by assumption) | exact zw_lt (by assumption) | exact zw_lt1 (by assumption) | exact zw_lt2 (by assumption) | exact zw_lt3 (by assumption) | exact zw_lt4 (by assumption) | exact zt_lt (by assumption)) (by decide) (by decide) lfRX8_72 rfl ?_
      rw [hN]
      refine ev_ishl (q := 96) dX8_leave_95 rfl ?_
      rw [zall_N hN8]
      refine ev_icmp_ge (q := 99) (t := 168) dX8_leave_96 rfl (by decide) (fun h96 => ?_) (fun h96 => ?_)
      · obtain rfl : i = 2 ^ N := by rw [nI_leI (by omega) (by omega)] at h96; omega
        rw [zsb_end hN8 hh2] at h1
        refine ev_iload (q := 170) dX8_leave_168 rfl rfl ?_
        exact ev_iret dX8_leave_170 rfl (by first | rfl | exact zb_nar _ | assumption) (⟨by rw [h0, h1], rfl, rfl, rfl⟩)
      · have hlt_i : i < 2 ^ N := by rw [nI_leI (by omega) (by omega)] at h96; omega
        refine ev_iload (q := 101) dX8_leave_99 rfl rfl ?_
        refine ev_bipush (q := 103) ((-9) : Int32) dX8_leave_101 rfl (by decide) ?_
        refine ev_icmp_eq (q := 106) (t := 119) dX8_leave_103 rfl (by decide) (fun h103 => ?_) (fun h103 => ?_)
        · have hf0 : f = none := by
            cases f with
            | none => rfl
            | some b => rw [h0] at h103; exact absurd h103 (nI_n9 (by have := hf256 b rfl; omega))
          refine ev_iconst (q := 120) (1 : Int32) dX8_leave_119 rfl (by decide) ?_
          refine ev_goto (t := 124) dX8_leave_120 (by decide) ?_
          refine ev_istoreL (q := 126) (L9 := [_, _, _, _, _, _, _]) dX8_leave_124 rfl (by decide) rfl rfl ?_
          refine ev_iload (q := 128) dX8_leave_126 rfl rfl ?_
          refine ev_if_eq (q := 131) (t := 162) dX8_leave_128 rfl (by decide) (fun h128 => ?_) (fun h128 => ?_)
          · refine ev_iincL (q := 165) (L9 := [_, _, _, _, _, _, _]) (1 : Int32) dX8_leave_162 rfl rfl (by decide) (by decide) rfl rfl ?_
            refine ev_goto (t := 88) dX8_leave_165 (by decide) ?_
            exact absurd h128 (by decide)
          · refine ev_iload (q := 133) dX8_leave_131 rfl rfl ?_
            refine ev_iload_n (q := 134) dX8_leave_133 rfl rfl ?_
            refine ev_iconst (q := 135) ((-1) : Int32) dX8_leave_134 rfl (by decide) ?_
            refine ev_ixor (q := 136) dX8_leave_135 rfl ?_
            refine ev_iand (q := 137) dX8_leave_136 rfl ?_
            refine ev_if_ne (q := 140) (t := 162) dX8_leave_137 rfl (by decide) (fun h137 => ?_) (fun h137 => ?_)
            · have hnp : ¬ i &&& h = i := fun q => h137 ((zpart (by omega)).mpr q)
              refine ev_iincL (q := 165) (L9 := [_, _, _, _, _, _, _]) (1 : Int32) dX8_leave_162 rfl rfl (by decide) (by decide) rfl rfl ?_
              refine ev_goto (t := 88) dX8_leave_165 (by decide) ?_
              rw [nI_1]
              refine ev_wk (L' := [some (.ref 119), some (.int (nI t)), some (.int m), some (.int (nI h)), some (.int _), some (.int (nI (i + 1))), none]) ⟨rfl, rfl, rfl, rfl, rfl, rfl, trivial⟩ ?_
              exact ih (i + 1) _ _ (by omega) (by omega) h0 (by rw [zsb_n hnp]; exact h1) hf256
            · have hpt : i &&& h = i := (zpart (by omega)).mp h137
              refine ev_aload_n (q := 141) dX8_leave_140 rfl rfl ?_
              refine ev_iload_n (q := 142) dX8_leave_141 rfl rfl ?_
              refine ev_iload (q := 144) dX8_leave_142 rfl rfl ?_
              refine ev_pV (q := 147) (ci := 8) dX8_leave_144 rfl okX8_count lmRX8_170 imX8_count seX8_count (by first | rfl | assumption | exact zf_kd (by assumption) | exact zw_kd (by assumption) | exact zt_kd (by assumption)) (by first | decide | exact zf_lt (by assumption) | exact zf_lt1 (by assumption) | exact zf_lt2 (by assumption) | exact zf_lt3 (by assumption) | exact zf_lt4 (by assumption) | exact zw_lt (by assumption) | exact zw_lt1 (by assumption) | exact zw_lt2 (by assumption) | exact zw_lt3 (by assumption) | exact zw_lt4 (by assumption) | exact zt_lt (by assumption)) (by decide) rfl (c_X8_count G fo I hs _ _) (by decide) rfl rfl (Nat.le_of_ble_eq_true rfl) ?_
              refine ev_aload_n (q := 148) dX8_leave_147 rfl rfl ?_
              refine ev_getR (q := 151) (ci := 8) (f := 14) dX8_leave_148 rfl (by first | rfl | assumption | exact zf_kd (by assumption) | exact zw_kd (by assumption) | exact zt_kd (by assumption)) (by first | decide | exact zf_lt (by assumption) | exact zf_lt1 (by assumption) | exact zf_lt2 (by assumption) | exact zf_lt3 (by assumption) | exact zf_lt4 (by assumption) | exact zw_lt (by assumption) | exact zw_lt1 (by assumption) | exact zw_lt2 (by assumption) | exact zw_lt3 (by assumption) | exact zw_lt4 (by assumption) | exact zt_lt (by assumption)) (by decide) (by decide) lfRX8_38 rfl (by first | rfl | assumption | exact zf_p4 _ (by assumption) | exact zf_p5 _ (by assumption) | exact zf_p6 _ (by assumption) | exact zf_p7 _ (by assumption) | exact zw_p1 _ (by assumption) | exact zw_p2 _ (by assumption) | exact zw_p3 _ (by assumption) | exact zw_p4 _ (by assumption)) ?_
              refine ev_iload_n (q := 152) dX8_leave_151 rfl rfl ?_
              refine ev_ialdN (q := 153) dX8_leave_152 rfl (by first | rfl | assumption | exact zf_kd1 (by assumption) | exact zf_kd2 (by assumption) | exact zf_kd3 (by assumption) | exact zf_kd4 (by assumption) | exact zw_kd1 (by assumption) | exact zw_kd2 (by assumption) | exact zw_kd3 (by assumption) | exact zw_kd4 (by assumption)) (by first | decide | exact zf_lt (by assumption) | exact zf_lt1 (by assumption) | exact zf_lt2 (by assumption) | exact zf_lt3 (by assumption) | exact zf_lt4 (by assumption) | exact zw_lt (by assumption) | exact zw_lt1 (by assumption) | exact zw_lt2 (by assumption) | exact zw_lt3 (by assumption) | exact zw_lt4 (by assumption) | exact zt_lt (by assumption)) (by first | omega | assumption) ?_
              refine ev_iadd (q := 154) dX8_leave_153 rfl ?_
              refine ev_iload_n (q := 155) dX8_leave_154 rfl rfl ?_
              refine ev_icmp_gt (q := 158) (t := 162) dX8_leave_155 rfl (by decide) (fun h155 => ?_) (fun h155 => ?_)
              · refine ev_iincL (q := 165) (L9 := [_, _, _, _, _, _, _]) (1 : Int32) dX8_leave_162 rfl rfl (by decide) (by decide) rfl rfl ?_
                refine ev_goto (t := 88) dX8_leave_165 (by decide) ?_
                rw [nI_1]
                refine ev_wk (L' := [some (.ref 119), some (.int (nI t)), some (.int m), some (.int (nI h)), some (.int _), some (.int (nI (i + 1))), none]) ⟨rfl, rfl, rfl, rfl, rfl, rfl, trivial⟩ ?_
                exact ih (i + 1) _ _ (by omega) (by omega) h0 (by rw [zsb_s hpt, zLvL_app, ← h1, zLvS_n (decide_eq_false (Int32.not_le.mpr h155))]) hf256
              · refine ev_iload (q := 160) dX8_leave_158 rfl rfl ?_
                refine ev_istoreL (q := 162) (L9 := [_, _, _, _, _, _, _]) dX8_leave_160 rfl (by decide) rfl rfl ?_
                refine ev_iincL (q := 165) (L9 := [_, _, _, _, _, _, _]) (1 : Int32) dX8_leave_162 rfl rfl (by decide) (by decide) rfl rfl ?_
                refine ev_goto (t := 88) dX8_leave_165 (by decide) ?_
                rw [nI_1]
                refine ev_wk (L' := [some (.ref 119), some (.int (nI t)), some (.int m), some (.int (nI h)), some (.int _), some (.int (nI (i + 1))), none]) ⟨rfl, rfl, rfl, rfl, rfl, rfl, trivial⟩ ?_
                exact ih (i + 1) (some i) _ (by omega) (by omega) rfl (by rw [zsb_s hpt, zLvL_app, ← h1, zLvS_y (decide_eq_true (Int32.not_lt.mp h155)) (fun b q => by rw [hf0] at q; cases q)]) (fun b2 q => by cases q; omega)
        · obtain ⟨b, rfl⟩ : ∃ b, f = some b := by
            cases f with
            | none => exact absurd h0 h103
            | some b => exact ⟨b, rfl⟩
          have hb256 := hf256 b rfl
          obtain rfl : fd = nI b := h0
          refine ev_iload (q := 108) dX8_leave_106 rfl rfl ?_
          refine ev_pS (q := 111) dX8_leave_108 rfl okX8_many lmRX8_151 smX8_many (c_X8_many G _ _ _ _) (by decide) rfl rfl (Nat.le_of_ble_eq_true rfl) ?_
          rw [zmany_pop _ (show i < 256 by omega)]
          refine ev_iload (q := 113) dX8_leave_111 rfl rfl ?_
          refine ev_pS (q := 116) dX8_leave_113 rfl okX8_many lmRX8_151 smX8_many (c_X8_many G _ _ _ _) (by decide) rfl rfl (Nat.le_of_ble_eq_true rfl) ?_
          rw [zmany_pop _ hb256]
          refine ev_icmp_ge (q := 119) (t := 123) dX8_leave_116 rfl (by decide) (fun h116 => ?_) (fun h116 => ?_)
          · refine ev_iconst (q := 124) (0 : Int32) dX8_leave_123 rfl (by decide) ?_
            refine ev_istoreL (q := 126) (L9 := [_, _, _, _, _, _, _]) dX8_leave_124 rfl (by decide) rfl rfl ?_
            refine ev_iload (q := 128) dX8_leave_126 rfl rfl ?_
            refine ev_if_eq (q := 131) (t := 162) dX8_leave_128 rfl (by decide) (fun h128 => ?_) (fun h128 => ?_)
            · refine ev_iincL (q := 165) (L9 := [_, _, _, _, _, _, _]) (1 : Int32) dX8_leave_162 rfl rfl (by decide) (by decide) rfl rfl ?_
              refine ev_goto (t := 88) dX8_leave_165 (by decide) ?_
              rw [nI_1]
              refine ev_wk (L' := [some (.ref 119), some (.int (nI t)), some (.int m), some (.int (nI h)), some (.int _), some (.int (nI (i + 1))), none]) ⟨rfl, rfl, rfl, rfl, rfl, rfl, trivial⟩ ?_
              by_cases hpt : i &&& h = i
              · exact ih (i + 1) _ _ (by omega) (by omega) rfl (by rw [zsb_s hpt, zLvL_app, ← h1, zLvS_o (Int32.not_lt.mpr h116)]) hf256
              · exact ih (i + 1) _ _ (by omega) (by omega) rfl (by rw [zsb_n hpt]; exact h1) hf256
            · refine ev_iload (q := 133) dX8_leave_131 rfl rfl ?_
              refine ev_iload_n (q := 134) dX8_leave_133 rfl rfl ?_
              refine ev_iconst (q := 135) ((-1) : Int32) dX8_leave_134 rfl (by decide) ?_
              refine ev_ixor (q := 136) dX8_leave_135 rfl ?_
              refine ev_iand (q := 137) dX8_leave_136 rfl ?_
              refine ev_if_ne (q := 140) (t := 162) dX8_leave_137 rfl (by decide) (fun h137 => ?_) (fun h137 => ?_)
              · have hnp : ¬ i &&& h = i := fun q => h137 ((zpart (by omega)).mpr q)
                refine ev_iincL (q := 165) (L9 := [_, _, _, _, _, _, _]) (1 : Int32) dX8_leave_162 rfl rfl (by decide) (by decide) rfl rfl ?_
                refine ev_goto (t := 88) dX8_leave_165 (by decide) ?_
                exact absurd rfl h128
              · have hpt : i &&& h = i := (zpart (by omega)).mp h137
                refine ev_aload_n (q := 141) dX8_leave_140 rfl rfl ?_
                refine ev_iload_n (q := 142) dX8_leave_141 rfl rfl ?_
                refine ev_iload (q := 144) dX8_leave_142 rfl rfl ?_
                refine ev_pV (q := 147) (ci := 8) dX8_leave_144 rfl okX8_count lmRX8_170 imX8_count seX8_count (by first | rfl | assumption | exact zf_kd (by assumption) | exact zw_kd (by assumption) | exact zt_kd (by assumption)) (by first | decide | exact zf_lt (by assumption) | exact zf_lt1 (by assumption) | exact zf_lt2 (by assumption) | exact zf_lt3 (by assumption) | exact zf_lt4 (by assumption) | exact zw_lt (by assumption) | exact zw_lt1 (by assumption) | exact zw_lt2 (by assumption) | exact zw_lt3 (by assumption) | exact zw_lt4 (by assumption) | exact zt_lt (by assumption)) (by decide) rfl (c_X8_count G fo I hs _ _) (by decide) rfl rfl (Nat.le_of_ble_eq_true rfl) ?_
                refine ev_aload_n (q := 148) dX8_leave_147 rfl rfl ?_
                refine ev_getR (q := 151) (ci := 8) (f := 14) dX8_leave_148 rfl (by first | rfl | assumption | exact zf_kd (by assumption) | exact zw_kd (by assumption) | exact zt_kd (by assumption)) (by first | decide | exact zf_lt (by assumption) | exact zf_lt1 (by assumption) | exact zf_lt2 (by assumption) | exact zf_lt3 (by assumption) | exact zf_lt4 (by assumption) | exact zw_lt (by assumption) | exact zw_lt1 (by assumption) | exact zw_lt2 (by assumption) | exact zw_lt3 (by assumption) | exact zw_lt4 (by assumption) | exact zt_lt (by assumption)) (by decide) (by decide) lfRX8_38 rfl (by first | rfl | assumption | exact zf_p4 _ (by assumption) | exact zf_p5 _ (by assumption) | exact zf_p6 _ (by assumption) | exact zf_p7 _ (by assumption) | exact zw_p1 _ (by assumption) | exact zw_p2 _ (by assumption) | exact zw_p3 _ (by assumption) | exact zw_p4 _ (by assumption)) ?_
                refine ev_iload_n (q := 152) dX8_leave_151 rfl rfl ?_
                refine ev_ialdN (q := 153) dX8_leave_152 rfl (by first | rfl | assumption | exact zf_kd1 (by assumption) | exact zf_kd2 (by assumption) | exact zf_kd3 (by assumption) | exact zf_kd4 (by assumption) | exact zw_kd1 (by assumption) | exact zw_kd2 (by assumption) | exact zw_kd3 (by assumption) | exact zw_kd4 (by assumption)) (by first | decide | exact zf_lt (by assumption) | exact zf_lt1 (by assumption) | exact zf_lt2 (by assumption) | exact zf_lt3 (by assumption) | exact zf_lt4 (by assumption) | exact zw_lt (by assumption) | exact zw_lt1 (by assumption) | exact zw_lt2 (by assumption) | exact zw_lt3 (by assumption) | exact zw_lt4 (by assumption) | exact zt_lt (by assumption)) (by first | omega | assumption) ?_
                refine ev_iadd (q := 154) dX8_leave_153 rfl ?_
                refine ev_iload_n (q := 155) dX8_leave_154 rfl rfl ?_
                refine ev_icmp_gt (q := 158) (t := 162) dX8_leave_155 rfl (by decide) (fun h155 => ?_) (fun h155 => ?_)
                · refine ev_iincL (q := 165) (L9 := [_, _, _, _, _, _, _]) (1 : Int32) dX8_leave_162 rfl rfl (by decide) (by decide) rfl rfl ?_
                  refine ev_goto (t := 88) dX8_leave_165 (by decide) ?_
                  exact absurd rfl h128
                · refine ev_iload (q := 160) dX8_leave_158 rfl rfl ?_
                  refine ev_istoreL (q := 162) (L9 := [_, _, _, _, _, _, _]) dX8_leave_160 rfl (by decide) rfl rfl ?_
                  refine ev_iincL (q := 165) (L9 := [_, _, _, _, _, _, _]) (1 : Int32) dX8_leave_162 rfl rfl (by decide) (by decide) rfl rfl ?_
                  refine ev_goto (t := 88) dX8_leave_165 (by decide) ?_
                  exact absurd rfl h128
          · refine ev_iconst (q := 120) (1 : Int32) dX8_leave_119 rfl (by decide) ?_
            refine ev_goto (t := 124) dX8_leave_120 (by decide) ?_
            refine ev_istoreL (q := 126) (L9 := [_, _, _, _, _, _, _]) dX8_leave_124 rfl (by decide) rfl rfl ?_
            refine ev_iload (q := 128) dX8_leave_126 rfl rfl ?_
            refine ev_if_eq (q := 131) (t := 162) dX8_leave_128 rfl (by decide) (fun h128 => ?_) (fun h128 => ?_)
            · refine ev_iincL (q := 165) (L9 := [_, _, _, _, _, _, _]) (1 : Int32) dX8_leave_162 rfl rfl (by decide) (by decide) rfl rfl ?_
              refine ev_goto (t := 88) dX8_leave_165 (by decide) ?_
              exact absurd h128 (by decide)
            · refine ev_iload (q := 133) dX8_leave_131 rfl rfl ?_
              refine ev_iload_n (q := 134) dX8_leave_133 rfl rfl ?_
              refine ev_iconst (q := 135) ((-1) : Int32) dX8_leave_134 rfl (by decide) ?_
              refine ev_ixor (q := 136) dX8_leave_135 rfl ?_
              refine ev_iand (q := 137) dX8_leave_136 rfl ?_
              refine ev_if_ne (q := 140) (t := 162) dX8_leave_137 rfl (by decide) (fun h137 => ?_) (fun h137 => ?_)
              · have hnp : ¬ i &&& h = i := fun q => h137 ((zpart (by omega)).mpr q)
                refine ev_iincL (q := 165) (L9 := [_, _, _, _, _, _, _]) (1 : Int32) dX8_leave_162 rfl rfl (by decide) (by decide) rfl rfl ?_
                refine ev_goto (t := 88) dX8_leave_165 (by decide) ?_
                rw [nI_1]
                refine ev_wk (L' := [some (.ref 119), some (.int (nI t)), some (.int m), some (.int (nI h)), some (.int _), some (.int (nI (i + 1))), none]) ⟨rfl, rfl, rfl, rfl, rfl, rfl, trivial⟩ ?_
                exact ih (i + 1) _ _ (by omega) (by omega) rfl (by rw [zsb_n hnp]; exact h1) hf256
              · have hpt : i &&& h = i := (zpart (by omega)).mp h137
                refine ev_aload_n (q := 141) dX8_leave_140 rfl rfl ?_
                refine ev_iload_n (q := 142) dX8_leave_141 rfl rfl ?_
                refine ev_iload (q := 144) dX8_leave_142 rfl rfl ?_
                refine ev_pV (q := 147) (ci := 8) dX8_leave_144 rfl okX8_count lmRX8_170 imX8_count seX8_count (by first | rfl | assumption | exact zf_kd (by assumption) | exact zw_kd (by assumption) | exact zt_kd (by assumption)) (by first | decide | exact zf_lt (by assumption) | exact zf_lt1 (by assumption) | exact zf_lt2 (by assumption) | exact zf_lt3 (by assumption) | exact zf_lt4 (by assumption) | exact zw_lt (by assumption) | exact zw_lt1 (by assumption) | exact zw_lt2 (by assumption) | exact zw_lt3 (by assumption) | exact zw_lt4 (by assumption) | exact zt_lt (by assumption)) (by decide) rfl (c_X8_count G fo I hs _ _) (by decide) rfl rfl (Nat.le_of_ble_eq_true rfl) ?_
                refine ev_aload_n (q := 148) dX8_leave_147 rfl rfl ?_
                refine ev_getR (q := 151) (ci := 8) (f := 14) dX8_leave_148 rfl (by first | rfl | assumption | exact zf_kd (by assumption) | exact zw_kd (by assumption) | exact zt_kd (by assumption)) (by first | decide | exact zf_lt (by assumption) | exact zf_lt1 (by assumption) | exact zf_lt2 (by assumption) | exact zf_lt3 (by assumption) | exact zf_lt4 (by assumption) | exact zw_lt (by assumption) | exact zw_lt1 (by assumption) | exact zw_lt2 (by assumption) | exact zw_lt3 (by assumption) | exact zw_lt4 (by assumption) | exact zt_lt (by assumption)) (by decide) (by decide) lfRX8_38 rfl (by first | rfl | assumption | exact zf_p4 _ (by assumption) | exact zf_p5 _ (by assumption) | exact zf_p6 _ (by assumption) | exact zf_p7 _ (by assumption) | exact zw_p1 _ (by assumption) | exact zw_p2 _ (by assumption) | exact zw_p3 _ (by assumption) | exact zw_p4 _ (by assumption)) ?_
                refine ev_iload_n (q := 152) dX8_leave_151 rfl rfl ?_
                refine ev_ialdN (q := 153) dX8_leave_152 rfl (by first | rfl | assumption | exact zf_kd1 (by assumption) | exact zf_kd2 (by assumption) | exact zf_kd3 (by assumption) | exact zf_kd4 (by assumption) | exact zw_kd1 (by assumption) | exact zw_kd2 (by assumption) | exact zw_kd3 (by assumption) | exact zw_kd4 (by assumption)) (by first | decide | exact zf_lt (by assumption) | exact zf_lt1 (by assumption) | exact zf_lt2 (by assumption) | exact zf_lt3 (by assumption) | exact zf_lt4 (by assumption) | exact zw_lt (by assumption) | exact zw_lt1 (by assumption) | exact zw_lt2 (by assumption) | exact zw_lt3 (by assumption) | exact zw_lt4 (by assumption) | exact zt_lt (by assumption)) (by first | omega | assumption) ?_
                refine ev_iadd (q := 154) dX8_leave_153 rfl ?_
                refine ev_iload_n (q := 155) dX8_leave_154 rfl rfl ?_
                refine ev_icmp_gt (q := 158) (t := 162) dX8_leave_155 rfl (by decide) (fun h155 => ?_) (fun h155 => ?_)
                · refine ev_iincL (q := 165) (L9 := [_, _, _, _, _, _, _]) (1 : Int32) dX8_leave_162 rfl rfl (by decide) (by decide) rfl rfl ?_
                  refine ev_goto (t := 88) dX8_leave_165 (by decide) ?_
                  rw [nI_1]
                  refine ev_wk (L' := [some (.ref 119), some (.int (nI t)), some (.int m), some (.int (nI h)), some (.int _), some (.int (nI (i + 1))), none]) ⟨rfl, rfl, rfl, rfl, rfl, rfl, trivial⟩ ?_
                  exact ih (i + 1) _ _ (by omega) (by omega) rfl (by rw [zsb_s hpt, zLvL_app, ← h1, zLvS_n (decide_eq_false (Int32.not_le.mpr h155))]) hf256
                · refine ev_iload (q := 160) dX8_leave_158 rfl rfl ?_
                  refine ev_istoreL (q := 162) (L9 := [_, _, _, _, _, _, _]) dX8_leave_160 rfl (by decide) rfl rfl ?_
                  refine ev_iincL (q := 165) (L9 := [_, _, _, _, _, _, _]) (1 : Int32) dX8_leave_162 rfl rfl (by decide) (by decide) rfl rfl ?_
                  refine ev_goto (t := 88) dX8_leave_165 (by decide) ?_
                  rw [nI_1]
                  refine ev_wk (L' := [some (.ref 119), some (.int (nI t)), some (.int m), some (.int (nI h)), some (.int _), some (.int (nI (i + 1))), none]) ⟨rfl, rfl, rfl, rfl, rfl, rfl, trivial⟩ ?_
                  exact ih (i + 1) (some i) _ (by omega) (by omega) rfl (by rw [zsb_s hpt, zLvL_app, ← h1, zLvS_y (decide_eq_true (Int32.not_lt.mp h155)) (fun b2 q => by cases q; exact Int32.not_le.mp h116)]) (fun b2 q => by cases q; omega)
  exact lp88 (2 ^ N + 1) 0 none _ (by omega) (by omega) rfl rfl (fun b q => by cases q)
set_option maxHeartbeats 4000000 in
set_option maxRecDepth 100000 in
theorem lq_X8_leave (G : zq_G) (fo : Bool) (I : zq_I) {t N : Nat} {m : Int32} {R : zq_R} (hN8 : N ≤ 8) (hN : I 119 6 = nI N) (K : zq_E G mX8_leave 5 0 0 false 81 [some (.ref 119), some (.int (nI t)), some (.int m), some (.int (zbits (fun i => (vH (zV I) i == nI t) && zTh (zV I) i) N)), none, none, none] [] 138 I (zPs fo) R) : zq_E G mX8_leave 5 0 0 false 35 [some (.ref 119), some (.int (nI t)), some (.int m), some (.int 0), some (.int 0), none, none] [] 138 I (zPs fo) R := by
  have lp35 : ∀ (k i : Nat) (b : Int32), N + 1 ≤ i + k → i ≤ N → b = zor zsh (fun i => (vH (zV I) i == nI t) && zTh (zV I) i) i → zq_E G mX8_leave 5 0 0 false 35 [some (.ref 119), some (.int (nI t)), some (.int m), some (.int b), some (.int (nI i)), none, none] [] 138 I (zPs fo) (R) := by
    intro k
    induction k with
    | zero => intro i b hk hi; exact absurd hk (by omega)
    | succ k ih =>
      intro i b hk hi h0
      refine ev_iload (q := 37) dX8_leave_35 rfl rfl ?_
      refine ev_aload_n (q := 38) dX8_leave_37 rfl rfl ?_
      refine ev_getI (q := 41) (ci := 8) (f := 6) dX8_leave_38 rfl (by first | rfl | assumption | exact zf_kd (by assumption) | exact zw_kd (by assumption) | exact zt_kd (by assumption)) (by first | decide | exact zf_lt (by assumption) | exact zf_lt1 (by assumption) | exact zf_lt2 (by assumption) | exact zf_lt3 (by assumption) | exact zf_lt4 (by assumption) | exact zw_lt (by assumption) | exact zw_lt1 (by assumption) | exact zw_lt2 (by assumption) | exact zw_lt3 (by assumption) | exact zw_lt4 (by assumption) | exact zt_lt (by assumption)) (by decide) (by decide) lfRX8_72 rfl ?_
      refine ev_icmp_ge (q := 44) (t := 81) dX8_leave_41 rfl (by decide) (fun h41 => ?_) (fun h41 => ?_)
      · obtain rfl : i = N := by rw [hN, nI_leI (by omega) (by omega)] at h41; omega
        subst h0
        refine ev_wk (L' := [some (.ref 119), some (.int (nI t)), some (.int m), some (.int _), none, none, none]) ⟨rfl, rfl, rfl, rfl, trivial⟩ ?_
        exact K
      · have hlt_i : i < N := by rw [hN, nI_leI (by omega) (by omega)] at h41; omega
        refine ev_iload_n (q := 45) dX8_leave_44 rfl rfl ?_
        refine ev_aload_n (q := 46) dX8_leave_45 rfl rfl ?_
        refine ev_getR (q := 49) (ci := 8) (f := 7) dX8_leave_46 rfl (by first | rfl | assumption | exact zf_kd (by assumption) | exact zw_kd (by assumption) | exact zt_kd (by assumption)) (by first | decide | exact zf_lt (by assumption) | exact zf_lt1 (by assumption) | exact zf_lt2 (by assumption) | exact zf_lt3 (by assumption) | exact zf_lt4 (by assumption) | exact zw_lt (by assumption) | exact zw_lt1 (by assumption) | exact zw_lt2 (by assumption) | exact zw_lt3 (by assumption) | exact zw_lt4 (by assumption) | exact zt_lt (by assumption)) (by decide) (by decide) lfRX8_17 rfl (by first | rfl | assumption | exact zf_p4 _ (by assumption) | exact zf_p5 _ (by assumption) | exact zf_p6 _ (by assumption) | exact zf_p7 _ (by assumption) | exact zw_p1 _ (by assumption) | exact zw_p2 _ (by assumption) | exact zw_p3 _ (by assumption) | exact zw_p4 _ (by assumption)) ?_
        refine ev_iload (q := 51) dX8_leave_49 rfl rfl ?_
        refine ev_ialdN (q := 52) dX8_leave_51 rfl (by first | rfl | assumption | exact zf_kd1 (by assumption) | exact zf_kd2 (by assumption) | exact zf_kd3 (by assumption) | exact zf_kd4 (by assumption) | exact zw_kd1 (by assumption) | exact zw_kd2 (by assumption) | exact zw_kd3 (by assumption) | exact zw_kd4 (by assumption)) (by first | decide | exact zf_lt (by assumption) | exact zf_lt1 (by assumption) | exact zf_lt2 (by assumption) | exact zf_lt3 (by assumption) | exact zf_lt4 (by assumption) | exact zw_lt (by assumption) | exact zw_lt1 (by assumption) | exact zw_lt2 (by assumption) | exact zw_lt3 (by assumption) | exact zw_lt4 (by assumption) | exact zt_lt (by assumption)) (by first | omega | assumption) ?_
        refine ev_iload_n (q := 53) dX8_leave_52 rfl rfl ?_
        refine ev_icmp_ne (q := 56) (t := 72) dX8_leave_53 rfl (by decide) (fun h53 => ?_) (fun h53 => ?_)
        · have f1 : (vH (zV I) i == nI t) = false := beq_eq_false_iff_ne.mpr h53
          refine ev_iconst (q := 73) (0 : Int32) dX8_leave_72 rfl (by decide) ?_
          refine ev_ior (q := 74) dX8_leave_73 rfl ?_
          refine ev_istore_nL (q := 75) (L9 := [_, _, _, _, _, _, _]) dX8_leave_74 rfl (by decide) rfl rfl ?_
          refine ev_iincL (q := 78) (L9 := [_, _, _, _, _, _, _]) (1 : Int32) dX8_leave_75 rfl rfl (by decide) (by decide) rfl rfl ?_
          refine ev_goto (t := 35) dX8_leave_78 (by decide) ?_
          rw [nI_1]
          exact ih (i + 1) _ (by omega) (by omega) (by rw [i32_or_0]; exact zor_n h0 (by show (_ && _) = false; rw [f1]; rfl))
        · have f1 : (vH (zV I) i == nI t) = true := beq_iff_eq.mpr h53
          refine ev_aload_n (q := 57) dX8_leave_56 rfl rfl ?_
          refine ev_iload (q := 59) dX8_leave_57 rfl rfl ?_
          refine ev_pV (q := 62) (ci := 8) dX8_leave_59 rfl okX8_isThere lmRX8_140 imX8_isThere seX8_isThere (by first | rfl | assumption | exact zf_kd (by assumption) | exact zw_kd (by assumption) | exact zt_kd (by assumption)) (by first | decide | exact zf_lt (by assumption) | exact zf_lt1 (by assumption) | exact zf_lt2 (by assumption) | exact zf_lt3 (by assumption) | exact zf_lt4 (by assumption) | exact zw_lt (by assumption) | exact zw_lt1 (by assumption) | exact zw_lt2 (by assumption) | exact zw_lt3 (by assumption) | exact zw_lt4 (by assumption) | exact zt_lt (by assumption)) (by decide) rfl (c_X8_isThere G fo I (show i < 8 by omega)) (by decide) rfl rfl (Nat.le_of_ble_eq_true rfl) ?_
          refine ev_if_eq (q := 65) (t := 72) dX8_leave_62 rfl (by decide) (fun h62 => ?_) (fun h62 => ?_)
          · have f2 := zb_eq h62
            refine ev_iconst (q := 73) (0 : Int32) dX8_leave_72 rfl (by decide) ?_
            refine ev_ior (q := 74) dX8_leave_73 rfl ?_
            refine ev_istore_nL (q := 75) (L9 := [_, _, _, _, _, _, _]) dX8_leave_74 rfl (by decide) rfl rfl ?_
            refine ev_iincL (q := 78) (L9 := [_, _, _, _, _, _, _]) (1 : Int32) dX8_leave_75 rfl rfl (by decide) (by decide) rfl rfl ?_
            refine ev_goto (t := 35) dX8_leave_78 (by decide) ?_
            rw [nI_1]
            exact ih (i + 1) _ (by omega) (by omega) (by rw [i32_or_0]; exact zor_n h0 (by show (_ && _) = false; rw [f1, f2]; rfl))
          · have f2 := zb_ne h62
            refine ev_iconst (q := 66) (1 : Int32) dX8_leave_65 rfl (by decide) ?_
            refine ev_iload (q := 68) dX8_leave_66 rfl rfl ?_
            refine ev_ishl (q := 69) dX8_leave_68 rfl ?_
            refine ev_goto (t := 73) dX8_leave_69 (by decide) ?_
            refine ev_ior (q := 74) dX8_leave_73 rfl ?_
            refine ev_istore_nL (q := 75) (L9 := [_, _, _, _, _, _, _]) dX8_leave_74 rfl (by decide) rfl rfl ?_
            refine ev_iincL (q := 78) (L9 := [_, _, _, _, _, _, _]) (1 : Int32) dX8_leave_75 rfl rfl (by decide) (by decide) rfl rfl ?_
            refine ev_goto (t := 35) dX8_leave_78 (by decide) ?_
            rw [nI_1]
            exact ih (i + 1) _ (by omega) (by omega) (zor_s h0 (by show (_ && _) = true; rw [f1, f2]; rfl))
  exact lp35 (N + 1) 0 _ (by omega) (by omega) rfl
theorem zLeave_cg {I I1 : zq_I} {N t : Nat} {m : Int32} (hV : zV I1 = zV I) (h4 : I1 119 4 = I 119 4) (h15 : I1 119 15 = I 119 15) (h128 : I1 128 = I 128) : zLeave I1 N m t = zLeave I N m t := by
  have e : zFs I1 = zFs I := by
    funext N m mc b g
    unfold zFs
    rw [hV, h4, h15]
  unfold zLeave zFew
  rw [hV, h128, e]
theorem zm99_t {m : Int32} (h : zm99 m = true) : ∃ k, k ≤ 99 ∧ m = nI k := by
  unfold zm99 at h
  simp only [Bool.and_eq_true, Bool.not_eq_true', decide_eq_false_iff_not, decide_eq_true_eq] at h
  exact nI_of2 (n := 99) (by decide) h.1 h.2
theorem zLeave_eq {fo : Bool} {N T Y t : Nat} {m : Int32} {I : zq_I} (hs : zS fo N T Y I) (ht : t < 4) (hm : zm99 m = true) : zLeave I N m t = zof (zLvL (zlok I N t m) (zsub (zbn (fun i => (vH (zV I) i == nI t) && zTh (zV I) i) N))) := by
  obtain ⟨k, hk, rfl⟩ := zm99_t hm
  obtain ⟨r, hr, er⟩ := hs.2.2.2.2.2.2 t ht
  have h8 := hs.n8
  have hp2 := zp2_le h8
  have hh2 := zbn_lt (fun i => (vH (zV I) i == nI t) && zTh (zV I) i) N
  have hbit : ∀ j, j < N → (zbn (fun i => (vH (zV I) i == nI t) && zTh (zV I) i) N).testBit j = ((vH (zV I) j == nI t) && zTh (zV I) j) := fun j hj => by rw [zbn_bit, decide_eq_true hj]; rfl
  unfold zLeave
  rw [hm, if_neg (by decide)]
  by_cases hlt : r ≤ k
  · rw [if_neg (by rw [er, nI_ltI (by omega) (by omega)]; omega), zFew_eq hs (by omega) hh2 hbit hk er hlt]
    rfl
  · rw [if_pos (by rw [er, nI_ltI (by omega) (by omega)]; omega), zLv_none]
    · rfl
    · intro g hg
      obtain ⟨c, hc, ec⟩ := zCnt_b hs (g := fun i => zMs (zV I) N i (I 119 15)) (c := fun i => (vH (zV I) i == nI t) && !(zhas (nI g) i)) (fun i _ => zMs_mask hs i _)
      unfold zlok
      rw [ec, er, nI_add]
      exact decide_eq_false (by rw [nI_leI (by omega) (by omega)]; omega)
set_option maxHeartbeats 4000000 in
set_option maxRecDepth 100000 in
theorem k_X8_leave (G : zq_G) (fo : Bool) (I : zq_I) {N T Y : Nat} (hs : zS fo N T Y I) (x m : Int32) : zq_E G mX8_leave 5 0 0 false 5 [some (.ref 119), some (.int x), some (.int m), none, none, none, none] [] 138 I (zPs fo) (zq_fm (some (.int (zpick x T (-1) (fun t => zLeave I N m t)))) fo I) := by
  have hN8 := hs.n8
  have hN := hs.mppl
  refine ev_aload_n (q := 6) dX8_leave_5 rfl rfl ?_
  refine ev_iload_n (q := 7) dX8_leave_6 rfl rfl ?_
  refine ev_pV (q := 10) (ci := 8) dX8_leave_7 rfl okX8_noTown lmRX8_167 imX8_noTown seX8_noTown (by first | rfl | assumption | exact zf_kd (by assumption) | exact zw_kd (by assumption) | exact zt_kd (by assumption)) (by first | decide | exact zf_lt (by assumption) | exact zf_lt1 (by assumption) | exact zf_lt2 (by assumption) | exact zf_lt3 (by assumption) | exact zf_lt4 (by assumption) | exact zw_lt (by assumption) | exact zw_lt1 (by assumption) | exact zw_lt2 (by assumption) | exact zw_lt3 (by assumption) | exact zw_lt4 (by assumption) | exact zt_lt (by assumption)) (by decide) rfl (c_X8_noTown G fo I hs _) (by decide) rfl rfl (Nat.le_of_ble_eq_true rfl) ?_
  refine ev_if_eq (q := 13) (t := 15) dX8_leave_10 rfl (by decide) (fun h10 => ?_) (fun h10 => ?_)
  · have hz : zin x (nI T) = true := by simpa using zb_eq h10
    obtain ⟨t, ht, rfl⟩ := zin_t hs.t4' hz
    have ht4 : t < 4 := by have := hs.t4; omega
    refine ev_iload_n (q := 16) dX8_leave_15 rfl rfl ?_
    refine ev_i2l (q := 17) dX8_leave_16 rfl ?_
    refine ev_lconst (q := 18) (0 : Int64) dX8_leave_17 rfl (by decide) ?_
    refine ev_ldc2 (q := 21) dX8_leave_18 rfl ctRX8_190 ?_
    refine ev_pS (q := 24) dX8_leave_21 rfl okX8_in lmRX8_75 smX8_in (c_X8_in G _ _ _ _ _ _) (by decide) rfl rfl (Nat.le_of_ble_eq_true rfl) ?_
    rw [zinL_99]
    refine ev_if_ne (q := 27) (t := 30) dX8_leave_24 rfl (by decide) (fun h24 => ?_) (fun h24 => ?_)
    · have hc : zm99 m = true := zb_ne h24
      refine ev_iconst (q := 31) (0 : Int32) dX8_leave_30 rfl (by decide) ?_
      refine ev_istore_nL (q := 32) (L9 := [_, _, _, _, _, _, _]) dX8_leave_31 rfl (by decide) rfl rfl ?_
      refine ev_iconst (q := 33) (0 : Int32) dX8_leave_32 rfl (by decide) ?_
      refine ev_istoreL (q := 35) (L9 := [_, _, _, _, _, _, _]) dX8_leave_33 rfl (by decide) rfl rfl ?_
      refine lq_X8_leave G fo I hN8 hN ?_
      rw [zbits_N _ N (by omega)]
      have hh2 := zbn_lt (fun i => (vH (zV I) i == nI t) && zTh (zV I) i) N
      have hp2 := zp2_le hN8
      have hh : zbn (fun i => (vH (zV I) i == nI t) && zTh (zV I) i) N < 256 := by omega
      refine ev_bipush (q := 83) ((-9) : Int32) dX8_leave_81 rfl (by decide) ?_
      refine ev_istoreL (q := 85) (L9 := [_, _, _, _, _, _, _]) dX8_leave_83 rfl (by decide) rfl rfl ?_
      refine ev_iconst (q := 86) (0 : Int32) dX8_leave_85 rfl (by decide) ?_
      refine ev_istoreL (q := 88) (L9 := [_, _, _, _, _, _, _]) dX8_leave_86 rfl (by decide) rfl rfl ?_
      refine ev_post ?_ (lp_X8_leave G fo I hs ht4 (h := zbn (fun i => (vH (zV I) i == nI t) && zTh (zV I) i) N) (m := m) hh hh2)
      rintro v n' I' P' ⟨q1, q2, q3, q4⟩
      refine ⟨q1.trans ?_, q2, q4, q3 ▸ zFM.rf⟩
      rw [zpick_t ht hs.t4', zLeave_eq hs ht4 hc]
    · have hc : zm99 m = false := zb_eq h24
      refine ev_bipush (q := 29) ((-2) : Int32) dX8_leave_27 rfl (by decide) ?_
      exact ev_iret dX8_leave_29 rfl (by first | rfl | exact zb_nar _ | assumption) (⟨by rw [zpick_t ht hs.t4']; unfold zLeave; rw [hc]; rfl, rfl, rfl, zFM.rf⟩)
  · have hz : zin x (nI T) = false := by simpa using zb_ne h10
    refine ev_iconst (q := 14) ((-1) : Int32) dX8_leave_13 rfl (by decide) ?_
    exact ev_iret dX8_leave_14 rfl (by first | rfl | exact zb_nar _ | assumption) (⟨by rw [zpick_f hz], rfl, rfl, zFM.rf⟩)
set_option maxHeartbeats 4000000 in
set_option maxRecDepth 100000 in
theorem c_X8_leave (G : zq_G) (fo : Bool) (I : zq_I) {N T Y : Nat} (hs : zS fo N T Y I) (x m : Int32) : zq_Met G mX8_leave 5 0 0 [.ref 119, .int x, .int m] 138 I (zPs fo) (zq_fm (some (.int (zpick x T (-1) (fun t => zLeave I N m t)))) fo I) := by
  refine zq_Met.of okX8_leave (Nat.le_of_ble_eq_true rfl) ?_
  show zq_E _ _ _ _ _ _ _ [some (.ref 119), some (.int x), some (.int m), none, none, none, none] _ _ _ _ _
  refine ev_aload_n (q := 1) dX8_leave_0 rfl rfl ?_
  refine ev_iconst (q := 2) (0 : Int32) dX8_leave_1 rfl (by decide) ?_
  refine ev_putI (q := 5) (ci := 8) (f := 0) dX8_leave_2 rfl (by first | rfl | assumption | exact zf_kd (by assumption) | exact zw_kd (by assumption) | exact zt_kd (by assumption)) (by first | decide | exact zf_lt (by assumption) | exact zf_lt1 (by assumption) | exact zf_lt2 (by assumption) | exact zf_lt3 (by assumption) | exact zf_lt4 (by assumption) | exact zw_lt (by assumption) | exact zw_lt1 (by assumption) | exact zw_lt2 (by assumption) | exact zw_lt3 (by assumption) | exact zw_lt4 (by assumption) | exact zt_lt (by assumption)) (by decide) (by decide) lfRX8_69 rfl rfl rfl rfl ?_
  obtain ⟨I1, hI1⟩ : ∃ I1, I1 = zu I 119 0 0 := ⟨_, rfl⟩
  rw [← hI1]
  have hFM : zFM I I1 := by rw [hI1]; exact zFM.rf.zu 119 0 0 rfl
  have hV := hFM.V
  have e2 : I1 119 2 = I 119 2 := hFM.2 2 rfl
  have e4 : I1 119 4 = I 119 4 := hFM.2 4 rfl
  have e5 : I1 119 5 = I 119 5 := hFM.2 5 rfl
  have e6 : I1 119 6 = I 119 6 := hFM.2 6 rfl
  have e15 : I1 119 15 = I 119 15 := hFM.2 15 rfl
  have e25 : I1 119 25 = I 119 25 := hFM.2 25 rfl
  have f128 : I1 128 = I 128 := hFM.1 128 rfl
  refine ev_post ?_ (k_X8_leave G fo I1 (hFM.S hs) x m)
  rintro v n' I' P' ⟨rfl, rfl, rfl, hf⟩
  exact ⟨by simp only [zLeave_cg hV e4 e15 f128], rfl, rfl, hFM.tr hf⟩
