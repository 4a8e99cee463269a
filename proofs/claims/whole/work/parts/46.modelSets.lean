theorem zall_N {N : Nat} (hN : N ≤ 8) : (1 : Int32) <<< (nI N &&& 31) = nI (2 ^ N) := by
  have h : ∀ N, N < 9 → (1 : Int32) <<< (nI N &&& 31) = nI (2 ^ N) := by decide +kernel
  exact h N (by omega)
theorem zp2_le {N : Nat} (hN : N ≤ 8) : 2 ^ N ≤ 256 := Nat.le_trans (Nat.pow_le_pow_right (by decide) hN) (by decide)
def zsb (h i : Nat) : List Nat := (List.range i).filter (fun g => g &&& h == g)
theorem zsb_s {h i : Nat} (hg : i &&& h = i) : zsb h (i + 1) = zsb h i ++ [i] := by
  unfold zsb; rw [List.range_succ, List.filter_append]; simp [hg]
theorem zsb_n {h i : Nat} (hg : ¬ i &&& h = i) : zsb h (i + 1) = zsb h i := by
  unfold zsb; rw [List.range_succ, List.filter_append]; simp [hg]
theorem zsb_end {N h : Nat} (hN : N ≤ 8) (hh : h < 2 ^ N) : zsb h (2 ^ N) = zsub h := (zsub_N hN hh).symm
theorem zpart {g h : Nat} (hg : g < 256) : nI g &&& (nI h ^^^ (-1)) = 0 ↔ g &&& h = g := by
  rw [zwg_eq hg, show (0 : Int32) = nI 0 from rfl, nI_eq (Nat.lt_of_lt_of_le (zwg_lt hg) (by decide)) (by decide)]
  unfold zwg
  constructor
  · intro h0
    refine Nat.eq_of_testBit_eq (fun k => ?_)
    have h1 := congrArg (fun n => n.testBit k) h0
    simp only [Nat.testBit_and, Nat.testBit_xor, Nat.zero_testBit] at h1
    rw [Nat.testBit_and]
    revert h1; cases g.testBit k <;> cases h.testBit k <;> simp
  · intro h0; rw [h0, Nat.xor_self, Nat.and_zero]
theorem zOHn_2 (V : zq_V) (N : Nat) (t : Int32) : zOHn V N t < 2 ^ N := zbn_lt _ N
/-- the model's own step of spans -/
def zSpM (l : Int32) (V : zq_V) (N h : Nat) (c : Int32) (s : Int32 × Int32 × Int32) (g : Nat) : Int32 × Int32 × Int32 :=
  if zCIA l V N (nI h) (nI g) = c then (s.1 + 1, (if s.2.1 = -9 then zpop (nI h) - zpop (nI g) else if zpop (nI h) - zpop (nI g) < s.2.1 then zpop (nI h) - zpop (nI g) else s.2.1), (if s.2.2 < zpop (nI h) - zpop (nI g) then zpop (nI h) - zpop (nI g) else s.2.2)) else s
theorem zSpM_s {l : Int32} {V : zq_V} {N h : Nat} {c : Int32} {a b e : Int32} {g : Nat} (h1 : zCIA l V N (nI h) (nI g) = c) : zSpM l V N h c (a, b, e) g = (a + 1, (if b = -9 then zpop (nI h) - zpop (nI g) else if zpop (nI h) - zpop (nI g) < b then zpop (nI h) - zpop (nI g) else b), (if e < zpop (nI h) - zpop (nI g) then zpop (nI h) - zpop (nI g) else e)) := by unfold zSpM; rw [if_pos h1]
theorem zSpM_n {l : Int32} {V : zq_V} {N h : Nat} {c : Int32} {s : Int32 × Int32 × Int32} {g : Nat} (h1 : ¬ zCIA l V N (nI h) (nI g) = c) : zSpM l V N h c s g = s := by unfold zSpM; rw [if_neg h1]
def zSpL (l : Int32) (V : zq_V) (N h : Nat) (c : Int32) (L : List Nat) : Int32 × Int32 × Int32 := L.foldl (zSpM l V N h c) (0, -9, -9)
theorem zSpL_app (l : Int32) (V : zq_V) (N h : Nat) (c : Int32) (L : List Nat) (g : Nat) : zSpL l V N h c (L ++ [g]) = zSpM l V N h c (zSpL l V N h c L) g := by unfold zSpL; rw [List.foldl_append]; rfl
def zAwN (l : Int32) (V : zq_V) (N h : Nat) (c : Int32) (p : Nat) (L : List Nat) : Int32 := nI (L.countP (fun g => g.testBit p && (zCIA l V N (nI h) (nI g) == c)))
theorem zAwN_n {l : Int32} {V : zq_V} {N h : Nat} {c : Int32} {p : Nat} {L : List Nat} {g : Nat} (h1 : ¬ zCIA l V N (nI h) (nI g) = c) : zAwN l V N h c p (L ++ [g]) = zAwN l V N h c p L := by
  unfold zAwN; rw [List.countP_append]; simp [h1]
theorem zAwN_s {l : Int32} {V : zq_V} {N h : Nat} {c : Int32} {p : Nat} {L : List Nat} {g : Nat} (h1 : zCIA l V N (nI h) (nI g) = c) : zAwN l V N h c p (L ++ [g]) = zAwN l V N h c p L + zb (g.testBit p) := by
  unfold zAwN; rw [List.countP_append]
  cases hb : g.testBit p
  · simp [hb, zb]
  · simp [hb, h1, zb]; exact (nI_1 _).symm
set_option maxHeartbeats 4000000 in
set_option maxRecDepth 100000 in
theorem lp_X8_laySets_in (G : zq_G) (fo : Bool) (I0 : zq_I) {N t h g : Nat} {c lf : Int32} {R : zq_R} (hN8 : N ≤ 8) (hN0 : I0 119 6 = nI N) (hg : g < 256) (K : ∀ I1 : zq_I, (∀ c, c ≠ 136 → I1 c = I0 c) → (∀ p, p < N → I1 136 p = I0 136 p + zb (g.testBit p)) → zq_E G mX8_laySets 3 0 0 false 199 [some (.ref 119), some (.int (nI t)), some (.int c), some (.int (nI h)), some (.int (nI g)), none, none] [] 138 I1 (zPs fo) R) : zq_E G mX8_laySets 3 0 0 false 159 [some (.ref 119), some (.int (nI t)), some (.int c), some (.int (nI h)), some (.int (nI g)), some (.int lf), some (.int 0)] [] 138 I0 (zPs fo) R := by
  have lp159 : ∀ (k i : Nat) (I1 : zq_I), N + 1 ≤ i + k → i ≤ N → (∀ c, c ≠ 136 → I1 c = I0 c) → (∀ p, p < i → I1 136 p = I0 136 p + zb (g.testBit p)) → (∀ p, i ≤ p → I1 136 p = I0 136 p) → zq_E G mX8_laySets 3 0 0 false 159 [some (.ref 119), some (.int (nI t)), some (.int c), some (.int (nI h)), some (.int (nI g)), some (.int lf), some (.int (nI i))] [] 138 I1 (zPs fo) (R) := by
    intro k
    induction k with
    | zero => intro i I1 hk hi; exact absurd hk (by omega)
    | succ k ih =>
      intro i I1 hk hi hf h0 h1
      have hN1 : I1 119 6 = nI N := by rw [hf 119 (by decide)]; exact hN0
      refine ev_iload (q := 161) dX8_laySets_159 rfl rfl ?_
      refine ev_aload_n (q := 162) dX8_laySets_161 rfl rfl ?_
      refine ev_getI (q := 165) (ci := 8) (f := 6) dX8_laySets_162 rfl (by first | rfl | assumption | exact zf_kd (by assumption) | exact zw_kd (by assumption) | exact zt_kd (by assumption)) (by first | decide | exact zf_lt (by assumption) | exact zf_lt1 (by assumption) | exact zf_lt2 (by assumption) | exact zf_lt3 (by assumption) | exact zf_lt4 (by assumption) | exact zw_lt (by assumption) | exact zw_lt1 (by assumption) | exact zw_lt2 (by assumption) | exact zw_lt3 (by assumption) | exact zw_lt4 (by assumption) | exact zt_lt (by assumption)) (by decide) (by decide) lfRX8_72 rfl ?_
      refine ev_icmp_ge (q := 168) (t := 199) dX8_laySets_165 rfl (by decide) (fun h165 => ?_) (fun h165 => ?_)
      · obtain rfl : i = N := by rw [hN1, nI_leI (by omega) (by omega)] at h165; omega
        refine ev_wk (L' := [some (.ref 119), some (.int (nI t)), some (.int c), some (.int (nI h)), some (.int (nI g)), none, none]) ⟨rfl, rfl, rfl, rfl, rfl, trivial⟩ ?_
        exact K _ hf h0
      · have hlt_i : i < N := by rw [hN1, nI_leI (by omega) (by omega)] at h165; omega
        refine ev_aload_n (q := 169) dX8_laySets_168 rfl rfl ?_
        refine ev_getR (q := 172) (ci := 8) (f := 29) dX8_laySets_169 rfl (by first | rfl | assumption | exact zf_kd (by assumption) | exact zw_kd (by assumption) | exact zt_kd (by assumption)) (by first | decide | exact zf_lt (by assumption) | exact zf_lt1 (by assumption) | exact zf_lt2 (by assumption) | exact zf_lt3 (by assumption) | exact zf_lt4 (by assumption) | exact zw_lt (by assumption) | exact zw_lt1 (by assumption) | exact zw_lt2 (by assumption) | exact zw_lt3 (by assumption) | exact zw_lt4 (by assumption) | exact zt_lt (by assumption)) (by decide) (by decide) lfRX8_63 rfl (by first | rfl | assumption | exact zf_p4 _ (by assumption) | exact zf_p5 _ (by assumption) | exact zf_p6 _ (by assumption) | exact zf_p7 _ (by assumption) | exact zw_p1 _ (by assumption) | exact zw_p2 _ (by assumption) | exact zw_p3 _ (by assumption) | exact zw_p4 _ (by assumption)) ?_
        refine ev_iload (q := 174) dX8_laySets_172 rfl rfl ?_
        refine ev_dup2 (q := 175) dX8_laySets_174 rfl rfl rfl ?_
        refine ev_ialdN (q := 176) dX8_laySets_175 rfl (by first | rfl | assumption | exact zf_kd1 (by assumption) | exact zf_kd2 (by assumption) | exact zf_kd3 (by assumption) | exact zf_kd4 (by assumption) | exact zw_kd1 (by assumption) | exact zw_kd2 (by assumption) | exact zw_kd3 (by assumption) | exact zw_kd4 (by assumption)) (by first | decide | exact zf_lt (by assumption) | exact zf_lt1 (by assumption) | exact zf_lt2 (by assumption) | exact zf_lt3 (by assumption) | exact zf_lt4 (by assumption) | exact zw_lt (by assumption) | exact zw_lt1 (by assumption) | exact zw_lt2 (by assumption) | exact zw_lt3 (by assumption) | exact zw_lt4 (by assumption) | exact zt_lt (by assumption)) (by first | omega | assumption) ?_
        refine ev_iload (q := 178) dX8_laySets_176 rfl rfl ?_
        refine ev_iload (q := 180) dX8_laySets_178 rfl rfl ?_
        refine ev_pS (q := 183) dX8_laySets_180 rfl okX8_has lmRX8_101 smX8_has (c_X8_has G _ _ _ _ _) (by decide) rfl rfl (Nat.le_of_ble_eq_true rfl) ?_
        refine ev_if_eq (q := 186) (t := 190) dX8_laySets_183 rfl (by decide) (fun h183 => ?_) (fun h183 => ?_)
        · have hb := zb_eq h183
          refine ev_iconst (q := 191) (0 : Int32) dX8_laySets_190 rfl (by decide) ?_
          refine ev_iadd (q := 192) dX8_laySets_191 rfl ?_
          refine ev_iastN (q := 193) dX8_laySets_192 rfl (by first | rfl | assumption | exact zf_kd1 (by assumption) | exact zf_kd2 (by assumption) | exact zf_kd3 (by assumption) | exact zf_kd4 (by assumption) | exact zw_kd1 (by assumption) | exact zw_kd2 (by assumption) | exact zw_kd3 (by assumption) | exact zw_kd4 (by assumption)) (by first | decide | exact zf_lt (by assumption) | exact zf_lt1 (by assumption) | exact zf_lt2 (by assumption) | exact zf_lt3 (by assumption) | exact zf_lt4 (by assumption) | exact zw_lt (by assumption) | exact zw_lt1 (by assumption) | exact zw_lt2 (by assumption) | exact zw_lt3 (by assumption) | exact zw_lt4 (by assumption) | exact zt_lt (by assumption)) (by first | omega | assumption) ?_
          refine ev_iincL (q := 196) (L9 := [_, _, _, _, _, _, _]) (1 : Int32) dX8_laySets_193 rfl rfl (by decide) (by decide) rfl rfl ?_
          refine ev_goto (t := 159) dX8_laySets_196 (by decide) ?_
          rw [nI_1]
          exact ih (i + 1) _ (by omega) (by omega) (fun c hc => by rw [zu_other hc]; exact hf c hc) (fun p hp => by
            by_cases hpi : p = i
            · subst hpi; rw [zhas_N (by omega) (by omega)] at hb; rw [zu_eq, h1 p (Nat.le_refl _), hb]; rfl
            · rw [zu_ne hpi]; exact h0 p (by omega)) (fun p hp => by rw [zu_ne (by omega)]; exact h1 p (by omega))
        · have hb := zb_ne h183
          refine ev_iconst (q := 187) (1 : Int32) dX8_laySets_186 rfl (by decide) ?_
          refine ev_goto (t := 191) dX8_laySets_187 (by decide) ?_
          refine ev_iadd (q := 192) dX8_laySets_191 rfl ?_
          refine ev_iastN (q := 193) dX8_laySets_192 rfl (by first | rfl | assumption | exact zf_kd1 (by assumption) | exact zf_kd2 (by assumption) | exact zf_kd3 (by assumption) | exact zf_kd4 (by assumption) | exact zw_kd1 (by assumption) | exact zw_kd2 (by assumption) | exact zw_kd3 (by assumption) | exact zw_kd4 (by assumption)) (by first | decide | exact zf_lt (by assumption) | exact zf_lt1 (by assumption) | exact zf_lt2 (by assumption) | exact zf_lt3 (by assumption) | exact zf_lt4 (by assumption) | exact zw_lt (by assumption) | exact zw_lt1 (by assumption) | exact zw_lt2 (by assumption) | exact zw_lt3 (by assumption) | exact zw_lt4 (by assumption) | exact zt_lt (by assumption)) (by first | omega | assumption) ?_
          refine ev_iincL (q := 196) (L9 := [_, _, _, _, _, _, _]) (1 : Int32) dX8_laySets_193 rfl rfl (by decide) (by decide) rfl rfl ?_
          refine ev_goto (t := 159) dX8_laySets_196 (by decide) ?_
          rw [nI_1]
          exact ih (i + 1) _ (by omega) (by omega) (fun c hc => by rw [zu_other hc]; exact hf c hc) (fun p hp => by
            by_cases hpi : p = i
            · subst hpi; rw [zhas_N (by omega) (by omega)] at hb; rw [zu_eq, h1 p (Nat.le_refl _), hb]; rfl
            · rw [zu_ne hpi]; exact h0 p (by omega)) (fun p hp => by rw [zu_ne (by omega)]; exact h1 p (by omega))
  exact lp159 (N + 1) 0 _ (by omega) (by omega) (fun _ _ => rfl) (fun p hp => absurd hp (by omega)) (fun _ _ => rfl)
set_option maxHeartbeats 4000000 in
set_option maxRecDepth 100000 in
theorem lp_X8_laySets (G : zq_G) (fo : Bool) (I : zq_I) {N T Y : Nat} (hs : zS fo N T Y I) {t h : Nat} {c : Int32} (hh : h < 256) (hh2 : h < 2 ^ N) : ∀ (I1 : zq_I), zFM I I1 → (I1 119 28, I1 119 30, I1 119 31) = zSpL (I 119 4) (zV I) N h c (zsb h 0) → (∀ p, p < N → I1 136 p = zAwN (I 119 4) (zV I) N h c p (zsb h 0)) → zq_E G mX8_laySets 3 0 0 false 50 [some (.ref 119), some (.int (nI t)), some (.int c), some (.int (nI h)), some (.int (nI 0)), none, none] [] 138 I1 (zPs fo) (fun v n' I' P' => v = none ∧ n' = 138 ∧ P' = zPs fo ∧ zFM I I' ∧ (I' 119 28, I' 119 30, I' 119 31) = zSpL (I 119 4) (zV I) N h c (zsub h) ∧ ∀ p, p < N → I' 136 p = zAwN (I 119 4) (zV I) N h c p (zsub h)) := by
  have hN8 := hs.n8
  have hp2 := zp2_le hN8
  have lp50 : ∀ (k i : Nat) (I1 : zq_I), 2 ^ N + 1 ≤ i + k → i ≤ 2 ^ N → zFM I I1 → (I1 119 28, I1 119 30, I1 119 31) = zSpL (I 119 4) (zV I) N h c (zsb h i) → (∀ p, p < N → I1 136 p = zAwN (I 119 4) (zV I) N h c p (zsb h i)) → zq_E G mX8_laySets 3 0 0 false 50 [some (.ref 119), some (.int (nI t)), some (.int c), some (.int (nI h)), some (.int (nI i)), none, none] [] 138 I1 (zPs fo) (fun v n' I' P' => v = none ∧ n' = 138 ∧ P' = zPs fo ∧ zFM I I' ∧ (I' 119 28, I' 119 30, I' 119 31) = zSpL (I 119 4) (zV I) N h c (zsub h) ∧ ∀ p, p < N → I' 136 p = zAwN (I 119 4) (zV I) N h c p (zsub h)) := by
    intro k
    induction k with
    | zero => intro i I1 hk hi; exact absurd hk (by omega)
    | succ k ih =>
      intro i I1 hk hi hFM h0 h1
      have hs1 := hFM.S hs
      have hV := hFM.V
      have e4 : I1 119 4 = I 119 4 := hFM.2 4 rfl
      have hN1 : I1 119 6 = nI N := hs1.mppl
      refine ev_iload (q := 52) dX8_laySets_50 rfl rfl ?_
      refine ev_iconst (q := 53) (1 : Int32) dX8_laySets_52 rfl (by decide) ?_
      refine ev_aload_n (q := 54) dX8_laySets_53 rfl rfl ?_
      refine ev_getI (q := 57) (ci := 8) (f := 6) dX8_laySets_54 rfl (by first | rfl | assumption | exact zf_kd (by assumption) | exact zw_kd (by assumption) | exact zt_kd (by assumption)) (by first | decide | exact zf_lt (by assumption) | exact zf_lt1 (by assumption) | exact zf_lt2 (by assumption) | exact zf_lt3 (by assumption) | exact zf_lt4 (by assumption) | exact zw_lt (by assumption) | exact zw_lt1 (by assumption) | exact zw_lt2 (by assumption) | exact zw_lt3 (by assumption) | exact zw_lt4 (by assumption) | exact zt_lt (by assumption)) (by decide) (by decide) lfRX8_72 rfl ?_
      rw [hN1]
      refine ev_ishl (q := 58) dX8_laySets_57 rfl ?_
      rw [zall_N hN8]
      refine ev_icmp_ge (q := 61) (t := 205) dX8_laySets_58 rfl (by decide) (fun h58 => ?_) (fun h58 => ?_)
      · obtain rfl : i = 2 ^ N := by rw [nI_leI (by omega) (by omega)] at h58; omega
        exact ev_vret dX8_laySets_205 rfl (⟨rfl, rfl, rfl, hFM, by rw [zsb_end hN8 hh2] at h0; exact h0, fun p hp => by rw [← zsb_end hN8 hh2]; exact h1 p hp⟩)
      · have hlt_i : i < 2 ^ N := by rw [nI_leI (by omega) (by omega)] at h58; omega
        refine ev_iload (q := 63) dX8_laySets_61 rfl rfl ?_
        refine ev_iload_n (q := 64) dX8_laySets_63 rfl rfl ?_
        refine ev_iconst (q := 65) ((-1) : Int32) dX8_laySets_64 rfl (by decide) ?_
        refine ev_ixor (q := 66) dX8_laySets_65 rfl ?_
        refine ev_iand (q := 67) dX8_laySets_66 rfl ?_
        refine ev_if_ne (q := 70) (t := 199) dX8_laySets_67 rfl (by decide) (fun h67 => ?_) (fun h67 => ?_)
        · have hnp : ¬ i &&& h = i := fun q => h67 ((zpart (by omega)).mpr q)
          refine ev_iincL (q := 202) (L9 := [_, _, _, _, _, _, _]) (1 : Int32) dX8_laySets_199 rfl rfl (by decide) (by decide) rfl rfl ?_
          refine ev_goto (t := 50) dX8_laySets_202 (by decide) ?_
          rw [nI_1]
          refine ev_wk (L' := [some (.ref 119), some (.int (nI t)), some (.int c), some (.int (nI h)), some (.int (nI (i + 1))), none, none]) ⟨rfl, rfl, rfl, rfl, rfl, trivial⟩ ?_
          exact ih (i + 1) _ (by omega) (by omega) hFM (by rw [zsb_n hnp]; exact h0) (fun p hp => by rw [zsb_n hnp]; exact h1 p hp)
        · have hpt : i &&& h = i := (zpart (by omega)).mp h67
          refine ev_aload_n (q := 71) dX8_laySets_70 rfl rfl ?_
          refine ev_iload_n (q := 72) dX8_laySets_71 rfl rfl ?_
          refine ev_iload (q := 74) dX8_laySets_72 rfl rfl ?_
          refine ev_pV (q := 77) (ci := 8) dX8_laySets_74 rfl okX8_countBy lmRX8_201 imX8_countBy seX8_countBy (by first | rfl | assumption | exact zf_kd (by assumption) | exact zw_kd (by assumption) | exact zt_kd (by assumption)) (by first | decide | exact zf_lt (by assumption) | exact zf_lt1 (by assumption) | exact zf_lt2 (by assumption) | exact zf_lt3 (by assumption) | exact zf_lt4 (by assumption) | exact zw_lt (by assumption) | exact zw_lt1 (by assumption) | exact zw_lt2 (by assumption) | exact zw_lt3 (by assumption) | exact zw_lt4 (by assumption) | exact zt_lt (by assumption)) (by decide) rfl (c_X8_countBy G fo I1 hs1 hh (g := i) (by omega)) (by decide) rfl rfl (Nat.le_of_ble_eq_true rfl) ?_
          rw [hV, e4]
          refine ev_iload_n (q := 78) dX8_laySets_77 rfl rfl ?_
          refine ev_icmp_ne (q := 81) (t := 199) dX8_laySets_78 rfl (by decide) (fun h78 => ?_) (fun h78 => ?_)
          · refine ev_iincL (q := 202) (L9 := [_, _, _, _, _, _, _]) (1 : Int32) dX8_laySets_199 rfl rfl (by decide) (by decide) rfl rfl ?_
            refine ev_goto (t := 50) dX8_laySets_202 (by decide) ?_
            rw [nI_1]
            refine ev_wk (L' := [some (.ref 119), some (.int (nI t)), some (.int c), some (.int (nI h)), some (.int (nI (i + 1))), none, none]) ⟨rfl, rfl, rfl, rfl, rfl, trivial⟩ ?_
            exact ih (i + 1) _ (by omega) (by omega) hFM (by rw [zsb_s hpt, zSpL_app, ← h0, zSpM_n h78]) (fun p hp => by rw [zsb_s hpt, zAwN_n h78]; exact h1 p hp)
          · refine ev_iload_n (q := 82) dX8_laySets_81 rfl rfl ?_
            refine ev_pS (q := 85) dX8_laySets_82 rfl okX8_many lmRX8_151 smX8_many (c_X8_many G _ _ _ _) (by decide) rfl rfl (Nat.le_of_ble_eq_true rfl) ?_
            rw [zmany_pop _ hh]
            refine ev_iload (q := 87) dX8_laySets_85 rfl rfl ?_
            refine ev_pS (q := 90) dX8_laySets_87 rfl okX8_many lmRX8_151 smX8_many (c_X8_many G _ _ _ _) (by decide) rfl rfl (Nat.le_of_ble_eq_true rfl) ?_
            rw [zmany_pop _ (show i < 256 by omega)]
            refine ev_isub (q := 91) dX8_laySets_90 rfl ?_
            refine ev_istoreL (q := 93) (L9 := [_, _, _, _, _, _, _]) dX8_laySets_91 rfl (by decide) rfl rfl ?_
            refine ev_aload_n (q := 94) dX8_laySets_93 rfl rfl ?_
            refine ev_dup (q := 95) dX8_laySets_94 rfl rfl ?_
            refine ev_getI (q := 98) (ci := 8) (f := 28) dX8_laySets_95 rfl (by first | rfl | assumption | exact zf_kd (by assumption) | exact zw_kd (by assumption) | exact zt_kd (by assumption)) (by first | decide | exact zf_lt (by assumption) | exact zf_lt1 (by assumption) | exact zf_lt2 (by assumption) | exact zf_lt3 (by assumption) | exact zf_lt4 (by assumption) | exact zw_lt (by assumption) | exact zw_lt1 (by assumption) | exact zw_lt2 (by assumption) | exact zw_lt3 (by assumption) | exact zw_lt4 (by assumption) | exact zt_lt (by assumption)) (by decide) (by decide) lfRX8_192 rfl ?_
            refine ev_iconst (q := 99) (1 : Int32) dX8_laySets_98 rfl (by decide) ?_
            refine ev_iadd (q := 100) dX8_laySets_99 rfl ?_
            refine ev_putI (q := 103) (ci := 8) (f := 28) dX8_laySets_100 rfl (by first | rfl | assumption | exact zf_kd (by assumption) | exact zw_kd (by assumption) | exact zt_kd (by assumption)) (by first | decide | exact zf_lt (by assumption) | exact zf_lt1 (by assumption) | exact zf_lt2 (by assumption) | exact zf_lt3 (by assumption) | exact zf_lt4 (by assumption) | exact zw_lt (by assumption) | exact zw_lt1 (by assumption) | exact zw_lt2 (by assumption) | exact zw_lt3 (by assumption) | exact zw_lt4 (by assumption) | exact zt_lt (by assumption)) (by decide) (by decide) lfRX8_192 rfl rfl rfl rfl ?_
            refine ev_aload_n (q := 104) dX8_laySets_103 rfl rfl ?_
            refine ev_aload_n (q := 105) dX8_laySets_104 rfl rfl ?_
            refine ev_getI (q := 108) (ci := 8) (f := 30) dX8_laySets_105 rfl (by first | rfl | assumption | exact zf_kd (by assumption) | exact zw_kd (by assumption) | exact zt_kd (by assumption)) (by first | decide | exact zf_lt (by assumption) | exact zf_lt1 (by assumption) | exact zf_lt2 (by assumption) | exact zf_lt3 (by assumption) | exact zf_lt4 (by assumption) | exact zw_lt (by assumption) | exact zw_lt1 (by assumption) | exact zw_lt2 (by assumption) | exact zw_lt3 (by assumption) | exact zw_lt4 (by assumption) | exact zt_lt (by assumption)) (by decide) (by decide) lfRX8_195 rfl ?_
            rw [zu_ne (show 30 ≠ 28 by decide)]
            refine ev_bipush (q := 110) ((-9) : Int32) dX8_laySets_108 rfl (by decide) ?_
            refine ev_icmp_eq (q := 113) (t := 122) dX8_laySets_110 rfl (by decide) (fun h110 => ?_) (fun h110 => ?_)
            · refine ev_iload (q := 124) dX8_laySets_122 rfl rfl ?_
              refine ev_goto (t := 131) dX8_laySets_124 (by decide) ?_
              try rw [zu_ne (show 30 ≠ 28 by decide)]
              refine ev_putI (q := 134) (ci := 8) (f := 30) dX8_laySets_131 rfl (by first | rfl | assumption | exact zf_kd (by assumption) | exact zw_kd (by assumption) | exact zt_kd (by assumption)) (by first | decide | exact zf_lt (by assumption) | exact zf_lt1 (by assumption) | exact zf_lt2 (by assumption) | exact zf_lt3 (by assumption) | exact zf_lt4 (by assumption) | exact zw_lt (by assumption) | exact zw_lt1 (by assumption) | exact zw_lt2 (by assumption) | exact zw_lt3 (by assumption) | exact zw_lt4 (by assumption) | exact zt_lt (by assumption)) (by decide) (by decide) lfRX8_195 rfl rfl rfl rfl ?_
              refine ev_aload_n (q := 135) dX8_laySets_134 rfl rfl ?_
              refine ev_iload (q := 137) dX8_laySets_135 rfl rfl ?_
              refine ev_aload_n (q := 138) dX8_laySets_137 rfl rfl ?_
              refine ev_getI (q := 141) (ci := 8) (f := 31) dX8_laySets_138 rfl (by first | rfl | assumption | exact zf_kd (by assumption) | exact zw_kd (by assumption) | exact zt_kd (by assumption)) (by first | decide | exact zf_lt (by assumption) | exact zf_lt1 (by assumption) | exact zf_lt2 (by assumption) | exact zf_lt3 (by assumption) | exact zf_lt4 (by assumption) | exact zw_lt (by assumption) | exact zw_lt1 (by assumption) | exact zw_lt2 (by assumption) | exact zw_lt3 (by assumption) | exact zw_lt4 (by assumption) | exact zt_lt (by assumption)) (by decide) (by decide) lfRX8_198 rfl ?_
              rw [zu_ne (show 31 ≠ 30 by decide), zu_ne (show 31 ≠ 28 by decide)]
              refine ev_icmp_le (q := 144) (t := 149) dX8_laySets_141 rfl (by decide) (fun h141 => ?_) (fun h141 => ?_)
              · refine ev_aload_n (q := 150) dX8_laySets_149 rfl rfl ?_
                refine ev_getI (q := 153) (ci := 8) (f := 31) dX8_laySets_150 rfl (by first | rfl | assumption | exact zf_kd (by assumption) | exact zw_kd (by assumption) | exact zt_kd (by assumption)) (by first | decide | exact zf_lt (by assumption) | exact zf_lt1 (by assumption) | exact zf_lt2 (by assumption) | exact zf_lt3 (by assumption) | exact zf_lt4 (by assumption) | exact zw_lt (by assumption) | exact zw_lt1 (by assumption) | exact zw_lt2 (by assumption) | exact zw_lt3 (by assumption) | exact zw_lt4 (by assumption) | exact zt_lt (by assumption)) (by decide) (by decide) lfRX8_198 rfl ?_
                try rw [zu_ne (show 31 ≠ 30 by decide), zu_ne (show 31 ≠ 28 by decide)]
                refine ev_putI (q := 156) (ci := 8) (f := 31) dX8_laySets_153 rfl (by first | rfl | assumption | exact zf_kd (by assumption) | exact zw_kd (by assumption) | exact zt_kd (by assumption)) (by first | decide | exact zf_lt (by assumption) | exact zf_lt1 (by assumption) | exact zf_lt2 (by assumption) | exact zf_lt3 (by assumption) | exact zf_lt4 (by assumption) | exact zw_lt (by assumption) | exact zw_lt1 (by assumption) | exact zw_lt2 (by assumption) | exact zw_lt3 (by assumption) | exact zw_lt4 (by assumption) | exact zt_lt (by assumption)) (by decide) (by decide) lfRX8_198 rfl rfl rfl rfl ?_
                refine ev_iconst (q := 157) (0 : Int32) dX8_laySets_156 rfl (by decide) ?_
                refine ev_istoreL (q := 159) (L9 := [_, _, _, _, _, _, _]) dX8_laySets_157 rfl (by decide) rfl rfl ?_
                refine ev_wk (L' := [some (.ref 119), some (.int (nI t)), some (.int c), some (.int (nI h)), some (.int (nI i)), some (.int _), some (.int 0)]) ⟨rfl, rfl, rfl, rfl, rfl, rfl, rfl, trivial⟩ ?_
                have hFM4 : ∀ a b e, zFM I (zu (zu (zu I1 119 28 a) 119 30 b) 119 31 e) := fun a b e => ((hFM.zu 119 28 a rfl).zu 119 30 b rfl).zu 119 31 e rfl
                refine lp_X8_laySets_in G fo _ hN8 (by rw [zu_ne (by decide), zu_ne (by decide), zu_ne (by decide)]; exact hN1) (by omega) (fun I3 hf3 ha3 => ?_)
                have hFM3 : zFM I I3 := ⟨fun b hb => by rw [hf3 b (by rintro rfl; cases hb)]; exact (hFM4 _ _ _).1 b hb, fun k hk => by rw [hf3 119 (by decide)]; exact (hFM4 _ _ _).2 k hk⟩
                refine ev_iincL (q := 202) (L9 := [_, _, _, _, _, _, _]) (1 : Int32) dX8_laySets_199 rfl rfl (by decide) (by decide) rfl rfl ?_
                refine ev_goto (t := 50) dX8_laySets_202 (by decide) ?_
                rw [nI_1]
                exact ih (i + 1) _ (by omega) (by omega) hFM3 (by
                  rw [zsb_s hpt, zSpL_app, ← h0, zSpM_s h78, if_pos h110, if_neg (Int32.not_lt.mpr h141), hf3 119 (by decide), zu_ne (by decide), zu_ne (by decide), zu_eq, zu_ne (by decide), zu_eq, zu_eq]) (fun p hp => by
                  rw [zsb_s hpt, zAwN_s h78, ha3 p hp, zu_other (by decide), zu_other (by decide), zu_other (by decide), h1 p hp])
              · refine ev_iload (q := 146) dX8_laySets_144 rfl rfl ?_
                refine ev_goto (t := 153) dX8_laySets_146 (by decide) ?_
                try rw [zu_ne (show 31 ≠ 30 by decide), zu_ne (show 31 ≠ 28 by decide)]
                refine ev_putI (q := 156) (ci := 8) (f := 31) dX8_laySets_153 rfl (by first | rfl | assumption | exact zf_kd (by assumption) | exact zw_kd (by assumption) | exact zt_kd (by assumption)) (by first | decide | exact zf_lt (by assumption) | exact zf_lt1 (by assumption) | exact zf_lt2 (by assumption) | exact zf_lt3 (by assumption) | exact zf_lt4 (by assumption) | exact zw_lt (by assumption) | exact zw_lt1 (by assumption) | exact zw_lt2 (by assumption) | exact zw_lt3 (by assumption) | exact zw_lt4 (by assumption) | exact zt_lt (by assumption)) (by decide) (by decide) lfRX8_198 rfl rfl rfl rfl ?_
                refine ev_iconst (q := 157) (0 : Int32) dX8_laySets_156 rfl (by decide) ?_
                refine ev_istoreL (q := 159) (L9 := [_, _, _, _, _, _, _]) dX8_laySets_157 rfl (by decide) rfl rfl ?_
                refine ev_wk (L' := [some (.ref 119), some (.int (nI t)), some (.int c), some (.int (nI h)), some (.int (nI i)), some (.int _), some (.int 0)]) ⟨rfl, rfl, rfl, rfl, rfl, rfl, rfl, trivial⟩ ?_
                have hFM4 : ∀ a b e, zFM I (zu (zu (zu I1 119 28 a) 119 30 b) 119 31 e) := fun a b e => ((hFM.zu 119 28 a rfl).zu 119 30 b rfl).zu 119 31 e rfl
                refine lp_X8_laySets_in G fo _ hN8 (by rw [zu_ne (by decide), zu_ne (by decide), zu_ne (by decide)]; exact hN1) (by omega) (fun I3 hf3 ha3 => ?_)
                have hFM3 : zFM I I3 := ⟨fun b hb => by rw [hf3 b (by rintro rfl; cases hb)]; exact (hFM4 _ _ _).1 b hb, fun k hk => by rw [hf3 119 (by decide)]; exact (hFM4 _ _ _).2 k hk⟩
                refine ev_iincL (q := 202) (L9 := [_, _, _, _, _, _, _]) (1 : Int32) dX8_laySets_199 rfl rfl (by decide) (by decide) rfl rfl ?_
                refine ev_goto (t := 50) dX8_laySets_202 (by decide) ?_
                rw [nI_1]
                exact ih (i + 1) _ (by omega) (by omega) hFM3 (by
                  rw [zsb_s hpt, zSpL_app, ← h0, zSpM_s h78, if_pos h110, if_pos (Int32.not_le.mp h141), hf3 119 (by decide), zu_ne (by decide), zu_ne (by decide), zu_eq, zu_ne (by decide), zu_eq, zu_eq]) (fun p hp => by
                  rw [zsb_s hpt, zAwN_s h78, ha3 p hp, zu_other (by decide), zu_other (by decide), zu_other (by decide), h1 p hp])
            · refine ev_iload (q := 115) dX8_laySets_113 rfl rfl ?_
              refine ev_aload_n (q := 116) dX8_laySets_115 rfl rfl ?_
              refine ev_getI (q := 119) (ci := 8) (f := 30) dX8_laySets_116 rfl (by first | rfl | assumption | exact zf_kd (by assumption) | exact zw_kd (by assumption) | exact zt_kd (by assumption)) (by first | decide | exact zf_lt (by assumption) | exact zf_lt1 (by assumption) | exact zf_lt2 (by assumption) | exact zf_lt3 (by assumption) | exact zf_lt4 (by assumption) | exact zw_lt (by assumption) | exact zw_lt1 (by assumption) | exact zw_lt2 (by assumption) | exact zw_lt3 (by assumption) | exact zw_lt4 (by assumption) | exact zt_lt (by assumption)) (by decide) (by decide) lfRX8_195 rfl ?_
              rw [zu_ne (show 30 ≠ 28 by decide)]
              refine ev_icmp_ge (q := 122) (t := 127) dX8_laySets_119 rfl (by decide) (fun h119 => ?_) (fun h119 => ?_)
              · refine ev_aload_n (q := 128) dX8_laySets_127 rfl rfl ?_
                refine ev_getI (q := 131) (ci := 8) (f := 30) dX8_laySets_128 rfl (by first | rfl | assumption | exact zf_kd (by assumption) | exact zw_kd (by assumption) | exact zt_kd (by assumption)) (by first | decide | exact zf_lt (by assumption) | exact zf_lt1 (by assumption) | exact zf_lt2 (by assumption) | exact zf_lt3 (by assumption) | exact zf_lt4 (by assumption) | exact zw_lt (by assumption) | exact zw_lt1 (by assumption) | exact zw_lt2 (by assumption) | exact zw_lt3 (by assumption) | exact zw_lt4 (by assumption) | exact zt_lt (by assumption)) (by decide) (by decide) lfRX8_195 rfl ?_
                try rw [zu_ne (show 30 ≠ 28 by decide)]
                refine ev_putI (q := 134) (ci := 8) (f := 30) dX8_laySets_131 rfl (by first | rfl | assumption | exact zf_kd (by assumption) | exact zw_kd (by assumption) | exact zt_kd (by assumption)) (by first | decide | exact zf_lt (by assumption) | exact zf_lt1 (by assumption) | exact zf_lt2 (by assumption) | exact zf_lt3 (by assumption) | exact zf_lt4 (by assumption) | exact zw_lt (by assumption) | exact zw_lt1 (by assumption) | exact zw_lt2 (by assumption) | exact zw_lt3 (by assumption) | exact zw_lt4 (by assumption) | exact zt_lt (by assumption)) (by decide) (by decide) lfRX8_195 rfl rfl rfl rfl ?_
                refine ev_aload_n (q := 135) dX8_laySets_134 rfl rfl ?_
                refine ev_iload (q := 137) dX8_laySets_135 rfl rfl ?_
                refine ev_aload_n (q := 138) dX8_laySets_137 rfl rfl ?_
                refine ev_getI (q := 141) (ci := 8) (f := 31) dX8_laySets_138 rfl (by first | rfl | assumption | exact zf_kd (by assumption) | exact zw_kd (by assumption) | exact zt_kd (by assumption)) (by first | decide | exact zf_lt (by assumption) | exact zf_lt1 (by assumption) | exact zf_lt2 (by assumption) | exact zf_lt3 (by assumption) | exact zf_lt4 (by assumption) | exact zw_lt (by assumption) | exact zw_lt1 (by assumption) | exact zw_lt2 (by assumption) | exact zw_lt3 (by assumption) | exact zw_lt4 (by assumption) | exact zt_lt (by assumption)) (by decide) (by decide) lfRX8_198 rfl ?_
                rw [zu_ne (show 31 ≠ 30 by decide), zu_ne (show 31 ≠ 28 by decide)]
                refine ev_icmp_le (q := 144) (t := 149) dX8_laySets_141 rfl (by decide) (fun h141 => ?_) (fun h141 => ?_)
                · refine ev_aload_n (q := 150) dX8_laySets_149 rfl rfl ?_
                  refine ev_getI (q := 153) (ci := 8) (f := 31) dX8_laySets_150 rfl (by first | rfl | assumption | exact zf_kd (by assumption) | exact zw_kd (by assumption) | exact zt_kd (by assumption)) (by first | decide | exact zf_lt (by assumption) | exact zf_lt1 (by assumption) | exact zf_lt2 (by assumption) | exact zf_lt3 (by assumption) | exact zf_lt4 (by assumption) | exact zw_lt (by assumption) | exact zw_lt1 (by assumption) | exact zw_lt2 (by assumption) | exact zw_lt3 (by assumption) | exact zw_lt4 (by assumption) | exact zt_lt (by assumption)) (by decide) (by decide) lfRX8_198 rfl ?_
                  try rw [zu_ne (show 31 ≠ 30 by decide), zu_ne (show 31 ≠ 28 by decide)]
                  refine ev_putI (q := 156) (ci := 8) (f := 31) dX8_laySets_153 rfl (by first | rfl | assumption | exact zf_kd (by assumption) | exact zw_kd (by assumption) | exact zt_kd (by assumption)) (by first | decide | exact zf_lt (by assumption) | exact zf_lt1 (by assumption) | exact zf_lt2 (by assumption) | exact zf_lt3 (by assumption) | exact zf_lt4 (by assumption) | exact zw_lt (by assumption) | exact zw_lt1 (by assumption) | exact zw_lt2 (by assumption) | exact zw_lt3 (by assumption) | exact zw_lt4 (by assumption) | exact zt_lt (by assumption)) (by decide) (by decide) lfRX8_198 rfl rfl rfl rfl ?_
                  refine ev_iconst (q := 157) (0 : Int32) dX8_laySets_156 rfl (by decide) ?_
                  refine ev_istoreL (q := 159) (L9 := [_, _, _, _, _, _, _]) dX8_laySets_157 rfl (by decide) rfl rfl ?_
                  refine ev_wk (L' := [some (.ref 119), some (.int (nI t)), some (.int c), some (.int (nI h)), some (.int (nI i)), some (.int _), some (.int 0)]) ⟨rfl, rfl, rfl, rfl, rfl, rfl, rfl, trivial⟩ ?_
                  have hFM4 : ∀ a b e, zFM I (zu (zu (zu I1 119 28 a) 119 30 b) 119 31 e) := fun a b e => ((hFM.zu 119 28 a rfl).zu 119 30 b rfl).zu 119 31 e rfl
                  refine lp_X8_laySets_in G fo _ hN8 (by rw [zu_ne (by decide), zu_ne (by decide), zu_ne (by decide)]; exact hN1) (by omega) (fun I3 hf3 ha3 => ?_)
                  have hFM3 : zFM I I3 := ⟨fun b hb => by rw [hf3 b (by rintro rfl; cases hb)]; exact (hFM4 _ _ _).1 b hb, fun k hk => by rw [hf3 119 (by decide)]; exact (hFM4 _ _ _).2 k hk⟩
                  refine ev_iincL (q := 202) (L9 := [_, _, _, _, _, _, _]) (1 : Int32) dX8_laySets_199 rfl rfl (by decide) (by decide) rfl rfl ?_
                  refine ev_goto (t := 50) dX8_laySets_202 (by decide) ?_
                  rw [nI_1]
                  exact ih (i + 1) _ (by omega) (by omega) hFM3 (by
                    rw [zsb_s hpt, zSpL_app, ← h0, zSpM_s h78, if_neg h110, if_neg (Int32.not_lt.mpr h119), if_neg (Int32.not_lt.mpr h141), hf3 119 (by decide), zu_ne (by decide), zu_ne (by decide), zu_eq, zu_ne (by decide), zu_eq, zu_eq]) (fun p hp => by
                    rw [zsb_s hpt, zAwN_s h78, ha3 p hp, zu_other (by decide), zu_other (by decide), zu_other (by decide), h1 p hp])
                · refine ev_iload (q := 146) dX8_laySets_144 rfl rfl ?_
                  refine ev_goto (t := 153) dX8_laySets_146 (by decide) ?_
                  try rw [zu_ne (show 31 ≠ 30 by decide), zu_ne (show 31 ≠ 28 by decide)]
                  refine ev_putI (q := 156) (ci := 8) (f := 31) dX8_laySets_153 rfl (by first | rfl | assumption | exact zf_kd (by assumption) | exact zw_kd (by assumption) | exact zt_kd (by assumption)) (by first | decide | exact zf_lt (by assumption) | exact zf_lt1 (by assumption) | exact zf_lt2 (by assumption) | exact zf_lt3 (by assumption) | exact zf_lt4 (by assumption) | exact zw_lt (by assumption) | exact zw_lt1 (by assumption) | exact zw_lt2 (by assumption) | exact zw_lt3 (by assumption) | exact zw_lt4 (by assumption) | exact zt_lt (by assumption)) (by decide) (by decide) lfRX8_198 rfl rfl rfl rfl ?_
                  refine ev_iconst (q := 157) (0 : Int32) dX8_laySets_156 rfl (by decide) ?_
                  refine ev_istoreL (q := 159) (L9 := [_, _, _, _, _, _, _]) dX8_laySets_157 rfl (by decide) rfl rfl ?_
                  refine ev_wk (L' := [some (.ref 119), some (.int (nI t)), some (.int c), some (.int (nI h)), some (.int (nI i)), some (.int _), some (.int 0)]) ⟨rfl, rfl, rfl, rfl, rfl, rfl, rfl, trivial⟩ ?_
                  have hFM4 : ∀ a b e, zFM I (zu (zu (zu I1 119 28 a) 119 30 b) 119 31 e) := fun a b e => ((hFM.zu 119 28 a rfl).zu 119 30 b rfl).zu 119 31 e rfl
                  refine lp_X8_laySets_in G fo _ hN8 (by rw [zu_ne (by decide), zu_ne (by decide), zu_ne (by decide)]; exact hN1) (by omega) (fun I3 hf3 ha3 => ?_)
                  have hFM3 : zFM I I3 := ⟨fun b hb => by rw [hf3 b (by rintro rfl; cases hb)]; exact (hFM4 _ _ _).1 b hb, fun k hk => by rw [hf3 119 (by decide)]; exact (hFM4 _ _ _).2 k hk⟩
                  refine ev_iincL (q := 202) (L9 := [_, _, _, _, _, _, _]) (1 : Int32) dX8_laySets_199 rfl rfl (by decide) (by decide) rfl rfl ?_
                  refine ev_goto (t := 50) dX8_laySets_202 (by decide) ?_
                  rw [nI_1]
                  exact ih (i + 1) _ (by omega) (by omega) hFM3 (by
                    rw [zsb_s hpt, zSpL_app, ← h0, zSpM_s h78, if_neg h110, if_neg (Int32.not_lt.mpr h119), if_pos (Int32.not_le.mp h141), hf3 119 (by decide), zu_ne (by decide), zu_ne (by decide), zu_eq, zu_ne (by decide), zu_eq, zu_eq]) (fun p hp => by
                    rw [zsb_s hpt, zAwN_s h78, ha3 p hp, zu_other (by decide), zu_other (by decide), zu_other (by decide), h1 p hp])
              · refine ev_iload (q := 124) dX8_laySets_122 rfl rfl ?_
                refine ev_goto (t := 131) dX8_laySets_124 (by decide) ?_
                try rw [zu_ne (show 30 ≠ 28 by decide)]
                refine ev_putI (q := 134) (ci := 8) (f := 30) dX8_laySets_131 rfl (by first | rfl | assumption | exact zf_kd (by assumption) | exact zw_kd (by assumption) | exact zt_kd (by assumption)) (by first | decide | exact zf_lt (by assumption) | exact zf_lt1 (by assumption) | exact zf_lt2 (by assumption) | exact zf_lt3 (by assumption) | exact zf_lt4 (by assumption) | exact zw_lt (by assumption) | exact zw_lt1 (by assumption) | exact zw_lt2 (by assumption) | exact zw_lt3 (by assumption) | exact zw_lt4 (by assumption) | exact zt_lt (by assumption)) (by decide) (by decide) lfRX8_195 rfl rfl rfl rfl ?_
                refine ev_aload_n (q := 135) dX8_laySets_134 rfl rfl ?_
                refine ev_iload (q := 137) dX8_laySets_135 rfl rfl ?_
                refine ev_aload_n (q := 138) dX8_laySets_137 rfl rfl ?_
                refine ev_getI (q := 141) (ci := 8) (f := 31) dX8_laySets_138 rfl (by first | rfl | assumption | exact zf_kd (by assumption) | exact zw_kd (by assumption) | exact zt_kd (by assumption)) (by first | decide | exact zf_lt (by assumption) | exact zf_lt1 (by assumption) | exact zf_lt2 (by assumption) | exact zf_lt3 (by assumption) | exact zf_lt4 (by assumption) | exact zw_lt (by assumption) | exact zw_lt1 (by assumption) | exact zw_lt2 (by assumption) | exact zw_lt3 (by assumption) | exact zw_lt4 (by assumption) | exact zt_lt (by assumption)) (by decide) (by decide) lfRX8_198 rfl ?_
                rw [zu_ne (show 31 ≠ 30 by decide), zu_ne (show 31 ≠ 28 by decide)]
                refine ev_icmp_le (q := 144) (t := 149) dX8_laySets_141 rfl (by decide) (fun h141 => ?_) (fun h141 => ?_)
                · refine ev_aload_n (q := 150) dX8_laySets_149 rfl rfl ?_
                  refine ev_getI (q := 153) (ci := 8) (f := 31) dX8_laySets_150 rfl (by first | rfl | assumption | exact zf_kd (by assumption) | exact zw_kd (by assumption) | exact zt_kd (by assumption)) (by first | decide | exact zf_lt (by assumption) | exact zf_lt1 (by assumption) | exact zf_lt2 (by assumption) | exact zf_lt3 (by assumption) | exact zf_lt4 (by assumption) | exact zw_lt (by assumption) | exact zw_lt1 (by assumption) | exact zw_lt2 (by assumption) | exact zw_lt3 (by assumption) | exact zw_lt4 (by assumption) | exact zt_lt (by assumption)) (by decide) (by decide) lfRX8_198 rfl ?_
                  try rw [zu_ne (show 31 ≠ 30 by decide), zu_ne (show 31 ≠ 28 by decide)]
                  refine ev_putI (q := 156) (ci := 8) (f := 31) dX8_laySets_153 rfl (by first | rfl | assumption | exact zf_kd (by assumption) | exact zw_kd (by assumption) | exact zt_kd (by assumption)) (by first | decide | exact zf_lt (by assumption) | exact zf_lt1 (by assumption) | exact zf_lt2 (by assumption) | exact zf_lt3 (by assumption) | exact zf_lt4 (by assumption) | exact zw_lt (by assumption) | exact zw_lt1 (by assumption) | exact zw_lt2 (by assumption) | exact zw_lt3 (by assumption) | exact zw_lt4 (by assumption) | exact zt_lt (by assumption)) (by decide) (by decide) lfRX8_198 rfl rfl rfl rfl ?_
                  refine ev_iconst (q := 157) (0 : Int32) dX8_laySets_156 rfl (by decide) ?_
                  refine ev_istoreL (q := 159) (L9 := [_, _, _, _, _, _, _]) dX8_laySets_157 rfl (by decide) rfl rfl ?_
                  refine ev_wk (L' := [some (.ref 119), some (.int (nI t)), some (.int c), some (.int (nI h)), some (.int (nI i)), some (.int _), some (.int 0)]) ⟨rfl, rfl, rfl, rfl, rfl, rfl, rfl, trivial⟩ ?_
                  have hFM4 : ∀ a b e, zFM I (zu (zu (zu I1 119 28 a) 119 30 b) 119 31 e) := fun a b e => ((hFM.zu 119 28 a rfl).zu 119 30 b rfl).zu 119 31 e rfl
                  refine lp_X8_laySets_in G fo _ hN8 (by rw [zu_ne (by decide), zu_ne (by decide), zu_ne (by decide)]; exact hN1) (by omega) (fun I3 hf3 ha3 => ?_)
                  have hFM3 : zFM I I3 := ⟨fun b hb => by rw [hf3 b (by rintro rfl; cases hb)]; exact (hFM4 _ _ _).1 b hb, fun k hk => by rw [hf3 119 (by decide)]; exact (hFM4 _ _ _).2 k hk⟩
                  refine ev_iincL (q := 202) (L9 := [_, _, _, _, _, _, _]) (1 : Int32) dX8_laySets_199 rfl rfl (by decide) (by decide) rfl rfl ?_
                  refine ev_goto (t := 50) dX8_laySets_202 (by decide) ?_
                  rw [nI_1]
                  exact ih (i + 1) _ (by omega) (by omega) hFM3 (by
                    rw [zsb_s hpt, zSpL_app, ← h0, zSpM_s h78, if_neg h110, if_pos (Int32.not_le.mp h119), if_neg (Int32.not_lt.mpr h141), hf3 119 (by decide), zu_ne (by decide), zu_ne (by decide), zu_eq, zu_ne (by decide), zu_eq, zu_eq]) (fun p hp => by
                    rw [zsb_s hpt, zAwN_s h78, ha3 p hp, zu_other (by decide), zu_other (by decide), zu_other (by decide), h1 p hp])
                · refine ev_iload (q := 146) dX8_laySets_144 rfl rfl ?_
                  refine ev_goto (t := 153) dX8_laySets_146 (by decide) ?_
                  try rw [zu_ne (show 31 ≠ 30 by decide), zu_ne (show 31 ≠ 28 by decide)]
                  refine ev_putI (q := 156) (ci := 8) (f := 31) dX8_laySets_153 rfl (by first | rfl | assumption | exact zf_kd (by assumption) | exact zw_kd (by assumption) | exact zt_kd (by assumption)) (by first | decide | exact zf_lt (by assumption) | exact zf_lt1 (by assumption) | exact zf_lt2 (by assumption) | exact zf_lt3 (by assumption) | exact zf_lt4 (by assumption) | exact zw_lt (by assumption) | exact zw_lt1 (by assumption) | exact zw_lt2 (by assumption) | exact zw_lt3 (by assumption) | exact zw_lt4 (by assumption) | exact zt_lt (by assumption)) (by decide) (by decide) lfRX8_198 rfl rfl rfl rfl ?_
                  refine ev_iconst (q := 157) (0 : Int32) dX8_laySets_156 rfl (by decide) ?_
                  refine ev_istoreL (q := 159) (L9 := [_, _, _, _, _, _, _]) dX8_laySets_157 rfl (by decide) rfl rfl ?_
                  refine ev_wk (L' := [some (.ref 119), some (.int (nI t)), some (.int c), some (.int (nI h)), some (.int (nI i)), some (.int _), some (.int 0)]) ⟨rfl, rfl, rfl, rfl, rfl, rfl, rfl, trivial⟩ ?_
                  have hFM4 : ∀ a b e, zFM I (zu (zu (zu I1 119 28 a) 119 30 b) 119 31 e) := fun a b e => ((hFM.zu 119 28 a rfl).zu 119 30 b rfl).zu 119 31 e rfl
                  refine lp_X8_laySets_in G fo _ hN8 (by rw [zu_ne (by decide), zu_ne (by decide), zu_ne (by decide)]; exact hN1) (by omega) (fun I3 hf3 ha3 => ?_)
                  have hFM3 : zFM I I3 := ⟨fun b hb => by rw [hf3 b (by rintro rfl; cases hb)]; exact (hFM4 _ _ _).1 b hb, fun k hk => by rw [hf3 119 (by decide)]; exact (hFM4 _ _ _).2 k hk⟩
                  refine ev_iincL (q := 202) (L9 := [_, _, _, _, _, _, _]) (1 : Int32) dX8_laySets_199 rfl rfl (by decide) (by decide) rfl rfl ?_
                  refine ev_goto (t := 50) dX8_laySets_202 (by decide) ?_
                  rw [nI_1]
                  exact ih (i + 1) _ (by omega) (by omega) hFM3 (by
                    rw [zsb_s hpt, zSpL_app, ← h0, zSpM_s h78, if_neg h110, if_pos (Int32.not_le.mp h119), if_pos (Int32.not_le.mp h141), hf3 119 (by decide), zu_ne (by decide), zu_ne (by decide), zu_eq, zu_ne (by decide), zu_eq, zu_eq]) (fun p hp => by
                    rw [zsb_s hpt, zAwN_s h78, ha3 p hp, zu_other (by decide), zu_other (by decide), zu_other (by decide), h1 p hp])
  intro I1 a b c
  exact lp50 (2 ^ N + 1) 0 _ (by omega) (by omega) a b c
set_option maxHeartbeats 4000000 in
set_option maxRecDepth 100000 in
theorem lq_X8_laySets (G : zq_G) (fo : Bool) (I : zq_I) {N T Y : Nat} (hs : zS fo N T Y I) {t h : Nat} {c : Int32} (hh : h < 256) (hh2 : h < 2 ^ N) : ∀ (I1 : zq_I), zFM I I1 → (I1 119 28, I1 119 30, I1 119 31) = ((0 : Int32), (-9 : Int32), (-9 : Int32)) → zq_E G mX8_laySets 3 0 0 false 26 [some (.ref 119), some (.int (nI t)), some (.int c), some (.int (nI h)), some (.int 0), none, none] [] 138 I1 (zPs fo) (fun v n' I' P' => v = none ∧ n' = 138 ∧ P' = zPs fo ∧ zFM I I' ∧ (I' 119 28, I' 119 30, I' 119 31) = zSpL (I 119 4) (zV I) N h c (zsub h) ∧ ∀ p, p < N → I' 136 p = zAwN (I 119 4) (zV I) N h c p (zsub h)) := by
  have hN8 := hs.n8
  have lp26 : ∀ (k i : Nat) (I1 : zq_I), 8 + 1 ≤ i + k → i ≤ 8 → zFM I I1 → (I1 119 28, I1 119 30, I1 119 31) = ((0 : Int32), (-9 : Int32), (-9 : Int32)) → (∀ p, p < i → I1 136 p = 0) → zq_E G mX8_laySets 3 0 0 false 26 [some (.ref 119), some (.int (nI t)), some (.int c), some (.int (nI h)), some (.int (nI i)), none, none] [] 138 I1 (zPs fo) (fun v n' I' P' => v = none ∧ n' = 138 ∧ P' = zPs fo ∧ zFM I I' ∧ (I' 119 28, I' 119 30, I' 119 31) = zSpL (I 119 4) (zV I) N h c (zsub h) ∧ ∀ p, p < N → I' 136 p = zAwN (I 119 4) (zV I) N h c p (zsub h)) := by
    intro k
    induction k with
    | zero => intro i I1 hk hi; exact absurd hk (by omega)
    | succ k ih =>
      intro i I1 hk hi hFM h0 h1
      refine ev_iload (q := 28) dX8_laySets_26 rfl rfl ?_
      refine ev_bipush (q := 30) (nI 8 : Int32) dX8_laySets_28 rfl (by decide) ?_
      refine ev_icmp_ge (q := 33) (t := 47) dX8_laySets_30 rfl (by decide) (fun h30 => ?_) (fun h30 => ?_)
      · obtain rfl : i = 8 := by rw [nI_leI (by omega) (by omega)] at h30; omega
        refine ev_iconst (q := 48) (nI 0 : Int32) dX8_laySets_47 rfl (by decide) ?_
        refine ev_istoreL (q := 50) (L9 := [_, _, _, _, _, _, _]) dX8_laySets_48 rfl (by decide) rfl rfl ?_
        exact lp_X8_laySets G fo I hs hh hh2 _ hFM h0 (fun p hp => h1 p (by omega))
      · have hlt_i : i < 8 := by rw [nI_leI (by omega) (by omega)] at h30; omega
        refine ev_aload_n (q := 34) dX8_laySets_33 rfl rfl ?_
        refine ev_getR (q := 37) (ci := 8) (f := 29) dX8_laySets_34 rfl (by first | rfl | assumption | exact zf_kd (by assumption) | exact zw_kd (by assumption) | exact zt_kd (by assumption)) (by first | decide | exact zf_lt (by assumption) | exact zf_lt1 (by assumption) | exact zf_lt2 (by assumption) | exact zf_lt3 (by assumption) | exact zf_lt4 (by assumption) | exact zw_lt (by assumption) | exact zw_lt1 (by assumption) | exact zw_lt2 (by assumption) | exact zw_lt3 (by assumption) | exact zw_lt4 (by assumption) | exact zt_lt (by assumption)) (by decide) (by decide) lfRX8_63 rfl (by first | rfl | assumption | exact zf_p4 _ (by assumption) | exact zf_p5 _ (by assumption) | exact zf_p6 _ (by assumption) | exact zf_p7 _ (by assumption) | exact zw_p1 _ (by assumption) | exact zw_p2 _ (by assumption) | exact zw_p3 _ (by assumption) | exact zw_p4 _ (by assumption)) ?_
        refine ev_iload (q := 39) dX8_laySets_37 rfl rfl ?_
        refine ev_iconst (q := 40) (0 : Int32) dX8_laySets_39 rfl (by decide) ?_
        refine ev_iastN (q := 41) dX8_laySets_40 rfl (by first | rfl | assumption | exact zf_kd1 (by assumption) | exact zf_kd2 (by assumption) | exact zf_kd3 (by assumption) | exact zf_kd4 (by assumption) | exact zw_kd1 (by assumption) | exact zw_kd2 (by assumption) | exact zw_kd3 (by assumption) | exact zw_kd4 (by assumption)) (by first | decide | exact zf_lt (by assumption) | exact zf_lt1 (by assumption) | exact zf_lt2 (by assumption) | exact zf_lt3 (by assumption) | exact zf_lt4 (by assumption) | exact zw_lt (by assumption) | exact zw_lt1 (by assumption) | exact zw_lt2 (by assumption) | exact zw_lt3 (by assumption) | exact zw_lt4 (by assumption) | exact zt_lt (by assumption)) (by first | omega | assumption) ?_
        refine ev_iincL (q := 44) (L9 := [_, _, _, _, _, _, _]) (1 : Int32) dX8_laySets_41 rfl rfl (by decide) (by decide) rfl rfl ?_
        refine ev_goto (t := 26) dX8_laySets_44 (by decide) ?_
        rw [nI_1]
        exact ih (i + 1) _ (by omega) (by omega) (hFM.zu 136 i 0 rfl) (by rw [zu_other (by decide)]; exact h0) (fun p hp => by
          by_cases hpi : p = i
          · subst hpi; exact zu_eq
          · rw [zu_ne hpi]; exact h1 p (by omega))
  intro I1 a b
  exact lp26 9 0 _ (by omega) (by omega) a b (fun p hp => absurd hp (by omega))
set_option maxHeartbeats 4000000 in
set_option maxRecDepth 100000 in
theorem c_X8_laySets (G : zq_G) (fo : Bool) (I : zq_I) {N T Y : Nat} (hs : zS fo N T Y I) (t : Nat) (c : Int32) : zq_Met G mX8_laySets 3 0 0 [.ref 119, .int (nI t), .int c] 138 I (zPs fo) (fun v n' I' P' => v = none ∧ n' = 138 ∧ P' = zPs fo ∧ zFM I I' ∧ (I' 119 28, I' 119 30, I' 119 31) = zSpL (I 119 4) (zV I) N (zOHn (zV I) N (nI t)) c (zsub (zOHn (zV I) N (nI t))) ∧ ∀ p, p < N → I' 136 p = zAwN (I 119 4) (zV I) N (zOHn (zV I) N (nI t)) c p (zsub (zOHn (zV I) N (nI t)))) := by
  refine zq_Met.of okX8_laySets (Nat.le_of_ble_eq_true rfl) ?_
  show zq_E _ _ _ _ _ _ _ [some (.ref 119), some (.int (nI t)), some (.int c), none, none, none, none] _ _ _ _ _
  have hN8 := hs.n8
  have hN := hs.mppl
  refine ev_aload_n (q := 1) dX8_laySets_0 rfl rfl ?_
  refine ev_iload_n (q := 2) dX8_laySets_1 rfl rfl ?_
  refine ev_pV (q := 5) (ci := 8) dX8_laySets_2 rfl okX8_atHome lmRX8_173 imX8_atHome seX8_atHome (by first | rfl | assumption | exact zf_kd (by assumption) | exact zw_kd (by assumption) | exact zt_kd (by assumption)) (by first | decide | exact zf_lt (by assumption) | exact zf_lt1 (by assumption) | exact zf_lt2 (by assumption) | exact zf_lt3 (by assumption) | exact zf_lt4 (by assumption) | exact zw_lt (by assumption) | exact zw_lt1 (by assumption) | exact zw_lt2 (by assumption) | exact zw_lt3 (by assumption) | exact zw_lt4 (by assumption) | exact zt_lt (by assumption)) (by decide) rfl (c_X8_atHome G fo I hs _) (by decide) rfl rfl (Nat.le_of_ble_eq_true rfl) ?_
  rw [zOH_n _ hN8]
  have hm := zOHn_lt (zV I) hN8 (nI t)
  refine ev_istore_nL (q := 6) (L9 := [_, _, _, _, _, _, _]) dX8_laySets_5 rfl (by decide) rfl rfl ?_
  refine ev_aload_n (q := 7) dX8_laySets_6 rfl rfl ?_
  refine ev_iconst (q := 8) (0 : Int32) dX8_laySets_7 rfl (by decide) ?_
  refine ev_putI (q := 11) (ci := 8) (f := 28) dX8_laySets_8 rfl (by first | rfl | assumption | exact zf_kd (by assumption) | exact zw_kd (by assumption) | exact zt_kd (by assumption)) (by first | decide | exact zf_lt (by assumption) | exact zf_lt1 (by assumption) | exact zf_lt2 (by assumption) | exact zf_lt3 (by assumption) | exact zf_lt4 (by assumption) | exact zw_lt (by assumption) | exact zw_lt1 (by assumption) | exact zw_lt2 (by assumption) | exact zw_lt3 (by assumption) | exact zw_lt4 (by assumption) | exact zt_lt (by assumption)) (by decide) (by decide) lfRX8_192 rfl rfl rfl rfl ?_
  refine ev_aload_n (q := 12) dX8_laySets_11 rfl rfl ?_
  refine ev_bipush (q := 14) ((-9) : Int32) dX8_laySets_12 rfl (by decide) ?_
  refine ev_putI (q := 17) (ci := 8) (f := 30) dX8_laySets_14 rfl (by first | rfl | assumption | exact zf_kd (by assumption) | exact zw_kd (by assumption) | exact zt_kd (by assumption)) (by first | decide | exact zf_lt (by assumption) | exact zf_lt1 (by assumption) | exact zf_lt2 (by assumption) | exact zf_lt3 (by assumption) | exact zf_lt4 (by assumption) | exact zw_lt (by assumption) | exact zw_lt1 (by assumption) | exact zw_lt2 (by assumption) | exact zw_lt3 (by assumption) | exact zw_lt4 (by assumption) | exact zt_lt (by assumption)) (by decide) (by decide) lfRX8_195 rfl rfl rfl rfl ?_
  refine ev_aload_n (q := 18) dX8_laySets_17 rfl rfl ?_
  refine ev_bipush (q := 20) ((-9) : Int32) dX8_laySets_18 rfl (by decide) ?_
  refine ev_putI (q := 23) (ci := 8) (f := 31) dX8_laySets_20 rfl (by first | rfl | assumption | exact zf_kd (by assumption) | exact zw_kd (by assumption) | exact zt_kd (by assumption)) (by first | decide | exact zf_lt (by assumption) | exact zf_lt1 (by assumption) | exact zf_lt2 (by assumption) | exact zf_lt3 (by assumption) | exact zf_lt4 (by assumption) | exact zw_lt (by assumption) | exact zw_lt1 (by assumption) | exact zw_lt2 (by assumption) | exact zw_lt3 (by assumption) | exact zw_lt4 (by assumption) | exact zt_lt (by assumption)) (by decide) (by decide) lfRX8_198 rfl rfl rfl rfl ?_
  refine ev_iconst (q := 24) (0 : Int32) dX8_laySets_23 rfl (by decide) ?_
  refine ev_istoreL (q := 26) (L9 := [_, _, _, _, _, _, _]) dX8_laySets_24 rfl (by decide) rfl rfl ?_
  refine lq_X8_laySets G fo I hs hm (zOHn_2 _ _ _) _ (((zFM.rf.zu 119 28 0 rfl).zu 119 30 (-9) rfl).zu 119 31 (-9) rfl) ?_
  rw [zu_ne (by decide), zu_ne (by decide), zu_eq, zu_ne (by decide), zu_eq, zu_eq]
