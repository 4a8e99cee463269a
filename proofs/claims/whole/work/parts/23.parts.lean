def zCIA (l : Int32) (V : zq_V) (N : Nat) (h a : Int32) : Int32 := zCnt l V N (fun i => vA V i &&& a) (fun i => zhas (h &&& (a ^^^ (-1))) i)
def zCM (l : Int32) (V : zq_V) (N : Nat) (y a : Int32) : Int32 := zCnt l V N (fun i => zMs V N i y) (fun i => zhas a i)
theorem zcnt_s {l : List Nat} {q : Nat → Bool} {i g : Nat} {b : Int32} (hb : b = nI ((l.take i).countP q)) (hg : l[i]? = some g) (h : q g = true) : b + 1 = nI ((l.take (i + 1)).countP q) := by
  rw [take_s hg, List.countP_append, hb, nI_1]; simp [h]
theorem zcnt_n {l : List Nat} {q : Nat → Bool} {i g : Nat} {b : Int32} (hb : b = nI ((l.take i).countP q)) (hg : l[i]? = some g) (h : q g = false) : b = nI ((l.take (i + 1)).countP q) := by
  rw [take_s hg, List.countP_append, hb]; simp [h]
theorem zfold_s {α : Type} {l : List Nat} {f : α → Nat → α} {a : α} {i g : Nat} (hg : l[i]? = some g) : (l.take (i + 1)).foldl f a = f ((l.take i).foldl f a) g := by
  rw [take_s hg, List.foldl_append]; rfl
/-- what is answered for a number of those below N, and else -/
def zpick (x : Int32) (N : Nat) (bad : Int32) (F : Nat → Int32) : Int32 := if zin x (nI N) = true then F x.toNatClampNeg else bad
theorem zpick_f {x : Int32} {N : Nat} {bad : Int32} {F : Nat → Int32} (h : zin x (nI N) = false) : zpick x N bad F = bad := by unfold zpick; rw [h]; rfl
theorem zin_of {p N : Nat} (hp : p < N) (hN : N < 2 ^ 31) : zin (nI p) (nI N) = true := by
  unfold zin
  have h1 : ¬ nI p < 0 := nI_pos (by omega)
  have h2 : ¬ nI N ≤ nI p := nI_ge hp hN
  simp [h1, h2]
theorem zpick_t {p N : Nat} {bad : Int32} {F : Nat → Int32} (hp : p < N) (hN : N < 2 ^ 31) : zpick (nI p) N bad F = F p := by
  unfold zpick; rw [zin_of hp hN, if_pos rfl, nI_clamp (by omega)]
theorem zin_t {x : Int32} {N : Nat} (hN : N < 2 ^ 31) (h : zin x (nI N) = true) : ∃ p, p < N ∧ x = nI p := by
  unfold zin at h
  simp only [Bool.and_eq_true, Bool.not_eq_true', decide_eq_false_iff_not] at h
  rcases pk_ix x hN with h1 | h1 | h1
  · exact absurd h1 h.1
  · exact absurd h1 h.2
  · exact h1
def zm99 (m : Int32) : Bool := !decide (m < 0) && decide (m ≤ 99)
def zfst (M : Nat → Bool) : Nat → Nat → Nat
  | k, 0 => k
  | k, n + 1 => if M k = true then zfst M (k + 1) n else k
theorem zb_ne {b : Bool} (h : ¬ zb b = 0) : b = true := by cases b <;> simp_all [zb]
theorem zb_eq {b : Bool} (h : zb b = 0) : b = false := by cases b <;> simp_all [zb]
set_option maxHeartbeats 4000000 in
set_option maxRecDepth 100000 in
theorem c_X7_setsWithout (G : zq_G) (fo : Bool) (I : zq_I) {N T Y : Nat} (hs : zS fo N T Y I) {h m : Nat} (hm : m < 256) (u c : Int32) (he : nI h &&& (u ^^^ (-1)) = nI m) : zq_Met G mX7_setsWithout 4 0 0 [.ref 0, .int (nI h), .int c, .int u] 138 I (zPs fo) (zq_f4 (some (.int (nI ((zsub m).countP (fun g => zCIA (I 119 4) (zV I) N (nI h) (nI g) == c))))) fo I) := by
  refine zq_Met.of okX7_setsWithout (Nat.le_of_ble_eq_true rfl) ?_
  show zq_E _ _ _ _ _ _ _ [some (.ref 0), some (.int (nI h)), some (.int c), some (.int u), none, none, none, none, none] _ _ _ _ _
  have hN8 := hs.n8
  have hN := hs.ppl
  have hfF := zF_is fo
  have hd3 := (zsub_dec m hm).2.2
  have hlen := (zsub_dec m hm).2.1
  have hzat : ∀ k g, (zsub m)[k]? = some g → zpq (nI m) k = nI g := fun k g h => zsub_at hm h
  generalize zsub m = Z at hd3 hlen hzat ⊢
  obtain ⟨LN, hLN⟩ : ∃ n, n = Z.length := ⟨_, rfl⟩
  rw [← hLN] at hd3 hlen
  have lp25 : ∀ (k i : Nat) (I1 : zq_I) (sts aw : Int32), LN + 1 ≤ i + k → i ≤ LN → (∀ c, c ≠ 4 → I1 c = I c) → sts = nI ((Z.take i).countP (fun g => zCIA (I 119 4) (zV I) N (nI h) (nI g) == c)) → aw = zpq (nI m) i → zq_E G mX7_setsWithout 4 0 0 false 25 [some (.ref 0), some (.int (nI h)), some (.int c), some (.int u), some (.int (nI m)), some (.int (nI LN)), some (.int sts), some (.int aw), some (.int (nI i))] [] 138 I1 (zPs fo) (zq_f4 (some (.int (nI (Z.countP (fun g => zCIA (I 119 4) (zV I) N (nI h) (nI g) == c))))) fo I) := by
    intro k
    induction k with
    | zero => intro i I1 sts aw hk hi; exact absurd hk (by omega)
    | succ k ih =>
      intro i I1 sts aw hk hi hf h0 haw
      have hFC : zFC fo I I1 := z4_FC hf
      have hs1 := hFC.S hs
      have hV := hFC.V
      refine ev_iload (q := 27) dX7_setsWithout_25 rfl rfl ?_
      refine ev_iload (q := 29) dX7_setsWithout_27 rfl rfl ?_
      refine ev_icmp_ge (q := 32) (t := 61) dX7_setsWithout_29 rfl (by decide) (fun h29 => ?_) (fun h29 => ?_)
      · obtain rfl : i = LN := by rw [nI_leI (by omega) (by omega)] at h29; omega
        refine ev_iload (q := 63) dX7_setsWithout_61 rfl rfl ?_
        exact ev_iret dX7_setsWithout_63 rfl (by first | rfl | exact zb_nar _ | assumption) (⟨by rw [h0, hLN, List.take_length], rfl, rfl, hf⟩)
      · have hlt_i : i < LN := by rw [nI_leI (by omega) (by omega)] at h29; omega
        obtain ⟨g, hg⟩ : ∃ g, Z[i]? = some g := ⟨_, List.getElem?_eq_getElem (by omega)⟩
        obtain rfl : aw = nI g := by rw [haw, hzat _ _ hg]
        refine ev_aload_n (q := 33) dX7_setsWithout_32 rfl rfl ?_
        refine ev_iload_n (q := 34) dX7_setsWithout_33 rfl rfl ?_
        refine ev_iload (q := 36) dX7_setsWithout_34 rfl rfl ?_
        refine ev_cV (q := 39) (ci := 7) dX7_setsWithout_36 rfl okX7_countIfAway lmRX7_202 imX7_countIfAway seX7_countIfAway (by first | rfl | assumption | exact zf_kd (by assumption) | exact zw_kd (by assumption) | exact zt_kd (by assumption)) (by first | decide | exact zf_lt (by assumption) | exact zf_lt1 (by assumption) | exact zf_lt2 (by assumption) | exact zf_lt3 (by assumption) | exact zf_lt4 (by assumption) | exact zw_lt (by assumption) | exact zw_lt1 (by assumption) | exact zw_lt2 (by assumption) | exact zw_lt3 (by assumption) | exact zw_lt4 (by assumption) | exact zt_lt (by assumption)) (by decide) rfl (c_X7_countIfAway G fo I1 hs1 _ _) (by decide) rfl rfl (Nat.le_of_ble_eq_true rfl) (fun v36 n36 I36 P36 hR36 => ?_)
        obtain ⟨rfl, rfl, rfl, hf2⟩ := hR36
        rw [hV, hf 119 (by decide)]
        refine ev_iload_n (q := 40) dX7_setsWithout_39 rfl rfl ?_
        refine ev_icmp_ne (q := 43) (t := 46) dX7_setsWithout_40 rfl (by decide) (fun h40 => ?_) (fun h40 => ?_)
        · refine ev_iload (q := 48) dX7_setsWithout_46 rfl rfl ?_
          refine ev_iload (q := 50) dX7_setsWithout_48 rfl rfl ?_
          refine ev_pS (q := 53) dX7_setsWithout_50 rfl okX7_nextPart lmRX7_213 smX7_nextPart (c_X7_nextPart G _ _ _ _ _) (by decide) rfl rfl (Nat.le_of_ble_eq_true rfl) ?_
          refine ev_istoreL (q := 55) (L9 := [_, _, _, _, _, _, _, _, _]) dX7_setsWithout_53 rfl (by decide) rfl rfl ?_
          refine ev_iincL (q := 58) (L9 := [_, _, _, _, _, _, _, _, _]) (1 : Int32) dX7_setsWithout_55 rfl rfl (by decide) (by decide) rfl rfl ?_
          refine ev_goto (t := 25) dX7_setsWithout_58 (by decide) ?_
          rw [nI_1]
          exact ih (i + 1) _ _ _ (by omega) (by omega) (fun c hc => (hf2 c hc).trans (hf c hc)) (zcnt_n h0 hg (by show (_ == _) = false; exact beq_eq_false_iff_ne.mpr h40)) (by show _ = (zpq (nI m) i - nI m) &&& nI m; rw [hzat _ _ hg])
        · refine ev_iincL (q := 46) (L9 := [_, _, _, _, _, _, _, _, _]) (1 : Int32) dX7_setsWithout_43 rfl rfl (by decide) (by decide) rfl rfl ?_
          refine ev_iload (q := 48) dX7_setsWithout_46 rfl rfl ?_
          refine ev_iload (q := 50) dX7_setsWithout_48 rfl rfl ?_
          refine ev_pS (q := 53) dX7_setsWithout_50 rfl okX7_nextPart lmRX7_213 smX7_nextPart (c_X7_nextPart G _ _ _ _ _) (by decide) rfl rfl (Nat.le_of_ble_eq_true rfl) ?_
          refine ev_istoreL (q := 55) (L9 := [_, _, _, _, _, _, _, _, _]) dX7_setsWithout_53 rfl (by decide) rfl rfl ?_
          refine ev_iincL (q := 58) (L9 := [_, _, _, _, _, _, _, _, _]) (1 : Int32) dX7_setsWithout_55 rfl rfl (by decide) (by decide) rfl rfl ?_
          refine ev_goto (t := 25) dX7_setsWithout_58 (by decide) ?_
          rw [nI_1]
          exact ih (i + 1) _ _ _ (by omega) (by omega) (fun c hc => (hf2 c hc).trans (hf c hc)) (zcnt_s h0 hg (by show (_ == _) = true; exact beq_iff_eq.mpr h40)) (by show _ = (zpq (nI m) i - nI m) &&& nI m; rw [hzat _ _ hg])
  refine ev_iload_n (q := 1) dX7_setsWithout_0 rfl rfl ?_
  refine ev_iload_n (q := 2) dX7_setsWithout_1 rfl rfl ?_
  refine ev_iconst (q := 3) ((-1) : Int32) dX7_setsWithout_2 rfl (by decide) ?_
  refine ev_ixor (q := 4) dX7_setsWithout_3 rfl ?_
  refine ev_iand (q := 5) dX7_setsWithout_4 rfl ?_
  rw [he]
  refine ev_istoreL (q := 7) (L9 := [_, _, _, _, _, _, _, _, _]) dX7_setsWithout_5 rfl (by decide) rfl rfl ?_
  refine ev_iconst (q := 8) (1 : Int32) dX7_setsWithout_7 rfl (by decide) ?_
  refine ev_iload (q := 10) dX7_setsWithout_8 rfl rfl ?_
  refine ev_pS (q := 13) dX7_setsWithout_10 rfl okJ6_bitCount_0f7a4 lmRX7_197 smJ6_bitCount_0f7a4 (c_J6_bitCount_0f7a4 G _ _ _ _) (by decide) rfl rfl (Nat.le_of_ble_eq_true rfl) ?_
  refine ev_ishl (q := 14) dX7_setsWithout_13 rfl ?_
  rw [hd3]
  refine ev_istoreL (q := 16) (L9 := [_, _, _, _, _, _, _, _, _]) dX7_setsWithout_14 rfl (by decide) rfl rfl ?_
  refine ev_iconst (q := 17) (0 : Int32) dX7_setsWithout_16 rfl (by decide) ?_
  refine ev_istoreL (q := 19) (L9 := [_, _, _, _, _, _, _, _, _]) dX7_setsWithout_17 rfl (by decide) rfl rfl ?_
  refine ev_iconst (q := 20) (0 : Int32) dX7_setsWithout_19 rfl (by decide) ?_
  refine ev_istoreL (q := 22) (L9 := [_, _, _, _, _, _, _, _, _]) dX7_setsWithout_20 rfl (by decide) rfl rfl ?_
  refine ev_iconst (q := 23) (0 : Int32) dX7_setsWithout_22 rfl (by decide) ?_
  refine ev_istoreL (q := 25) (L9 := [_, _, _, _, _, _, _, _, _]) dX7_setsWithout_23 rfl (by decide) rfl rfl ?_
  exact lp25 (LN + 1) 0 _ _ _ (by omega) (by omega) (fun _ _ => rfl) rfl rfl
