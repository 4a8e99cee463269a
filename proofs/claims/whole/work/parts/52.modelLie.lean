theorem zmany_N {a : Nat} (h : a < 256) : zmany (nI a) = nI (zcn (fun k => a.testBit k) 8) := by rw [zmany_pop a h, zpop_zcn a h]
theorem zname {fo : Bool} {N T Y i : Nat} {I : zq_I} (h : zS fo N T Y I) (hi : i < N) : ∃ a, a < 2 ^ 8 ∧ znm (zV I) i = nI a := by
  obtain ⟨-, ⟨a, ha, ea⟩, -⟩ := h.2.2.2.2.2.1 i hi
  refine ⟨2 ^ a, by rcases (by omega : a = 0 ∨ a = 1 ∨ a = 2 ∨ a = 3 ∨ a = 4 ∨ a = 5) with rfl | rfl | rfl | rfl | rfl | rfl <;> decide, ?_⟩
  unfold znm
  rw [show vN (zV I) i = nI a from ea]
  exact zsh_N a (by omega)
theorem zRb_mask {V : zq_V} {N i : Nat} {y : Int32} (hN : N ≤ 8) : ∃ a, a < 2 ^ 8 ∧ zRb V N i y = nI a := by
  unfold zRb
  have h1 := zbn_lt (fun j => (vH V j == vH V i) && zMi V j y && zRe V i j y) N
  have h2 := zp2_le hN
  exact ⟨_, by omega, zbits_N _ N (by omega)⟩
/-- pairs: the sum over askers of how many are in their sets -/
theorem zsum_zcn {g : Nat → Int32} {c : Nat → Bool} {b : Nat → Nat → Bool} {N : Nat} : ∀ n, (∀ i, i < n → zpop (g i) = nI (zcn (b i) N)) → zsum (fun i => zpop (g i)) c n = nI (zsu (fun i => if c i = true then zcn (b i) N else 0) n) := by
  intro n
  induction n with
  | zero => intro _; rfl
  | succ n ih =>
    intro h
    rw [zsum, zsu, ih (fun i hi => h i (by omega)), h n (by omega)]
    split
    · exact nI_add _ _
    · rfl
def zMb (V : zq_V) (y : Int32) (i j : Nat) : Bool := zhas (vA V i) j && (vH V i == vH V j) && zTh V i && zMi V j y && zRe V i j y
def zRbb (V : zq_V) (y : Int32) (i j : Nat) : Bool := (vH V j == vH V i) && zMi V j y && zRe V i j y
theorem zMs_b {V : zq_V} {N i : Nat} {y : Int32} : zMs V N i y = zbits (zMb V y i) N := rfl
theorem zRb_b {V : zq_V} {N i : Nat} {y : Int32} : zRb V N i y = zbits (zRbb V y i) N := rfl
/-- of one of the town at home: whom it would remember = whom it misses, and whom it may begin to ask after -/
theorem zR_split {V : zq_V} {t y : Int32} {i j : Nat} (hc : ((vH V i == t) && zTh V i) = true) : zRbb V y i j = (zMb V y i j || zmay V t y i j) ∧ (zmay V t y i j && !zMb V y i j) = zmay V t y i j := by
  simp only [Bool.and_eq_true, beq_iff_eq] at hc
  obtain ⟨h1, h2⟩ := hc
  unfold zRbb zMb zmay
  rw [h1, h2, show (vH V j == t) = (t == vH V j) from Bool.beq_comm]
  simp only [beq_self_eq_true]
  cases zhas (vA V i) j <;> cases (t == vH V j) <;> cases zMi V j y <;> cases zRe V i j y <;> decide
theorem zN_none {V : zq_V} {t y : Int32} {i j : Nat} (hc : ((vH V i == t) && zTh V i) = false) : zmay V t y i j = false ∧ ((vH V i == t) && zMb V y i j) = false := by
  unfold zmay zMb
  rw [Bool.and_eq_false_iff] at hc
  rcases hc with h | h
  · rw [h]; exact ⟨rfl, rfl⟩
  · rw [h]; constructor <;> simp
theorem zM_home {V : zq_V} {y : Int32} {i j : Nat} (h : zMb V y i j = true) : vH V i = vH V j := by
  unfold zMb at h
  simp only [Bool.and_eq_true, beq_iff_eq] at h
  exact h.1.1.1.2
/-- law 1 -/
def zU (V : zq_V) (N : Nat) (t y : Int32) (j : Nat) : Bool := decide (j < N) && zany (fun i => ((vH V i == t) && zTh V i) && zRbb V y i j) N
def zMm (V : zq_V) (N : Nat) (t y : Int32) (j : Nat) : Bool := decide (j < N) && zany (fun i => (vH V i == t) && zMb V y i j) N
theorem zism_eq {fo : Bool} {N T Y j : Nat} {t y : Int32} {I : zq_I} (hs : zS fo N T Y I) (hj : j < 8) : (decide (j < N) && zism (zV I) N t y j) = zMm (zV I) N t y j := by
  have h8 := hs.n8
  unfold zism zMm
  by_cases hjN : j < N
  · rw [decide_eq_true hjN, Bool.true_and, Bool.true_and]
    obtain ⟨a, ha, ea, ba⟩ := zor_bits (f := fun i => zMs (zV I) N i y) (c := fun _ => true) (n := N) (fun i _ => zMs_mask hs i y)
    rw [ea, zhas_N (by omega) (by omega), ba j hj]
    rw [Bool.eq_iff_iff, Bool.and_eq_true, zany_i, zany_i]
    have hb : ∀ i, zhas (zMs (zV I) N i y) j = zMb (zV I) y i j := fun i => by rw [zMs_b, zhas_bits h8 hj, decide_eq_true hjN, Bool.true_and]
    constructor
    · rintro ⟨⟨i, hi, h1⟩, h2⟩
      rw [Bool.true_and, hb i] at h1
      refine ⟨i, hi, ?_⟩
      rw [h1, Bool.and_true, beq_iff_eq, zM_home h1]
      exact beq_iff_eq.mp h2
    · rintro ⟨i, hi, h1⟩
      rw [Bool.and_eq_true] at h1
      refine ⟨⟨i, hi, by rw [Bool.true_and, hb i]; exact h1.2⟩, ?_⟩
      rw [beq_iff_eq, ← zM_home h1.2]
      exact beq_iff_eq.mp h1.1
  · rw [decide_eq_false hjN]; rfl
theorem zU_eq {fo : Bool} {N T Y j : Nat} {t y : Int32} {I : zq_I} (hs : zS fo N T Y I) (hj : j < 8) : zU (zV I) N t y j = (zMm (zV I) N t y j || (decide (j < N) && decide (0 < zmby (zV I) N t y j))) := by
  unfold zU zMm
  by_cases hjN : j < N
  · rw [decide_eq_true hjN, Bool.true_and, Bool.true_and, Bool.true_and]
    have e : decide (0 < zmby (zV I) N t y j) = zany (fun i => zmay (zV I) t y i j) N := by
      rw [Bool.eq_iff_iff, decide_eq_true_iff]
      exact zcn_pos N
    rw [e, ← zany_or]
    refine zany_congr (fun i _ => ?_)
    cases hc : ((vH (zV I) i == t) && zTh (zV I) i)
    · obtain ⟨h1, h2⟩ := zN_none (y := y) (j := j) hc
      rw [h1, h2]; rfl
    · obtain ⟨h1, -⟩ := zR_split (y := y) (j := j) hc
      rw [Bool.true_and, h1]
      rw [Bool.and_eq_true] at hc
      rw [hc.1, Bool.true_and]
  · rw [decide_eq_false hjN]; rfl
theorem zfre_eq {fo : Bool} {N T Y j : Nat} {t y : Int32} {I : zq_I} (hs : zS fo N T Y I) (hj : j < N) : zfre (zV I) N t y j = (zU (zV I) N t y j && !zMm (zV I) N t y j) := by
  have h8 := hs.n8
  rw [zU_eq hs (by omega), ← zism_eq hs (by omega), decide_eq_true hj, Bool.true_and, Bool.true_and]
  unfold zfre
  cases zism (zV I) N t y j <;> cases decide (0 < zmby (zV I) N t y j) <;> rfl
/-- the sets that the two laws count, bit by bit -/
theorem zor_U {fo : Bool} {N T Y : Nat} {t y : Int32} {I : zq_I} (hs : zS fo N T Y I) : ∃ a, a < 256 ∧ zor (fun i => zRb (zV I) N i y) (fun i => (vH (zV I) i == t) && zTh (zV I) i) N = nI a ∧ ∀ k, k < 8 → a.testBit k = zU (zV I) N t y k := by
  have h8 := hs.n8
  obtain ⟨a, ha, ea, ba⟩ := zor_bits (f := fun i => zRb (zV I) N i y) (c := fun i => (vH (zV I) i == t) && zTh (zV I) i) (n := N) (fun i _ => zRb_mask h8)
  refine ⟨a, ha, ea, fun k hk => ?_⟩
  rw [ba k hk]
  unfold zU
  by_cases hkN : k < N
  · rw [decide_eq_true hkN, Bool.true_and]
    exact zany_congr (fun i _ => by rw [zRb_b, zhas_bits h8 hk, decide_eq_true hkN, Bool.true_and])
  · rw [decide_eq_false hkN, Bool.false_and]
    exact zany_f (fun i _ => by rw [zRb_b, zhas_bits h8 hk, decide_eq_false hkN, Bool.false_and, Bool.and_false])
theorem zor_M {fo : Bool} {N T Y : Nat} {t y : Int32} {I : zq_I} (hs : zS fo N T Y I) : ∃ a, a < 256 ∧ zor (fun i => zMs (zV I) N i y) (fun i => vH (zV I) i == t) N = nI a ∧ ∀ k, k < 8 → a.testBit k = zMm (zV I) N t y k := by
  have h8 := hs.n8
  obtain ⟨a, ha, ea, ba⟩ := zor_bits (f := fun i => zMs (zV I) N i y) (c := fun i => vH (zV I) i == t) (n := N) (fun i _ => zMs_mask hs i y)
  refine ⟨a, ha, ea, fun k hk => ?_⟩
  rw [ba k hk]
  unfold zMm
  by_cases hkN : k < N
  · rw [decide_eq_true hkN, Bool.true_and]
    exact zany_congr (fun i _ => by rw [zMs_b, zhas_bits h8 hk, decide_eq_true hkN, Bool.true_and])
  · rw [decide_eq_false hkN, Bool.false_and]
    exact zany_f (fun i _ => by rw [zMs_b, zhas_bits h8 hk, decide_eq_false hkN, Bool.false_and, Bool.and_false])
/-- names of a set -/
theorem zNm_bits {fo : Bool} {N T Y a : Nat} {I : zq_I} (hs : zS fo N T Y I) (ha : a < 256) : ∃ b, b < 256 ∧ zNm (zV I) N (nI a) = nI b ∧ ∀ k, k < 8 → b.testBit k = zany (fun i => a.testBit i && zhas (znm (zV I) i) k) N := by
  have h8 := hs.n8
  obtain ⟨b, hb, eb, bb⟩ := zor_bits (f := znm (zV I)) (c := fun i => zhas (nI a) i) (n := N) (fun i hi => zname hs hi)
  refine ⟨b, hb, eb, fun k hk => ?_⟩
  rw [bb k hk]
  exact zany_congr (fun i hi => by rw [zhas_N (by omega) (by omega)])
/-- what all lies together can add -/
theorem zmost_eq {fo : Bool} {N T Y : Nat} {t : Int32} {I : zq_I} (hs : zS fo N T Y I) : ∃ a b, a ≤ 64 ∧ b ≤ 64 ∧ zCO (I 119 4) (zV I) N t (I 119 15) = nI a ∧ zcan (I 119 4) (zV I) N t (I 119 15) = nI b ∧ zCnt (I 119 4) (zV I) N (fun i => zRb (zV I) N i (I 119 15)) (fun i => (vH (zV I) i == t) && zTh (zV I) i) = nI (a + b) := by
  have h8 := hs.n8
  generalize I 119 15 = y
  obtain ⟨u, hu, eu, bu⟩ := zor_U (t := t) (y := y) hs
  obtain ⟨w, hw, ew, bw⟩ := zor_M (t := t) (y := y) hs
  unfold zCO zCnt zCt zcan
  rw [eu, ew]
  by_cases l0 : I 119 4 = 0
  · rw [if_pos l0, if_pos l0, if_pos l0]
    refine ⟨zsu (fun i => if (vH (zV I) i == t) = true then zcn (zMb (zV I) y i) N else 0) N, zsu (zmby (zV I) N t y) N, ?_, ?_, ?_, rfl, ?_⟩
    · refine Nat.le_trans (zsu_le (b := 8) N (fun i _ => ?_)) (by omega)
      split
      · exact Nat.le_trans (zcn_le _ _) h8
      · omega
    · exact Nat.le_trans (zsu_le (b := 8) N (fun i _ => Nat.le_trans (zcn_le _ _) h8)) (by omega)
    · exact zsum_zcn N (fun i _ => by rw [zMs_b, zpop_bits h8])
    · rw [zsum_zcn (b := zRbb (zV I) y) N (fun i _ => by rw [zRb_b, zpop_bits h8])]
      congr 1
      rw [show zsu (zmby (zV I) N t y) N = zsu (fun i => zcn (fun j => zmay (zV I) t y i j) N) N from (zsu_swap (fun i j => zmay (zV I) t y i j) N N).symm, ← zsu_add]
      refine zsu_congr (fun i _ => ?_)
      cases hc : ((vH (zV I) i == t) && zTh (zV I) i)
      · rw [if_neg (by decide), zcn_f (c := fun j => zmay (zV I) t y i j) (fun j _ => (zN_none (y := y) hc).1)]
        rw [Bool.and_eq_false_iff] at hc
        rcases hc with h | h
        · rw [h]; rfl
        · rw [zcn_f (c := zMb (zV I) y i) (fun j _ => by unfold zMb; rw [h]; simp), ite_self]
      · rw [if_pos rfl, zcn_congr (fun j _ => (zR_split (y := y) (j := j) hc).1), zcn_add, zcn_congr (c := fun j => zmay (zV I) t y i j && !zMb (zV I) y i j) (fun j _ => (zR_split (y := y) (j := j) hc).2)]
        rw [Bool.and_eq_true] at hc
        rw [hc.1, if_pos rfl]
  · rw [if_neg l0, if_neg l0, if_neg l0]
    have hUM : ∀ k, k < 8 → zU (zV I) N t y k = (zMm (zV I) N t y k || (zU (zV I) N t y k && !zMm (zV I) N t y k)) := by
      intro k hk
      rw [zU_eq hs hk]
      cases zMm (zV I) N t y k <;> cases (decide (k < N) && decide (0 < zmby (zV I) N t y k)) <;> rfl
    have hUN : ∀ k, (decide (k < N) && (zU (zV I) N t y k && !zMm (zV I) N t y k)) = (zU (zV I) N t y k && !zMm (zV I) N t y k) := by
      intro k
      unfold zU
      cases decide (k < N) <;> simp
    by_cases l1 : I 119 4 = 1
    · rw [if_pos l1, if_pos l1, if_pos l1]
      refine ⟨zcn (fun k => w.testBit k) 8, zcn (zfre (zV I) N t y) N, Nat.le_trans (zcn_le _ _) (by omega), Nat.le_trans (zcn_le _ _) (by omega), zpop_zcn w hw, rfl, ?_⟩
      rw [zpop_zcn u hu]
      congr 1
      have e1 : zcn (zfre (zV I) N t y) N = zcn (fun k => zU (zV I) N t y k && !zMm (zV I) N t y k) 8 := by
        rw [zcn_congr (fun k hk => zfre_eq hs hk), ← zcn_ext 8 h8]
        exact zcn_congr (fun k _ => hUN k)
      rw [e1, zcn_congr (fun k hk => bu k hk), zcn_congr (fun k hk => bw k hk)]
      rw [show zcn (zU (zV I) N t y) 8 = zcn (fun k => zMm (zV I) N t y k || zU (zV I) N t y k) 8 from zcn_congr (fun k hk => by rw [zU_eq hs hk]; cases zMm (zV I) N t y k <;> rfl), zcn_add]
    · rw [if_neg l1, if_neg l1, if_neg l1]
      obtain ⟨nu, hnu, enu, bnu⟩ := zNm_bits hs hu
      obtain ⟨nw, hnw, enw, bnw⟩ := zNm_bits hs hw
      obtain ⟨f, hf, ef, bf⟩ := zor_bits (f := znm (zV I)) (c := zfre (zV I) N t y) (n := N) (fun i hi => zname hs hi)
      obtain ⟨d, hd, ed, bd⟩ := zor_bits (f := znm (zV I)) (c := zism (zV I) N t y) (n := N) (fun i hi => zname hs hi)
      have hfd : zwg f d < 256 := zwg_lt hf
      rw [enu, enw, ef, ed, zwg_eq hf]
      refine ⟨zcn (fun k => nw.testBit k) 8, zcn (fun k => (zwg f d).testBit k) 8, Nat.le_trans (zcn_le _ _) (by omega), Nat.le_trans (zcn_le _ _) (by omega), zpop_zcn nw hnw, zmany_N hfd, ?_⟩
      rw [zpop_zcn nu hnu]
      congr 1
      have e1 : ∀ k, k < 8 → nw.testBit k = d.testBit k := fun k hk => by
        rw [bnw k hk, bd k hk]
        refine zany_congr (fun i hi => ?_)
        rw [bw i (by omega), ← zism_eq hs (by omega), decide_eq_true hi, Bool.true_and]
      have e2 : ∀ k, k < 8 → nu.testBit k = (d.testBit k || f.testBit k) := fun k hk => by
        rw [bnu k hk, bd k hk, bf k hk, ← zany_or]
        refine zany_congr (fun i hi => ?_)
        rw [bu i (by omega), hUM i (by omega), zfre_eq hs hi, ← zism_eq hs (by omega), decide_eq_true hi, Bool.true_and]
        cases zism (zV I) N t y i <;> cases zU (zV I) N t y i <;> cases zhas (znm (zV I) i) k <;> rfl
      rw [zcn_congr (fun k hk => e2 k hk), zcn_add, zcn_congr (fun k hk => (e1 k hk).symm)]
      congr 1
      refine zcn_congr (fun k _ => ?_)
      unfold zwg
      rw [Nat.testBit_and, Nat.testBit_xor, Nat.testBit_and]
      cases f.testBit k <;> cases d.testBit k <;> rfl
/-- the model's lie, in its own words -/
def zLieM (I : zq_I) (N : Nat) (m : Int32) (t : Nat) : Int32 := if m - zCO (I 119 4) (zV I) N (nI t) (I 119 15) - I 128 t ≤ 0 then 0 else if m - zCO (I 119 4) (zV I) N (nI t) (I 119 15) - I 128 t ≤ zcan (I 119 4) (zV I) N (nI t) (I 119 15) then m - zCO (I 119 4) (zV I) N (nI t) (I 119 15) - I 128 t else -9
theorem zLie_eq {fo : Bool} {N T Y t : Nat} {m : Int32} {I : zq_I} (hs : zS fo N T Y I) (ht : t < 4) (hm : zm99 m = true) : zLie I N m t = zLieM I N m t := by
  obtain ⟨k, hk, rfl⟩ := zm99_t hm
  obtain ⟨r, hr, er⟩ := hs.2.2.2.2.2.2 t ht
  obtain ⟨a, b, ha, hb, ea, eb, es⟩ := zmost_eq (t := nI t) hs
  unfold zLie zLieM
  rw [hm, if_neg (by decide), ea, eb, es, er, nI_add, nI_add]
  have h1 : nI k ≤ nI (a + r) ↔ k ≤ a + r := nI_leI (by omega) (by omega)
  have h2 : nI (a + b + r) < nI k ↔ a + b + r < k := nI_ltI (by omega) (by omega)
  have e0 : nI k - nI a - nI r = nI k - nI (a + r) := by rw [← nI_add, Int32.sub_sub]
  rw [e0]
  by_cases hc : k ≤ a + r
  · rw [if_pos (h1.mpr hc), if_pos]
    rw [Int32.le_iff_toInt_le, pk_sub_toInt (by omega) (by omega)]
    show _ ≤ (0 : Int)
    omega
  · rw [if_neg (fun q => hc (h1.mp q)), pk_sub (show a + r ≤ k by omega)]
    rw [if_neg (show ¬ nI (k - (a + r)) ≤ 0 from nI_nle (by omega) (by omega))]
    have h3 : nI (k - (a + r)) ≤ nI b ↔ k - (a + r) ≤ b := nI_leI (by omega) (by omega)
    by_cases hq : a + b + r < k
    · rw [if_pos (h2.mpr hq), if_neg (fun q => by have := h3.mp q; omega)]
    · rw [if_neg (fun q => hq (h2.mp q)), if_pos (h3.mpr (by omega))]
theorem zLie_cg {I I1 : zq_I} {N t : Nat} {m : Int32} (hV : zV I1 = zV I) (h4 : I1 119 4 = I 119 4) (h15 : I1 119 15 = I 119 15) (h128 : I1 128 = I 128) : zLie I1 N m t = zLie I N m t := by
  unfold zLie
  rw [hV, h128, h4, h15]
set_option maxHeartbeats 4000000 in
set_option maxRecDepth 100000 in
theorem k_X8_lie (G : zq_G) (fo : Bool) (I : zq_I) {N T Y : Nat} (hs : zS fo N T Y I) (x m : Int32) : zq_E G mX8_lie 5 0 0 false 5 [some (.ref 119), some (.int x), some (.int m), none, none, none, none, none, none, none, none, none, none] [] 138 I (zPs fo) (zq_fm (some (.int (zpick x T (-1) (fun t => zLie I N m t)))) fo I) := by
  have hN8 := hs.n8
  have hN := hs.mppl
  refine ev_aload_n (q := 6) dX8_lie_5 rfl rfl ?_
  refine ev_iload_n (q := 7) dX8_lie_6 rfl rfl ?_
  refine ev_pV (q := 10) (ci := 8) dX8_lie_7 rfl okX8_noTown lmRX8_167 imX8_noTown seX8_noTown (by first | rfl | assumption | exact zf_kd (by assumption) | exact zw_kd (by assumption) | exact zt_kd (by assumption)) (by first | decide | exact zf_lt (by assumption) | exact zf_lt1 (by assumption) | exact zf_lt2 (by assumption) | exact zf_lt3 (by assumption) | exact zf_lt4 (by assumption) | exact zw_lt (by assumption) | exact zw_lt1 (by assumption) | exact zw_lt2 (by assumption) | exact zw_lt3 (by assumption) | exact zw_lt4 (by assumption) | exact zt_lt (by assumption)) (by decide) rfl (c_X8_noTown G fo I hs _) (by decide) rfl rfl (Nat.le_of_ble_eq_true rfl) ?_
  refine ev_if_eq (q := 13) (t := 15) dX8_lie_10 rfl (by decide) (fun h10 => ?_) (fun h10 => ?_)
  · have hz : zin x (nI T) = true := by simpa using zb_eq h10
    obtain ⟨t, ht, rfl⟩ := zin_t hs.t4' hz
    have ht4 : t < 4 := by have := hs.t4; omega
    refine ev_iload_n (q := 16) dX8_lie_15 rfl rfl ?_
    refine ev_i2l (q := 17) dX8_lie_16 rfl ?_
    refine ev_lconst (q := 18) (0 : Int64) dX8_lie_17 rfl (by decide) ?_
    refine ev_ldc2 (q := 21) dX8_lie_18 rfl ctRX8_190 ?_
    refine ev_pS (q := 24) dX8_lie_21 rfl okX8_in lmRX8_75 smX8_in (c_X8_in G _ _ _ _ _ _) (by decide) rfl rfl (Nat.le_of_ble_eq_true rfl) ?_
    rw [zinL_99]
    refine ev_if_ne (q := 27) (t := 30) dX8_lie_24 rfl (by decide) (fun h24 => ?_) (fun h24 => ?_)
    · have hc : zm99 m = true := zb_ne h24
      refine ev_iload_n (q := 31) dX8_lie_30 rfl rfl ?_
      refine ev_aload_n (q := 32) dX8_lie_31 rfl rfl ?_
      refine ev_iload_n (q := 33) dX8_lie_32 rfl rfl ?_
      refine ev_iconst (q := 34) (0 : Int32) dX8_lie_33 rfl (by decide) ?_
      refine ev_pV (q := 37) (ci := 8) dX8_lie_34 rfl okX8_count lmRX8_170 imX8_count seX8_count (by first | rfl | assumption | exact zf_kd (by assumption) | exact zw_kd (by assumption) | exact zt_kd (by assumption)) (by first | decide | exact zf_lt (by assumption) | exact zf_lt1 (by assumption) | exact zf_lt2 (by assumption) | exact zf_lt3 (by assumption) | exact zf_lt4 (by assumption) | exact zw_lt (by assumption) | exact zw_lt1 (by assumption) | exact zw_lt2 (by assumption) | exact zw_lt3 (by assumption) | exact zw_lt4 (by assumption) | exact zt_lt (by assumption)) (by decide) rfl (c_X8_count G fo I hs _ _) (by decide) rfl rfl (Nat.le_of_ble_eq_true rfl) ?_
      rw [show zCnt (I 119 4) (zV I) N (fun i => zMs (zV I) N i (I 119 15)) (fun i => (vH (zV I) i == nI t) && !(zhas 0 i)) = zCO (I 119 4) (zV I) N (nI t) (I 119 15) from zCnt_congr (fun i _ => by rw [zhas_0]; exact Bool.and_true _) (fun _ _ _ => rfl)]
      refine ev_isub (q := 38) dX8_lie_37 rfl ?_
      refine ev_aload_n (q := 39) dX8_lie_38 rfl rfl ?_
      refine ev_getR (q := 42) (ci := 8) (f := 14) dX8_lie_39 rfl (by first | rfl | assumption | exact zf_kd (by assumption) | exact zw_kd (by assumption) | exact zt_kd (by assumption)) (by first | decide | exact zf_lt (by assumption) | exact zf_lt1 (by assumption) | exact zf_lt2 (by assumption) | exact zf_lt3 (by assumption) | exact zf_lt4 (by assumption) | exact zw_lt (by assumption) | exact zw_lt1 (by assumption) | exact zw_lt2 (by assumption) | exact zw_lt3 (by assumption) | exact zw_lt4 (by assumption) | exact zt_lt (by assumption)) (by decide) (by decide) lfRX8_38 rfl (by first | rfl | assumption | exact zf_p4 _ (by assumption) | exact zf_p5 _ (by assumption) | exact zf_p6 _ (by assumption) | exact zf_p7 _ (by assumption) | exact zw_p1 _ (by assumption) | exact zw_p2 _ (by assumption) | exact zw_p3 _ (by assumption) | exact zw_p4 _ (by assumption)) ?_
      refine ev_iload_n (q := 43) dX8_lie_42 rfl rfl ?_
      refine ev_ialdN (q := 44) dX8_lie_43 rfl (by first | rfl | assumption | exact zf_kd1 (by assumption) | exact zf_kd2 (by assumption) | exact zf_kd3 (by assumption) | exact zf_kd4 (by assumption) | exact zw_kd1 (by assumption) | exact zw_kd2 (by assumption) | exact zw_kd3 (by assumption) | exact zw_kd4 (by assumption)) (by first | decide | exact zf_lt (by assumption) | exact zf_lt1 (by assumption) | exact zf_lt2 (by assumption) | exact zf_lt3 (by assumption) | exact zf_lt4 (by assumption) | exact zw_lt (by assumption) | exact zw_lt1 (by assumption) | exact zw_lt2 (by assumption) | exact zw_lt3 (by assumption) | exact zw_lt4 (by assumption) | exact zt_lt (by assumption)) (by first | omega | assumption) ?_
      refine ev_isub (q := 45) dX8_lie_44 rfl ?_
      refine ev_istore_nL (q := 46) (L9 := [_, _, _, _, _, _, _, _, _, _, _, _, _]) dX8_lie_45 rfl (by decide) rfl rfl ?_
      refine ev_iload_n (q := 47) dX8_lie_46 rfl rfl ?_
      refine ev_if_gt (q := 50) (t := 52) dX8_lie_47 rfl (by decide) (fun h47 => ?_) (fun h47 => ?_)
      · refine ev_iconst (q := 53) (0 : Int32) dX8_lie_52 rfl (by decide) ?_
        refine ev_istoreL (q := 55) (L9 := [_, _, _, _, _, _, _, _, _, _, _, _, _]) dX8_lie_53 rfl (by decide) rfl rfl ?_
        refine ev_iconst (q := 56) (0 : Int32) dX8_lie_55 rfl (by decide) ?_
        refine ev_istoreL (q := 58) (L9 := [_, _, _, _, _, _, _, _, _, _, _, _, _]) dX8_lie_56 rfl (by decide) rfl rfl ?_
        refine ev_iconst (q := 59) (0 : Int32) dX8_lie_58 rfl (by decide) ?_
        refine ev_istoreL (q := 61) (L9 := [_, _, _, _, _, _, _, _, _, _, _, _, _]) dX8_lie_59 rfl (by decide) rfl rfl ?_
        refine ev_iconst (q := 62) (0 : Int32) dX8_lie_61 rfl (by decide) ?_
        refine ev_istoreL (q := 64) (L9 := [_, _, _, _, _, _, _, _, _, _, _, _, _]) dX8_lie_62 rfl (by decide) rfl rfl ?_
        refine ev_iconst (q := 65) (0 : Int32) dX8_lie_64 rfl (by decide) ?_
        refine ev_istoreL (q := 67) (L9 := [_, _, _, _, _, _, _, _, _, _, _, _, _]) dX8_lie_65 rfl (by decide) rfl rfl ?_
        refine ev_post ?_ (lp_X8_lie G fo I hs (t := t) (m := m))
        rintro v n' I' P' ⟨q1, q2, q3, q4⟩
        refine ⟨q1.trans ?_, q2, q4, q3 ▸ zFM.rf⟩
        rw [zpick_t ht hs.t4', zLie_eq hs ht4 hc]
        unfold zLieM
        rw [if_neg (Int32.not_le.mpr h47)]
      · refine ev_iconst (q := 51) (0 : Int32) dX8_lie_50 rfl (by decide) ?_
        exact ev_iret dX8_lie_51 rfl (by first | rfl | exact zb_nar _ | assumption) (⟨by rw [zpick_t ht hs.t4']; rw [zLie_eq hs ht4 hc]; unfold zLieM; rw [if_pos (Int32.not_lt.mp h47)], rfl, rfl, zFM.rf⟩)
    · have hc : zm99 m = false := zb_eq h24
      refine ev_bipush (q := 29) ((-2) : Int32) dX8_lie_27 rfl (by decide) ?_
      exact ev_iret dX8_lie_29 rfl (by first | rfl | exact zb_nar _ | assumption) (⟨by rw [zpick_t ht hs.t4']; unfold zLie; rw [hc]; rfl, rfl, rfl, zFM.rf⟩)
  · have hz : zin x (nI T) = false := by simpa using zb_ne h10
    refine ev_iconst (q := 14) ((-1) : Int32) dX8_lie_13 rfl (by decide) ?_
    exact ev_iret dX8_lie_14 rfl (by first | rfl | exact zb_nar _ | assumption) (⟨by rw [zpick_f hz], rfl, rfl, zFM.rf⟩)
set_option maxHeartbeats 4000000 in
set_option maxRecDepth 100000 in
theorem c_X8_lie (G : zq_G) (fo : Bool) (I : zq_I) {N T Y : Nat} (hs : zS fo N T Y I) (x m : Int32) : zq_Met G mX8_lie 5 0 0 [.ref 119, .int x, .int m] 138 I (zPs fo) (zq_fm (some (.int (zpick x T (-1) (fun t => zLie I N m t)))) fo I) := by
  refine zq_Met.of okX8_lie (Nat.le_of_ble_eq_true rfl) ?_
  show zq_E _ _ _ _ _ _ _ [some (.ref 119), some (.int x), some (.int m), none, none, none, none, none, none, none, none, none, none] _ _ _ _ _
  refine ev_aload_n (q := 1) dX8_lie_0 rfl rfl ?_
  refine ev_iconst (q := 2) (0 : Int32) dX8_lie_1 rfl (by decide) ?_
  refine ev_putI (q := 5) (ci := 8) (f := 0) dX8_lie_2 rfl (by first | rfl | assumption | exact zf_kd (by assumption) | exact zw_kd (by assumption) | exact zt_kd (by assumption)) (by first | decide | exact zf_lt (by assumption) | exact zf_lt1 (by assumption) | exact zf_lt2 (by assumption) | exact zf_lt3 (by assumption) | exact zf_lt4 (by assumption) | exact zw_lt (by assumption) | exact zw_lt1 (by assumption) | exact zw_lt2 (by assumption) | exact zw_lt3 (by assumption) | exact zw_lt4 (by assumption) | exact zt_lt (by assumption)) (by decide) (by decide) lfRX8_69 rfl rfl rfl rfl ?_
  obtain ⟨I1, hI1⟩ : ∃ I1, I1 = zu I 119 0 0 := ⟨_, rfl⟩
  rw [← hI1]
  have hFM : zFM I I1 := by rw [hI1]; exact zFM.rf.zu 119 0 0 rfl
  have hV := hFM.V
  have e2 : I1 119 2 = I 119 2 := hFM.2 2 rfl
  have e4 : I1 119 4 = I 119 4 := hFM.2 4 rfl
  have e5 : I1 119 5 = I 119 5 := hFM.2 5 rfl
  have e6 : I1 119 6 = I 119 6 := hFM.2 6 rfl
  have e15 : I1 119 15 = I 119 15 := hFM.2 15 rfl
  have e25 : I1 119 25 = I 119 25 := hFM.2 25 rfl
  have f128 : I1 128 = I 128 := hFM.1 128 rfl
  refine ev_post ?_ (k_X8_lie G fo I1 (hFM.S hs) x m)
  rintro v n' I' P' ⟨rfl, rfl, rfl, hf⟩
  exact ⟨by simp only [zLie_cg hV e4 e15 f128], rfl, rfl, hFM.tr hf⟩
