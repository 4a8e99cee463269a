theorem zTF_congr {l : Int32} {V : zq_V} {N : Nat} {ct ct' : Nat → Int32} : ∀ (k yr th : Nat) (lf : Nat → Int32) (ws : Int32 × Int32), (∀ y, yr ≤ y → y < yr + k → ct y = ct' y) → zTF l V N ct k yr th lf ws = zTF l V N ct' k yr th lf ws := by
  intro k
  induction k with
  | zero => intro yr th lf ws _; rfl
  | succ k ih =>
    intro yr th lf ws h
    simp only [zTF]
    congr 1
    funext ws g
    rw [h yr (by omega) (by omega)]
    split
    · exact ih _ _ _ _ (fun y h1 h2 => h y (by omega) (by omega))
    · rfl
def zdig (td nn y : Nat) : Int32 := nI (td / 10 ^ (nn - 1 - y) % 10)
theorem nI_m1' (j : Nat) : nI j + (-1) = nI j - 1 := (Int32.sub_eq_add_neg _ _).symm
def zt10 (n : Int32) : Int32 := if n = 1 then 10 else if n = 2 then 100 else 1000
def zRok (n told w : Int32) : Bool := !decide (n < 1) && !decide (3 < n) && !decide (told < 0) && !decide (zt10 n ≤ told) && !decide (w < 0) && decide (w ≤ 1)
noncomputable def zRW2 (l : Int32) (V : zq_V) (N h nn td : Nat) : Int32 × Int32 := zTF l V N (zdig td nn) nn 0 h (fun _ => 0) (0, nI h)
noncomputable def zRet (l : Int32) (V : zq_V) (N : Nat) (n told w : Int32) (t : Nat) : Int32 := if zRok n told w = false then -2 else if 6 < zpop (nI (zOHn V N (nI t))) then -3 else
  if w = 0 then (zRW2 l V N (zOHn V N (nI t)) n.toNatClampNeg told.toNatClampNeg).1 else if (zRW2 l V N (zOHn V N (nI t)) n.toNatClampNeg told.toNatClampNeg).1 = 0 then -9 else (zRW2 l V N (zOHn V N (nI t)) n.toNatClampNeg told.toNatClampNeg).2
theorem z13 {n : Int32} (h1 : ¬ n < 1) (h2 : ¬ 3 < n) : ∃ nn, 1 ≤ nn ∧ nn ≤ 3 ∧ n = nI nn := by
  rcases pk_ix n (n := 4) (by omega) with h | h | ⟨j, hj, rfl⟩
  · exact absurd (Int32.lt_trans h (by decide)) h1
  · exact absurd (Int32.lt_of_lt_of_le (show (3 : Int32) < nI 4 by decide) h) h2
  · refine ⟨j, ?_, by omega, rfl⟩
    rcases Nat.eq_zero_or_pos j with h0 | h0
    · subst h0; exact absurd (show nI 0 < 1 by decide) h1
    · exact h0
theorem zpow10 : ∀ nn, nn < 4 → 1 ≤ nn → (zpow (Int32.toInt64 10) nn).toInt32 = nI (10 ^ nn) ∧ zt10 (nI nn) = nI (10 ^ nn) := by decide +kernel
set_option maxHeartbeats 4000000 in
set_option maxRecDepth 100000 in
theorem c_X3_tellAll (G : zq_G) (fo : Bool) (I : zq_I) {N T Y : Nat} (hs : zS fo N T Y I) {h nn td : Nat} (hh : h < 256) (hn1 : 1 ≤ nn) (hn3 : nn ≤ 3) (htd : td < 1000) : zq_Met G mX3_tellAll 8 0 0 [.ref 5, .ref (zF fo), .int (nI h), .int (nI nn), .int (nI td)] 138 I (zPs fo) (fun v n' I' P' => v = none ∧ n' = 138 ∧ P' = zPs fo ∧ (∀ c, c ≠ 5 → c ≠ 6 → c ≠ 7 → c ≠ 8 → I' c = I c) ∧ (I' 5 4, I' 5 5) = zRW2 (I 119 4) (zV I) N h nn td) := by
  refine zq_Met.of okX3_tellAll (Nat.le_of_ble_eq_true rfl) ?_
  show zq_E _ _ _ _ _ _ _ [some (.ref 5), some (.ref (zF fo)), some (.int (nI h)), some (.int (nI nn)), some (.int (nI td)), none, none] _ _ _ _ _
  have hN8 := hs.n8
  have hN := hs.ppl
  have hfF := zF_is fo
  have lp : ∀ (j : Nat) (I1 : zq_I), j ≤ nn → (∀ c, c ≠ 5 → c ≠ 7 → I1 c = I c) → I1 5 3 = nI nn → (∀ y, j ≤ y → y < nn → I1 7 y = zdig td nn y) → zq_E G mX3_tellAll 8 0 0 false 21 [some (.ref 5), some (.ref (zF fo)), some (.int (nI h)), some (.int (nI nn)), some (.int (nI td)), some (.int (nI (td / 10 ^ (nn - j)))), some (.int (nI j - 1))] [] 138 I1 (zPs fo) (fun v n' I' P' => v = none ∧ n' = 138 ∧ P' = zPs fo ∧ (∀ c, c ≠ 5 → c ≠ 6 → c ≠ 7 → c ≠ 8 → I' c = I c) ∧ (I' 5 4, I' 5 5) = zRW2 (I 119 4) (zV I) N h nn td) := by
    intro j
    induction j with
    | zero =>
      intro I1 hj hf hy hct
      refine ev_iload (q := 23) dX3_tellAll_21 rfl rfl ?_
      refine ev_if_lt (q := 26) (t := 51) dX3_tellAll_23 rfl (by decide) (fun h23 => ?_) (fun h23 => ?_)
      · rcases (by omega : nn = 1 ∨ nn = 2 ∨ nn = 3) with rfl | rfl | rfl
        · refine ev_aload_n (q := 52) dX3_tellAll_51 rfl rfl ?_
          refine ev_iconst (q := 53) (0 : Int32) dX3_tellAll_52 rfl (by decide) ?_
          refine ev_putI (q := 56) (ci := 3) (f := 4) dX3_tellAll_53 rfl (by first | rfl | assumption | exact zf_kd (by assumption) | exact zw_kd (by assumption) | exact zt_kd (by assumption)) (by first | decide | exact zf_lt (by assumption) | exact zf_lt1 (by assumption) | exact zf_lt2 (by assumption) | exact zf_lt3 (by assumption) | exact zf_lt4 (by assumption) | exact zw_lt (by assumption) | exact zw_lt1 (by assumption) | exact zw_lt2 (by assumption) | exact zw_lt3 (by assumption) | exact zw_lt4 (by assumption) | exact zt_lt (by assumption)) (by decide) (by decide) lfRX3_35 rfl rfl rfl rfl ?_
          refine ev_aload_n (q := 57) dX3_tellAll_56 rfl rfl ?_
          refine ev_iload_n (q := 58) dX3_tellAll_57 rfl rfl ?_
          refine ev_putI (q := 61) (ci := 3) (f := 5) dX3_tellAll_58 rfl (by first | rfl | assumption | exact zf_kd (by assumption) | exact zw_kd (by assumption) | exact zt_kd (by assumption)) (by first | decide | exact zf_lt (by assumption) | exact zf_lt1 (by assumption) | exact zf_lt2 (by assumption) | exact zf_lt3 (by assumption) | exact zf_lt4 (by assumption) | exact zw_lt (by assumption) | exact zw_lt1 (by assumption) | exact zw_lt2 (by assumption) | exact zw_lt3 (by assumption) | exact zw_lt4 (by assumption) | exact zt_lt (by assumption)) (by decide) (by decide) lfRX3_38 rfl rfl rfl rfl ?_
          obtain ⟨I2, hI2⟩ : ∃ I2, I2 = zu (zu I1 5 4 0) 5 5 (nI h) := ⟨_, rfl⟩
          rw [← hI2]
          have hFC2 : zFC fo I I2 := fun c hc => by
            have q5 : c ≠ 5 := fun e => by subst e; simp [zsc] at hc
            have q7 : c ≠ 7 := fun e => by subst e; simp [zsc] at hc
            rw [hI2, zu_other q5, zu_other q5]; exact hf c q5 q7
          have h53 : I2 5 3 = nI 1 := by rw [hI2]; simp [zu, hy]
          have h54 : I2 5 4 = 0 := by rw [hI2]; simp [zu]
          have h55 : I2 5 5 = nI h := by rw [hI2]; simp [zu]
          have h7 : ∀ y, y < 1 → I2 7 y = zdig td 1 y := fun y hy => by rw [hI2, zu_other (by decide), zu_other (by decide)]; exact hct y (by omega) hy
          refine ev_aload_n (q := 62) dX3_tellAll_61 rfl rfl ?_
          refine ev_aload_n (q := 63) dX3_tellAll_62 rfl rfl ?_
          refine ev_iconst (q := 64) (0 : Int32) dX3_tellAll_63 rfl (by decide) ?_
          refine ev_iload_n (q := 65) dX3_tellAll_64 rfl rfl ?_
          refine ev_cS (q := 68) dX3_tellAll_65 rfl okX3_tellFrom lmRX3_41 smX3_tellFrom (c_tell1 G fo I2 (hFC2.S hs) (yr := 0) (fun _ => 0) hh (fun y hy => absurd hy (by omega)) (by omega) (by rw [h53])) (by decide) rfl rfl (Nat.le_of_ble_eq_true rfl) (fun v65 n65 I65 P65 hR65 => ?_)
          obtain ⟨rfl, rfl, rfl, hfr, -, -, hws⟩ := hR65
          exact ev_vret dX3_tellAll_68 rfl (⟨rfl, rfl, rfl, fun c q5 q6 q7 q8 => by rw [hfr c q5 q6 q8, hI2, zu_other q5, zu_other q5]; exact hf c q5 q7, by rw [hws, hFC2.V, hFC2 119 (by cases fo <;> rfl), h54, h55]; exact zTF_congr _ _ _ _ _ (fun y _ h2 => h7 y (by omega))⟩)
        · refine ev_aload_n (q := 52) dX3_tellAll_51 rfl rfl ?_
          refine ev_iconst (q := 53) (0 : Int32) dX3_tellAll_52 rfl (by decide) ?_
          refine ev_putI (q := 56) (ci := 3) (f := 4) dX3_tellAll_53 rfl (by first | rfl | assumption | exact zf_kd (by assumption) | exact zw_kd (by assumption) | exact zt_kd (by assumption)) (by first | decide | exact zf_lt (by assumption) | exact zf_lt1 (by assumption) | exact zf_lt2 (by assumption) | exact zf_lt3 (by assumption) | exact zf_lt4 (by assumption) | exact zw_lt (by assumption) | exact zw_lt1 (by assumption) | exact zw_lt2 (by assumption) | exact zw_lt3 (by assumption) | exact zw_lt4 (by assumption) | exact zt_lt (by assumption)) (by decide) (by decide) lfRX3_35 rfl rfl rfl rfl ?_
          refine ev_aload_n (q := 57) dX3_tellAll_56 rfl rfl ?_
          refine ev_iload_n (q := 58) dX3_tellAll_57 rfl rfl ?_
          refine ev_putI (q := 61) (ci := 3) (f := 5) dX3_tellAll_58 rfl (by first | rfl | assumption | exact zf_kd (by assumption) | exact zw_kd (by assumption) | exact zt_kd (by assumption)) (by first | decide | exact zf_lt (by assumption) | exact zf_lt1 (by assumption) | exact zf_lt2 (by assumption) | exact zf_lt3 (by assumption) | exact zf_lt4 (by assumption) | exact zw_lt (by assumption) | exact zw_lt1 (by assumption) | exact zw_lt2 (by assumption) | exact zw_lt3 (by assumption) | exact zw_lt4 (by assumption) | exact zt_lt (by assumption)) (by decide) (by decide) lfRX3_38 rfl rfl rfl rfl ?_
          obtain ⟨I2, hI2⟩ : ∃ I2, I2 = zu (zu I1 5 4 0) 5 5 (nI h) := ⟨_, rfl⟩
          rw [← hI2]
          have hFC2 : zFC fo I I2 := fun c hc => by
            have q5 : c ≠ 5 := fun e => by subst e; simp [zsc] at hc
            have q7 : c ≠ 7 := fun e => by subst e; simp [zsc] at hc
            rw [hI2, zu_other q5, zu_other q5]; exact hf c q5 q7
          have h53 : I2 5 3 = nI 2 := by rw [hI2]; simp [zu, hy]
          have h54 : I2 5 4 = 0 := by rw [hI2]; simp [zu]
          have h55 : I2 5 5 = nI h := by rw [hI2]; simp [zu]
          have h7 : ∀ y, y < 2 → I2 7 y = zdig td 2 y := fun y hy => by rw [hI2, zu_other (by decide), zu_other (by decide)]; exact hct y (by omega) hy
          refine ev_aload_n (q := 62) dX3_tellAll_61 rfl rfl ?_
          refine ev_aload_n (q := 63) dX3_tellAll_62 rfl rfl ?_
          refine ev_iconst (q := 64) (0 : Int32) dX3_tellAll_63 rfl (by decide) ?_
          refine ev_iload_n (q := 65) dX3_tellAll_64 rfl rfl ?_
          refine ev_cS (q := 68) dX3_tellAll_65 rfl okX3_tellFrom lmRX3_41 smX3_tellFrom (c_tell2 G fo I2 (hFC2.S hs) (yr := 0) (fun _ => 0) hh (fun y hy => absurd hy (by omega)) (by omega) (by rw [h53])) (by decide) rfl rfl (Nat.le_of_ble_eq_true rfl) (fun v65 n65 I65 P65 hR65 => ?_)
          obtain ⟨rfl, rfl, rfl, hfr, -, -, hws⟩ := hR65
          exact ev_vret dX3_tellAll_68 rfl (⟨rfl, rfl, rfl, fun c q5 q6 q7 q8 => by rw [hfr c q5 q6 q8, hI2, zu_other q5, zu_other q5]; exact hf c q5 q7, by rw [hws, hFC2.V, hFC2 119 (by cases fo <;> rfl), h54, h55]; exact zTF_congr _ _ _ _ _ (fun y _ h2 => h7 y (by omega))⟩)
        · refine ev_aload_n (q := 52) dX3_tellAll_51 rfl rfl ?_
          refine ev_iconst (q := 53) (0 : Int32) dX3_tellAll_52 rfl (by decide) ?_
          refine ev_putI (q := 56) (ci := 3) (f := 4) dX3_tellAll_53 rfl (by first | rfl | assumption | exact zf_kd (by assumption) | exact zw_kd (by assumption) | exact zt_kd (by assumption)) (by first | decide | exact zf_lt (by assumption) | exact zf_lt1 (by assumption) | exact zf_lt2 (by assumption) | exact zf_lt3 (by assumption) | exact zf_lt4 (by assumption) | exact zw_lt (by assumption) | exact zw_lt1 (by assumption) | exact zw_lt2 (by assumption) | exact zw_lt3 (by assumption) | exact zw_lt4 (by assumption) | exact zt_lt (by assumption)) (by decide) (by decide) lfRX3_35 rfl rfl rfl rfl ?_
          refine ev_aload_n (q := 57) dX3_tellAll_56 rfl rfl ?_
          refine ev_iload_n (q := 58) dX3_tellAll_57 rfl rfl ?_
          refine ev_putI (q := 61) (ci := 3) (f := 5) dX3_tellAll_58 rfl (by first | rfl | assumption | exact zf_kd (by assumption) | exact zw_kd (by assumption) | exact zt_kd (by assumption)) (by first | decide | exact zf_lt (by assumption) | exact zf_lt1 (by assumption) | exact zf_lt2 (by assumption) | exact zf_lt3 (by assumption) | exact zf_lt4 (by assumption) | exact zw_lt (by assumption) | exact zw_lt1 (by assumption) | exact zw_lt2 (by assumption) | exact zw_lt3 (by assumption) | exact zw_lt4 (by assumption) | exact zt_lt (by assumption)) (by decide) (by decide) lfRX3_38 rfl rfl rfl rfl ?_
          obtain ⟨I2, hI2⟩ : ∃ I2, I2 = zu (zu I1 5 4 0) 5 5 (nI h) := ⟨_, rfl⟩
          rw [← hI2]
          have hFC2 : zFC fo I I2 := fun c hc => by
            have q5 : c ≠ 5 := fun e => by subst e; simp [zsc] at hc
            have q7 : c ≠ 7 := fun e => by subst e; simp [zsc] at hc
            rw [hI2, zu_other q5, zu_other q5]; exact hf c q5 q7
          have h53 : I2 5 3 = nI 3 := by rw [hI2]; simp [zu, hy]
          have h54 : I2 5 4 = 0 := by rw [hI2]; simp [zu]
          have h55 : I2 5 5 = nI h := by rw [hI2]; simp [zu]
          have h7 : ∀ y, y < 3 → I2 7 y = zdig td 3 y := fun y hy => by rw [hI2, zu_other (by decide), zu_other (by decide)]; exact hct y (by omega) hy
          refine ev_aload_n (q := 62) dX3_tellAll_61 rfl rfl ?_
          refine ev_aload_n (q := 63) dX3_tellAll_62 rfl rfl ?_
          refine ev_iconst (q := 64) (0 : Int32) dX3_tellAll_63 rfl (by decide) ?_
          refine ev_iload_n (q := 65) dX3_tellAll_64 rfl rfl ?_
          refine ev_cS (q := 68) dX3_tellAll_65 rfl okX3_tellFrom lmRX3_41 smX3_tellFrom (c_tell3 G fo I2 (hFC2.S hs) (yr := 0) (fun _ => 0) hh (fun y hy => absurd hy (by omega)) (by omega) (by rw [h53])) (by decide) rfl rfl (Nat.le_of_ble_eq_true rfl) (fun v65 n65 I65 P65 hR65 => ?_)
          obtain ⟨rfl, rfl, rfl, hfr, -, -, hws⟩ := hR65
          exact ev_vret dX3_tellAll_68 rfl (⟨rfl, rfl, rfl, fun c q5 q6 q7 q8 => by rw [hfr c q5 q6 q8, hI2, zu_other q5, zu_other q5]; exact hf c q5 q7, by rw [hws, hFC2.V, hFC2 119 (by cases fo <;> rfl), h54, h55]; exact zTF_congr _ _ _ _ _ (fun y _ h2 => h7 y (by omega))⟩)
      · exact absurd (show nI 0 - 1 < 0 by decide) h23
    | succ j ih =>
      intro I1 hj hf hy hct
      rw [nI_pred]
      have hp : nn - j = (nn - (j + 1)).succ := by omega
      have hd : td / 10 ^ (nn - (j + 1)) < 2 ^ 31 := Nat.lt_of_le_of_lt (Nat.div_le_self _ _) (by omega)
      refine ev_iload (q := 23) dX3_tellAll_21 rfl rfl ?_
      refine ev_if_lt (q := 26) (t := 51) dX3_tellAll_23 rfl (by decide) (fun h23 => ?_) (fun h23 => ?_)
      · exact absurd h23 (nI_pos (by omega))
      · refine ev_aload_n (q := 27) dX3_tellAll_26 rfl rfl ?_
        refine ev_getR (q := 30) (ci := 3) (f := 1) dX3_tellAll_27 rfl (by first | rfl | assumption | exact zf_kd (by assumption) | exact zw_kd (by assumption) | exact zt_kd (by assumption)) (by first | decide | exact zf_lt (by assumption) | exact zf_lt1 (by assumption) | exact zf_lt2 (by assumption) | exact zf_lt3 (by assumption) | exact zf_lt4 (by assumption) | exact zw_lt (by assumption) | exact zw_lt1 (by assumption) | exact zw_lt2 (by assumption) | exact zw_lt3 (by assumption) | exact zw_lt4 (by assumption) | exact zt_lt (by assumption)) (by decide) (by decide) lfRX3_15 rfl (by first | rfl | assumption | exact zf_p4 _ (by assumption) | exact zf_p5 _ (by assumption) | exact zf_p6 _ (by assumption) | exact zf_p7 _ (by assumption) | exact zw_p1 _ (by assumption) | exact zw_p2 _ (by assumption) | exact zw_p3 _ (by assumption) | exact zw_p4 _ (by assumption)) ?_
        refine ev_iload (q := 32) dX3_tellAll_30 rfl rfl ?_
        refine ev_iload (q := 34) dX3_tellAll_32 rfl rfl ?_
        refine ev_bipush (q := 36) (nI 10 : Int32) dX3_tellAll_34 rfl (by decide) ?_
        refine ev_irem (q := 37) dX3_tellAll_36 rfl (by decide) ?_
        rw [pk_rem hd (by omega) (by omega)]
        refine ev_iastN (q := 38) dX3_tellAll_37 rfl (by first | rfl | assumption | exact zf_kd1 (by assumption) | exact zf_kd2 (by assumption) | exact zf_kd3 (by assumption) | exact zf_kd4 (by assumption) | exact zw_kd1 (by assumption) | exact zw_kd2 (by assumption) | exact zw_kd3 (by assumption) | exact zw_kd4 (by assumption)) (by first | decide | exact zf_lt (by assumption) | exact zf_lt1 (by assumption) | exact zf_lt2 (by assumption) | exact zf_lt3 (by assumption) | exact zf_lt4 (by assumption) | exact zw_lt (by assumption) | exact zw_lt1 (by assumption) | exact zw_lt2 (by assumption) | exact zw_lt3 (by assumption) | exact zw_lt4 (by assumption) | exact zt_lt (by assumption)) (show j < 3 by omega) ?_
        refine ev_iload (q := 40) dX3_tellAll_38 rfl rfl ?_
        refine ev_bipush (q := 42) (nI 10 : Int32) dX3_tellAll_40 rfl (by decide) ?_
        refine ev_idiv (q := 43) dX3_tellAll_42 rfl (by decide) ?_
        rw [pk_div hd (by omega) (by omega)]
        refine ev_istoreL (q := 45) (L9 := [_, _, _, _, _, _, _]) dX3_tellAll_43 rfl (by decide) rfl rfl ?_
        refine ev_iincL (q := 48) (L9 := [_, _, _, _, _, _, _]) ((-1) : Int32) dX3_tellAll_45 rfl rfl (by decide) (by decide) rfl rfl ?_
        refine ev_goto (t := 21) dX3_tellAll_48 (by decide) ?_
        rw [nI_m1', Nat.div_div_eq_div_mul, ← Nat.pow_succ, ← hp]
        exact ih _ (by omega) (fun c q5 q7 => by rw [zu_other q7]; exact hf c q5 q7) (by rw [zu_other (by decide)]; exact hy) (fun y h1 h2 => by
          by_cases hyj : y = j
          · subst hyj; simp [zu, zdig, show nn - 1 - y = nn - (y + 1) by omega]
          · simp [zu, hyj]; exact hct y (by omega) h2)
  refine ev_aload_n (q := 1) dX3_tellAll_0 rfl rfl ?_
  refine ev_iload_n (q := 2) dX3_tellAll_1 rfl rfl ?_
  refine ev_iconst (q := 3) (3 : Int32) dX3_tellAll_2 rfl (by decide) ?_
  refine ev_minI (q := 6) dX3_tellAll_3 rfl lmRX3_25 smminI iniMath cdminI (by decide) (Nat.le_of_ble_eq_true rfl) ?_
  rw [show (if 3 < nI nn then 3 else nI nn) = nI nn from if_neg (by rw [show (3 : Int32) = nI 3 from rfl, nI_ltI (by omega) (by omega)]; omega)]
  refine ev_putI (q := 9) (ci := 3) (f := 3) dX3_tellAll_6 rfl (by first | rfl | assumption | exact zf_kd (by assumption) | exact zw_kd (by assumption) | exact zt_kd (by assumption)) (by first | decide | exact zf_lt (by assumption) | exact zf_lt1 (by assumption) | exact zf_lt2 (by assumption) | exact zf_lt3 (by assumption) | exact zf_lt4 (by assumption) | exact zw_lt (by assumption) | exact zw_lt1 (by assumption) | exact zw_lt2 (by assumption) | exact zw_lt3 (by assumption) | exact zw_lt4 (by assumption) | exact zt_lt (by assumption)) (by decide) (by decide) lfRX3_31 rfl rfl rfl rfl ?_
  refine ev_iload (q := 11) dX3_tellAll_9 rfl rfl ?_
  refine ev_istoreL (q := 13) (L9 := [_, _, _, _, _, _, _]) dX3_tellAll_11 rfl (by decide) rfl rfl ?_
  refine ev_aload_n (q := 14) dX3_tellAll_13 rfl rfl ?_
  refine ev_getI (q := 17) (ci := 3) (f := 3) dX3_tellAll_14 rfl (by first | rfl | assumption | exact zf_kd (by assumption) | exact zw_kd (by assumption) | exact zt_kd (by assumption)) (by first | decide | exact zf_lt (by assumption) | exact zf_lt1 (by assumption) | exact zf_lt2 (by assumption) | exact zf_lt3 (by assumption) | exact zf_lt4 (by assumption) | exact zw_lt (by assumption) | exact zw_lt1 (by assumption) | exact zw_lt2 (by assumption) | exact zw_lt3 (by assumption) | exact zw_lt4 (by assumption) | exact zt_lt (by assumption)) (by decide) (by decide) lfRX3_31 rfl ?_
  rw [show zu I 5 3 (nI nn) 5 3 = nI nn by simp [zu]]
  refine ev_iconst (q := 18) (1 : Int32) dX3_tellAll_17 rfl (by decide) ?_
  refine ev_isub (q := 19) dX3_tellAll_18 rfl ?_
  refine ev_istoreL (q := 21) (L9 := [_, _, _, _, _, _, _]) dX3_tellAll_19 rfl (by decide) rfl rfl ?_
  have hlast := lp nn (zu I 5 3 (nI nn)) (by omega) (fun c q5 _ => zu_other q5) (by simp [zu]) (fun y h1 h2 => absurd h2 (by omega))
  rw [Nat.sub_self, Nat.pow_zero, Nat.div_one] at hlast
  exact hlast
set_option maxHeartbeats 4000000 in
set_option maxRecDepth 100000 in
theorem c_X7_retold (G : zq_G) (fo : Bool) (I : zq_I) {N T Y : Nat} (hs : zS fo N T Y I) (x n told w : Int32) : zq_Met G mX7_retold 9 0 0 [.ref 0, .int x, .int n, .int told, .int w] 138 I (zPs fo) (zq_fr (some (.int (zpick x T (-1) (fun t => zRet (I 119 4) (zV I) N n told w t)))) fo I) := by
  refine zq_Met.of okX7_retold (Nat.le_of_ble_eq_true rfl) ?_
  show zq_E _ _ _ _ _ _ _ [some (.ref 0), some (.int x), some (.int n), some (.int told), some (.int w), none] _ _ _ _ _
  have hN8 := hs.n8
  have hN := hs.ppl
  have hfF := zF_is fo
  refine ev_aload_n (q := 1) dX7_retold_0 rfl rfl ?_
  refine ev_getR (q := 4) (ci := 7) (f := 9) dX7_retold_1 rfl (by first | rfl | assumption | exact zf_kd (by assumption) | exact zw_kd (by assumption) | exact zt_kd (by assumption)) (by first | decide | exact zf_lt (by assumption) | exact zf_lt1 (by assumption) | exact zf_lt2 (by assumption) | exact zf_lt3 (by assumption) | exact zf_lt4 (by assumption) | exact zw_lt (by assumption) | exact zw_lt1 (by assumption) | exact zw_lt2 (by assumption) | exact zw_lt3 (by assumption) | exact zw_lt4 (by assumption) | exact zt_lt (by assumption)) (by decide) (by decide) lfRX7_66 rfl (by first | rfl | assumption | exact zf_p4 _ (by assumption) | exact zf_p5 _ (by assumption) | exact zf_p6 _ (by assumption) | exact zf_p7 _ (by assumption) | exact zw_p1 _ (by assumption) | exact zw_p2 _ (by assumption) | exact zw_p3 _ (by assumption) | exact zw_p4 _ (by assumption)) ?_
  refine ev_iload_n (q := 5) dX7_retold_4 rfl rfl ?_
  refine ev_pV (q := 8) (ci := 0) dX7_retold_5 rfl okX0_hasTown lmRX7_149 imX0_hasTown seX0_hasTown (by first | rfl | assumption | exact zf_kd (by assumption) | exact zw_kd (by assumption) | exact zt_kd (by assumption)) (by first | decide | exact zf_lt (by assumption) | exact zf_lt1 (by assumption) | exact zf_lt2 (by assumption) | exact zf_lt3 (by assumption) | exact zf_lt4 (by assumption) | exact zw_lt (by assumption) | exact zw_lt1 (by assumption) | exact zw_lt2 (by assumption) | exact zw_lt3 (by assumption) | exact zw_lt4 (by assumption) | exact zt_lt (by assumption)) (by decide) rfl (c_X0_hasTown G fo I hfF _) (by decide) rfl rfl (Nat.le_of_ble_eq_true rfl) ?_
  refine ev_if_ne (q := 11) (t := 13) dX7_retold_8 rfl (by decide) (fun h8 => ?_) (fun h8 => ?_)
  · obtain ⟨t, ht, rfl⟩ := zin_t hs.t4' (show zin x (nI T) = true by rw [hs.twn] at h8; exact zb_ne h8)
    have ht4 : t < 4 := by have := hs.t4; omega
    refine ev_iload_n (q := 14) dX7_retold_13 rfl rfl ?_
    refine ev_iconst (q := 15) (1 : Int32) dX7_retold_14 rfl (by decide) ?_
    refine ev_icmp_lt (q := 18) (t := 46) dX7_retold_15 rfl (by decide) (fun h15 => ?_) (fun h15 => ?_)
    · refine ev_bipush (q := 48) ((-2) : Int32) dX7_retold_46 rfl (by decide) ?_
      exact ev_iret dX7_retold_48 rfl (by first | rfl | exact zb_nar _ | assumption) (⟨by rw [zpick_t ht hs.t4']; unfold zRet; rw [if_pos (by first | (simp [zRok, h15]; done) | (simp [zRok, h20]; done) | (simp [zRok, h24]; done) | (simp [zRok, hpw]; done) | (simp [zRok, h37]; done) | (simp [zRok, h43]; done))], rfl, rfl, zFC.rf⟩)
    · refine ev_iload_n (q := 19) dX7_retold_18 rfl rfl ?_
      refine ev_iconst (q := 20) (3 : Int32) dX7_retold_19 rfl (by decide) ?_
      refine ev_icmp_gt (q := 23) (t := 46) dX7_retold_20 rfl (by decide) (fun h20 => ?_) (fun h20 => ?_)
      · refine ev_bipush (q := 48) ((-2) : Int32) dX7_retold_46 rfl (by decide) ?_
        exact ev_iret dX7_retold_48 rfl (by first | rfl | exact zb_nar _ | assumption) (⟨by rw [zpick_t ht hs.t4']; unfold zRet; rw [if_pos (by first | (simp [zRok, h15]; done) | (simp [zRok, h20]; done) | (simp [zRok, h24]; done) | (simp [zRok, hpw]; done) | (simp [zRok, h37]; done) | (simp [zRok, h43]; done))], rfl, rfl, zFC.rf⟩)
      · refine ev_iload_n (q := 24) dX7_retold_23 rfl rfl ?_
        refine ev_if_lt (q := 27) (t := 46) dX7_retold_24 rfl (by decide) (fun h24 => ?_) (fun h24 => ?_)
        · refine ev_bipush (q := 48) ((-2) : Int32) dX7_retold_46 rfl (by decide) ?_
          exact ev_iret dX7_retold_48 rfl (by first | rfl | exact zb_nar _ | assumption) (⟨by rw [zpick_t ht hs.t4']; unfold zRet; rw [if_pos (by first | (simp [zRok, h15]; done) | (simp [zRok, h20]; done) | (simp [zRok, h24]; done) | (simp [zRok, hpw]; done) | (simp [zRok, h37]; done) | (simp [zRok, h43]; done))], rfl, rfl, zFC.rf⟩)
        · obtain ⟨nn, hn1, hn3, rfl⟩ := z13 h15 h20
          have hp10 := zpow10 nn (by omega) hn1
          refine ev_iload_n (q := 28) dX7_retold_27 rfl rfl ?_
          refine ev_iload_n (q := 29) dX7_retold_28 rfl rfl ?_
          refine ev_pS (q := 32) dX7_retold_29 rfl okX7_powerOfTen lmRX7_223 smX7_powerOfTen (c_X7_powerOfTen G _ _ _ (e := nn) (by omega)) (by decide) rfl rfl (Nat.le_of_ble_eq_true rfl) ?_
          refine ev_icmp_ge (q := 35) (t := 46) dX7_retold_32 rfl (by decide) (fun h32 => ?_) (fun h32 => ?_)
          · have hpw : zt10 (nI nn) ≤ told := by rw [hp10.2, ← hp10.1]; exact h32
            refine ev_bipush (q := 48) ((-2) : Int32) dX7_retold_46 rfl (by decide) ?_
            exact ev_iret dX7_retold_48 rfl (by first | rfl | exact zb_nar _ | assumption) (⟨by rw [zpick_t ht hs.t4']; unfold zRet; rw [if_pos (by first | (simp [zRok, h15]; done) | (simp [zRok, h20]; done) | (simp [zRok, h24]; done) | (simp [zRok, hpw]; done) | (simp [zRok, h37]; done) | (simp [zRok, h43]; done))], rfl, rfl, zFC.rf⟩)
          · have hpw : ¬ zt10 (nI nn) ≤ told := by rw [hp10.2, ← hp10.1]; exact h32
            refine ev_iload (q := 37) dX7_retold_35 rfl rfl ?_
            refine ev_if_lt (q := 40) (t := 46) dX7_retold_37 rfl (by decide) (fun h37 => ?_) (fun h37 => ?_)
            · refine ev_bipush (q := 48) ((-2) : Int32) dX7_retold_46 rfl (by decide) ?_
              exact ev_iret dX7_retold_48 rfl (by first | rfl | exact zb_nar _ | assumption) (⟨by rw [zpick_t ht hs.t4']; unfold zRet; rw [if_pos (by first | (simp [zRok, h15]; done) | (simp [zRok, h20]; done) | (simp [zRok, h24]; done) | (simp [zRok, hpw]; done) | (simp [zRok, h37]; done) | (simp [zRok, h43]; done))], rfl, rfl, zFC.rf⟩)
            · refine ev_iload (q := 42) dX7_retold_40 rfl rfl ?_
              refine ev_iconst (q := 43) (1 : Int32) dX7_retold_42 rfl (by decide) ?_
              refine ev_icmp_le (q := 46) (t := 49) dX7_retold_43 rfl (by decide) (fun h43 => ?_) (fun h43 => ?_)
              · refine ev_aload_n (q := 50) dX7_retold_49 rfl rfl ?_
                refine ev_getR (q := 53) (ci := 7) (f := 9) dX7_retold_50 rfl (by first | rfl | assumption | exact zf_kd (by assumption) | exact zw_kd (by assumption) | exact zt_kd (by assumption)) (by first | decide | exact zf_lt (by assumption) | exact zf_lt1 (by assumption) | exact zf_lt2 (by assumption) | exact zf_lt3 (by assumption) | exact zf_lt4 (by assumption) | exact zw_lt (by assumption) | exact zw_lt1 (by assumption) | exact zw_lt2 (by assumption) | exact zw_lt3 (by assumption) | exact zw_lt4 (by assumption) | exact zt_lt (by assumption)) (by decide) (by decide) lfRX7_66 rfl (by first | rfl | assumption | exact zf_p4 _ (by assumption) | exact zf_p5 _ (by assumption) | exact zf_p6 _ (by assumption) | exact zf_p7 _ (by assumption) | exact zw_p1 _ (by assumption) | exact zw_p2 _ (by assumption) | exact zw_p3 _ (by assumption) | exact zw_p4 _ (by assumption)) ?_
                refine ev_iload_n (q := 54) dX7_retold_53 rfl rfl ?_
                refine ev_pV (q := 57) (ci := 0) dX7_retold_54 rfl okX0_ofHome lmRX7_161 imX0_ofHome seX0_ofHome (by first | rfl | assumption | exact zf_kd (by assumption) | exact zw_kd (by assumption) | exact zt_kd (by assumption)) (by first | decide | exact zf_lt (by assumption) | exact zf_lt1 (by assumption) | exact zf_lt2 (by assumption) | exact zf_lt3 (by assumption) | exact zf_lt4 (by assumption) | exact zw_lt (by assumption) | exact zw_lt1 (by assumption) | exact zw_lt2 (by assumption) | exact zw_lt3 (by assumption) | exact zw_lt4 (by assumption) | exact zt_lt (by assumption)) (by decide) rfl (c_X0_ofHome G fo I (zV I) hfF hN8 hN (fun p hp => hs.hom hp) _) (by decide) rfl rfl (Nat.le_of_ble_eq_true rfl) ?_
                rw [zOH_n _ hN8]
                have hm := zOHn_lt (zV I) hN8 (nI t)
                refine ev_istoreL (q := 59) (L9 := [_, _, _, _, _, _]) dX7_retold_57 rfl (by decide) rfl rfl ?_
                refine ev_iload (q := 61) dX7_retold_59 rfl rfl ?_
                refine ev_pS (q := 64) dX7_retold_61 rfl okJ6_bitCount_0f7a4 lmRX7_197 smJ6_bitCount_0f7a4 (c_J6_bitCount_0f7a4 G _ _ _ _) (by decide) rfl rfl (Nat.le_of_ble_eq_true rfl) ?_
                refine ev_bipush (q := 66) (6 : Int32) dX7_retold_64 rfl (by decide) ?_
                refine ev_icmp_le (q := 69) (t := 72) dX7_retold_66 rfl (by decide) (fun h66 => ?_) (fun h66 => ?_)
                · have hok : zRok (nI nn) told w = true := by simp [zRok, h15, h20, h24, hpw, h37, h43]
                  obtain ⟨td, htd, rfl⟩ : ∃ td, td < 1000 ∧ told = nI td := by
                    have h10 : 10 ^ nn ≤ 1000 := by rcases (by omega : nn = 1 ∨ nn = 2 ∨ nn = 3) with rfl | rfl | rfl <;> decide
                    rcases pk_ix told (n := 10 ^ nn) (by omega) with q | q | ⟨j, hj, rfl⟩
                    · exact absurd q h24
                    · rw [hp10.2] at hpw; exact absurd q hpw
                    · exact ⟨j, by omega, rfl⟩
                  refine ev_aload_n (q := 73) dX7_retold_72 rfl rfl ?_
                  refine ev_getR (q := 76) (ci := 7) (f := 3) dX7_retold_73 rfl (by first | rfl | assumption | exact zf_kd (by assumption) | exact zw_kd (by assumption) | exact zt_kd (by assumption)) (by first | decide | exact zf_lt (by assumption) | exact zf_lt1 (by assumption) | exact zf_lt2 (by assumption) | exact zf_lt3 (by assumption) | exact zf_lt4 (by assumption) | exact zw_lt (by assumption) | exact zw_lt1 (by assumption) | exact zw_lt2 (by assumption) | exact zw_lt3 (by assumption) | exact zw_lt4 (by assumption) | exact zt_lt (by assumption)) (by decide) (by decide) lfRX7_33 rfl (by first | rfl | assumption | exact zf_p4 _ (by assumption) | exact zf_p5 _ (by assumption) | exact zf_p6 _ (by assumption) | exact zf_p7 _ (by assumption) | exact zw_p1 _ (by assumption) | exact zw_p2 _ (by assumption) | exact zw_p3 _ (by assumption) | exact zw_p4 _ (by assumption)) ?_
                  refine ev_aload_n (q := 77) dX7_retold_76 rfl rfl ?_
                  refine ev_getR (q := 80) (ci := 7) (f := 9) dX7_retold_77 rfl (by first | rfl | assumption | exact zf_kd (by assumption) | exact zw_kd (by assumption) | exact zt_kd (by assumption)) (by first | decide | exact zf_lt (by assumption) | exact zf_lt1 (by assumption) | exact zf_lt2 (by assumption) | exact zf_lt3 (by assumption) | exact zf_lt4 (by assumption) | exact zw_lt (by assumption) | exact zw_lt1 (by assumption) | exact zw_lt2 (by assumption) | exact zw_lt3 (by assumption) | exact zw_lt4 (by assumption) | exact zt_lt (by assumption)) (by decide) (by decide) lfRX7_66 rfl (by first | rfl | assumption | exact zf_p4 _ (by assumption) | exact zf_p5 _ (by assumption) | exact zf_p6 _ (by assumption) | exact zf_p7 _ (by assumption) | exact zw_p1 _ (by assumption) | exact zw_p2 _ (by assumption) | exact zw_p3 _ (by assumption) | exact zw_p4 _ (by assumption)) ?_
                  refine ev_iload (q := 82) dX7_retold_80 rfl rfl ?_
                  refine ev_iload_n (q := 83) dX7_retold_82 rfl rfl ?_
                  refine ev_iload_n (q := 84) dX7_retold_83 rfl rfl ?_
                  refine ev_cV (q := 87) (ci := 3) dX7_retold_84 rfl okX3_tellAll lmRX7_226 imX3_tellAll seX3_tellAll (by first | rfl | assumption | exact zf_kd (by assumption) | exact zw_kd (by assumption) | exact zt_kd (by assumption)) (by first | decide | exact zf_lt (by assumption) | exact zf_lt1 (by assumption) | exact zf_lt2 (by assumption) | exact zf_lt3 (by assumption) | exact zf_lt4 (by assumption) | exact zw_lt (by assumption) | exact zw_lt1 (by assumption) | exact zw_lt2 (by assumption) | exact zw_lt3 (by assumption) | exact zw_lt4 (by assumption) | exact zt_lt (by assumption)) (by decide) rfl (c_X3_tellAll G fo I hs hm hn1 hn3 htd (td := td)) (by decide) rfl rfl (Nat.le_of_ble_eq_true rfl) (fun v84 n84 I84 P84 hR84 => ?_)
                  obtain ⟨rfl, rfl, rfl, hfr, hws⟩ := hR84
                  have hw1 := congrArg Prod.fst hws
                  have hw2 := congrArg Prod.snd hws
                  dsimp only at hw1 hw2
                  have hFC : zFC fo I I84 := fun c hc => hfr c (fun e => by subst e; simp [zsc] at hc) (fun e => by subst e; simp [zsc] at hc) (fun e => by subst e; simp [zsc] at hc) (fun e => by subst e; simp [zsc] at hc)
                  have hnt : (nI nn).toNatClampNeg = nn := nI_clamp (by omega)
                  have htt : (nI td).toNatClampNeg = td := nI_clamp (by omega)
                  rw [zpick_t ht hs.t4']
                  unfold zRet
                  rw [hok, if_neg (by decide), if_neg (Int32.not_lt.mpr h66), hnt, htt, ← hw1, ← hw2]
                  refine ev_iload (q := 89) dX7_retold_87 rfl rfl ?_
                  refine ev_if_ne (q := 92) (t := 100) dX7_retold_89 rfl (by decide) (fun h89 => ?_) (fun h89 => ?_)
                  · refine ev_aload_n (q := 101) dX7_retold_100 rfl rfl ?_
                    refine ev_getR (q := 104) (ci := 7) (f := 3) dX7_retold_101 rfl (by first | rfl | assumption | exact zf_kd (by assumption) | exact zw_kd (by assumption) | exact zt_kd (by assumption)) (by first | decide | exact zf_lt (by assumption) | exact zf_lt1 (by assumption) | exact zf_lt2 (by assumption) | exact zf_lt3 (by assumption) | exact zf_lt4 (by assumption) | exact zw_lt (by assumption) | exact zw_lt1 (by assumption) | exact zw_lt2 (by assumption) | exact zw_lt3 (by assumption) | exact zw_lt4 (by assumption) | exact zt_lt (by assumption)) (by decide) (by decide) lfRX7_33 rfl (by first | rfl | assumption | exact zf_p4 _ (by assumption) | exact zf_p5 _ (by assumption) | exact zf_p6 _ (by assumption) | exact zf_p7 _ (by assumption) | exact zw_p1 _ (by assumption) | exact zw_p2 _ (by assumption) | exact zw_p3 _ (by assumption) | exact zw_p4 _ (by assumption)) ?_
                    refine ev_getI (q := 107) (ci := 3) (f := 4) dX7_retold_104 rfl (by first | rfl | assumption | exact zf_kd (by assumption) | exact zw_kd (by assumption) | exact zt_kd (by assumption)) (by first | decide | exact zf_lt (by assumption) | exact zf_lt1 (by assumption) | exact zf_lt2 (by assumption) | exact zf_lt3 (by assumption) | exact zf_lt4 (by assumption) | exact zw_lt (by assumption) | exact zw_lt1 (by assumption) | exact zw_lt2 (by assumption) | exact zw_lt3 (by assumption) | exact zw_lt4 (by assumption) | exact zt_lt (by assumption)) (by decide) (by decide) lfRX7_230 rfl ?_
                    refine ev_if_ne (q := 110) (t := 115) dX7_retold_107 rfl (by decide) (fun h107 => ?_) (fun h107 => ?_)
                    · refine ev_aload_n (q := 116) dX7_retold_115 rfl rfl ?_
                      refine ev_getR (q := 119) (ci := 7) (f := 3) dX7_retold_116 rfl (by first | rfl | assumption | exact zf_kd (by assumption) | exact zw_kd (by assumption) | exact zt_kd (by assumption)) (by first | decide | exact zf_lt (by assumption) | exact zf_lt1 (by assumption) | exact zf_lt2 (by assumption) | exact zf_lt3 (by assumption) | exact zf_lt4 (by assumption) | exact zw_lt (by assumption) | exact zw_lt1 (by assumption) | exact zw_lt2 (by assumption) | exact zw_lt3 (by assumption) | exact zw_lt4 (by assumption) | exact zt_lt (by assumption)) (by decide) (by decide) lfRX7_33 rfl (by first | rfl | assumption | exact zf_p4 _ (by assumption) | exact zf_p5 _ (by assumption) | exact zf_p6 _ (by assumption) | exact zf_p7 _ (by assumption) | exact zw_p1 _ (by assumption) | exact zw_p2 _ (by assumption) | exact zw_p3 _ (by assumption) | exact zw_p4 _ (by assumption)) ?_
                      refine ev_getI (q := 122) (ci := 3) (f := 5) dX7_retold_119 rfl (by first | rfl | assumption | exact zf_kd (by assumption) | exact zw_kd (by assumption) | exact zt_kd (by assumption)) (by first | decide | exact zf_lt (by assumption) | exact zf_lt1 (by assumption) | exact zf_lt2 (by assumption) | exact zf_lt3 (by assumption) | exact zf_lt4 (by assumption) | exact zw_lt (by assumption) | exact zw_lt1 (by assumption) | exact zw_lt2 (by assumption) | exact zw_lt3 (by assumption) | exact zw_lt4 (by assumption) | exact zt_lt (by assumption)) (by decide) (by decide) lfRX7_233 rfl ?_
                      exact ev_iret dX7_retold_122 rfl (by first | rfl | exact zb_nar _ | assumption) (⟨by rw [if_neg h89]; first | rw [if_pos h107] | rw [if_neg h107], rfl, rfl, hFC⟩)
                    · refine ev_bipush (q := 112) ((-9) : Int32) dX7_retold_110 rfl (by decide) ?_
                      refine ev_goto (t := 122) dX7_retold_112 (by decide) ?_
                      exact ev_iret dX7_retold_122 rfl (by first | rfl | exact zb_nar _ | assumption) (⟨by rw [if_neg h89]; first | rw [if_pos h107] | rw [if_neg h107], rfl, rfl, hFC⟩)
                  · refine ev_aload_n (q := 93) dX7_retold_92 rfl rfl ?_
                    refine ev_getR (q := 96) (ci := 7) (f := 3) dX7_retold_93 rfl (by first | rfl | assumption | exact zf_kd (by assumption) | exact zw_kd (by assumption) | exact zt_kd (by assumption)) (by first | decide | exact zf_lt (by assumption) | exact zf_lt1 (by assumption) | exact zf_lt2 (by assumption) | exact zf_lt3 (by assumption) | exact zf_lt4 (by assumption) | exact zw_lt (by assumption) | exact zw_lt1 (by assumption) | exact zw_lt2 (by assumption) | exact zw_lt3 (by assumption) | exact zw_lt4 (by assumption) | exact zt_lt (by assumption)) (by decide) (by decide) lfRX7_33 rfl (by first | rfl | assumption | exact zf_p4 _ (by assumption) | exact zf_p5 _ (by assumption) | exact zf_p6 _ (by assumption) | exact zf_p7 _ (by assumption) | exact zw_p1 _ (by assumption) | exact zw_p2 _ (by assumption) | exact zw_p3 _ (by assumption) | exact zw_p4 _ (by assumption)) ?_
                    refine ev_getI (q := 99) (ci := 3) (f := 4) dX7_retold_96 rfl (by first | rfl | assumption | exact zf_kd (by assumption) | exact zw_kd (by assumption) | exact zt_kd (by assumption)) (by first | decide | exact zf_lt (by assumption) | exact zf_lt1 (by assumption) | exact zf_lt2 (by assumption) | exact zf_lt3 (by assumption) | exact zf_lt4 (by assumption) | exact zw_lt (by assumption) | exact zw_lt1 (by assumption) | exact zw_lt2 (by assumption) | exact zw_lt3 (by assumption) | exact zw_lt4 (by assumption) | exact zt_lt (by assumption)) (by decide) (by decide) lfRX7_230 rfl ?_
                    exact ev_iret dX7_retold_99 rfl (by first | rfl | exact zb_nar _ | assumption) (⟨by rw [if_pos h89], rfl, rfl, hFC⟩)
                · have hok : zRok (nI nn) told w = true := by simp [zRok, h15, h20, h24, hpw, h37, h43]
                  refine ev_bipush (q := 71) ((-3) : Int32) dX7_retold_69 rfl (by decide) ?_
                  exact ev_iret dX7_retold_71 rfl (by first | rfl | exact zb_nar _ | assumption) (⟨by rw [zpick_t ht hs.t4']; unfold zRet; rw [hok, if_neg (by decide), if_pos (Int32.not_le.mp h66)], rfl, rfl, zFC.rf⟩)
              · refine ev_bipush (q := 48) ((-2) : Int32) dX7_retold_46 rfl (by decide) ?_
                exact ev_iret dX7_retold_48 rfl (by first | rfl | exact zb_nar _ | assumption) (⟨by rw [zpick_t ht hs.t4']; unfold zRet; rw [if_pos (by first | (simp [zRok, h15]; done) | (simp [zRok, h20]; done) | (simp [zRok, h24]; done) | (simp [zRok, hpw]; done) | (simp [zRok, h37]; done) | (simp [zRok, h43]; done))], rfl, rfl, zFC.rf⟩)
  · have hz : zin x (nI T) = false := by rw [hs.twn] at h8; exact zb_eq h8
    refine ev_iconst (q := 12) ((-1) : Int32) dX7_retold_11 rfl (by decide) ?_
    exact ev_iret dX7_retold_12 rfl (by first | rfl | exact zb_nar _ | assumption) (⟨by rw [zpick_f hz], rfl, rfl, zFC.rf⟩)
