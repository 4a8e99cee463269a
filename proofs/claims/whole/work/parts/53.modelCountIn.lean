def zIs (V : zq_V) (h : Nat) (go : Nat → Int32) (y : Int32) (i j : Nat) : Bool := zhas (nI h &&& vA V i) j && decide (0 < go j) && decide (go j ≤ y) && decide (y - go j ≤ vK V i)
def zthr (h : Nat) (go : Nat → Int32) (y : Int32) (i : Nat) : Bool := zhas (nI h) i && ((go i == 0) || decide (y < go i))
/-- what the model counts in a year, by who went when -/
def zCMg (l : Int32) (V : zq_V) (N h : Nat) (go : Nat → Int32) (y : Int32) : Int32 := zCnt l V N (fun i => zbits (zIs V h go y i) N) (zthr h go y)
theorem zbits_congr {c c' : Nat → Bool} {n : Nat} (h : ∀ i, i < n → c i = c' i) : zbits c n = zbits c' n := zor_congr h (fun _ _ _ => rfl)
theorem zCMg_congr {l : Int32} {V : zq_V} {N h : Nat} {go go' : Nat → Int32} {y : Int32} (hg : ∀ p, p < N → go p = go' p) : zCMg l V N h go y = zCMg l V N h go' y := by
  unfold zCMg
  refine zCnt_congr (fun i hi => by unfold zthr; rw [hg i hi]) (fun i hi _ => zbits_congr (fun j hj => by unfold zIs; rw [hg j hj]))
theorem zbits_mask2 (c : Nat → Bool) {N : Nat} (h : N ≤ 8) : ∃ m, m < 2 ^ 8 ∧ zbits c N = nI m := by
  obtain ⟨m, hm, -, em, -⟩ := zbits_mask c h
  exact ⟨m, hm, em⟩
theorem i32_or_assoc (a b c : Int32) : a ||| b ||| c = a ||| (b ||| c) := by
  apply Int32.toBitVec_inj.mp
  simp [BitVec.or_assoc]
set_option maxHeartbeats 4000000 in
set_option maxRecDepth 100000 in
theorem lp_X8_countIn_in (G : zq_G) (fo : Bool) (I : zq_I) {N h i : Nat} {y p0 m0 : Int32} {R : zq_R} (hN8 : N ≤ 8) (hi : i < 8) (hN : I 119 6 = nI N) (K : zq_E G mX8_countIn 2 0 0 false 172 [some (.ref 119), some (.int (nI h)), some (.int y), some (.int (p0 + nI (zcn (zIs (zV I) h (I 137) y i) N))), some (.int (m0 ||| zbits (zIs (zV I) h (I 137) y i) N)), some (.int (nI i)), none, none, none] [] 138 I (zPs fo) R) : zq_E G mX8_countIn 2 0 0 false 57 [some (.ref 119), some (.int (nI h)), some (.int y), some (.int p0), some (.int m0), some (.int (nI i)), some (.int 1), some (.int 0), none] [] 138 I (zPs fo) R := by
  have lp57 : ∀ (k j : Nat) (p1 m1 : Int32), N + 1 ≤ j + k → j ≤ N → p1 = p0 + nI (zcn (zIs (zV I) h (I 137) y i) j) → m1 = m0 ||| zbits (zIs (zV I) h (I 137) y i) j → zq_E G mX8_countIn 2 0 0 false 57 [some (.ref 119), some (.int (nI h)), some (.int y), some (.int p1), some (.int m1), some (.int (nI i)), some (.int 1), some (.int (nI j)), none] [] 138 I (zPs fo) (R) := by
    intro k
    induction k with
    | zero => intro j p1 m1 hk hj; exact absurd hk (by omega)
    | succ k ih =>
      intro j p1 m1 hk hj h0 h1
      refine ev_iload (q := 59) dX8_countIn_57 rfl rfl ?_
      refine ev_aload_n (q := 60) dX8_countIn_59 rfl rfl ?_
      refine ev_getI (q := 63) (ci := 8) (f := 6) dX8_countIn_60 rfl (by first | rfl | assumption | exact zf_kd (by assumption) | exact zw_kd (by assumption) | exact zt_kd (by assumption)) (by first | decide | exact zf_lt (by assumption) | exact zf_lt1 (by assumption) | exact zf_lt2 (by assumption) | exact zf_lt3 (by assumption) | exact zf_lt4 (by assumption) | exact zw_lt (by assumption) | exact zw_lt1 (by assumption) | exact zw_lt2 (by assumption) | exact zw_lt3 (by assumption) | exact zw_lt4 (by assumption) | exact zt_lt (by assumption)) (by decide) (by decide) lfRX8_72 rfl ?_
      refine ev_icmp_ge (q := 66) (t := 172) dX8_countIn_63 rfl (by decide) (fun h63 => ?_) (fun h63 => ?_)
      · obtain rfl : j = N := by rw [hN, nI_leI (by omega) (by omega)] at h63; omega
        refine ev_wk (L' := [some (.ref 119), some (.int (nI h)), some (.int y), some (.int (p0 + nI (zcn (zIs (zV I) h (I 137) y i) _))), some (.int (m0 ||| zbits (zIs (zV I) h (I 137) y i) _)), some (.int (nI i)), none, none, none]) ⟨rfl, rfl, rfl, by rw [h0], by rw [h1], rfl, trivial⟩ ?_
        exact K
      · have hlt_j : j < N := by rw [hN, nI_leI (by omega) (by omega)] at h63; omega
        refine ev_iload (q := 68) dX8_countIn_66 rfl rfl ?_
        refine ev_if_eq (q := 71) (t := 172) dX8_countIn_68 rfl (by decide) (fun h68 => ?_) (fun h68 => ?_)
        · exact absurd h68 (by decide)
        · refine ev_iload_n (q := 72) dX8_countIn_71 rfl rfl ?_
          refine ev_aload_n (q := 73) dX8_countIn_72 rfl rfl ?_
          refine ev_getR (q := 76) (ci := 8) (f := 10) dX8_countIn_73 rfl (by first | rfl | assumption | exact zf_kd (by assumption) | exact zw_kd (by assumption) | exact zt_kd (by assumption)) (by first | decide | exact zf_lt (by assumption) | exact zf_lt1 (by assumption) | exact zf_lt2 (by assumption) | exact zf_lt3 (by assumption) | exact zf_lt4 (by assumption) | exact zw_lt (by assumption) | exact zw_lt1 (by assumption) | exact zw_lt2 (by assumption) | exact zw_lt3 (by assumption) | exact zw_lt4 (by assumption) | exact zt_lt (by assumption)) (by decide) (by decide) lfRX8_26 rfl (by first | rfl | assumption | exact zf_p4 _ (by assumption) | exact zf_p5 _ (by assumption) | exact zf_p6 _ (by assumption) | exact zf_p7 _ (by assumption) | exact zw_p1 _ (by assumption) | exact zw_p2 _ (by assumption) | exact zw_p3 _ (by assumption) | exact zw_p4 _ (by assumption)) ?_
          refine ev_iload (q := 78) dX8_countIn_76 rfl rfl ?_
          refine ev_ialdN (q := 79) dX8_countIn_78 rfl (by first | rfl | assumption | exact zf_kd1 (by assumption) | exact zf_kd2 (by assumption) | exact zf_kd3 (by assumption) | exact zf_kd4 (by assumption) | exact zw_kd1 (by assumption) | exact zw_kd2 (by assumption) | exact zw_kd3 (by assumption) | exact zw_kd4 (by assumption)) (by first | decide | exact zf_lt (by assumption) | exact zf_lt1 (by assumption) | exact zf_lt2 (by assumption) | exact zf_lt3 (by assumption) | exact zf_lt4 (by assumption) | exact zw_lt (by assumption) | exact zw_lt1 (by assumption) | exact zw_lt2 (by assumption) | exact zw_lt3 (by assumption) | exact zw_lt4 (by assumption) | exact zt_lt (by assumption)) (by first | omega | assumption) ?_
          refine ev_iand (q := 80) dX8_countIn_79 rfl ?_
          refine ev_iload (q := 82) dX8_countIn_80 rfl rfl ?_
          refine ev_pS (q := 85) dX8_countIn_82 rfl okX8_has lmRX8_101 smX8_has (c_X8_has G _ _ _ _ _) (by decide) rfl rfl (Nat.le_of_ble_eq_true rfl) ?_
          refine ev_if_eq (q := 88) (t := 132) dX8_countIn_85 rfl (by decide) (fun h85 => ?_) (fun h85 => ?_)
          · have f0 : zhas (nI h &&& vA (zV I) i) j = false := zb_eq h85
            refine ev_iconst (q := 133) (0 : Int32) dX8_countIn_132 rfl (by decide) ?_
            refine ev_istoreL (q := 135) (L9 := [_, _, _, _, _, _, _, _, _]) dX8_countIn_133 rfl (by decide) rfl rfl ?_
            refine ev_iload_n (q := 136) dX8_countIn_135 rfl rfl ?_
            refine ev_iload (q := 138) dX8_countIn_136 rfl rfl ?_
            refine ev_if_eq (q := 141) (t := 145) dX8_countIn_138 rfl (by decide) (fun h138 => ?_) (fun h138 => ?_)
            · refine ev_iconst (q := 146) (0 : Int32) dX8_countIn_145 rfl (by decide) ?_
              refine ev_iadd (q := 147) dX8_countIn_146 rfl ?_
              refine ev_istore_nL (q := 148) (L9 := [_, _, _, _, _, _, _, _, _]) dX8_countIn_147 rfl (by decide) rfl rfl ?_
              refine ev_iload (q := 150) dX8_countIn_148 rfl rfl ?_
              refine ev_iload (q := 152) dX8_countIn_150 rfl rfl ?_
              refine ev_if_eq (q := 155) (t := 162) dX8_countIn_152 rfl (by decide) (fun h152 => ?_) (fun h152 => ?_)
              · refine ev_iconst (q := 163) (0 : Int32) dX8_countIn_162 rfl (by decide) ?_
                refine ev_ior (q := 164) dX8_countIn_163 rfl ?_
                refine ev_istoreL (q := 166) (L9 := [_, _, _, _, _, _, _, _, _]) dX8_countIn_164 rfl (by decide) rfl rfl ?_
                refine ev_iincL (q := 169) (L9 := [_, _, _, _, _, _, _, _, _]) (1 : Int32) dX8_countIn_166 rfl rfl (by decide) (by decide) rfl rfl ?_
                refine ev_goto (t := 57) dX8_countIn_169 (by decide) ?_
                have ft : zIs (zV I) h (I 137) y i j = false := by simp [zIs, f0]
                rw [nI_1]
                refine ev_wk (L' := [some (.ref 119), some (.int (nI h)), some (.int y), some (.int _), some (.int _), some (.int (nI i)), some (.int 1), some (.int (nI (j + 1))), none]) ⟨rfl, rfl, rfl, rfl, rfl, rfl, rfl, rfl, trivial⟩ ?_
                exact ih (j + 1) _ _ (by omega) (by omega) (by rw [h0, Int32.add_zero, zcn, if_neg (by rw [ft]; decide)]) (by rw [h1, i32_or_0]; congr 1; exact zor_n rfl ft)
              · refine ev_iconst (q := 156) (1 : Int32) dX8_countIn_155 rfl (by decide) ?_
                refine ev_iload (q := 158) dX8_countIn_156 rfl rfl ?_
                refine ev_ishl (q := 159) dX8_countIn_158 rfl ?_
                refine ev_goto (t := 163) dX8_countIn_159 (by decide) ?_
                refine ev_ior (q := 164) dX8_countIn_163 rfl ?_
                refine ev_istoreL (q := 166) (L9 := [_, _, _, _, _, _, _, _, _]) dX8_countIn_164 rfl (by decide) rfl rfl ?_
                refine ev_iincL (q := 169) (L9 := [_, _, _, _, _, _, _, _, _]) (1 : Int32) dX8_countIn_166 rfl rfl (by decide) (by decide) rfl rfl ?_
                refine ev_goto (t := 57) dX8_countIn_169 (by decide) ?_
                exact absurd rfl h152
            · refine ev_iconst (q := 142) (1 : Int32) dX8_countIn_141 rfl (by decide) ?_
              refine ev_goto (t := 146) dX8_countIn_142 (by decide) ?_
              refine ev_iadd (q := 147) dX8_countIn_146 rfl ?_
              refine ev_istore_nL (q := 148) (L9 := [_, _, _, _, _, _, _, _, _]) dX8_countIn_147 rfl (by decide) rfl rfl ?_
              refine ev_iload (q := 150) dX8_countIn_148 rfl rfl ?_
              refine ev_iload (q := 152) dX8_countIn_150 rfl rfl ?_
              refine ev_if_eq (q := 155) (t := 162) dX8_countIn_152 rfl (by decide) (fun h152 => ?_) (fun h152 => ?_)
              · refine ev_iconst (q := 163) (0 : Int32) dX8_countIn_162 rfl (by decide) ?_
                refine ev_ior (q := 164) dX8_countIn_163 rfl ?_
                refine ev_istoreL (q := 166) (L9 := [_, _, _, _, _, _, _, _, _]) dX8_countIn_164 rfl (by decide) rfl rfl ?_
                refine ev_iincL (q := 169) (L9 := [_, _, _, _, _, _, _, _, _]) (1 : Int32) dX8_countIn_166 rfl rfl (by decide) (by decide) rfl rfl ?_
                refine ev_goto (t := 57) dX8_countIn_169 (by decide) ?_
                exact absurd rfl h138
              · refine ev_iconst (q := 156) (1 : Int32) dX8_countIn_155 rfl (by decide) ?_
                refine ev_iload (q := 158) dX8_countIn_156 rfl rfl ?_
                refine ev_ishl (q := 159) dX8_countIn_158 rfl ?_
                refine ev_goto (t := 163) dX8_countIn_159 (by decide) ?_
                refine ev_ior (q := 164) dX8_countIn_163 rfl ?_
                refine ev_istoreL (q := 166) (L9 := [_, _, _, _, _, _, _, _, _]) dX8_countIn_164 rfl (by decide) rfl rfl ?_
                refine ev_iincL (q := 169) (L9 := [_, _, _, _, _, _, _, _, _]) (1 : Int32) dX8_countIn_166 rfl rfl (by decide) (by decide) rfl rfl ?_
                refine ev_goto (t := 57) dX8_countIn_169 (by decide) ?_
                exact absurd rfl h138
          · have f0 : zhas (nI h &&& vA (zV I) i) j = true := zb_ne h85
            refine ev_aload_n (q := 89) dX8_countIn_88 rfl rfl ?_
            refine ev_getR (q := 92) (ci := 8) (f := 32) dX8_countIn_89 rfl (by first | rfl | assumption | exact zf_kd (by assumption) | exact zw_kd (by assumption) | exact zt_kd (by assumption)) (by first | decide | exact zf_lt (by assumption) | exact zf_lt1 (by assumption) | exact zf_lt2 (by assumption) | exact zf_lt3 (by assumption) | exact zf_lt4 (by assumption) | exact zw_lt (by assumption) | exact zw_lt1 (by assumption) | exact zw_lt2 (by assumption) | exact zw_lt3 (by assumption) | exact zw_lt4 (by assumption) | exact zt_lt (by assumption)) (by decide) (by decide) lfRX8_66 rfl (by first | rfl | assumption | exact zf_p4 _ (by assumption) | exact zf_p5 _ (by assumption) | exact zf_p6 _ (by assumption) | exact zf_p7 _ (by assumption) | exact zw_p1 _ (by assumption) | exact zw_p2 _ (by assumption) | exact zw_p3 _ (by assumption) | exact zw_p4 _ (by assumption)) ?_
            refine ev_iload (q := 94) dX8_countIn_92 rfl rfl ?_
            refine ev_ialdN (q := 95) dX8_countIn_94 rfl (by first | rfl | assumption | exact zf_kd1 (by assumption) | exact zf_kd2 (by assumption) | exact zf_kd3 (by assumption) | exact zf_kd4 (by assumption) | exact zw_kd1 (by assumption) | exact zw_kd2 (by assumption) | exact zw_kd3 (by assumption) | exact zw_kd4 (by assumption)) (by first | decide | exact zf_lt (by assumption) | exact zf_lt1 (by assumption) | exact zf_lt2 (by assumption) | exact zf_lt3 (by assumption) | exact zf_lt4 (by assumption) | exact zw_lt (by assumption) | exact zw_lt1 (by assumption) | exact zw_lt2 (by assumption) | exact zw_lt3 (by assumption) | exact zw_lt4 (by assumption) | exact zt_lt (by assumption)) (by first | omega | assumption) ?_
            refine ev_if_le (q := 98) (t := 132) dX8_countIn_95 rfl (by decide) (fun h95 => ?_) (fun h95 => ?_)
            · have f1 : decide (0 < I 137 j) = false := decide_eq_false (Int32.not_lt.mpr h95)
              refine ev_iconst (q := 133) (0 : Int32) dX8_countIn_132 rfl (by decide) ?_
              refine ev_istoreL (q := 135) (L9 := [_, _, _, _, _, _, _, _, _]) dX8_countIn_133 rfl (by decide) rfl rfl ?_
              refine ev_iload_n (q := 136) dX8_countIn_135 rfl rfl ?_
              refine ev_iload (q := 138) dX8_countIn_136 rfl rfl ?_
              refine ev_if_eq (q := 141) (t := 145) dX8_countIn_138 rfl (by decide) (fun h138 => ?_) (fun h138 => ?_)
              · refine ev_iconst (q := 146) (0 : Int32) dX8_countIn_145 rfl (by decide) ?_
                refine ev_iadd (q := 147) dX8_countIn_146 rfl ?_
                refine ev_istore_nL (q := 148) (L9 := [_, _, _, _, _, _, _, _, _]) dX8_countIn_147 rfl (by decide) rfl rfl ?_
                refine ev_iload (q := 150) dX8_countIn_148 rfl rfl ?_
                refine ev_iload (q := 152) dX8_countIn_150 rfl rfl ?_
                refine ev_if_eq (q := 155) (t := 162) dX8_countIn_152 rfl (by decide) (fun h152 => ?_) (fun h152 => ?_)
                · refine ev_iconst (q := 163) (0 : Int32) dX8_countIn_162 rfl (by decide) ?_
                  refine ev_ior (q := 164) dX8_countIn_163 rfl ?_
                  refine ev_istoreL (q := 166) (L9 := [_, _, _, _, _, _, _, _, _]) dX8_countIn_164 rfl (by decide) rfl rfl ?_
                  refine ev_iincL (q := 169) (L9 := [_, _, _, _, _, _, _, _, _]) (1 : Int32) dX8_countIn_166 rfl rfl (by decide) (by decide) rfl rfl ?_
                  refine ev_goto (t := 57) dX8_countIn_169 (by decide) ?_
                  have ft : zIs (zV I) h (I 137) y i j = false := by simp [zIs, f0, f1]
                  rw [nI_1]
                  refine ev_wk (L' := [some (.ref 119), some (.int (nI h)), some (.int y), some (.int _), some (.int _), some (.int (nI i)), some (.int 1), some (.int (nI (j + 1))), none]) ⟨rfl, rfl, rfl, rfl, rfl, rfl, rfl, rfl, trivial⟩ ?_
                  exact ih (j + 1) _ _ (by omega) (by omega) (by rw [h0, Int32.add_zero, zcn, if_neg (by rw [ft]; decide)]) (by rw [h1, i32_or_0]; congr 1; exact zor_n rfl ft)
                · refine ev_iconst (q := 156) (1 : Int32) dX8_countIn_155 rfl (by decide) ?_
                  refine ev_iload (q := 158) dX8_countIn_156 rfl rfl ?_
                  refine ev_ishl (q := 159) dX8_countIn_158 rfl ?_
                  refine ev_goto (t := 163) dX8_countIn_159 (by decide) ?_
                  refine ev_ior (q := 164) dX8_countIn_163 rfl ?_
                  refine ev_istoreL (q := 166) (L9 := [_, _, _, _, _, _, _, _, _]) dX8_countIn_164 rfl (by decide) rfl rfl ?_
                  refine ev_iincL (q := 169) (L9 := [_, _, _, _, _, _, _, _, _]) (1 : Int32) dX8_countIn_166 rfl rfl (by decide) (by decide) rfl rfl ?_
                  refine ev_goto (t := 57) dX8_countIn_169 (by decide) ?_
                  exact absurd rfl h152
              · refine ev_iconst (q := 142) (1 : Int32) dX8_countIn_141 rfl (by decide) ?_
                refine ev_goto (t := 146) dX8_countIn_142 (by decide) ?_
                refine ev_iadd (q := 147) dX8_countIn_146 rfl ?_
                refine ev_istore_nL (q := 148) (L9 := [_, _, _, _, _, _, _, _, _]) dX8_countIn_147 rfl (by decide) rfl rfl ?_
                refine ev_iload (q := 150) dX8_countIn_148 rfl rfl ?_
                refine ev_iload (q := 152) dX8_countIn_150 rfl rfl ?_
                refine ev_if_eq (q := 155) (t := 162) dX8_countIn_152 rfl (by decide) (fun h152 => ?_) (fun h152 => ?_)
                · refine ev_iconst (q := 163) (0 : Int32) dX8_countIn_162 rfl (by decide) ?_
                  refine ev_ior (q := 164) dX8_countIn_163 rfl ?_
                  refine ev_istoreL (q := 166) (L9 := [_, _, _, _, _, _, _, _, _]) dX8_countIn_164 rfl (by decide) rfl rfl ?_
                  refine ev_iincL (q := 169) (L9 := [_, _, _, _, _, _, _, _, _]) (1 : Int32) dX8_countIn_166 rfl rfl (by decide) (by decide) rfl rfl ?_
                  refine ev_goto (t := 57) dX8_countIn_169 (by decide) ?_
                  exact absurd rfl h138
                · refine ev_iconst (q := 156) (1 : Int32) dX8_countIn_155 rfl (by decide) ?_
                  refine ev_iload (q := 158) dX8_countIn_156 rfl rfl ?_
                  refine ev_ishl (q := 159) dX8_countIn_158 rfl ?_
                  refine ev_goto (t := 163) dX8_countIn_159 (by decide) ?_
                  refine ev_ior (q := 164) dX8_countIn_163 rfl ?_
                  refine ev_istoreL (q := 166) (L9 := [_, _, _, _, _, _, _, _, _]) dX8_countIn_164 rfl (by decide) rfl rfl ?_
                  refine ev_iincL (q := 169) (L9 := [_, _, _, _, _, _, _, _, _]) (1 : Int32) dX8_countIn_166 rfl rfl (by decide) (by decide) rfl rfl ?_
                  refine ev_goto (t := 57) dX8_countIn_169 (by decide) ?_
                  exact absurd rfl h138
            · have f1 : decide (0 < I 137 j) = true := decide_eq_true (Int32.not_le.mp h95)
              refine ev_aload_n (q := 99) dX8_countIn_98 rfl rfl ?_
              refine ev_getR (q := 102) (ci := 8) (f := 32) dX8_countIn_99 rfl (by first | rfl | assumption | exact zf_kd (by assumption) | exact zw_kd (by assumption) | exact zt_kd (by assumption)) (by first | decide | exact zf_lt (by assumption) | exact zf_lt1 (by assumption) | exact zf_lt2 (by assumption) | exact zf_lt3 (by assumption) | exact zf_lt4 (by assumption) | exact zw_lt (by assumption) | exact zw_lt1 (by assumption) | exact zw_lt2 (by assumption) | exact zw_lt3 (by assumption) | exact zw_lt4 (by assumption) | exact zt_lt (by assumption)) (by decide) (by decide) lfRX8_66 rfl (by first | rfl | assumption | exact zf_p4 _ (by assumption) | exact zf_p5 _ (by assumption) | exact zf_p6 _ (by assumption) | exact zf_p7 _ (by assumption) | exact zw_p1 _ (by assumption) | exact zw_p2 _ (by assumption) | exact zw_p3 _ (by assumption) | exact zw_p4 _ (by assumption)) ?_
              refine ev_iload (q := 104) dX8_countIn_102 rfl rfl ?_
              refine ev_ialdN (q := 105) dX8_countIn_104 rfl (by first | rfl | assumption | exact zf_kd1 (by assumption) | exact zf_kd2 (by assumption) | exact zf_kd3 (by assumption) | exact zf_kd4 (by assumption) | exact zw_kd1 (by assumption) | exact zw_kd2 (by assumption) | exact zw_kd3 (by assumption) | exact zw_kd4 (by assumption)) (by first | decide | exact zf_lt (by assumption) | exact zf_lt1 (by assumption) | exact zf_lt2 (by assumption) | exact zf_lt3 (by assumption) | exact zf_lt4 (by assumption) | exact zw_lt (by assumption) | exact zw_lt1 (by assumption) | exact zw_lt2 (by assumption) | exact zw_lt3 (by assumption) | exact zw_lt4 (by assumption) | exact zt_lt (by assumption)) (by first | omega | assumption) ?_
              refine ev_iload_n (q := 106) dX8_countIn_105 rfl rfl ?_
              refine ev_icmp_gt (q := 109) (t := 132) dX8_countIn_106 rfl (by decide) (fun h106 => ?_) (fun h106 => ?_)
              · have f2 : decide (I 137 j ≤ y) = false := decide_eq_false (Int32.not_le.mpr h106)
                refine ev_iconst (q := 133) (0 : Int32) dX8_countIn_132 rfl (by decide) ?_
                refine ev_istoreL (q := 135) (L9 := [_, _, _, _, _, _, _, _, _]) dX8_countIn_133 rfl (by decide) rfl rfl ?_
                refine ev_iload_n (q := 136) dX8_countIn_135 rfl rfl ?_
                refine ev_iload (q := 138) dX8_countIn_136 rfl rfl ?_
                refine ev_if_eq (q := 141) (t := 145) dX8_countIn_138 rfl (by decide) (fun h138 => ?_) (fun h138 => ?_)
                · refine ev_iconst (q := 146) (0 : Int32) dX8_countIn_145 rfl (by decide) ?_
                  refine ev_iadd (q := 147) dX8_countIn_146 rfl ?_
                  refine ev_istore_nL (q := 148) (L9 := [_, _, _, _, _, _, _, _, _]) dX8_countIn_147 rfl (by decide) rfl rfl ?_
                  refine ev_iload (q := 150) dX8_countIn_148 rfl rfl ?_
                  refine ev_iload (q := 152) dX8_countIn_150 rfl rfl ?_
                  refine ev_if_eq (q := 155) (t := 162) dX8_countIn_152 rfl (by decide) (fun h152 => ?_) (fun h152 => ?_)
                  · refine ev_iconst (q := 163) (0 : Int32) dX8_countIn_162 rfl (by decide) ?_
                    refine ev_ior (q := 164) dX8_countIn_163 rfl ?_
                    refine ev_istoreL (q := 166) (L9 := [_, _, _, _, _, _, _, _, _]) dX8_countIn_164 rfl (by decide) rfl rfl ?_
                    refine ev_iincL (q := 169) (L9 := [_, _, _, _, _, _, _, _, _]) (1 : Int32) dX8_countIn_166 rfl rfl (by decide) (by decide) rfl rfl ?_
                    refine ev_goto (t := 57) dX8_countIn_169 (by decide) ?_
                    have ft : zIs (zV I) h (I 137) y i j = false := by simp [zIs, f0, f1, f2]
                    rw [nI_1]
                    refine ev_wk (L' := [some (.ref 119), some (.int (nI h)), some (.int y), some (.int _), some (.int _), some (.int (nI i)), some (.int 1), some (.int (nI (j + 1))), none]) ⟨rfl, rfl, rfl, rfl, rfl, rfl, rfl, rfl, trivial⟩ ?_
                    exact ih (j + 1) _ _ (by omega) (by omega) (by rw [h0, Int32.add_zero, zcn, if_neg (by rw [ft]; decide)]) (by rw [h1, i32_or_0]; congr 1; exact zor_n rfl ft)
                  · refine ev_iconst (q := 156) (1 : Int32) dX8_countIn_155 rfl (by decide) ?_
                    refine ev_iload (q := 158) dX8_countIn_156 rfl rfl ?_
                    refine ev_ishl (q := 159) dX8_countIn_158 rfl ?_
                    refine ev_goto (t := 163) dX8_countIn_159 (by decide) ?_
                    refine ev_ior (q := 164) dX8_countIn_163 rfl ?_
                    refine ev_istoreL (q := 166) (L9 := [_, _, _, _, _, _, _, _, _]) dX8_countIn_164 rfl (by decide) rfl rfl ?_
                    refine ev_iincL (q := 169) (L9 := [_, _, _, _, _, _, _, _, _]) (1 : Int32) dX8_countIn_166 rfl rfl (by decide) (by decide) rfl rfl ?_
                    refine ev_goto (t := 57) dX8_countIn_169 (by decide) ?_
                    exact absurd rfl h152
                · refine ev_iconst (q := 142) (1 : Int32) dX8_countIn_141 rfl (by decide) ?_
                  refine ev_goto (t := 146) dX8_countIn_142 (by decide) ?_
                  refine ev_iadd (q := 147) dX8_countIn_146 rfl ?_
                  refine ev_istore_nL (q := 148) (L9 := [_, _, _, _, _, _, _, _, _]) dX8_countIn_147 rfl (by decide) rfl rfl ?_
                  refine ev_iload (q := 150) dX8_countIn_148 rfl rfl ?_
                  refine ev_iload (q := 152) dX8_countIn_150 rfl rfl ?_
                  refine ev_if_eq (q := 155) (t := 162) dX8_countIn_152 rfl (by decide) (fun h152 => ?_) (fun h152 => ?_)
                  · refine ev_iconst (q := 163) (0 : Int32) dX8_countIn_162 rfl (by decide) ?_
                    refine ev_ior (q := 164) dX8_countIn_163 rfl ?_
                    refine ev_istoreL (q := 166) (L9 := [_, _, _, _, _, _, _, _, _]) dX8_countIn_164 rfl (by decide) rfl rfl ?_
                    refine ev_iincL (q := 169) (L9 := [_, _, _, _, _, _, _, _, _]) (1 : Int32) dX8_countIn_166 rfl rfl (by decide) (by decide) rfl rfl ?_
                    refine ev_goto (t := 57) dX8_countIn_169 (by decide) ?_
                    exact absurd rfl h138
                  · refine ev_iconst (q := 156) (1 : Int32) dX8_countIn_155 rfl (by decide) ?_
                    refine ev_iload (q := 158) dX8_countIn_156 rfl rfl ?_
                    refine ev_ishl (q := 159) dX8_countIn_158 rfl ?_
                    refine ev_goto (t := 163) dX8_countIn_159 (by decide) ?_
                    refine ev_ior (q := 164) dX8_countIn_163 rfl ?_
                    refine ev_istoreL (q := 166) (L9 := [_, _, _, _, _, _, _, _, _]) dX8_countIn_164 rfl (by decide) rfl rfl ?_
                    refine ev_iincL (q := 169) (L9 := [_, _, _, _, _, _, _, _, _]) (1 : Int32) dX8_countIn_166 rfl rfl (by decide) (by decide) rfl rfl ?_
                    refine ev_goto (t := 57) dX8_countIn_169 (by decide) ?_
                    exact absurd rfl h138
              · have f2 : decide (I 137 j ≤ y) = true := decide_eq_true (Int32.not_lt.mp h106)
                refine ev_iload_n (q := 110) dX8_countIn_109 rfl rfl ?_
                refine ev_aload_n (q := 111) dX8_countIn_110 rfl rfl ?_
                refine ev_getR (q := 114) (ci := 8) (f := 32) dX8_countIn_111 rfl (by first | rfl | assumption | exact zf_kd (by assumption) | exact zw_kd (by assumption) | exact zt_kd (by assumption)) (by first | decide | exact zf_lt (by assumption) | exact zf_lt1 (by assumption) | exact zf_lt2 (by assumption) | exact zf_lt3 (by assumption) | exact zf_lt4 (by assumption) | exact zw_lt (by assumption) | exact zw_lt1 (by assumption) | exact zw_lt2 (by assumption) | exact zw_lt3 (by assumption) | exact zw_lt4 (by assumption) | exact zt_lt (by assumption)) (by decide) (by decide) lfRX8_66 rfl (by first | rfl | assumption | exact zf_p4 _ (by assumption) | exact zf_p5 _ (by assumption) | exact zf_p6 _ (by assumption) | exact zf_p7 _ (by assumption) | exact zw_p1 _ (by assumption) | exact zw_p2 _ (by assumption) | exact zw_p3 _ (by assumption) | exact zw_p4 _ (by assumption)) ?_
                refine ev_iload (q := 116) dX8_countIn_114 rfl rfl ?_
                refine ev_ialdN (q := 117) dX8_countIn_116 rfl (by first | rfl | assumption | exact zf_kd1 (by assumption) | exact zf_kd2 (by assumption) | exact zf_kd3 (by assumption) | exact zf_kd4 (by assumption) | exact zw_kd1 (by assumption) | exact zw_kd2 (by assumption) | exact zw_kd3 (by assumption) | exact zw_kd4 (by assumption)) (by first | decide | exact zf_lt (by assumption) | exact zf_lt1 (by assumption) | exact zf_lt2 (by assumption) | exact zf_lt3 (by assumption) | exact zf_lt4 (by assumption) | exact zw_lt (by assumption) | exact zw_lt1 (by assumption) | exact zw_lt2 (by assumption) | exact zw_lt3 (by assumption) | exact zw_lt4 (by assumption) | exact zt_lt (by assumption)) (by first | omega | assumption) ?_
                refine ev_isub (q := 118) dX8_countIn_117 rfl ?_
                refine ev_aload_n (q := 119) dX8_countIn_118 rfl rfl ?_
                refine ev_getR (q := 122) (ci := 8) (f := 9) dX8_countIn_119 rfl (by first | rfl | assumption | exact zf_kd (by assumption) | exact zw_kd (by assumption) | exact zt_kd (by assumption)) (by first | decide | exact zf_lt (by assumption) | exact zf_lt1 (by assumption) | exact zf_lt2 (by assumption) | exact zf_lt3 (by assumption) | exact zf_lt4 (by assumption) | exact zw_lt (by assumption) | exact zw_lt1 (by assumption) | exact zw_lt2 (by assumption) | exact zw_lt3 (by assumption) | exact zw_lt4 (by assumption) | exact zt_lt (by assumption)) (by decide) (by decide) lfRX8_23 rfl (by first | rfl | assumption | exact zf_p4 _ (by assumption) | exact zf_p5 _ (by assumption) | exact zf_p6 _ (by assumption) | exact zf_p7 _ (by assumption) | exact zw_p1 _ (by assumption) | exact zw_p2 _ (by assumption) | exact zw_p3 _ (by assumption) | exact zw_p4 _ (by assumption)) ?_
                refine ev_iload (q := 124) dX8_countIn_122 rfl rfl ?_
                refine ev_ialdN (q := 125) dX8_countIn_124 rfl (by first | rfl | assumption | exact zf_kd1 (by assumption) | exact zf_kd2 (by assumption) | exact zf_kd3 (by assumption) | exact zf_kd4 (by assumption) | exact zw_kd1 (by assumption) | exact zw_kd2 (by assumption) | exact zw_kd3 (by assumption) | exact zw_kd4 (by assumption)) (by first | decide | exact zf_lt (by assumption) | exact zf_lt1 (by assumption) | exact zf_lt2 (by assumption) | exact zf_lt3 (by assumption) | exact zf_lt4 (by assumption) | exact zw_lt (by assumption) | exact zw_lt1 (by assumption) | exact zw_lt2 (by assumption) | exact zw_lt3 (by assumption) | exact zw_lt4 (by assumption) | exact zt_lt (by assumption)) (by first | omega | assumption) ?_
                refine ev_icmp_gt (q := 128) (t := 132) dX8_countIn_125 rfl (by decide) (fun h125 => ?_) (fun h125 => ?_)
                · have f3 : decide (y - I 137 j ≤ vK (zV I) i) = false := decide_eq_false (Int32.not_le.mpr h125)
                  refine ev_iconst (q := 133) (0 : Int32) dX8_countIn_132 rfl (by decide) ?_
                  refine ev_istoreL (q := 135) (L9 := [_, _, _, _, _, _, _, _, _]) dX8_countIn_133 rfl (by decide) rfl rfl ?_
                  refine ev_iload_n (q := 136) dX8_countIn_135 rfl rfl ?_
                  refine ev_iload (q := 138) dX8_countIn_136 rfl rfl ?_
                  refine ev_if_eq (q := 141) (t := 145) dX8_countIn_138 rfl (by decide) (fun h138 => ?_) (fun h138 => ?_)
                  · refine ev_iconst (q := 146) (0 : Int32) dX8_countIn_145 rfl (by decide) ?_
                    refine ev_iadd (q := 147) dX8_countIn_146 rfl ?_
                    refine ev_istore_nL (q := 148) (L9 := [_, _, _, _, _, _, _, _, _]) dX8_countIn_147 rfl (by decide) rfl rfl ?_
                    refine ev_iload (q := 150) dX8_countIn_148 rfl rfl ?_
                    refine ev_iload (q := 152) dX8_countIn_150 rfl rfl ?_
                    refine ev_if_eq (q := 155) (t := 162) dX8_countIn_152 rfl (by decide) (fun h152 => ?_) (fun h152 => ?_)
                    · refine ev_iconst (q := 163) (0 : Int32) dX8_countIn_162 rfl (by decide) ?_
                      refine ev_ior (q := 164) dX8_countIn_163 rfl ?_
                      refine ev_istoreL (q := 166) (L9 := [_, _, _, _, _, _, _, _, _]) dX8_countIn_164 rfl (by decide) rfl rfl ?_
                      refine ev_iincL (q := 169) (L9 := [_, _, _, _, _, _, _, _, _]) (1 : Int32) dX8_countIn_166 rfl rfl (by decide) (by decide) rfl rfl ?_
                      refine ev_goto (t := 57) dX8_countIn_169 (by decide) ?_
                      have ft : zIs (zV I) h (I 137) y i j = false := by simp [zIs, f0, f1, f2, f3]
                      rw [nI_1]
                      refine ev_wk (L' := [some (.ref 119), some (.int (nI h)), some (.int y), some (.int _), some (.int _), some (.int (nI i)), some (.int 1), some (.int (nI (j + 1))), none]) ⟨rfl, rfl, rfl, rfl, rfl, rfl, rfl, rfl, trivial⟩ ?_
                      exact ih (j + 1) _ _ (by omega) (by omega) (by rw [h0, Int32.add_zero, zcn, if_neg (by rw [ft]; decide)]) (by rw [h1, i32_or_0]; congr 1; exact zor_n rfl ft)
                    · refine ev_iconst (q := 156) (1 : Int32) dX8_countIn_155 rfl (by decide) ?_
                      refine ev_iload (q := 158) dX8_countIn_156 rfl rfl ?_
                      refine ev_ishl (q := 159) dX8_countIn_158 rfl ?_
                      refine ev_goto (t := 163) dX8_countIn_159 (by decide) ?_
                      refine ev_ior (q := 164) dX8_countIn_163 rfl ?_
                      refine ev_istoreL (q := 166) (L9 := [_, _, _, _, _, _, _, _, _]) dX8_countIn_164 rfl (by decide) rfl rfl ?_
                      refine ev_iincL (q := 169) (L9 := [_, _, _, _, _, _, _, _, _]) (1 : Int32) dX8_countIn_166 rfl rfl (by decide) (by decide) rfl rfl ?_
                      refine ev_goto (t := 57) dX8_countIn_169 (by decide) ?_
                      exact absurd rfl h152
                  · refine ev_iconst (q := 142) (1 : Int32) dX8_countIn_141 rfl (by decide) ?_
                    refine ev_goto (t := 146) dX8_countIn_142 (by decide) ?_
                    refine ev_iadd (q := 147) dX8_countIn_146 rfl ?_
                    refine ev_istore_nL (q := 148) (L9 := [_, _, _, _, _, _, _, _, _]) dX8_countIn_147 rfl (by decide) rfl rfl ?_
                    refine ev_iload (q := 150) dX8_countIn_148 rfl rfl ?_
                    refine ev_iload (q := 152) dX8_countIn_150 rfl rfl ?_
                    refine ev_if_eq (q := 155) (t := 162) dX8_countIn_152 rfl (by decide) (fun h152 => ?_) (fun h152 => ?_)
                    · refine ev_iconst (q := 163) (0 : Int32) dX8_countIn_162 rfl (by decide) ?_
                      refine ev_ior (q := 164) dX8_countIn_163 rfl ?_
                      refine ev_istoreL (q := 166) (L9 := [_, _, _, _, _, _, _, _, _]) dX8_countIn_164 rfl (by decide) rfl rfl ?_
                      refine ev_iincL (q := 169) (L9 := [_, _, _, _, _, _, _, _, _]) (1 : Int32) dX8_countIn_166 rfl rfl (by decide) (by decide) rfl rfl ?_
                      refine ev_goto (t := 57) dX8_countIn_169 (by decide) ?_
                      exact absurd rfl h138
                    · refine ev_iconst (q := 156) (1 : Int32) dX8_countIn_155 rfl (by decide) ?_
                      refine ev_iload (q := 158) dX8_countIn_156 rfl rfl ?_
                      refine ev_ishl (q := 159) dX8_countIn_158 rfl ?_
                      refine ev_goto (t := 163) dX8_countIn_159 (by decide) ?_
                      refine ev_ior (q := 164) dX8_countIn_163 rfl ?_
                      refine ev_istoreL (q := 166) (L9 := [_, _, _, _, _, _, _, _, _]) dX8_countIn_164 rfl (by decide) rfl rfl ?_
                      refine ev_iincL (q := 169) (L9 := [_, _, _, _, _, _, _, _, _]) (1 : Int32) dX8_countIn_166 rfl rfl (by decide) (by decide) rfl rfl ?_
                      refine ev_goto (t := 57) dX8_countIn_169 (by decide) ?_
                      exact absurd rfl h138
                · have f3 : decide (y - I 137 j ≤ vK (zV I) i) = true := decide_eq_true (Int32.not_lt.mp h125)
                  refine ev_iconst (q := 129) (1 : Int32) dX8_countIn_128 rfl (by decide) ?_
                  refine ev_goto (t := 133) dX8_countIn_129 (by decide) ?_
                  refine ev_istoreL (q := 135) (L9 := [_, _, _, _, _, _, _, _, _]) dX8_countIn_133 rfl (by decide) rfl rfl ?_
                  refine ev_iload_n (q := 136) dX8_countIn_135 rfl rfl ?_
                  refine ev_iload (q := 138) dX8_countIn_136 rfl rfl ?_
                  refine ev_if_eq (q := 141) (t := 145) dX8_countIn_138 rfl (by decide) (fun h138 => ?_) (fun h138 => ?_)
                  · refine ev_iconst (q := 146) (0 : Int32) dX8_countIn_145 rfl (by decide) ?_
                    refine ev_iadd (q := 147) dX8_countIn_146 rfl ?_
                    refine ev_istore_nL (q := 148) (L9 := [_, _, _, _, _, _, _, _, _]) dX8_countIn_147 rfl (by decide) rfl rfl ?_
                    refine ev_iload (q := 150) dX8_countIn_148 rfl rfl ?_
                    refine ev_iload (q := 152) dX8_countIn_150 rfl rfl ?_
                    refine ev_if_eq (q := 155) (t := 162) dX8_countIn_152 rfl (by decide) (fun h152 => ?_) (fun h152 => ?_)
                    · refine ev_iconst (q := 163) (0 : Int32) dX8_countIn_162 rfl (by decide) ?_
                      refine ev_ior (q := 164) dX8_countIn_163 rfl ?_
                      refine ev_istoreL (q := 166) (L9 := [_, _, _, _, _, _, _, _, _]) dX8_countIn_164 rfl (by decide) rfl rfl ?_
                      refine ev_iincL (q := 169) (L9 := [_, _, _, _, _, _, _, _, _]) (1 : Int32) dX8_countIn_166 rfl rfl (by decide) (by decide) rfl rfl ?_
                      refine ev_goto (t := 57) dX8_countIn_169 (by decide) ?_
                      exact absurd h138 (by decide)
                    · refine ev_iconst (q := 156) (1 : Int32) dX8_countIn_155 rfl (by decide) ?_
                      refine ev_iload (q := 158) dX8_countIn_156 rfl rfl ?_
                      refine ev_ishl (q := 159) dX8_countIn_158 rfl ?_
                      refine ev_goto (t := 163) dX8_countIn_159 (by decide) ?_
                      refine ev_ior (q := 164) dX8_countIn_163 rfl ?_
                      refine ev_istoreL (q := 166) (L9 := [_, _, _, _, _, _, _, _, _]) dX8_countIn_164 rfl (by decide) rfl rfl ?_
                      refine ev_iincL (q := 169) (L9 := [_, _, _, _, _, _, _, _, _]) (1 : Int32) dX8_countIn_166 rfl rfl (by decide) (by decide) rfl rfl ?_
                      refine ev_goto (t := 57) dX8_countIn_169 (by decide) ?_
                      exact absurd h138 (by decide)
                  · refine ev_iconst (q := 142) (1 : Int32) dX8_countIn_141 rfl (by decide) ?_
                    refine ev_goto (t := 146) dX8_countIn_142 (by decide) ?_
                    refine ev_iadd (q := 147) dX8_countIn_146 rfl ?_
                    refine ev_istore_nL (q := 148) (L9 := [_, _, _, _, _, _, _, _, _]) dX8_countIn_147 rfl (by decide) rfl rfl ?_
                    refine ev_iload (q := 150) dX8_countIn_148 rfl rfl ?_
                    refine ev_iload (q := 152) dX8_countIn_150 rfl rfl ?_
                    refine ev_if_eq (q := 155) (t := 162) dX8_countIn_152 rfl (by decide) (fun h152 => ?_) (fun h152 => ?_)
                    · refine ev_iconst (q := 163) (0 : Int32) dX8_countIn_162 rfl (by decide) ?_
                      refine ev_ior (q := 164) dX8_countIn_163 rfl ?_
                      refine ev_istoreL (q := 166) (L9 := [_, _, _, _, _, _, _, _, _]) dX8_countIn_164 rfl (by decide) rfl rfl ?_
                      refine ev_iincL (q := 169) (L9 := [_, _, _, _, _, _, _, _, _]) (1 : Int32) dX8_countIn_166 rfl rfl (by decide) (by decide) rfl rfl ?_
                      refine ev_goto (t := 57) dX8_countIn_169 (by decide) ?_
                      exact absurd h152 (by decide)
                    · refine ev_iconst (q := 156) (1 : Int32) dX8_countIn_155 rfl (by decide) ?_
                      refine ev_iload (q := 158) dX8_countIn_156 rfl rfl ?_
                      refine ev_ishl (q := 159) dX8_countIn_158 rfl ?_
                      refine ev_goto (t := 163) dX8_countIn_159 (by decide) ?_
                      refine ev_ior (q := 164) dX8_countIn_163 rfl ?_
                      refine ev_istoreL (q := 166) (L9 := [_, _, _, _, _, _, _, _, _]) dX8_countIn_164 rfl (by decide) rfl rfl ?_
                      refine ev_iincL (q := 169) (L9 := [_, _, _, _, _, _, _, _, _]) (1 : Int32) dX8_countIn_166 rfl rfl (by decide) (by decide) rfl rfl ?_
                      refine ev_goto (t := 57) dX8_countIn_169 (by decide) ?_
                      have ft : zIs (zV I) h (I 137) y i j = true := by unfold zIs; rw [f0, f1, f2, f3]; rfl
                      rw [nI_1]
                      refine ev_wk (L' := [some (.ref 119), some (.int (nI h)), some (.int y), some (.int _), some (.int _), some (.int (nI i)), some (.int 1), some (.int (nI (j + 1))), none]) ⟨rfl, rfl, rfl, rfl, rfl, rfl, rfl, rfl, trivial⟩ ?_
                      exact ih (j + 1) _ _ (by omega) (by omega) (by rw [h0, Int32.add_assoc, show nI (zcn (zIs (zV I) h (I 137) y i) j) + 1 = nI (zcn (zIs (zV I) h (I 137) y i) (j + 1)) from by rw [zcn, if_pos ft, nI_1]]) (by rw [h1, i32_or_assoc]; congr 1; exact zor_s rfl ft)
  exact lp57 (N + 1) 0 _ _ (by omega) (by omega) (by rw [show nI (zcn (zIs (zV I) h (I 137) y i) 0) = 0 from rfl, Int32.add_zero]) (by rw [show zbits (zIs (zV I) h (I 137) y i) 0 = 0 from rfl, i32_or_0])
set_option maxHeartbeats 4000000 in
set_option maxRecDepth 100000 in
theorem c_X8_countIn (G : zq_G) (fo : Bool) (I : zq_I) {N T Y : Nat} (hs : zS fo N T Y I) {h : Nat} (y : Int32) : zq_Met G mX8_countIn 2 0 0 [.ref 119, .int (nI h), .int y] 138 I (zPs fo) (zq_pu (some (.int (zCMg (I 119 4) (zV I) N h (I 137) y))) 138 I (zPs fo)) := by
  refine zq_Met.of okX8_countIn (Nat.le_of_ble_eq_true rfl) ?_
  show zq_E _ _ _ _ _ _ _ [some (.ref 119), some (.int (nI h)), some (.int y), none, none, none, none, none, none] _ _ _ _ _
  have hN8 := hs.n8
  have hN := hs.mppl
  have lp8 : ∀ (k i : Nat) (pr ms : Int32), N + 1 ≤ i + k → i ≤ N → pr = zsum (fun i => zpop ((fun i => zbits (zIs (zV I) h (I 137) y i) N) i)) (zthr h (I 137) y) i → ms = zor (fun i => zbits (zIs (zV I) h (I 137) y i) N) (zthr h (I 137) y) i → zq_E G mX8_countIn 2 0 0 false 8 [some (.ref 119), some (.int (nI h)), some (.int y), some (.int pr), some (.int ms), some (.int (nI i)), none, none, none] [] 138 I (zPs fo) (zq_pu (some (.int (zCMg (I 119 4) (zV I) N h (I 137) y))) 138 I (zPs fo)) := by
    intro k
    induction k with
    | zero => intro i pr ms hk hi; exact absurd hk (by omega)
    | succ k ih =>
      intro i pr ms hk hi h0 h1
      refine ev_iload (q := 10) dX8_countIn_8 rfl rfl ?_
      refine ev_aload_n (q := 11) dX8_countIn_10 rfl rfl ?_
      refine ev_getI (q := 14) (ci := 8) (f := 6) dX8_countIn_11 rfl (by first | rfl | assumption | exact zf_kd (by assumption) | exact zw_kd (by assumption) | exact zt_kd (by assumption)) (by first | decide | exact zf_lt (by assumption) | exact zf_lt1 (by assumption) | exact zf_lt2 (by assumption) | exact zf_lt3 (by assumption) | exact zf_lt4 (by assumption) | exact zw_lt (by assumption) | exact zw_lt1 (by assumption) | exact zw_lt2 (by assumption) | exact zw_lt3 (by assumption) | exact zw_lt4 (by assumption) | exact zt_lt (by assumption)) (by decide) (by decide) lfRX8_72 rfl ?_
      refine ev_icmp_ge (q := 17) (t := 178) dX8_countIn_14 rfl (by decide) (fun h14 => ?_) (fun h14 => ?_)
      · obtain rfl : i = N := by rw [hN, nI_leI (by omega) (by omega)] at h14; omega
        refine ev_aload_n (q := 179) dX8_countIn_178 rfl rfl ?_
        refine ev_iload_n (q := 180) dX8_countIn_179 rfl rfl ?_
        refine ev_iload (q := 182) dX8_countIn_180 rfl rfl ?_
        obtain ⟨a, ha, ea⟩ : ∃ a, a < 2 ^ 8 ∧ ms = nI a := by
          rw [h1]
          exact zor_mask (fun i hi => zbits_mask2 _ hN8)
        subst ea
        refine ev_pV (q := 185) (ci := 8) dX8_countIn_182 rfl okX8_counted lmRX8_158 imX8_counted seX8_counted (by first | rfl | assumption | exact zf_kd (by assumption) | exact zw_kd (by assumption) | exact zt_kd (by assumption)) (by first | decide | exact zf_lt (by assumption) | exact zf_lt1 (by assumption) | exact zf_lt2 (by assumption) | exact zf_lt3 (by assumption) | exact zf_lt4 (by assumption) | exact zw_lt (by assumption) | exact zw_lt1 (by assumption) | exact zw_lt2 (by assumption) | exact zw_lt3 (by assumption) | exact zw_lt4 (by assumption) | exact zt_lt (by assumption)) (by decide) rfl (c_X8_counted G fo I hs _ ha) (by decide) rfl rfl (Nat.le_of_ble_eq_true rfl) ?_
        exact ev_iret dX8_countIn_185 rfl (by first | rfl | exact zb_nar _ | assumption) (⟨by unfold zCMg zCnt; rw [← h0, ← h1], rfl, rfl, rfl⟩)
      · have hlt_i : i < N := by rw [hN, nI_leI (by omega) (by omega)] at h14; omega
        refine ev_iload_n (q := 18) dX8_countIn_17 rfl rfl ?_
        refine ev_iload (q := 20) dX8_countIn_18 rfl rfl ?_
        refine ev_pS (q := 23) dX8_countIn_20 rfl okX8_has lmRX8_101 smX8_has (c_X8_has G _ _ _ _ _) (by decide) rfl rfl (Nat.le_of_ble_eq_true rfl) ?_
        refine ev_if_eq (q := 26) (t := 51) dX8_countIn_23 rfl (by decide) (fun h23 => ?_) (fun h23 => ?_)
        · refine ev_iconst (q := 52) (0 : Int32) dX8_countIn_51 rfl (by decide) ?_
          refine ev_istoreL (q := 54) (L9 := [_, _, _, _, _, _, _, _, _]) dX8_countIn_52 rfl (by decide) rfl rfl ?_
          refine ev_iconst (q := 55) (0 : Int32) dX8_countIn_54 rfl (by decide) ?_
          refine ev_istoreL (q := 57) (L9 := [_, _, _, _, _, _, _, _, _]) dX8_countIn_55 rfl (by decide) rfl rfl ?_
          have ft : (zthr h (I 137) y) i = false := by show zthr h (I 137) y i = false; unfold zthr; rw [show zhas (nI h) i = false from zb_eq h23]; rfl
          refine ev_iload (q := 59) dX8_countIn_57 rfl rfl ?_
          refine ev_aload_n (q := 60) dX8_countIn_59 rfl rfl ?_
          refine ev_getI (q := 63) (ci := 8) (f := 6) dX8_countIn_60 rfl (by first | rfl | assumption | exact zf_kd (by assumption) | exact zw_kd (by assumption) | exact zt_kd (by assumption)) (by first | decide | exact zf_lt (by assumption) | exact zf_lt1 (by assumption) | exact zf_lt2 (by assumption) | exact zf_lt3 (by assumption) | exact zf_lt4 (by assumption) | exact zw_lt (by assumption) | exact zw_lt1 (by assumption) | exact zw_lt2 (by assumption) | exact zw_lt3 (by assumption) | exact zw_lt4 (by assumption) | exact zt_lt (by assumption)) (by decide) (by decide) lfRX8_72 rfl ?_
          refine ev_icmp_ge (q := 66) (t := 172) dX8_countIn_63 rfl (by decide) (fun h63 => ?_) (fun h63 => ?_)
          · refine ev_iincL (q := 175) (L9 := [_, _, _, _, _, _, _, _, _]) (1 : Int32) dX8_countIn_172 rfl rfl (by decide) (by decide) rfl rfl ?_
            refine ev_goto (t := 8) dX8_countIn_175 (by decide) ?_
            rw [nI_1]
            refine ev_wk (L' := [some (.ref 119), some (.int (nI h)), some (.int y), some (.int _), some (.int _), some (.int (nI (i + 1))), none, none, none]) ⟨rfl, rfl, rfl, rfl, rfl, rfl, trivial⟩ ?_
            exact ih (i + 1) _ _ (by omega) (by omega) (by rw [h0]; exact zsum_n (f := fun i => zpop ((fun i => zbits (zIs (zV I) h (I 137) y i) N) i)) rfl ft) (by rw [h1]; exact zor_n (f := (fun i => zbits (zIs (zV I) h (I 137) y i) N)) rfl ft)
          · refine ev_iload (q := 68) dX8_countIn_66 rfl rfl ?_
            refine ev_if_eq (q := 71) (t := 172) dX8_countIn_68 rfl (by decide) (fun h68 => ?_) (fun h68 => ?_)
            · refine ev_iincL (q := 175) (L9 := [_, _, _, _, _, _, _, _, _]) (1 : Int32) dX8_countIn_172 rfl rfl (by decide) (by decide) rfl rfl ?_
              refine ev_goto (t := 8) dX8_countIn_175 (by decide) ?_
              rw [nI_1]
              refine ev_wk (L' := [some (.ref 119), some (.int (nI h)), some (.int y), some (.int _), some (.int _), some (.int (nI (i + 1))), none, none, none]) ⟨rfl, rfl, rfl, rfl, rfl, rfl, trivial⟩ ?_
              exact ih (i + 1) _ _ (by omega) (by omega) (by rw [h0]; exact zsum_n (f := fun i => zpop ((fun i => zbits (zIs (zV I) h (I 137) y i) N) i)) rfl ft) (by rw [h1]; exact zor_n (f := (fun i => zbits (zIs (zV I) h (I 137) y i) N)) rfl ft)
            · exact absurd rfl h68
        · refine ev_aload_n (q := 27) dX8_countIn_26 rfl rfl ?_
          refine ev_getR (q := 30) (ci := 8) (f := 32) dX8_countIn_27 rfl (by first | rfl | assumption | exact zf_kd (by assumption) | exact zw_kd (by assumption) | exact zt_kd (by assumption)) (by first | decide | exact zf_lt (by assumption) | exact zf_lt1 (by assumption) | exact zf_lt2 (by assumption) | exact zf_lt3 (by assumption) | exact zf_lt4 (by assumption) | exact zw_lt (by assumption) | exact zw_lt1 (by assumption) | exact zw_lt2 (by assumption) | exact zw_lt3 (by assumption) | exact zw_lt4 (by assumption) | exact zt_lt (by assumption)) (by decide) (by decide) lfRX8_66 rfl (by first | rfl | assumption | exact zf_p4 _ (by assumption) | exact zf_p5 _ (by assumption) | exact zf_p6 _ (by assumption) | exact zf_p7 _ (by assumption) | exact zw_p1 _ (by assumption) | exact zw_p2 _ (by assumption) | exact zw_p3 _ (by assumption) | exact zw_p4 _ (by assumption)) ?_
          refine ev_iload (q := 32) dX8_countIn_30 rfl rfl ?_
          refine ev_ialdN (q := 33) dX8_countIn_32 rfl (by first | rfl | assumption | exact zf_kd1 (by assumption) | exact zf_kd2 (by assumption) | exact zf_kd3 (by assumption) | exact zf_kd4 (by assumption) | exact zw_kd1 (by assumption) | exact zw_kd2 (by assumption) | exact zw_kd3 (by assumption) | exact zw_kd4 (by assumption)) (by first | decide | exact zf_lt (by assumption) | exact zf_lt1 (by assumption) | exact zf_lt2 (by assumption) | exact zf_lt3 (by assumption) | exact zf_lt4 (by assumption) | exact zw_lt (by assumption) | exact zw_lt1 (by assumption) | exact zw_lt2 (by assumption) | exact zw_lt3 (by assumption) | exact zw_lt4 (by assumption) | exact zt_lt (by assumption)) (by first | omega | assumption) ?_
          refine ev_if_eq (q := 36) (t := 47) dX8_countIn_33 rfl (by decide) (fun h33 => ?_) (fun h33 => ?_)
          · refine ev_iconst (q := 48) (1 : Int32) dX8_countIn_47 rfl (by decide) ?_
            refine ev_goto (t := 52) dX8_countIn_48 (by decide) ?_
            refine ev_istoreL (q := 54) (L9 := [_, _, _, _, _, _, _, _, _]) dX8_countIn_52 rfl (by decide) rfl rfl ?_
            refine ev_iconst (q := 55) (0 : Int32) dX8_countIn_54 rfl (by decide) ?_
            refine ev_istoreL (q := 57) (L9 := [_, _, _, _, _, _, _, _, _]) dX8_countIn_55 rfl (by decide) rfl rfl ?_
            have ft : (zthr h (I 137) y) i = true := by show zthr h (I 137) y i = true; unfold zthr; rw [show zhas (nI h) i = true from zb_ne h23, show (I 137 i == 0) = true from beq_iff_eq.mpr h33]; rfl
            refine lp_X8_countIn_in G fo I hN8 (show i < 8 by omega) hN ?_
            refine ev_iincL (q := 175) (L9 := [_, _, _, _, _, _, _, _, _]) (1 : Int32) dX8_countIn_172 rfl rfl (by decide) (by decide) rfl rfl ?_
            refine ev_goto (t := 8) dX8_countIn_175 (by decide) ?_
            rw [nI_1]
            refine ev_wk (L' := [some (.ref 119), some (.int (nI h)), some (.int y), some (.int _), some (.int _), some (.int (nI (i + 1))), none, none, none]) ⟨rfl, rfl, rfl, rfl, rfl, rfl, trivial⟩ ?_
            exact ih (i + 1) _ _ (by omega) (by omega) (by rw [h0, ← zpop_bits hN8]; exact zsum_s (f := fun i => zpop ((fun i => zbits (zIs (zV I) h (I 137) y i) N) i)) rfl ft) (by rw [h1]; exact zor_s (f := (fun i => zbits (zIs (zV I) h (I 137) y i) N)) rfl ft)
          · refine ev_aload_n (q := 37) dX8_countIn_36 rfl rfl ?_
            refine ev_getR (q := 40) (ci := 8) (f := 32) dX8_countIn_37 rfl (by first | rfl | assumption | exact zf_kd (by assumption) | exact zw_kd (by assumption) | exact zt_kd (by assumption)) (by first | decide | exact zf_lt (by assumption) | exact zf_lt1 (by assumption) | exact zf_lt2 (by assumption) | exact zf_lt3 (by assumption) | exact zf_lt4 (by assumption) | exact zw_lt (by assumption) | exact zw_lt1 (by assumption) | exact zw_lt2 (by assumption) | exact zw_lt3 (by assumption) | exact zw_lt4 (by assumption) | exact zt_lt (by assumption)) (by decide) (by decide) lfRX8_66 rfl (by first | rfl | assumption | exact zf_p4 _ (by assumption) | exact zf_p5 _ (by assumption) | exact zf_p6 _ (by assumption) | exact zf_p7 _ (by assumption) | exact zw_p1 _ (by assumption) | exact zw_p2 _ (by assumption) | exact zw_p3 _ (by assumption) | exact zw_p4 _ (by assumption)) ?_
            refine ev_iload (q := 42) dX8_countIn_40 rfl rfl ?_
            refine ev_ialdN (q := 43) dX8_countIn_42 rfl (by first | rfl | assumption | exact zf_kd1 (by assumption) | exact zf_kd2 (by assumption) | exact zf_kd3 (by assumption) | exact zf_kd4 (by assumption) | exact zw_kd1 (by assumption) | exact zw_kd2 (by assumption) | exact zw_kd3 (by assumption) | exact zw_kd4 (by assumption)) (by first | decide | exact zf_lt (by assumption) | exact zf_lt1 (by assumption) | exact zf_lt2 (by assumption) | exact zf_lt3 (by assumption) | exact zf_lt4 (by assumption) | exact zw_lt (by assumption) | exact zw_lt1 (by assumption) | exact zw_lt2 (by assumption) | exact zw_lt3 (by assumption) | exact zw_lt4 (by assumption) | exact zt_lt (by assumption)) (by first | omega | assumption) ?_
            refine ev_iload_n (q := 44) dX8_countIn_43 rfl rfl ?_
            refine ev_icmp_le (q := 47) (t := 51) dX8_countIn_44 rfl (by decide) (fun h44 => ?_) (fun h44 => ?_)
            · refine ev_iconst (q := 52) (0 : Int32) dX8_countIn_51 rfl (by decide) ?_
              refine ev_istoreL (q := 54) (L9 := [_, _, _, _, _, _, _, _, _]) dX8_countIn_52 rfl (by decide) rfl rfl ?_
              refine ev_iconst (q := 55) (0 : Int32) dX8_countIn_54 rfl (by decide) ?_
              refine ev_istoreL (q := 57) (L9 := [_, _, _, _, _, _, _, _, _]) dX8_countIn_55 rfl (by decide) rfl rfl ?_
              have ft : (zthr h (I 137) y) i = false := by show zthr h (I 137) y i = false; unfold zthr; rw [show zhas (nI h) i = true from zb_ne h23, show (I 137 i == 0) = false from beq_eq_false_iff_ne.mpr h33, decide_eq_false (Int32.not_lt.mpr h44)]; rfl
              refine ev_iload (q := 59) dX8_countIn_57 rfl rfl ?_
              refine ev_aload_n (q := 60) dX8_countIn_59 rfl rfl ?_
              refine ev_getI (q := 63) (ci := 8) (f := 6) dX8_countIn_60 rfl (by first | rfl | assumption | exact zf_kd (by assumption) | exact zw_kd (by assumption) | exact zt_kd (by assumption)) (by first | decide | exact zf_lt (by assumption) | exact zf_lt1 (by assumption) | exact zf_lt2 (by assumption) | exact zf_lt3 (by assumption) | exact zf_lt4 (by assumption) | exact zw_lt (by assumption) | exact zw_lt1 (by assumption) | exact zw_lt2 (by assumption) | exact zw_lt3 (by assumption) | exact zw_lt4 (by assumption) | exact zt_lt (by assumption)) (by decide) (by decide) lfRX8_72 rfl ?_
              refine ev_icmp_ge (q := 66) (t := 172) dX8_countIn_63 rfl (by decide) (fun h63 => ?_) (fun h63 => ?_)
              · refine ev_iincL (q := 175) (L9 := [_, _, _, _, _, _, _, _, _]) (1 : Int32) dX8_countIn_172 rfl rfl (by decide) (by decide) rfl rfl ?_
                refine ev_goto (t := 8) dX8_countIn_175 (by decide) ?_
                rw [nI_1]
                refine ev_wk (L' := [some (.ref 119), some (.int (nI h)), some (.int y), some (.int _), some (.int _), some (.int (nI (i + 1))), none, none, none]) ⟨rfl, rfl, rfl, rfl, rfl, rfl, trivial⟩ ?_
                exact ih (i + 1) _ _ (by omega) (by omega) (by rw [h0]; exact zsum_n (f := fun i => zpop ((fun i => zbits (zIs (zV I) h (I 137) y i) N) i)) rfl ft) (by rw [h1]; exact zor_n (f := (fun i => zbits (zIs (zV I) h (I 137) y i) N)) rfl ft)
              · refine ev_iload (q := 68) dX8_countIn_66 rfl rfl ?_
                refine ev_if_eq (q := 71) (t := 172) dX8_countIn_68 rfl (by decide) (fun h68 => ?_) (fun h68 => ?_)
                · refine ev_iincL (q := 175) (L9 := [_, _, _, _, _, _, _, _, _]) (1 : Int32) dX8_countIn_172 rfl rfl (by decide) (by decide) rfl rfl ?_
                  refine ev_goto (t := 8) dX8_countIn_175 (by decide) ?_
                  rw [nI_1]
                  refine ev_wk (L' := [some (.ref 119), some (.int (nI h)), some (.int y), some (.int _), some (.int _), some (.int (nI (i + 1))), none, none, none]) ⟨rfl, rfl, rfl, rfl, rfl, rfl, trivial⟩ ?_
                  exact ih (i + 1) _ _ (by omega) (by omega) (by rw [h0]; exact zsum_n (f := fun i => zpop ((fun i => zbits (zIs (zV I) h (I 137) y i) N) i)) rfl ft) (by rw [h1]; exact zor_n (f := (fun i => zbits (zIs (zV I) h (I 137) y i) N)) rfl ft)
                · exact absurd rfl h68
            · refine ev_iconst (q := 48) (1 : Int32) dX8_countIn_47 rfl (by decide) ?_
              refine ev_goto (t := 52) dX8_countIn_48 (by decide) ?_
              refine ev_istoreL (q := 54) (L9 := [_, _, _, _, _, _, _, _, _]) dX8_countIn_52 rfl (by decide) rfl rfl ?_
              refine ev_iconst (q := 55) (0 : Int32) dX8_countIn_54 rfl (by decide) ?_
              refine ev_istoreL (q := 57) (L9 := [_, _, _, _, _, _, _, _, _]) dX8_countIn_55 rfl (by decide) rfl rfl ?_
              have ft : (zthr h (I 137) y) i = true := by show zthr h (I 137) y i = true; unfold zthr; rw [show zhas (nI h) i = true from zb_ne h23, show (I 137 i == 0) = false from beq_eq_false_iff_ne.mpr h33, decide_eq_true (Int32.not_le.mp h44)]; rfl
              refine lp_X8_countIn_in G fo I hN8 (show i < 8 by omega) hN ?_
              refine ev_iincL (q := 175) (L9 := [_, _, _, _, _, _, _, _, _]) (1 : Int32) dX8_countIn_172 rfl rfl (by decide) (by decide) rfl rfl ?_
              refine ev_goto (t := 8) dX8_countIn_175 (by decide) ?_
              rw [nI_1]
              refine ev_wk (L' := [some (.ref 119), some (.int (nI h)), some (.int y), some (.int _), some (.int _), some (.int (nI (i + 1))), none, none, none]) ⟨rfl, rfl, rfl, rfl, rfl, rfl, trivial⟩ ?_
              exact ih (i + 1) _ _ (by omega) (by omega) (by rw [h0, ← zpop_bits hN8]; exact zsum_s (f := fun i => zpop ((fun i => zbits (zIs (zV I) h (I 137) y i) N) i)) rfl ft) (by rw [h1]; exact zor_s (f := (fun i => zbits (zIs (zV I) h (I 137) y i) N)) rfl ft)
  refine ev_iconst (q := 1) (0 : Int32) dX8_countIn_0 rfl (by decide) ?_
  refine ev_istore_nL (q := 2) (L9 := [_, _, _, _, _, _, _, _, _]) dX8_countIn_1 rfl (by decide) rfl rfl ?_
  refine ev_iconst (q := 3) (0 : Int32) dX8_countIn_2 rfl (by decide) ?_
  refine ev_istoreL (q := 5) (L9 := [_, _, _, _, _, _, _, _, _]) dX8_countIn_3 rfl (by decide) rfl rfl ?_
  refine ev_iconst (q := 6) (0 : Int32) dX8_countIn_5 rfl (by decide) ?_
  refine ev_istoreL (q := 8) (L9 := [_, _, _, _, _, _, _, _, _]) dX8_countIn_6 rfl (by decide) rfl rfl ?_
  exact lp8 (N + 1) 0 _ _ (by omega) (by omega) rfl rfl
