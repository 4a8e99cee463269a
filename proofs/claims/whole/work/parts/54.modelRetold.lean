/-- a row of figures to the base b, the least first, for those in h -/
def zlf (b h row : Nat) : Nat → Nat
  | 0 => row
  | p + 1 => if h.testBit p = true then zlf b h row p / b else zlf b h row p
def zgo (b h row p : Nat) : Nat := if h.testBit p = true then zlf b h row p % b else 0
theorem zlf_le (b h row : Nat) : ∀ p, zlf b h row p ≤ row := by
  intro p
  induction p with
  | zero => exact Nat.le_refl _
  | succ p ih =>
    rw [zlf]
    split
    · exact Nat.le_trans (Nat.div_le_self _ _) ih
    · exact ih
theorem zgo_lt {b h row p : Nat} (hb : 0 < b) : zgo b h row p < b := by
  unfold zgo
  split
  · exact Nat.mod_lt _ hb
  · exact hb
def zwt (b h row N : Nat) : Int32 := zbits (fun p => decide (0 < zgo b h row p)) N
def zFT (l : Int32) (V : zq_V) (N h nn td row y : Nat) : Bool := zCMg l V N h (fun p => nI (zgo (nn + 1) h row p)) (nI (y + 1)) == zdig td nn y
def zal (F : Nat → Bool) : Nat → Bool
  | 0 => true
  | n + 1 => zal F n && F n
theorem zal_f {F : Nat → Bool} {i : Nat} (h : zal F i = false) : ∀ k, zal F (i + k) = false := by
  intro k
  induction k with
  | zero => exact h
  | succ k ih => rw [← Nat.add_assoc, zal, ih]; rfl
/-- the model's step over a row -/
def zrS (F : Nat → Bool) (Wt : Nat → Int32) (s : Int32 × Int32) (row : Nat) : Int32 × Int32 := if F row = true then (s.1 + 1, if s.2 = -9 then Wt row else s.2 &&& Wt row) else s
theorem zrS_n {F : Nat → Bool} {Wt : Nat → Int32} {s : Int32 × Int32} {row : Nat} (h : F row = false) : zrS F Wt s row = s := by unfold zrS; rw [if_neg (by rw [h]; decide)]
theorem zrS_0 {F : Nat → Bool} {Wt : Nat → Int32} {a b : Int32} {row : Nat} (h : F row = true) (h2 : b = -9) : zrS F Wt (a, b) row = (a + 1, Wt row) := by unfold zrS; rw [if_pos h, if_pos h2]
theorem zrS_1 {F : Nat → Bool} {Wt : Nat → Int32} {a b : Int32} {row : Nat} (h : F row = true) (h2 : ¬ b = -9) : zrS F Wt (a, b) row = (a + 1, b &&& Wt row) := by unfold zrS; rw [if_pos h, if_neg h2]
def zrL (F : Nat → Bool) (Wt : Nat → Int32) (n : Nat) : Int32 × Int32 := (List.range n).foldl (zrS F Wt) (0, -9)
theorem zrL_s (F : Nat → Bool) (Wt : Nat → Int32) (n : Nat) : zrL F Wt (n + 1) = zrS F Wt (zrL F Wt n) n := by unfold zrL; rw [List.range_succ, List.foldl_append]; rfl
theorem zRt_b {nn k : Nat} (h : nn ≤ 3) (hk : k ≤ 6) : (nn + 1) ^ k ≤ 4096 := Nat.le_trans (Nat.pow_le_pow_left (show nn + 1 ≤ 4 by omega) k) (Nat.le_trans (Nat.pow_le_pow_right (by decide) hk) (by decide))
theorem zdiv1 (x : Int32) : x / 1 = x := Int32.div_one

set_option maxHeartbeats 4000000 in
set_option maxRecDepth 100000 in
theorem lp_X8_retold_dig (G : zq_G) (fo : Bool) (I0 : zq_I) {N t h nn td row al : Nat} {w ws su : Int32} {R : zq_R} (hN8 : N ≤ 8) (hh : h < 256) (hn : nn ≤ 3) (hrow : row < 5000) (hN0 : I0 119 6 = nI N) (K : ∀ I1 : zq_I, (∀ c, c ≠ 137 → I1 c = I0 c) → (∀ p, p < N → I1 137 p = nI (zgo (nn + 1) h row p)) → zq_E G mX8_retold 3 0 0 false 241 [some (.ref 119), some (.int (nI t)), some (.int (nI nn)), some (.int (nI td)), some (.int w), some (.int (nI (10 ^ nn))), some (.int (nI h)), some (.int (nI al)), some (.int ws), some (.int su), some (.int (nI row)), none, some (.int (zwt (nn + 1) h row N)), none, none, none] [] 138 I1 (zPs fo) R) : zq_E G mX8_retold 3 0 0 false 154 [some (.ref 119), some (.int (nI t)), some (.int (nI nn)), some (.int (nI td)), some (.int w), some (.int (nI (10 ^ nn))), some (.int (nI h)), some (.int (nI al)), some (.int ws), some (.int su), some (.int (nI row)), some (.int (nI row)), some (.int 0), some (.int 0), none, none] [] 138 I0 (zPs fo) R := by
  have lp154 : ∀ (k i : Nat) (I1 : zq_I) (lf wt : Int32), N + 1 ≤ i + k → i ≤ N → (∀ c, c ≠ 137 → I1 c = I0 c) → (∀ p, p < i → I1 137 p = nI (zgo (nn + 1) h row p)) → lf = nI (zlf (nn + 1) h row i) → wt = zbits (fun p => decide (0 < zgo (nn + 1) h row p)) i → zq_E G mX8_retold 3 0 0 false 154 [some (.ref 119), some (.int (nI t)), some (.int (nI nn)), some (.int (nI td)), some (.int w), some (.int (nI (10 ^ nn))), some (.int (nI h)), some (.int (nI al)), some (.int ws), some (.int su), some (.int (nI row)), some (.int lf), some (.int wt), some (.int (nI i)), none, none] [] 138 I1 (zPs fo) (R) := by
    intro k
    induction k with
    | zero => intro i I1 lf wt hk hi; exact absurd hk (by omega)
    | succ k ih =>
      intro i I1 lf wt hk hi hf h0 h1 h2
      have hN1 : I1 119 6 = nI N := by rw [hf 119 (by decide)]; exact hN0
      have hzl := zlf_le (nn + 1) h row i
      subst h1
      refine ev_iload (q := 156) dX8_retold_154 rfl rfl ?_
      refine ev_aload_n (q := 157) dX8_retold_156 rfl rfl ?_
      refine ev_getI (q := 160) (ci := 8) (f := 6) dX8_retold_157 rfl (by first | rfl | assumption | exact zf_kd (by assumption) | exact zw_kd (by assumption) | exact zt_kd (by assumption)) (by first | decide | exact zf_lt (by assumption) | exact zf_lt1 (by assumption) | exact zf_lt2 (by assumption) | exact zf_lt3 (by assumption) | exact zf_lt4 (by assumption) | exact zw_lt (by assumption) | exact zw_lt1 (by assumption) | exact zw_lt2 (by assumption) | exact zw_lt3 (by assumption) | exact zw_lt4 (by assumption) | exact zt_lt (by assumption)) (by decide) (by decide) lfRX8_72 rfl ?_
      refine ev_icmp_ge (q := 163) (t := 241) dX8_retold_160 rfl (by decide) (fun h160 => ?_) (fun h160 => ?_)
      · obtain rfl : i = N := by rw [hN1, nI_leI (by omega) (by omega)] at h160; omega
        refine ev_wk (L' := [some (.ref 119), some (.int (nI t)), some (.int (nI nn)), some (.int (nI td)), some (.int w), some (.int (nI (10 ^ nn))), some (.int (nI h)), some (.int (nI al)), some (.int ws), some (.int su), some (.int (nI row)), none, some (.int (zwt (nn + 1) h row _)), none, none, none]) ⟨rfl, rfl, rfl, rfl, rfl, rfl, rfl, rfl, rfl, rfl, rfl, by rw [h2]; rfl, trivial⟩ ?_
        exact K _ hf h0
      · have hlt_i : i < N := by rw [hN1, nI_leI (by omega) (by omega)] at h160; omega
        refine ev_aload_n (q := 164) dX8_retold_163 rfl rfl ?_
        refine ev_getR (q := 167) (ci := 8) (f := 32) dX8_retold_164 rfl (by first | rfl | assumption | exact zf_kd (by assumption) | exact zw_kd (by assumption) | exact zt_kd (by assumption)) (by first | decide | exact zf_lt (by assumption) | exact zf_lt1 (by assumption) | exact zf_lt2 (by assumption) | exact zf_lt3 (by assumption) | exact zf_lt4 (by assumption) | exact zw_lt (by assumption) | exact zw_lt1 (by assumption) | exact zw_lt2 (by assumption) | exact zw_lt3 (by assumption) | exact zw_lt4 (by assumption) | exact zt_lt (by assumption)) (by decide) (by decide) lfRX8_66 rfl (by first | rfl | assumption | exact zf_p4 _ (by assumption) | exact zf_p5 _ (by assumption) | exact zf_p6 _ (by assumption) | exact zf_p7 _ (by assumption) | exact zw_p1 _ (by assumption) | exact zw_p2 _ (by assumption) | exact zw_p3 _ (by assumption) | exact zw_p4 _ (by assumption)) ?_
        refine ev_iload (q := 169) dX8_retold_167 rfl rfl ?_
        refine ev_iload (q := 171) dX8_retold_169 rfl rfl ?_
        refine ev_iload (q := 173) dX8_retold_171 rfl rfl ?_
        refine ev_pS (q := 176) dX8_retold_173 rfl okX8_has lmRX8_101 smX8_has (c_X8_has G _ _ _ _ _) (by decide) rfl rfl (Nat.le_of_ble_eq_true rfl) ?_
        refine ev_if_eq (q := 179) (t := 188) dX8_retold_176 rfl (by decide) (fun h176 => ?_) (fun h176 => ?_)
        · refine ev_iconst (q := 189) (0 : Int32) dX8_retold_188 rfl (by decide) ?_
          refine ev_iastN (q := 190) dX8_retold_189 rfl (by first | rfl | assumption | exact zf_kd1 (by assumption) | exact zf_kd2 (by assumption) | exact zf_kd3 (by assumption) | exact zf_kd4 (by assumption) | exact zw_kd1 (by assumption) | exact zw_kd2 (by assumption) | exact zw_kd3 (by assumption) | exact zw_kd4 (by assumption)) (by first | decide | exact zf_lt (by assumption) | exact zf_lt1 (by assumption) | exact zf_lt2 (by assumption) | exact zf_lt3 (by assumption) | exact zf_lt4 (by assumption) | exact zw_lt (by assumption) | exact zw_lt1 (by assumption) | exact zw_lt2 (by assumption) | exact zw_lt3 (by assumption) | exact zw_lt4 (by assumption) | exact zt_lt (by assumption)) (by first | omega | assumption) ?_
          refine ev_iload (q := 192) dX8_retold_190 rfl rfl ?_
          refine ev_iload (q := 194) dX8_retold_192 rfl rfl ?_
          refine ev_iload (q := 196) dX8_retold_194 rfl rfl ?_
          refine ev_pS (q := 199) dX8_retold_196 rfl okX8_has lmRX8_101 smX8_has (c_X8_has G _ _ _ _ _) (by decide) rfl rfl (Nat.le_of_ble_eq_true rfl) ?_
          refine ev_if_eq (q := 202) (t := 208) dX8_retold_199 rfl (by decide) (fun h199 => ?_) (fun h199 => ?_)
          · refine ev_iconst (q := 209) (1 : Int32) dX8_retold_208 rfl (by decide) ?_
            refine ev_idiv (q := 210) dX8_retold_209 rfl (by first | decide | exact nI_ne0 (by omega) (by omega)) ?_
            try rw [pk_div (by omega) (by omega) (by omega)]
            try rw [zdiv1]
            refine ev_istoreL (q := 212) (L9 := [_, _, _, _, _, _, _, _, _, _, _, _, _, _, _, _]) dX8_retold_210 rfl (by decide) rfl rfl ?_
            refine ev_iload (q := 214) dX8_retold_212 rfl rfl ?_
            refine ev_aload_n (q := 215) dX8_retold_214 rfl rfl ?_
            refine ev_getR (q := 218) (ci := 8) (f := 32) dX8_retold_215 rfl (by first | rfl | assumption | exact zf_kd (by assumption) | exact zw_kd (by assumption) | exact zt_kd (by assumption)) (by first | decide | exact zf_lt (by assumption) | exact zf_lt1 (by assumption) | exact zf_lt2 (by assumption) | exact zf_lt3 (by assumption) | exact zf_lt4 (by assumption) | exact zw_lt (by assumption) | exact zw_lt1 (by assumption) | exact zw_lt2 (by assumption) | exact zw_lt3 (by assumption) | exact zw_lt4 (by assumption) | exact zt_lt (by assumption)) (by decide) (by decide) lfRX8_66 rfl (by first | rfl | assumption | exact zf_p4 _ (by assumption) | exact zf_p5 _ (by assumption) | exact zf_p6 _ (by assumption) | exact zf_p7 _ (by assumption) | exact zw_p1 _ (by assumption) | exact zw_p2 _ (by assumption) | exact zw_p3 _ (by assumption) | exact zw_p4 _ (by assumption)) ?_
            refine ev_iload (q := 220) dX8_retold_218 rfl rfl ?_
            refine ev_ialdN (q := 221) dX8_retold_220 rfl (by first | rfl | assumption | exact zf_kd1 (by assumption) | exact zf_kd2 (by assumption) | exact zf_kd3 (by assumption) | exact zf_kd4 (by assumption) | exact zw_kd1 (by assumption) | exact zw_kd2 (by assumption) | exact zw_kd3 (by assumption) | exact zw_kd4 (by assumption)) (by first | decide | exact zf_lt (by assumption) | exact zf_lt1 (by assumption) | exact zf_lt2 (by assumption) | exact zf_lt3 (by assumption) | exact zf_lt4 (by assumption) | exact zw_lt (by assumption) | exact zw_lt1 (by assumption) | exact zw_lt2 (by assumption) | exact zw_lt3 (by assumption) | exact zw_lt4 (by assumption) | exact zt_lt (by assumption)) (by first | omega | assumption) ?_
            rw [zu_eq]
            refine ev_if_le (q := 224) (t := 231) dX8_retold_221 rfl (by decide) (fun h221 => ?_) (fun h221 => ?_)
            · refine ev_iconst (q := 232) (0 : Int32) dX8_retold_231 rfl (by decide) ?_
              refine ev_ior (q := 233) dX8_retold_232 rfl ?_
              refine ev_istoreL (q := 235) (L9 := [_, _, _, _, _, _, _, _, _, _, _, _, _, _, _, _]) dX8_retold_233 rfl (by decide) rfl rfl ?_
              refine ev_iincL (q := 238) (L9 := [_, _, _, _, _, _, _, _, _, _, _, _, _, _, _, _]) (1 : Int32) dX8_retold_235 rfl rfl (by decide) (by decide) rfl rfl ?_
              refine ev_goto (t := 154) dX8_retold_238 (by decide) ?_
              have hb : h.testBit i = false := by rw [← zhas_N (by omega) (by omega)]; exact zb_eq h176
              have hg : zgo (nn + 1) h row i = 0 := by unfold zgo; rw [if_neg (by rw [hb]; decide)]
              rw [nI_1]
              exact ih (i + 1) _ _ _ (by omega) (by omega) (fun c hc => by rw [zu_other hc]; exact hf c hc) (fun p hp => by
                by_cases hpi : p = i
                · subst hpi; rw [zu_eq, hg]; rfl
                · rw [zu_ne hpi]; exact h0 p (by omega)) (by rw [zlf, if_neg (by rw [hb]; decide)]) (by rw [i32_or_0]; exact zor_n h2 (decide_eq_false (by rw [hg]; decide)))
            · refine ev_iconst (q := 225) (1 : Int32) dX8_retold_224 rfl (by decide) ?_
              refine ev_iload (q := 227) dX8_retold_225 rfl rfl ?_
              refine ev_ishl (q := 228) dX8_retold_227 rfl ?_
              refine ev_goto (t := 232) dX8_retold_228 (by decide) ?_
              refine ev_ior (q := 233) dX8_retold_232 rfl ?_
              refine ev_istoreL (q := 235) (L9 := [_, _, _, _, _, _, _, _, _, _, _, _, _, _, _, _]) dX8_retold_233 rfl (by decide) rfl rfl ?_
              refine ev_iincL (q := 238) (L9 := [_, _, _, _, _, _, _, _, _, _, _, _, _, _, _, _]) (1 : Int32) dX8_retold_235 rfl rfl (by decide) (by decide) rfl rfl ?_
              refine ev_goto (t := 154) dX8_retold_238 (by decide) ?_
              exact absurd (by decide) h221
          · refine ev_iload_n (q := 203) dX8_retold_202 rfl rfl ?_
            refine ev_iconst (q := 204) (1 : Int32) dX8_retold_203 rfl (by decide) ?_
            refine ev_iadd (q := 205) dX8_retold_204 rfl ?_
            rw [nI_1]
            refine ev_goto (t := 209) dX8_retold_205 (by decide) ?_
            refine ev_idiv (q := 210) dX8_retold_209 rfl (by first | decide | exact nI_ne0 (by omega) (by omega)) ?_
            try rw [pk_div (by omega) (by omega) (by omega)]
            try rw [zdiv1]
            refine ev_istoreL (q := 212) (L9 := [_, _, _, _, _, _, _, _, _, _, _, _, _, _, _, _]) dX8_retold_210 rfl (by decide) rfl rfl ?_
            refine ev_iload (q := 214) dX8_retold_212 rfl rfl ?_
            refine ev_aload_n (q := 215) dX8_retold_214 rfl rfl ?_
            refine ev_getR (q := 218) (ci := 8) (f := 32) dX8_retold_215 rfl (by first | rfl | assumption | exact zf_kd (by assumption) | exact zw_kd (by assumption) | exact zt_kd (by assumption)) (by first | decide | exact zf_lt (by assumption) | exact zf_lt1 (by assumption) | exact zf_lt2 (by assumption) | exact zf_lt3 (by assumption) | exact zf_lt4 (by assumption) | exact zw_lt (by assumption) | exact zw_lt1 (by assumption) | exact zw_lt2 (by assumption) | exact zw_lt3 (by assumption) | exact zw_lt4 (by assumption) | exact zt_lt (by assumption)) (by decide) (by decide) lfRX8_66 rfl (by first | rfl | assumption | exact zf_p4 _ (by assumption) | exact zf_p5 _ (by assumption) | exact zf_p6 _ (by assumption) | exact zf_p7 _ (by assumption) | exact zw_p1 _ (by assumption) | exact zw_p2 _ (by assumption) | exact zw_p3 _ (by assumption) | exact zw_p4 _ (by assumption)) ?_
            refine ev_iload (q := 220) dX8_retold_218 rfl rfl ?_
            refine ev_ialdN (q := 221) dX8_retold_220 rfl (by first | rfl | assumption | exact zf_kd1 (by assumption) | exact zf_kd2 (by assumption) | exact zf_kd3 (by assumption) | exact zf_kd4 (by assumption) | exact zw_kd1 (by assumption) | exact zw_kd2 (by assumption) | exact zw_kd3 (by assumption) | exact zw_kd4 (by assumption)) (by first | decide | exact zf_lt (by assumption) | exact zf_lt1 (by assumption) | exact zf_lt2 (by assumption) | exact zf_lt3 (by assumption) | exact zf_lt4 (by assumption) | exact zw_lt (by assumption) | exact zw_lt1 (by assumption) | exact zw_lt2 (by assumption) | exact zw_lt3 (by assumption) | exact zw_lt4 (by assumption) | exact zt_lt (by assumption)) (by first | omega | assumption) ?_
            rw [zu_eq]
            refine ev_if_le (q := 224) (t := 231) dX8_retold_221 rfl (by decide) (fun h221 => ?_) (fun h221 => ?_)
            · refine ev_iconst (q := 232) (0 : Int32) dX8_retold_231 rfl (by decide) ?_
              refine ev_ior (q := 233) dX8_retold_232 rfl ?_
              refine ev_istoreL (q := 235) (L9 := [_, _, _, _, _, _, _, _, _, _, _, _, _, _, _, _]) dX8_retold_233 rfl (by decide) rfl rfl ?_
              refine ev_iincL (q := 238) (L9 := [_, _, _, _, _, _, _, _, _, _, _, _, _, _, _, _]) (1 : Int32) dX8_retold_235 rfl rfl (by decide) (by decide) rfl rfl ?_
              refine ev_goto (t := 154) dX8_retold_238 (by decide) ?_
              exact absurd h176 h199
            · refine ev_iconst (q := 225) (1 : Int32) dX8_retold_224 rfl (by decide) ?_
              refine ev_iload (q := 227) dX8_retold_225 rfl rfl ?_
              refine ev_ishl (q := 228) dX8_retold_227 rfl ?_
              refine ev_goto (t := 232) dX8_retold_228 (by decide) ?_
              refine ev_ior (q := 233) dX8_retold_232 rfl ?_
              refine ev_istoreL (q := 235) (L9 := [_, _, _, _, _, _, _, _, _, _, _, _, _, _, _, _]) dX8_retold_233 rfl (by decide) rfl rfl ?_
              refine ev_iincL (q := 238) (L9 := [_, _, _, _, _, _, _, _, _, _, _, _, _, _, _, _]) (1 : Int32) dX8_retold_235 rfl rfl (by decide) (by decide) rfl rfl ?_
              refine ev_goto (t := 154) dX8_retold_238 (by decide) ?_
              exact absurd h176 h199
        · refine ev_iload (q := 181) dX8_retold_179 rfl rfl ?_
          refine ev_iload_n (q := 182) dX8_retold_181 rfl rfl ?_
          refine ev_iconst (q := 183) (1 : Int32) dX8_retold_182 rfl (by decide) ?_
          refine ev_iadd (q := 184) dX8_retold_183 rfl ?_
          rw [nI_1]
          refine ev_irem (q := 185) dX8_retold_184 rfl (nI_ne0 (by omega) (by omega)) ?_
          rw [pk_rem (by omega) (by omega) (by omega)]
          refine ev_goto (t := 189) dX8_retold_185 (by decide) ?_
          refine ev_iastN (q := 190) dX8_retold_189 rfl (by first | rfl | assumption | exact zf_kd1 (by assumption) | exact zf_kd2 (by assumption) | exact zf_kd3 (by assumption) | exact zf_kd4 (by assumption) | exact zw_kd1 (by assumption) | exact zw_kd2 (by assumption) | exact zw_kd3 (by assumption) | exact zw_kd4 (by assumption)) (by first | decide | exact zf_lt (by assumption) | exact zf_lt1 (by assumption) | exact zf_lt2 (by assumption) | exact zf_lt3 (by assumption) | exact zf_lt4 (by assumption) | exact zw_lt (by assumption) | exact zw_lt1 (by assumption) | exact zw_lt2 (by assumption) | exact zw_lt3 (by assumption) | exact zw_lt4 (by assumption) | exact zt_lt (by assumption)) (by first | omega | assumption) ?_
          refine ev_iload (q := 192) dX8_retold_190 rfl rfl ?_
          refine ev_iload (q := 194) dX8_retold_192 rfl rfl ?_
          refine ev_iload (q := 196) dX8_retold_194 rfl rfl ?_
          refine ev_pS (q := 199) dX8_retold_196 rfl okX8_has lmRX8_101 smX8_has (c_X8_has G _ _ _ _ _) (by decide) rfl rfl (Nat.le_of_ble_eq_true rfl) ?_
          refine ev_if_eq (q := 202) (t := 208) dX8_retold_199 rfl (by decide) (fun h199 => ?_) (fun h199 => ?_)
          · refine ev_iconst (q := 209) (1 : Int32) dX8_retold_208 rfl (by decide) ?_
            refine ev_idiv (q := 210) dX8_retold_209 rfl (by first | decide | exact nI_ne0 (by omega) (by omega)) ?_
            try rw [pk_div (by omega) (by omega) (by omega)]
            try rw [zdiv1]
            refine ev_istoreL (q := 212) (L9 := [_, _, _, _, _, _, _, _, _, _, _, _, _, _, _, _]) dX8_retold_210 rfl (by decide) rfl rfl ?_
            refine ev_iload (q := 214) dX8_retold_212 rfl rfl ?_
            refine ev_aload_n (q := 215) dX8_retold_214 rfl rfl ?_
            refine ev_getR (q := 218) (ci := 8) (f := 32) dX8_retold_215 rfl (by first | rfl | assumption | exact zf_kd (by assumption) | exact zw_kd (by assumption) | exact zt_kd (by assumption)) (by first | decide | exact zf_lt (by assumption) | exact zf_lt1 (by assumption) | exact zf_lt2 (by assumption) | exact zf_lt3 (by assumption) | exact zf_lt4 (by assumption) | exact zw_lt (by assumption) | exact zw_lt1 (by assumption) | exact zw_lt2 (by assumption) | exact zw_lt3 (by assumption) | exact zw_lt4 (by assumption) | exact zt_lt (by assumption)) (by decide) (by decide) lfRX8_66 rfl (by first | rfl | assumption | exact zf_p4 _ (by assumption) | exact zf_p5 _ (by assumption) | exact zf_p6 _ (by assumption) | exact zf_p7 _ (by assumption) | exact zw_p1 _ (by assumption) | exact zw_p2 _ (by assumption) | exact zw_p3 _ (by assumption) | exact zw_p4 _ (by assumption)) ?_
            refine ev_iload (q := 220) dX8_retold_218 rfl rfl ?_
            refine ev_ialdN (q := 221) dX8_retold_220 rfl (by first | rfl | assumption | exact zf_kd1 (by assumption) | exact zf_kd2 (by assumption) | exact zf_kd3 (by assumption) | exact zf_kd4 (by assumption) | exact zw_kd1 (by assumption) | exact zw_kd2 (by assumption) | exact zw_kd3 (by assumption) | exact zw_kd4 (by assumption)) (by first | decide | exact zf_lt (by assumption) | exact zf_lt1 (by assumption) | exact zf_lt2 (by assumption) | exact zf_lt3 (by assumption) | exact zf_lt4 (by assumption) | exact zw_lt (by assumption) | exact zw_lt1 (by assumption) | exact zw_lt2 (by assumption) | exact zw_lt3 (by assumption) | exact zw_lt4 (by assumption) | exact zt_lt (by assumption)) (by first | omega | assumption) ?_
            rw [zu_eq]
            refine ev_if_le (q := 224) (t := 231) dX8_retold_221 rfl (by decide) (fun h221 => ?_) (fun h221 => ?_)
            · refine ev_iconst (q := 232) (0 : Int32) dX8_retold_231 rfl (by decide) ?_
              refine ev_ior (q := 233) dX8_retold_232 rfl ?_
              refine ev_istoreL (q := 235) (L9 := [_, _, _, _, _, _, _, _, _, _, _, _, _, _, _, _]) dX8_retold_233 rfl (by decide) rfl rfl ?_
              refine ev_iincL (q := 238) (L9 := [_, _, _, _, _, _, _, _, _, _, _, _, _, _, _, _]) (1 : Int32) dX8_retold_235 rfl rfl (by decide) (by decide) rfl rfl ?_
              refine ev_goto (t := 154) dX8_retold_238 (by decide) ?_
              exact absurd h199 h176
            · refine ev_iconst (q := 225) (1 : Int32) dX8_retold_224 rfl (by decide) ?_
              refine ev_iload (q := 227) dX8_retold_225 rfl rfl ?_
              refine ev_ishl (q := 228) dX8_retold_227 rfl ?_
              refine ev_goto (t := 232) dX8_retold_228 (by decide) ?_
              refine ev_ior (q := 233) dX8_retold_232 rfl ?_
              refine ev_istoreL (q := 235) (L9 := [_, _, _, _, _, _, _, _, _, _, _, _, _, _, _, _]) dX8_retold_233 rfl (by decide) rfl rfl ?_
              refine ev_iincL (q := 238) (L9 := [_, _, _, _, _, _, _, _, _, _, _, _, _, _, _, _]) (1 : Int32) dX8_retold_235 rfl rfl (by decide) (by decide) rfl rfl ?_
              refine ev_goto (t := 154) dX8_retold_238 (by decide) ?_
              exact absurd h199 h176
          · refine ev_iload_n (q := 203) dX8_retold_202 rfl rfl ?_
            refine ev_iconst (q := 204) (1 : Int32) dX8_retold_203 rfl (by decide) ?_
            refine ev_iadd (q := 205) dX8_retold_204 rfl ?_
            rw [nI_1]
            refine ev_goto (t := 209) dX8_retold_205 (by decide) ?_
            refine ev_idiv (q := 210) dX8_retold_209 rfl (by first | decide | exact nI_ne0 (by omega) (by omega)) ?_
            try rw [pk_div (by omega) (by omega) (by omega)]
            try rw [zdiv1]
            refine ev_istoreL (q := 212) (L9 := [_, _, _, _, _, _, _, _, _, _, _, _, _, _, _, _]) dX8_retold_210 rfl (by decide) rfl rfl ?_
            refine ev_iload (q := 214) dX8_retold_212 rfl rfl ?_
            refine ev_aload_n (q := 215) dX8_retold_214 rfl rfl ?_
            refine ev_getR (q := 218) (ci := 8) (f := 32) dX8_retold_215 rfl (by first | rfl | assumption | exact zf_kd (by assumption) | exact zw_kd (by assumption) | exact zt_kd (by assumption)) (by first | decide | exact zf_lt (by assumption) | exact zf_lt1 (by assumption) | exact zf_lt2 (by assumption) | exact zf_lt3 (by assumption) | exact zf_lt4 (by assumption) | exact zw_lt (by assumption) | exact zw_lt1 (by assumption) | exact zw_lt2 (by assumption) | exact zw_lt3 (by assumption) | exact zw_lt4 (by assumption) | exact zt_lt (by assumption)) (by decide) (by decide) lfRX8_66 rfl (by first | rfl | assumption | exact zf_p4 _ (by assumption) | exact zf_p5 _ (by assumption) | exact zf_p6 _ (by assumption) | exact zf_p7 _ (by assumption) | exact zw_p1 _ (by assumption) | exact zw_p2 _ (by assumption) | exact zw_p3 _ (by assumption) | exact zw_p4 _ (by assumption)) ?_
            refine ev_iload (q := 220) dX8_retold_218 rfl rfl ?_
            refine ev_ialdN (q := 221) dX8_retold_220 rfl (by first | rfl | assumption | exact zf_kd1 (by assumption) | exact zf_kd2 (by assumption) | exact zf_kd3 (by assumption) | exact zf_kd4 (by assumption) | exact zw_kd1 (by assumption) | exact zw_kd2 (by assumption) | exact zw_kd3 (by assumption) | exact zw_kd4 (by assumption)) (by first | decide | exact zf_lt (by assumption) | exact zf_lt1 (by assumption) | exact zf_lt2 (by assumption) | exact zf_lt3 (by assumption) | exact zf_lt4 (by assumption) | exact zw_lt (by assumption) | exact zw_lt1 (by assumption) | exact zw_lt2 (by assumption) | exact zw_lt3 (by assumption) | exact zw_lt4 (by assumption) | exact zt_lt (by assumption)) (by first | omega | assumption) ?_
            rw [zu_eq]
            refine ev_if_le (q := 224) (t := 231) dX8_retold_221 rfl (by decide) (fun h221 => ?_) (fun h221 => ?_)
            · refine ev_iconst (q := 232) (0 : Int32) dX8_retold_231 rfl (by decide) ?_
              refine ev_ior (q := 233) dX8_retold_232 rfl ?_
              refine ev_istoreL (q := 235) (L9 := [_, _, _, _, _, _, _, _, _, _, _, _, _, _, _, _]) dX8_retold_233 rfl (by decide) rfl rfl ?_
              refine ev_iincL (q := 238) (L9 := [_, _, _, _, _, _, _, _, _, _, _, _, _, _, _, _]) (1 : Int32) dX8_retold_235 rfl rfl (by decide) (by decide) rfl rfl ?_
              refine ev_goto (t := 154) dX8_retold_238 (by decide) ?_
              have hb : h.testBit i = true := by rw [← zhas_N (by omega) (by omega)]; exact zb_ne h176
              have hg : zgo (nn + 1) h row i = zlf (nn + 1) h row i % (nn + 1) := by unfold zgo; rw [if_pos hb]
              replace h221 : nI (zlf (nn + 1) h row i % (nn + 1)) ≤ nI 0 := h221
              rw [nI_leI (b := 0) (Nat.lt_trans (Nat.mod_lt _ (by omega)) (by omega)) (by omega), ← hg] at h221
              rw [nI_1]
              exact ih (i + 1) _ _ _ (by omega) (by omega) (fun c hc => by rw [zu_other hc]; exact hf c hc) (fun p hp => by
                by_cases hpi : p = i
                · subst hpi; rw [zu_eq, hg]
                · rw [zu_ne hpi]; exact h0 p (by omega)) (by rw [zlf, if_pos hb]) (by rw [i32_or_0]; exact zor_n h2 (decide_eq_false (by omega)))
            · refine ev_iconst (q := 225) (1 : Int32) dX8_retold_224 rfl (by decide) ?_
              refine ev_iload (q := 227) dX8_retold_225 rfl rfl ?_
              refine ev_ishl (q := 228) dX8_retold_227 rfl ?_
              refine ev_goto (t := 232) dX8_retold_228 (by decide) ?_
              refine ev_ior (q := 233) dX8_retold_232 rfl ?_
              refine ev_istoreL (q := 235) (L9 := [_, _, _, _, _, _, _, _, _, _, _, _, _, _, _, _]) dX8_retold_233 rfl (by decide) rfl rfl ?_
              refine ev_iincL (q := 238) (L9 := [_, _, _, _, _, _, _, _, _, _, _, _, _, _, _, _]) (1 : Int32) dX8_retold_235 rfl rfl (by decide) (by decide) rfl rfl ?_
              refine ev_goto (t := 154) dX8_retold_238 (by decide) ?_
              have hb : h.testBit i = true := by rw [← zhas_N (by omega) (by omega)]; exact zb_ne h176
              have hg : zgo (nn + 1) h row i = zlf (nn + 1) h row i % (nn + 1) := by unfold zgo; rw [if_pos hb]
              replace h221 : ¬ nI (zlf (nn + 1) h row i % (nn + 1)) ≤ nI 0 := h221
              rw [nI_leI (b := 0) (Nat.lt_trans (Nat.mod_lt _ (by omega)) (by omega)) (by omega), ← hg] at h221
              rw [nI_1]
              exact ih (i + 1) _ _ _ (by omega) (by omega) (fun c hc => by rw [zu_other hc]; exact hf c hc) (fun p hp => by
                by_cases hpi : p = i
                · subst hpi; rw [zu_eq, hg]
                · rw [zu_ne hpi]; exact h0 p (by omega)) (by rw [zlf, if_pos hb]) (zor_s h2 (decide_eq_true (by omega)))
  exact lp154 (N + 1) 0 _ _ _ (by omega) (by omega) (fun _ _ => rfl) (fun p hp => absurd hp (by omega)) rfl rfl
theorem z10b {nn k : Nat} (h : nn ≤ 3) (hk : k ≤ nn) : 10 ^ k ≤ 1000 := Nat.le_trans (Nat.pow_le_pow_right (by decide) (show k ≤ 3 by omega)) (by decide)
theorem z10d {nn i : Nat} (h : i < nn) : 10 ^ (nn - i) / 10 = 10 ^ (nn - 1 - i) := by
  rw [show nn - i = (nn - 1 - i) + 1 by omega, Nat.pow_succ, Nat.mul_div_cancel _ (by decide)]
set_option maxHeartbeats 4000000 in
set_option maxRecDepth 100000 in
theorem lp_X8_retold_yr (G : zq_G) (fo : Bool) (I : zq_I) {N T Y : Nat} (hs : zS fo N T Y I) {t h nn td row al : Nat} {w ws su wt : Int32} {R : zq_R} (hn : nn ≤ 3) (htd : td < 1000) (hgo : ∀ p, p < N → I 137 p = nI (zgo (nn + 1) h row p)) (K : zq_E G mX8_retold 3 0 0 false 300 [some (.ref 119), some (.int (nI t)), some (.int (nI nn)), some (.int (nI td)), some (.int w), some (.int (nI (10 ^ nn))), some (.int (nI h)), some (.int (nI al)), some (.int ws), some (.int su), some (.int (nI row)), none, some (.int wt), some (.int (zb (zal (zFT (I 119 4) (zV I) N h nn td row) nn))), none, none] [] 138 I (zPs fo) R) : zq_E G mX8_retold 3 0 0 false 251 [some (.ref 119), some (.int (nI t)), some (.int (nI nn)), some (.int (nI td)), some (.int w), some (.int (nI (10 ^ nn))), some (.int (nI h)), some (.int (nI al)), some (.int ws), some (.int su), some (.int (nI row)), none, some (.int wt), some (.int 1), some (.int (nI (10 ^ nn))), some (.int 1)] [] 138 I (zPs fo) R := by
  have lp251 : ∀ (k i : Nat) (ft : Int32), nn + 1 ≤ i + k → i ≤ nn → ft = zb (zal (zFT (I 119 4) (zV I) N h nn td row) i) → zq_E G mX8_retold 3 0 0 false 251 [some (.ref 119), some (.int (nI t)), some (.int (nI nn)), some (.int (nI td)), some (.int w), some (.int (nI (10 ^ nn))), some (.int (nI h)), some (.int (nI al)), some (.int ws), some (.int su), some (.int (nI row)), none, some (.int wt), some (.int ft), some (.int (nI (10 ^ (nn - i)))), some (.int (nI (i + 1)))] [] 138 I (zPs fo) (R) := by
    intro k
    induction k with
    | zero => intro i ft hk hi; exact absurd hk (by omega)
    | succ k ih =>
      intro i ft hk hi h0
      refine ev_iload (q := 253) dX8_retold_251 rfl rfl ?_
      refine ev_iload_n (q := 254) dX8_retold_253 rfl rfl ?_
      refine ev_icmp_gt (q := 257) (t := 300) dX8_retold_254 rfl (by decide) (fun h254 => ?_) (fun h254 => ?_)
      · obtain rfl : i = nn := by rw [nI_ltI (by omega) (by omega)] at h254; omega
        refine ev_wk (L' := [some (.ref 119), some (.int (nI t)), some (.int (nI i)), some (.int (nI td)), some (.int w), some (.int (nI (10 ^ i))), some (.int (nI h)), some (.int (nI al)), some (.int ws), some (.int su), some (.int (nI row)), none, some (.int wt), some (.int (zb (zal (zFT (I 119 4) (zV I) N h i td row) i))), none, none]) ⟨rfl, rfl, rfl, rfl, rfl, rfl, rfl, rfl, rfl, rfl, rfl, rfl, by rw [h0], trivial⟩ ?_
        exact K
      · have hlt_i : i < nn := by rw [nI_ltI (by omega) (by omega)] at h254; omega
        refine ev_iload (q := 259) dX8_retold_257 rfl rfl ?_
        refine ev_if_eq (q := 262) (t := 300) dX8_retold_259 rfl (by decide) (fun h259 => ?_) (fun h259 => ?_)
        · have hal : zal (zFT (I 119 4) (zV I) N h nn td row) i = false := by rw [h0] at h259; exact zb_eq h259
          refine ev_wk (L' := [some (.ref 119), some (.int (nI t)), some (.int (nI nn)), some (.int (nI td)), some (.int w), some (.int (nI (10 ^ nn))), some (.int (nI h)), some (.int (nI al)), some (.int ws), some (.int su), some (.int (nI row)), none, some (.int wt), some (.int (zb (zal (zFT (I 119 4) (zV I) N h nn td row) nn))), none, none]) ⟨rfl, rfl, rfl, rfl, rfl, rfl, rfl, rfl, rfl, rfl, rfl, rfl, by rw [h0, hal, show zal (zFT (I 119 4) (zV I) N h nn td row) nn = false from (by have q := zal_f hal (nn - i); rwa [show i + (nn - i) = nn by omega] at q)], trivial⟩ ?_
          exact K
        · have hal : zal (zFT (I 119 4) (zV I) N h nn td row) i = true := by rw [h0] at h259; exact zb_ne h259
          refine ev_iload (q := 264) dX8_retold_262 rfl rfl ?_
          refine ev_bipush (q := 266) (nI 10 : Int32) dX8_retold_264 rfl (by decide) ?_
          refine ev_idiv (q := 267) dX8_retold_266 rfl (by decide) ?_
          rw [pk_div (by have := z10b hn (show nn - i ≤ nn by omega); omega) (by decide) (by decide), z10d hlt_i]
          refine ev_istoreL (q := 269) (L9 := [_, _, _, _, _, _, _, _, _, _, _, _, _, _, _, _]) dX8_retold_267 rfl (by decide) rfl rfl ?_
          refine ev_aload_n (q := 270) dX8_retold_269 rfl rfl ?_
          refine ev_iload (q := 272) dX8_retold_270 rfl rfl ?_
          refine ev_iload (q := 274) dX8_retold_272 rfl rfl ?_
          refine ev_pV (q := 277) (ci := 8) dX8_retold_274 rfl okX8_countIn lmRX8_208 imX8_countIn seX8_countIn (by first | rfl | assumption | exact zf_kd (by assumption) | exact zw_kd (by assumption) | exact zt_kd (by assumption)) (by first | decide | exact zf_lt (by assumption) | exact zf_lt1 (by assumption) | exact zf_lt2 (by assumption) | exact zf_lt3 (by assumption) | exact zf_lt4 (by assumption) | exact zw_lt (by assumption) | exact zw_lt1 (by assumption) | exact zw_lt2 (by assumption) | exact zw_lt3 (by assumption) | exact zw_lt4 (by assumption) | exact zt_lt (by assumption)) (by decide) rfl (c_X8_countIn G fo I hs _) (by decide) rfl rfl (Nat.le_of_ble_eq_true rfl) ?_
          rw [zCMg_congr (go' := fun p => nI (zgo (nn + 1) h row p)) hgo]
          have hcg : zCMg (I 119 4) (zV I) N h (fun p => nI (zgo (nn + 1) h row p)) (nI (i + 1)) = zCMg (I 119 4) (zV I) N h (fun p => nI (zgo (nn + 1) h row p)) (nI (i + 1)) := rfl
          refine ev_iload_n (q := 278) dX8_retold_277 rfl rfl ?_
          refine ev_iload (q := 280) dX8_retold_278 rfl rfl ?_
          refine ev_idiv (q := 281) dX8_retold_280 rfl (nI_ne0 (Nat.pow_pos (by decide)) (by have := z10b hn (show nn - 1 - i ≤ nn by omega); omega)) ?_
          rw [pk_div (by omega) (Nat.pow_pos (by decide)) (by have := z10b hn (show nn - 1 - i ≤ nn by omega); omega)]
          refine ev_bipush (q := 283) (nI 10 : Int32) dX8_retold_281 rfl (by decide) ?_
          refine ev_irem (q := 284) dX8_retold_283 rfl (by decide) ?_
          rw [pk_rem (Nat.lt_of_le_of_lt (Nat.div_le_self _ _) (by omega)) (by decide) (by decide)]
          refine ev_icmp_ne (q := 287) (t := 291) dX8_retold_284 rfl (by decide) (fun h284 => ?_) (fun h284 => ?_)
          · refine ev_iconst (q := 292) (0 : Int32) dX8_retold_291 rfl (by decide) ?_
            refine ev_istoreL (q := 294) (L9 := [_, _, _, _, _, _, _, _, _, _, _, _, _, _, _, _]) dX8_retold_292 rfl (by decide) rfl rfl ?_
            refine ev_iincL (q := 297) (L9 := [_, _, _, _, _, _, _, _, _, _, _, _, _, _, _, _]) (1 : Int32) dX8_retold_294 rfl rfl (by decide) (by decide) rfl rfl ?_
            refine ev_goto (t := 251) dX8_retold_297 (by decide) ?_
            have hF : zFT (I 119 4) (zV I) N h nn td row i = false := by unfold zFT; rw [← hcg]; exact beq_eq_false_iff_ne.mpr h284
            rw [nI_1]
            refine ev_wk (L' := [some (.ref 119), some (.int (nI t)), some (.int (nI nn)), some (.int (nI td)), some (.int w), some (.int (nI (10 ^ nn))), some (.int (nI h)), some (.int (nI al)), some (.int ws), some (.int su), some (.int (nI row)), none, some (.int wt), some (.int _), some (.int (nI (10 ^ (nn - (i + 1))))), some (.int (nI (i + 1 + 1)))]) ⟨rfl, rfl, rfl, rfl, rfl, rfl, rfl, rfl, rfl, rfl, rfl, rfl, rfl, by rw [show nn - 1 - i = nn - (i + 1) by omega], rfl, trivial⟩ ?_
            exact ih (i + 1) _ (by omega) (by omega) (by rw [zal, hal, hF]; rfl)
          · refine ev_iconst (q := 288) (1 : Int32) dX8_retold_287 rfl (by decide) ?_
            refine ev_goto (t := 292) dX8_retold_288 (by decide) ?_
            refine ev_istoreL (q := 294) (L9 := [_, _, _, _, _, _, _, _, _, _, _, _, _, _, _, _]) dX8_retold_292 rfl (by decide) rfl rfl ?_
            refine ev_iincL (q := 297) (L9 := [_, _, _, _, _, _, _, _, _, _, _, _, _, _, _, _]) (1 : Int32) dX8_retold_294 rfl rfl (by decide) (by decide) rfl rfl ?_
            refine ev_goto (t := 251) dX8_retold_297 (by decide) ?_
            have hF : zFT (I 119 4) (zV I) N h nn td row i = true := by unfold zFT; rw [← hcg]; exact beq_iff_eq.mpr h284
            rw [nI_1]
            refine ev_wk (L' := [some (.ref 119), some (.int (nI t)), some (.int (nI nn)), some (.int (nI td)), some (.int w), some (.int (nI (10 ^ nn))), some (.int (nI h)), some (.int (nI al)), some (.int ws), some (.int su), some (.int (nI row)), none, some (.int wt), some (.int _), some (.int (nI (10 ^ (nn - (i + 1))))), some (.int (nI (i + 1 + 1)))]) ⟨rfl, rfl, rfl, rfl, rfl, rfl, rfl, rfl, rfl, rfl, rfl, rfl, rfl, by rw [show nn - 1 - i = nn - (i + 1) by omega], rfl, trivial⟩ ?_
            exact ih (i + 1) _ (by omega) (by omega) (by rw [zal, hal, hF]; rfl)
  exact lp251 (nn + 1) 0 _ (by omega) (by omega) rfl
set_option maxHeartbeats 4000000 in
set_option maxRecDepth 100000 in
theorem lp_X8_retold (G : zq_G) (fo : Bool) (I : zq_I) {N T Y : Nat} (hs : zS fo N T Y I) {t h nn td al : Nat} {w : Int32} (hh : h < 256) (hn : nn ≤ 3) (htd : td < 1000) (hal : al ≤ 4096) : zq_E G mX8_retold 3 0 0 false 137 [some (.ref 119), some (.int (nI t)), some (.int (nI nn)), some (.int (nI td)), some (.int w), some (.int (nI (10 ^ nn))), some (.int (nI h)), some (.int (nI al)), some (.int 0), some (.int (-9)), some (.int 0), none, none, none, none, none] [] 138 I (zPs fo) (fun v n' I' P' => v = some (.int (if w = 0 then (zrL (fun row => zal (zFT (I 119 4) (zV I) N h nn td row) nn) (fun row => zwt (nn + 1) h row N) al).1 else (zrL (fun row => zal (zFT (I 119 4) (zV I) N h nn td row) nn) (fun row => zwt (nn + 1) h row N) al).2)) ∧ n' = 138 ∧ P' = zPs fo ∧ zFM I I') := by
  have hN8 := hs.n8
  have lp137 : ∀ (k row : Nat) (I1 : zq_I) (ws su : Int32), al + 1 ≤ row + k → row ≤ al → zFM I I1 → (ws, su) = zrL (fun row => zal (zFT (I 119 4) (zV I) N h nn td row) nn) (fun row => zwt (nn + 1) h row N) row → zq_E G mX8_retold 3 0 0 false 137 [some (.ref 119), some (.int (nI t)), some (.int (nI nn)), some (.int (nI td)), some (.int w), some (.int (nI (10 ^ nn))), some (.int (nI h)), some (.int (nI al)), some (.int ws), some (.int su), some (.int (nI row)), none, none, none, none, none] [] 138 I1 (zPs fo) (fun v n' I' P' => v = some (.int (if w = 0 then (zrL (fun row => zal (zFT (I 119 4) (zV I) N h nn td row) nn) (fun row => zwt (nn + 1) h row N) al).1 else (zrL (fun row => zal (zFT (I 119 4) (zV I) N h nn td row) nn) (fun row => zwt (nn + 1) h row N) al).2)) ∧ n' = 138 ∧ P' = zPs fo ∧ zFM I I') := by
    intro k
    induction k with
    | zero => intro row I1 ws su hk hi; exact absurd hk (by omega)
    | succ k ih =>
      intro row I1 ws su hk hi hFM h0
      have hN1 : I1 119 6 = nI N := (hFM.S hs).mppl
      refine ev_iload (q := 139) dX8_retold_137 rfl rfl ?_
      refine ev_iload (q := 141) dX8_retold_139 rfl rfl ?_
      refine ev_icmp_ge (q := 144) (t := 333) dX8_retold_141 rfl (by decide) (fun h141 => ?_) (fun h141 => ?_)
      · obtain rfl : row = al := by rw [nI_leI (by omega) (by omega)] at h141; omega
        refine ev_iload (q := 335) dX8_retold_333 rfl rfl ?_
        refine ev_if_ne (q := 338) (t := 343) dX8_retold_335 rfl (by decide) (fun h335 => ?_) (fun h335 => ?_)
        · refine ev_iload (q := 345) dX8_retold_343 rfl rfl ?_
          exact ev_iret dX8_retold_345 rfl (by first | rfl | exact zb_nar _ | assumption) (⟨by rw [← h0]; first | rw [if_pos h335] | rw [if_neg h335], rfl, rfl, hFM⟩)
        · refine ev_iload (q := 340) dX8_retold_338 rfl rfl ?_
          refine ev_goto (t := 345) dX8_retold_340 (by decide) ?_
          exact ev_iret dX8_retold_345 rfl (by first | rfl | exact zb_nar _ | assumption) (⟨by rw [← h0]; first | rw [if_pos h335] | rw [if_neg h335], rfl, rfl, hFM⟩)
      · have hlt_i : row < al := by rw [nI_leI (by omega) (by omega)] at h141; omega
        refine ev_iload (q := 146) dX8_retold_144 rfl rfl ?_
        refine ev_istoreL (q := 148) (L9 := [_, _, _, _, _, _, _, _, _, _, _, _, _, _, _, _]) dX8_retold_146 rfl (by decide) rfl rfl ?_
        refine ev_iconst (q := 149) (0 : Int32) dX8_retold_148 rfl (by decide) ?_
        refine ev_istoreL (q := 151) (L9 := [_, _, _, _, _, _, _, _, _, _, _, _, _, _, _, _]) dX8_retold_149 rfl (by decide) rfl rfl ?_
        refine ev_iconst (q := 152) (0 : Int32) dX8_retold_151 rfl (by decide) ?_
        refine ev_istoreL (q := 154) (L9 := [_, _, _, _, _, _, _, _, _, _, _, _, _, _, _, _]) dX8_retold_152 rfl (by decide) rfl rfl ?_
        refine lp_X8_retold_dig G fo I1 hN8 hh hn (show row < 5000 by omega) hN1 (fun I3 hf3 hgo3 => ?_)
        have hFM3 : zFM I I3 := ⟨fun b hb => by rw [hf3 b (by rintro rfl; cases hb)]; exact hFM.1 b hb, fun k hk => by rw [hf3 119 (by decide)]; exact hFM.2 k hk⟩
        refine ev_iconst (q := 242) (1 : Int32) dX8_retold_241 rfl (by decide) ?_
        refine ev_istoreL (q := 244) (L9 := [_, _, _, _, _, _, _, _, _, _, _, _, _, _, _, _]) dX8_retold_242 rfl (by decide) rfl rfl ?_
        refine ev_iload (q := 246) dX8_retold_244 rfl rfl ?_
        refine ev_istoreL (q := 248) (L9 := [_, _, _, _, _, _, _, _, _, _, _, _, _, _, _, _]) dX8_retold_246 rfl (by decide) rfl rfl ?_
        refine ev_iconst (q := 249) (1 : Int32) dX8_retold_248 rfl (by decide) ?_
        refine ev_istoreL (q := 251) (L9 := [_, _, _, _, _, _, _, _, _, _, _, _, _, _, _, _]) dX8_retold_249 rfl (by decide) rfl rfl ?_
        refine lp_X8_retold_yr G fo I3 (hFM3.S hs) hn htd hgo3 ?_
        refine ev_iload (q := 302) dX8_retold_300 rfl rfl ?_
        refine ev_if_eq (q := 305) (t := 327) dX8_retold_302 rfl (by decide) (fun h302 => ?_) (fun h302 => ?_)
        · have hF3 : zal (zFT (I 119 4) (zV I) N h nn td row) nn = false := by have q := zb_eq h302; rw [hFM3.V, hFM3.2 4 rfl] at q; exact q
          refine ev_iincL (q := 330) (L9 := [_, _, _, _, _, _, _, _, _, _, _, _, _, _, _, _]) (1 : Int32) dX8_retold_327 rfl rfl (by decide) (by decide) rfl rfl ?_
          refine ev_goto (t := 137) dX8_retold_330 (by decide) ?_
          
          rw [nI_1]
          refine ev_wk (L' := [some (.ref 119), some (.int (nI t)), some (.int (nI nn)), some (.int (nI td)), some (.int w), some (.int (nI (10 ^ nn))), some (.int (nI h)), some (.int (nI al)), some (.int _), some (.int _), some (.int (nI (row + 1))), none, none, none, none, none]) ⟨rfl, rfl, rfl, rfl, rfl, rfl, rfl, rfl, rfl, rfl, rfl, trivial⟩ ?_
          exact ih (row + 1) _ _ _ (by omega) (by omega) hFM3 (by rw [zrL_s, ← h0, zrS_n (F := (fun row => zal (zFT (I 119 4) (zV I) N h nn td row) nn)) hF3])
        · have hF3 : zal (zFT (I 119 4) (zV I) N h nn td row) nn = true := by have q := zb_ne h302; rw [hFM3.V, hFM3.2 4 rfl] at q; exact q
          refine ev_iincL (q := 308) (L9 := [_, _, _, _, _, _, _, _, _, _, _, _, _, _, _, _]) (1 : Int32) dX8_retold_305 rfl rfl (by decide) (by decide) rfl rfl ?_
          refine ev_iload (q := 310) dX8_retold_308 rfl rfl ?_
          refine ev_bipush (q := 312) ((-9) : Int32) dX8_retold_310 rfl (by decide) ?_
          refine ev_icmp_ne (q := 315) (t := 320) dX8_retold_312 rfl (by decide) (fun h312 => ?_) (fun h312 => ?_)
          · refine ev_iload (q := 322) dX8_retold_320 rfl rfl ?_
            refine ev_iload (q := 324) dX8_retold_322 rfl rfl ?_
            refine ev_iand (q := 325) dX8_retold_324 rfl ?_
            refine ev_istoreL (q := 327) (L9 := [_, _, _, _, _, _, _, _, _, _, _, _, _, _, _, _]) dX8_retold_325 rfl (by decide) rfl rfl ?_
            refine ev_iincL (q := 330) (L9 := [_, _, _, _, _, _, _, _, _, _, _, _, _, _, _, _]) (1 : Int32) dX8_retold_327 rfl rfl (by decide) (by decide) rfl rfl ?_
            refine ev_goto (t := 137) dX8_retold_330 (by decide) ?_
            rw [nI_1]
            refine ev_wk (L' := [some (.ref 119), some (.int (nI t)), some (.int (nI nn)), some (.int (nI td)), some (.int w), some (.int (nI (10 ^ nn))), some (.int (nI h)), some (.int (nI al)), some (.int _), some (.int _), some (.int (nI (row + 1))), none, none, none, none, none]) ⟨rfl, rfl, rfl, rfl, rfl, rfl, rfl, rfl, rfl, rfl, rfl, trivial⟩ ?_
            exact ih (row + 1) _ _ _ (by omega) (by omega) hFM3 (by rw [zrL_s, ← h0, zrS_1 (F := (fun row => zal (zFT (I 119 4) (zV I) N h nn td row) nn)) hF3 h312])
          · refine ev_iload (q := 317) dX8_retold_315 rfl rfl ?_
            refine ev_goto (t := 325) dX8_retold_317 (by decide) ?_
            refine ev_istoreL (q := 327) (L9 := [_, _, _, _, _, _, _, _, _, _, _, _, _, _, _, _]) dX8_retold_325 rfl (by decide) rfl rfl ?_
            refine ev_iincL (q := 330) (L9 := [_, _, _, _, _, _, _, _, _, _, _, _, _, _, _, _]) (1 : Int32) dX8_retold_327 rfl rfl (by decide) (by decide) rfl rfl ?_
            refine ev_goto (t := 137) dX8_retold_330 (by decide) ?_
            rw [nI_1]
            refine ev_wk (L' := [some (.ref 119), some (.int (nI t)), some (.int (nI nn)), some (.int (nI td)), some (.int w), some (.int (nI (10 ^ nn))), some (.int (nI h)), some (.int (nI al)), some (.int _), some (.int _), some (.int (nI (row + 1))), none, none, none, none, none]) ⟨rfl, rfl, rfl, rfl, rfl, rfl, rfl, rfl, rfl, rfl, rfl, trivial⟩ ?_
            exact ih (row + 1) _ _ _ (by omega) (by omega) hFM3 (by rw [zrL_s, ← h0, zrS_0 (F := (fun row => zal (zFT (I 119 4) (zV I) N h nn td row) nn)) hF3 h312])
  exact lp137 (al + 1) 0 _ _ _ (by omega) (by omega) zFM.rf rfl
