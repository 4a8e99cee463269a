set_option maxHeartbeats 4000000 in
set_option maxRecDepth 100000 in
theorem lp_X8_lie_in (G : zq_G) (fo : Bool) (I : zq_I) {N t j : Nat} {m lk pr fr nm hd im : Int32} {R : zq_R} (hN8 : N ≤ 8) (hj : j < 8) (hN : I 119 6 = nI N) (K : zq_E G mX8_lie 5 0 0 false 250 [some (.ref 119), some (.int (nI t)), some (.int m), some (.int lk), some (.int pr), some (.int fr), some (.int nm), some (.int hd), some (.int (nI j)), some (.int im), some (.int (nI (zcn (fun i => zmay (zV I) (nI t) (I 119 15) i j) N))), none, none] [] 138 I (zPs fo) R) : zq_E G mX8_lie 5 0 0 false 139 [some (.ref 119), some (.int (nI t)), some (.int m), some (.int lk), some (.int pr), some (.int fr), some (.int nm), some (.int hd), some (.int (nI j)), some (.int im), some (.int 0), some (.int 0), none] [] 138 I (zPs fo) R := by
  have lp139 : ∀ (k i : Nat) (b : Int32), N + 1 ≤ i + k → i ≤ N → b = nI (zcn (fun i => zmay (zV I) (nI t) (I 119 15) i j) i) → zq_E G mX8_lie 5 0 0 false 139 [some (.ref 119), some (.int (nI t)), some (.int m), some (.int lk), some (.int pr), some (.int fr), some (.int nm), some (.int hd), some (.int (nI j)), some (.int im), some (.int b), some (.int (nI i)), none] [] 138 I (zPs fo) (R) := by
    intro k
    induction k with
    | zero => intro i b hk hi; exact absurd hk (by omega)
    | succ k ih =>
      intro i b hk hi h0
      refine ev_iload (q := 141) dX8_lie_139 rfl rfl ?_
      refine ev_aload_n (q := 142) dX8_lie_141 rfl rfl ?_
      refine ev_getI (q := 145) (ci := 8) (f := 6) dX8_lie_142 rfl (by first | rfl | assumption | exact zf_kd (by assumption) | exact zw_kd (by assumption) | exact zt_kd (by assumption)) (by first | decide | exact zf_lt (by assumption) | exact zf_lt1 (by assumption) | exact zf_lt2 (by assumption) | exact zf_lt3 (by assumption) | exact zf_lt4 (by assumption) | exact zw_lt (by assumption) | exact zw_lt1 (by assumption) | exact zw_lt2 (by assumption) | exact zw_lt3 (by assumption) | exact zw_lt4 (by assumption) | exact zt_lt (by assumption)) (by decide) (by decide) lfRX8_72 rfl ?_
      refine ev_icmp_ge (q := 148) (t := 250) dX8_lie_145 rfl (by decide) (fun h145 => ?_) (fun h145 => ?_)
      · obtain rfl : i = N := by rw [hN, nI_leI (by omega) (by omega)] at h145; omega
        refine ev_wk (L' := [some (.ref 119), some (.int (nI t)), some (.int m), some (.int lk), some (.int pr), some (.int fr), some (.int nm), some (.int hd), some (.int (nI j)), some (.int im), some (.int (nI (zcn (fun i => zmay (zV I) (nI t) (I 119 15) i j) _))), none, none]) ⟨rfl, rfl, rfl, rfl, rfl, rfl, rfl, rfl, rfl, rfl, by rw [h0], trivial⟩ ?_
        exact K
      · have hlt_i : i < N := by rw [hN, nI_leI (by omega) (by omega)] at h145; omega
        refine ev_aload_n (q := 149) dX8_lie_148 rfl rfl ?_
        refine ev_getR (q := 152) (ci := 8) (f := 7) dX8_lie_149 rfl (by first | rfl | assumption | exact zf_kd (by assumption) | exact zw_kd (by assumption) | exact zt_kd (by assumption)) (by first | decide | exact zf_lt (by assumption) | exact zf_lt1 (by assumption) | exact zf_lt2 (by assumption) | exact zf_lt3 (by assumption) | exact zf_lt4 (by assumption) | exact zw_lt (by assumption) | exact zw_lt1 (by assumption) | exact zw_lt2 (by assumption) | exact zw_lt3 (by assumption) | exact zw_lt4 (by assumption) | exact zt_lt (by assumption)) (by decide) (by decide) lfRX8_17 rfl (by first | rfl | assumption | exact zf_p4 _ (by assumption) | exact zf_p5 _ (by assumption) | exact zf_p6 _ (by assumption) | exact zf_p7 _ (by assumption) | exact zw_p1 _ (by assumption) | exact zw_p2 _ (by assumption) | exact zw_p3 _ (by assumption) | exact zw_p4 _ (by assumption)) ?_
        refine ev_iload (q := 154) dX8_lie_152 rfl rfl ?_
        refine ev_ialdN (q := 155) dX8_lie_154 rfl (by first | rfl | assumption | exact zf_kd1 (by assumption) | exact zf_kd2 (by assumption) | exact zf_kd3 (by assumption) | exact zf_kd4 (by assumption) | exact zw_kd1 (by assumption) | exact zw_kd2 (by assumption) | exact zw_kd3 (by assumption) | exact zw_kd4 (by assumption)) (by first | decide | exact zf_lt (by assumption) | exact zf_lt1 (by assumption) | exact zf_lt2 (by assumption) | exact zf_lt3 (by assumption) | exact zf_lt4 (by assumption) | exact zw_lt (by assumption) | exact zw_lt1 (by assumption) | exact zw_lt2 (by assumption) | exact zw_lt3 (by assumption) | exact zw_lt4 (by assumption) | exact zt_lt (by assumption)) (by first | omega | assumption) ?_
        refine ev_iload_n (q := 156) dX8_lie_155 rfl rfl ?_
        refine ev_icmp_ne (q := 159) (t := 226) dX8_lie_156 rfl (by decide) (fun h156 => ?_) (fun h156 => ?_)
        · have f0 : (vH (zV I) i == nI t) = false := beq_eq_false_iff_ne.mpr h156
          refine ev_iconst (q := 227) (0 : Int32) dX8_lie_226 rfl (by decide) ?_
          refine ev_istoreL (q := 229) (L9 := [_, _, _, _, _, _, _, _, _, _, _, _, _]) dX8_lie_227 rfl (by decide) rfl rfl ?_
          refine ev_iload (q := 231) dX8_lie_229 rfl rfl ?_
          refine ev_iload (q := 233) dX8_lie_231 rfl rfl ?_
          refine ev_if_eq (q := 236) (t := 240) dX8_lie_233 rfl (by decide) (fun h233 => ?_) (fun h233 => ?_)
          · refine ev_iconst (q := 241) (0 : Int32) dX8_lie_240 rfl (by decide) ?_
            refine ev_iadd (q := 242) dX8_lie_241 rfl ?_
            refine ev_istoreL (q := 244) (L9 := [_, _, _, _, _, _, _, _, _, _, _, _, _]) dX8_lie_242 rfl (by decide) rfl rfl ?_
            refine ev_iincL (q := 247) (L9 := [_, _, _, _, _, _, _, _, _, _, _, _, _]) (1 : Int32) dX8_lie_244 rfl rfl (by decide) (by decide) rfl rfl ?_
            refine ev_goto (t := 139) dX8_lie_247 (by decide) ?_
            rw [nI_1]
            refine ev_wk (L' := [some (.ref 119), some (.int (nI t)), some (.int m), some (.int lk), some (.int pr), some (.int fr), some (.int nm), some (.int hd), some (.int (nI j)), some (.int im), some (.int _), some (.int (nI (i + 1))), none]) ⟨rfl, rfl, rfl, rfl, rfl, rfl, rfl, rfl, rfl, rfl, rfl, rfl, trivial⟩ ?_
            exact ih (i + 1) _ (by omega) (by omega) (by rw [h0, zcn, if_neg (by simp [zmay, f0])]; exact Int32.add_zero _)
          · refine ev_iconst (q := 237) (1 : Int32) dX8_lie_236 rfl (by decide) ?_
            refine ev_goto (t := 241) dX8_lie_237 (by decide) ?_
            refine ev_iadd (q := 242) dX8_lie_241 rfl ?_
            refine ev_istoreL (q := 244) (L9 := [_, _, _, _, _, _, _, _, _, _, _, _, _]) dX8_lie_242 rfl (by decide) rfl rfl ?_
            refine ev_iincL (q := 247) (L9 := [_, _, _, _, _, _, _, _, _, _, _, _, _]) (1 : Int32) dX8_lie_244 rfl rfl (by decide) (by decide) rfl rfl ?_
            refine ev_goto (t := 139) dX8_lie_247 (by decide) ?_
            exact absurd rfl h233
        · have f0 : (vH (zV I) i == nI t) = true := beq_iff_eq.mpr h156
          refine ev_aload_n (q := 160) dX8_lie_159 rfl rfl ?_
          refine ev_getR (q := 163) (ci := 8) (f := 7) dX8_lie_160 rfl (by first | rfl | assumption | exact zf_kd (by assumption) | exact zw_kd (by assumption) | exact zt_kd (by assumption)) (by first | decide | exact zf_lt (by assumption) | exact zf_lt1 (by assumption) | exact zf_lt2 (by assumption) | exact zf_lt3 (by assumption) | exact zf_lt4 (by assumption) | exact zw_lt (by assumption) | exact zw_lt1 (by assumption) | exact zw_lt2 (by assumption) | exact zw_lt3 (by assumption) | exact zw_lt4 (by assumption) | exact zt_lt (by assumption)) (by decide) (by decide) lfRX8_17 rfl (by first | rfl | assumption | exact zf_p4 _ (by assumption) | exact zf_p5 _ (by assumption) | exact zf_p6 _ (by assumption) | exact zf_p7 _ (by assumption) | exact zw_p1 _ (by assumption) | exact zw_p2 _ (by assumption) | exact zw_p3 _ (by assumption) | exact zw_p4 _ (by assumption)) ?_
          refine ev_iload (q := 165) dX8_lie_163 rfl rfl ?_
          refine ev_ialdN (q := 166) dX8_lie_165 rfl (by first | rfl | assumption | exact zf_kd1 (by assumption) | exact zf_kd2 (by assumption) | exact zf_kd3 (by assumption) | exact zf_kd4 (by assumption) | exact zw_kd1 (by assumption) | exact zw_kd2 (by assumption) | exact zw_kd3 (by assumption) | exact zw_kd4 (by assumption)) (by first | decide | exact zf_lt (by assumption) | exact zf_lt1 (by assumption) | exact zf_lt2 (by assumption) | exact zf_lt3 (by assumption) | exact zf_lt4 (by assumption) | exact zw_lt (by assumption) | exact zw_lt1 (by assumption) | exact zw_lt2 (by assumption) | exact zw_lt3 (by assumption) | exact zw_lt4 (by assumption) | exact zt_lt (by assumption)) (by first | omega | assumption) ?_
          refine ev_iload_n (q := 167) dX8_lie_166 rfl rfl ?_
          refine ev_icmp_ne (q := 170) (t := 226) dX8_lie_167 rfl (by decide) (fun h167 => ?_) (fun h167 => ?_)
          · have f1 : (vH (zV I) j == nI t) = false := beq_eq_false_iff_ne.mpr h167
            refine ev_iconst (q := 227) (0 : Int32) dX8_lie_226 rfl (by decide) ?_
            refine ev_istoreL (q := 229) (L9 := [_, _, _, _, _, _, _, _, _, _, _, _, _]) dX8_lie_227 rfl (by decide) rfl rfl ?_
            refine ev_iload (q := 231) dX8_lie_229 rfl rfl ?_
            refine ev_iload (q := 233) dX8_lie_231 rfl rfl ?_
            refine ev_if_eq (q := 236) (t := 240) dX8_lie_233 rfl (by decide) (fun h233 => ?_) (fun h233 => ?_)
            · refine ev_iconst (q := 241) (0 : Int32) dX8_lie_240 rfl (by decide) ?_
              refine ev_iadd (q := 242) dX8_lie_241 rfl ?_
              refine ev_istoreL (q := 244) (L9 := [_, _, _, _, _, _, _, _, _, _, _, _, _]) dX8_lie_242 rfl (by decide) rfl rfl ?_
              refine ev_iincL (q := 247) (L9 := [_, _, _, _, _, _, _, _, _, _, _, _, _]) (1 : Int32) dX8_lie_244 rfl rfl (by decide) (by decide) rfl rfl ?_
              refine ev_goto (t := 139) dX8_lie_247 (by decide) ?_
              rw [nI_1]
              refine ev_wk (L' := [some (.ref 119), some (.int (nI t)), some (.int m), some (.int lk), some (.int pr), some (.int fr), some (.int nm), some (.int hd), some (.int (nI j)), some (.int im), some (.int _), some (.int (nI (i + 1))), none]) ⟨rfl, rfl, rfl, rfl, rfl, rfl, rfl, rfl, rfl, rfl, rfl, rfl, trivial⟩ ?_
              exact ih (i + 1) _ (by omega) (by omega) (by rw [h0, zcn, if_neg (by simp [zmay, f0, f1])]; exact Int32.add_zero _)
            · refine ev_iconst (q := 237) (1 : Int32) dX8_lie_236 rfl (by decide) ?_
              refine ev_goto (t := 241) dX8_lie_237 (by decide) ?_
              refine ev_iadd (q := 242) dX8_lie_241 rfl ?_
              refine ev_istoreL (q := 244) (L9 := [_, _, _, _, _, _, _, _, _, _, _, _, _]) dX8_lie_242 rfl (by decide) rfl rfl ?_
              refine ev_iincL (q := 247) (L9 := [_, _, _, _, _, _, _, _, _, _, _, _, _]) (1 : Int32) dX8_lie_244 rfl rfl (by decide) (by decide) rfl rfl ?_
              refine ev_goto (t := 139) dX8_lie_247 (by decide) ?_
              exact absurd rfl h233
          · have f1 : (vH (zV I) j == nI t) = true := beq_iff_eq.mpr h167
            refine ev_aload_n (q := 171) dX8_lie_170 rfl rfl ?_
            refine ev_iload (q := 173) dX8_lie_171 rfl rfl ?_
            refine ev_pV (q := 176) (ci := 8) dX8_lie_173 rfl okX8_isThere lmRX8_140 imX8_isThere seX8_isThere (by first | rfl | assumption | exact zf_kd (by assumption) | exact zw_kd (by assumption) | exact zt_kd (by assumption)) (by first | decide | exact zf_lt (by assumption) | exact zf_lt1 (by assumption) | exact zf_lt2 (by assumption) | exact zf_lt3 (by assumption) | exact zf_lt4 (by assumption) | exact zw_lt (by assumption) | exact zw_lt1 (by assumption) | exact zw_lt2 (by assumption) | exact zw_lt3 (by assumption) | exact zw_lt4 (by assumption) | exact zt_lt (by assumption)) (by decide) rfl (c_X8_isThere G fo I (show i < 8 by omega)) (by decide) rfl rfl (Nat.le_of_ble_eq_true rfl) ?_
            refine ev_if_eq (q := 179) (t := 226) dX8_lie_176 rfl (by decide) (fun h176 => ?_) (fun h176 => ?_)
            · have f2 := zb_eq h176
              refine ev_iconst (q := 227) (0 : Int32) dX8_lie_226 rfl (by decide) ?_
              refine ev_istoreL (q := 229) (L9 := [_, _, _, _, _, _, _, _, _, _, _, _, _]) dX8_lie_227 rfl (by decide) rfl rfl ?_
              refine ev_iload (q := 231) dX8_lie_229 rfl rfl ?_
              refine ev_iload (q := 233) dX8_lie_231 rfl rfl ?_
              refine ev_if_eq (q := 236) (t := 240) dX8_lie_233 rfl (by decide) (fun h233 => ?_) (fun h233 => ?_)
              · refine ev_iconst (q := 241) (0 : Int32) dX8_lie_240 rfl (by decide) ?_
                refine ev_iadd (q := 242) dX8_lie_241 rfl ?_
                refine ev_istoreL (q := 244) (L9 := [_, _, _, _, _, _, _, _, _, _, _, _, _]) dX8_lie_242 rfl (by decide) rfl rfl ?_
                refine ev_iincL (q := 247) (L9 := [_, _, _, _, _, _, _, _, _, _, _, _, _]) (1 : Int32) dX8_lie_244 rfl rfl (by decide) (by decide) rfl rfl ?_
                refine ev_goto (t := 139) dX8_lie_247 (by decide) ?_
                rw [nI_1]
                refine ev_wk (L' := [some (.ref 119), some (.int (nI t)), some (.int m), some (.int lk), some (.int pr), some (.int fr), some (.int nm), some (.int hd), some (.int (nI j)), some (.int im), some (.int _), some (.int (nI (i + 1))), none]) ⟨rfl, rfl, rfl, rfl, rfl, rfl, rfl, rfl, rfl, rfl, rfl, rfl, trivial⟩ ?_
                exact ih (i + 1) _ (by omega) (by omega) (by rw [h0, zcn, if_neg (by simp [zmay, f0, f1, f2])]; exact Int32.add_zero _)
              · refine ev_iconst (q := 237) (1 : Int32) dX8_lie_236 rfl (by decide) ?_
                refine ev_goto (t := 241) dX8_lie_237 (by decide) ?_
                refine ev_iadd (q := 242) dX8_lie_241 rfl ?_
                refine ev_istoreL (q := 244) (L9 := [_, _, _, _, _, _, _, _, _, _, _, _, _]) dX8_lie_242 rfl (by decide) rfl rfl ?_
                refine ev_iincL (q := 247) (L9 := [_, _, _, _, _, _, _, _, _, _, _, _, _]) (1 : Int32) dX8_lie_244 rfl rfl (by decide) (by decide) rfl rfl ?_
                refine ev_goto (t := 139) dX8_lie_247 (by decide) ?_
                exact absurd rfl h233
            · have f2 := zb_ne h176
              refine ev_aload_n (q := 180) dX8_lie_179 rfl rfl ?_
              refine ev_iload (q := 182) dX8_lie_180 rfl rfl ?_
              refine ev_aload_n (q := 183) dX8_lie_182 rfl rfl ?_
              refine ev_getI (q := 186) (ci := 8) (f := 15) dX8_lie_183 rfl (by first | rfl | assumption | exact zf_kd (by assumption) | exact zw_kd (by assumption) | exact zt_kd (by assumption)) (by first | decide | exact zf_lt (by assumption) | exact zf_lt1 (by assumption) | exact zf_lt2 (by assumption) | exact zf_lt3 (by assumption) | exact zf_lt4 (by assumption) | exact zw_lt (by assumption) | exact zw_lt1 (by assumption) | exact zw_lt2 (by assumption) | exact zw_lt3 (by assumption) | exact zw_lt4 (by assumption) | exact zt_lt (by assumption)) (by decide) (by decide) lfRX8_131 rfl ?_
              refine ev_pV (q := 189) (ci := 8) dX8_lie_186 rfl okX8_isMissing lmRX8_144 imX8_isMissing seX8_isMissing (by first | rfl | assumption | exact zf_kd (by assumption) | exact zw_kd (by assumption) | exact zt_kd (by assumption)) (by first | decide | exact zf_lt (by assumption) | exact zf_lt1 (by assumption) | exact zf_lt2 (by assumption) | exact zf_lt3 (by assumption) | exact zf_lt4 (by assumption) | exact zw_lt (by assumption) | exact zw_lt1 (by assumption) | exact zw_lt2 (by assumption) | exact zw_lt3 (by assumption) | exact zw_lt4 (by assumption) | exact zt_lt (by assumption)) (by decide) rfl (c_X8_isMissing G fo I (show j < 8 by omega) _) (by decide) rfl rfl (Nat.le_of_ble_eq_true rfl) ?_
              refine ev_if_eq (q := 192) (t := 226) dX8_lie_189 rfl (by decide) (fun h189 => ?_) (fun h189 => ?_)
              · have f3 := zb_eq h189
                refine ev_iconst (q := 227) (0 : Int32) dX8_lie_226 rfl (by decide) ?_
                refine ev_istoreL (q := 229) (L9 := [_, _, _, _, _, _, _, _, _, _, _, _, _]) dX8_lie_227 rfl (by decide) rfl rfl ?_
                refine ev_iload (q := 231) dX8_lie_229 rfl rfl ?_
                refine ev_iload (q := 233) dX8_lie_231 rfl rfl ?_
                refine ev_if_eq (q := 236) (t := 240) dX8_lie_233 rfl (by decide) (fun h233 => ?_) (fun h233 => ?_)
                · refine ev_iconst (q := 241) (0 : Int32) dX8_lie_240 rfl (by decide) ?_
                  refine ev_iadd (q := 242) dX8_lie_241 rfl ?_
                  refine ev_istoreL (q := 244) (L9 := [_, _, _, _, _, _, _, _, _, _, _, _, _]) dX8_lie_242 rfl (by decide) rfl rfl ?_
                  refine ev_iincL (q := 247) (L9 := [_, _, _, _, _, _, _, _, _, _, _, _, _]) (1 : Int32) dX8_lie_244 rfl rfl (by decide) (by decide) rfl rfl ?_
                  refine ev_goto (t := 139) dX8_lie_247 (by decide) ?_
                  rw [nI_1]
                  refine ev_wk (L' := [some (.ref 119), some (.int (nI t)), some (.int m), some (.int lk), some (.int pr), some (.int fr), some (.int nm), some (.int hd), some (.int (nI j)), some (.int im), some (.int _), some (.int (nI (i + 1))), none]) ⟨rfl, rfl, rfl, rfl, rfl, rfl, rfl, rfl, rfl, rfl, rfl, rfl, trivial⟩ ?_
                  exact ih (i + 1) _ (by omega) (by omega) (by rw [h0, zcn, if_neg (by simp [zmay, f0, f1, f2, f3])]; exact Int32.add_zero _)
                · refine ev_iconst (q := 237) (1 : Int32) dX8_lie_236 rfl (by decide) ?_
                  refine ev_goto (t := 241) dX8_lie_237 (by decide) ?_
                  refine ev_iadd (q := 242) dX8_lie_241 rfl ?_
                  refine ev_istoreL (q := 244) (L9 := [_, _, _, _, _, _, _, _, _, _, _, _, _]) dX8_lie_242 rfl (by decide) rfl rfl ?_
                  refine ev_iincL (q := 247) (L9 := [_, _, _, _, _, _, _, _, _, _, _, _, _]) (1 : Int32) dX8_lie_244 rfl rfl (by decide) (by decide) rfl rfl ?_
                  refine ev_goto (t := 139) dX8_lie_247 (by decide) ?_
                  exact absurd rfl h233
              · have f3 := zb_ne h189
                refine ev_aload_n (q := 193) dX8_lie_192 rfl rfl ?_
                refine ev_iload (q := 195) dX8_lie_193 rfl rfl ?_
                refine ev_iload (q := 197) dX8_lie_195 rfl rfl ?_
                refine ev_aload_n (q := 198) dX8_lie_197 rfl rfl ?_
                refine ev_getI (q := 201) (ci := 8) (f := 15) dX8_lie_198 rfl (by first | rfl | assumption | exact zf_kd (by assumption) | exact zw_kd (by assumption) | exact zt_kd (by assumption)) (by first | decide | exact zf_lt (by assumption) | exact zf_lt1 (by assumption) | exact zf_lt2 (by assumption) | exact zf_lt3 (by assumption) | exact zf_lt4 (by assumption) | exact zw_lt (by assumption) | exact zw_lt1 (by assumption) | exact zw_lt2 (by assumption) | exact zw_lt3 (by assumption) | exact zw_lt4 (by assumption) | exact zt_lt (by assumption)) (by decide) (by decide) lfRX8_131 rfl ?_
                refine ev_pV (q := 204) (ci := 8) dX8_lie_201 rfl okX8_remembers lmRX8_147 imX8_remembers seX8_remembers (by first | rfl | assumption | exact zf_kd (by assumption) | exact zw_kd (by assumption) | exact zt_kd (by assumption)) (by first | decide | exact zf_lt (by assumption) | exact zf_lt1 (by assumption) | exact zf_lt2 (by assumption) | exact zf_lt3 (by assumption) | exact zf_lt4 (by assumption) | exact zw_lt (by assumption) | exact zw_lt1 (by assumption) | exact zw_lt2 (by assumption) | exact zw_lt3 (by assumption) | exact zw_lt4 (by assumption) | exact zt_lt (by assumption)) (by decide) rfl (c_X8_remembers G fo I (show i < 8 by omega) (show j < 8 by omega) _) (by decide) rfl rfl (Nat.le_of_ble_eq_true rfl) ?_
                refine ev_if_eq (q := 207) (t := 226) dX8_lie_204 rfl (by decide) (fun h204 => ?_) (fun h204 => ?_)
                · have f4 := zb_eq h204
                  refine ev_iconst (q := 227) (0 : Int32) dX8_lie_226 rfl (by decide) ?_
                  refine ev_istoreL (q := 229) (L9 := [_, _, _, _, _, _, _, _, _, _, _, _, _]) dX8_lie_227 rfl (by decide) rfl rfl ?_
                  refine ev_iload (q := 231) dX8_lie_229 rfl rfl ?_
                  refine ev_iload (q := 233) dX8_lie_231 rfl rfl ?_
                  refine ev_if_eq (q := 236) (t := 240) dX8_lie_233 rfl (by decide) (fun h233 => ?_) (fun h233 => ?_)
                  · refine ev_iconst (q := 241) (0 : Int32) dX8_lie_240 rfl (by decide) ?_
                    refine ev_iadd (q := 242) dX8_lie_241 rfl ?_
                    refine ev_istoreL (q := 244) (L9 := [_, _, _, _, _, _, _, _, _, _, _, _, _]) dX8_lie_242 rfl (by decide) rfl rfl ?_
                    refine ev_iincL (q := 247) (L9 := [_, _, _, _, _, _, _, _, _, _, _, _, _]) (1 : Int32) dX8_lie_244 rfl rfl (by decide) (by decide) rfl rfl ?_
                    refine ev_goto (t := 139) dX8_lie_247 (by decide) ?_
                    rw [nI_1]
                    refine ev_wk (L' := [some (.ref 119), some (.int (nI t)), some (.int m), some (.int lk), some (.int pr), some (.int fr), some (.int nm), some (.int hd), some (.int (nI j)), some (.int im), some (.int _), some (.int (nI (i + 1))), none]) ⟨rfl, rfl, rfl, rfl, rfl, rfl, rfl, rfl, rfl, rfl, rfl, rfl, trivial⟩ ?_
                    exact ih (i + 1) _ (by omega) (by omega) (by rw [h0, zcn, if_neg (by simp [zmay, f0, f1, f2, f3, f4])]; exact Int32.add_zero _)
                  · refine ev_iconst (q := 237) (1 : Int32) dX8_lie_236 rfl (by decide) ?_
                    refine ev_goto (t := 241) dX8_lie_237 (by decide) ?_
                    refine ev_iadd (q := 242) dX8_lie_241 rfl ?_
                    refine ev_istoreL (q := 244) (L9 := [_, _, _, _, _, _, _, _, _, _, _, _, _]) dX8_lie_242 rfl (by decide) rfl rfl ?_
                    refine ev_iincL (q := 247) (L9 := [_, _, _, _, _, _, _, _, _, _, _, _, _]) (1 : Int32) dX8_lie_244 rfl rfl (by decide) (by decide) rfl rfl ?_
                    refine ev_goto (t := 139) dX8_lie_247 (by decide) ?_
                    exact absurd rfl h233
                · have f4 := zb_ne h204
                  refine ev_aload_n (q := 208) dX8_lie_207 rfl rfl ?_
                  refine ev_getR (q := 211) (ci := 8) (f := 10) dX8_lie_208 rfl (by first | rfl | assumption | exact zf_kd (by assumption) | exact zw_kd (by assumption) | exact zt_kd (by assumption)) (by first | decide | exact zf_lt (by assumption) | exact zf_lt1 (by assumption) | exact zf_lt2 (by assumption) | exact zf_lt3 (by assumption) | exact zf_lt4 (by assumption) | exact zw_lt (by assumption) | exact zw_lt1 (by assumption) | exact zw_lt2 (by assumption) | exact zw_lt3 (by assumption) | exact zw_lt4 (by assumption) | exact zt_lt (by assumption)) (by decide) (by decide) lfRX8_26 rfl (by first | rfl | assumption | exact zf_p4 _ (by assumption) | exact zf_p5 _ (by assumption) | exact zf_p6 _ (by assumption) | exact zf_p7 _ (by assumption) | exact zw_p1 _ (by assumption) | exact zw_p2 _ (by assumption) | exact zw_p3 _ (by assumption) | exact zw_p4 _ (by assumption)) ?_
                  refine ev_iload (q := 213) dX8_lie_211 rfl rfl ?_
                  refine ev_ialdN (q := 214) dX8_lie_213 rfl (by first | rfl | assumption | exact zf_kd1 (by assumption) | exact zf_kd2 (by assumption) | exact zf_kd3 (by assumption) | exact zf_kd4 (by assumption) | exact zw_kd1 (by assumption) | exact zw_kd2 (by assumption) | exact zw_kd3 (by assumption) | exact zw_kd4 (by assumption)) (by first | decide | exact zf_lt (by assumption) | exact zf_lt1 (by assumption) | exact zf_lt2 (by assumption) | exact zf_lt3 (by assumption) | exact zf_lt4 (by assumption) | exact zw_lt (by assumption) | exact zw_lt1 (by assumption) | exact zw_lt2 (by assumption) | exact zw_lt3 (by assumption) | exact zw_lt4 (by assumption) | exact zt_lt (by assumption)) (by first | omega | assumption) ?_
                  refine ev_iload (q := 216) dX8_lie_214 rfl rfl ?_
                  refine ev_pS (q := 219) dX8_lie_216 rfl okX8_has lmRX8_101 smX8_has (c_X8_has G _ _ _ _ _) (by decide) rfl rfl (Nat.le_of_ble_eq_true rfl) ?_
                  refine ev_if_ne (q := 222) (t := 226) dX8_lie_219 rfl (by decide) (fun h219 => ?_) (fun h219 => ?_)
                  · have f5 : zhas (vA (zV I) i) j = true := zb_ne h219
                    refine ev_iconst (q := 227) (0 : Int32) dX8_lie_226 rfl (by decide) ?_
                    refine ev_istoreL (q := 229) (L9 := [_, _, _, _, _, _, _, _, _, _, _, _, _]) dX8_lie_227 rfl (by decide) rfl rfl ?_
                    refine ev_iload (q := 231) dX8_lie_229 rfl rfl ?_
                    refine ev_iload (q := 233) dX8_lie_231 rfl rfl ?_
                    refine ev_if_eq (q := 236) (t := 240) dX8_lie_233 rfl (by decide) (fun h233 => ?_) (fun h233 => ?_)
                    · refine ev_iconst (q := 241) (0 : Int32) dX8_lie_240 rfl (by decide) ?_
                      refine ev_iadd (q := 242) dX8_lie_241 rfl ?_
                      refine ev_istoreL (q := 244) (L9 := [_, _, _, _, _, _, _, _, _, _, _, _, _]) dX8_lie_242 rfl (by decide) rfl rfl ?_
                      refine ev_iincL (q := 247) (L9 := [_, _, _, _, _, _, _, _, _, _, _, _, _]) (1 : Int32) dX8_lie_244 rfl rfl (by decide) (by decide) rfl rfl ?_
                      refine ev_goto (t := 139) dX8_lie_247 (by decide) ?_
                      rw [nI_1]
                      refine ev_wk (L' := [some (.ref 119), some (.int (nI t)), some (.int m), some (.int lk), some (.int pr), some (.int fr), some (.int nm), some (.int hd), some (.int (nI j)), some (.int im), some (.int _), some (.int (nI (i + 1))), none]) ⟨rfl, rfl, rfl, rfl, rfl, rfl, rfl, rfl, rfl, rfl, rfl, rfl, trivial⟩ ?_
                      exact ih (i + 1) _ (by omega) (by omega) (by rw [h0, zcn, if_neg (by simp [zmay, f0, f1, f2, f3, f4, f5])]; exact Int32.add_zero _)
                    · refine ev_iconst (q := 237) (1 : Int32) dX8_lie_236 rfl (by decide) ?_
                      refine ev_goto (t := 241) dX8_lie_237 (by decide) ?_
                      refine ev_iadd (q := 242) dX8_lie_241 rfl ?_
                      refine ev_istoreL (q := 244) (L9 := [_, _, _, _, _, _, _, _, _, _, _, _, _]) dX8_lie_242 rfl (by decide) rfl rfl ?_
                      refine ev_iincL (q := 247) (L9 := [_, _, _, _, _, _, _, _, _, _, _, _, _]) (1 : Int32) dX8_lie_244 rfl rfl (by decide) (by decide) rfl rfl ?_
                      refine ev_goto (t := 139) dX8_lie_247 (by decide) ?_
                      exact absurd rfl h233
                  · have f5 : zhas (vA (zV I) i) j = false := zb_eq h219
                    refine ev_iconst (q := 223) (1 : Int32) dX8_lie_222 rfl (by decide) ?_
                    refine ev_goto (t := 227) dX8_lie_223 (by decide) ?_
                    refine ev_istoreL (q := 229) (L9 := [_, _, _, _, _, _, _, _, _, _, _, _, _]) dX8_lie_227 rfl (by decide) rfl rfl ?_
                    refine ev_iload (q := 231) dX8_lie_229 rfl rfl ?_
                    refine ev_iload (q := 233) dX8_lie_231 rfl rfl ?_
                    refine ev_if_eq (q := 236) (t := 240) dX8_lie_233 rfl (by decide) (fun h233 => ?_) (fun h233 => ?_)
                    · refine ev_iconst (q := 241) (0 : Int32) dX8_lie_240 rfl (by decide) ?_
                      refine ev_iadd (q := 242) dX8_lie_241 rfl ?_
                      refine ev_istoreL (q := 244) (L9 := [_, _, _, _, _, _, _, _, _, _, _, _, _]) dX8_lie_242 rfl (by decide) rfl rfl ?_
                      refine ev_iincL (q := 247) (L9 := [_, _, _, _, _, _, _, _, _, _, _, _, _]) (1 : Int32) dX8_lie_244 rfl rfl (by decide) (by decide) rfl rfl ?_
                      refine ev_goto (t := 139) dX8_lie_247 (by decide) ?_
                      exact absurd h233 (by decide)
                    · refine ev_iconst (q := 237) (1 : Int32) dX8_lie_236 rfl (by decide) ?_
                      refine ev_goto (t := 241) dX8_lie_237 (by decide) ?_
                      refine ev_iadd (q := 242) dX8_lie_241 rfl ?_
                      refine ev_istoreL (q := 244) (L9 := [_, _, _, _, _, _, _, _, _, _, _, _, _]) dX8_lie_242 rfl (by decide) rfl rfl ?_
                      refine ev_iincL (q := 247) (L9 := [_, _, _, _, _, _, _, _, _, _, _, _, _]) (1 : Int32) dX8_lie_244 rfl rfl (by decide) (by decide) rfl rfl ?_
                      refine ev_goto (t := 139) dX8_lie_247 (by decide) ?_
                      rw [nI_1]
                      refine ev_wk (L' := [some (.ref 119), some (.int (nI t)), some (.int m), some (.int lk), some (.int pr), some (.int fr), some (.int nm), some (.int hd), some (.int (nI j)), some (.int im), some (.int _), some (.int (nI (i + 1))), none]) ⟨rfl, rfl, rfl, rfl, rfl, rfl, rfl, rfl, rfl, rfl, rfl, rfl, trivial⟩ ?_
                      exact ih (i + 1) _ (by omega) (by omega) (by rw [h0, zcn, if_pos (by unfold zmay; rw [f0, f1, f2, f3, f4, f5]; rfl), nI_1])
  exact lp139 (N + 1) 0 _ (by omega) (by omega) rfl
set_option maxHeartbeats 4000000 in
set_option maxRecDepth 100000 in
theorem lp_X8_lie (G : zq_G) (fo : Bool) (I : zq_I) {N T Y : Nat} (hs : zS fo N T Y I) {t : Nat} {m lk : Int32} : zq_E G mX8_lie 5 0 0 false 67 [some (.ref 119), some (.int (nI t)), some (.int m), some (.int lk), some (.int 0), some (.int 0), some (.int 0), some (.int 0), some (.int 0), none, none, none, none] [] 138 I (zPs fo) (zq_pu (some (.int (if lk ≤ zcan (I 119 4) (zV I) N (nI t) (I 119 15) then lk else -9))) 138 I (zPs fo)) := by
  have hN8 := hs.n8
  have hN := hs.mppl
  have lp67 : ∀ (k i : Nat) (pr fr nm hd : Int32), N + 1 ≤ i + k → i ≤ N → pr = nI (zsu (zmby (zV I) N (nI t) (I 119 15)) i) → fr = nI (zcn (zfre (zV I) N (nI t) (I 119 15)) i) → nm = zor (znm (zV I)) (zfre (zV I) N (nI t) (I 119 15)) i → hd = zor (znm (zV I)) (zism (zV I) N (nI t) (I 119 15)) i → zq_E G mX8_lie 5 0 0 false 67 [some (.ref 119), some (.int (nI t)), some (.int m), some (.int lk), some (.int pr), some (.int fr), some (.int nm), some (.int hd), some (.int (nI i)), none, none, none, none] [] 138 I (zPs fo) (zq_pu (some (.int (if lk ≤ zcan (I 119 4) (zV I) N (nI t) (I 119 15) then lk else -9))) 138 I (zPs fo)) := by
    intro k
    induction k with
    | zero => intro i pr fr nm hd hk hi; exact absurd hk (by omega)
    | succ k ih =>
      intro i pr fr nm hd hk hi h0 h1 h2 h3
      refine ev_iload (q := 69) dX8_lie_67 rfl rfl ?_
      refine ev_aload_n (q := 70) dX8_lie_69 rfl rfl ?_
      refine ev_getI (q := 73) (ci := 8) (f := 6) dX8_lie_70 rfl (by first | rfl | assumption | exact zf_kd (by assumption) | exact zw_kd (by assumption) | exact zt_kd (by assumption)) (by first | decide | exact zf_lt (by assumption) | exact zf_lt1 (by assumption) | exact zf_lt2 (by assumption) | exact zf_lt3 (by assumption) | exact zf_lt4 (by assumption) | exact zw_lt (by assumption) | exact zw_lt1 (by assumption) | exact zw_lt2 (by assumption) | exact zw_lt3 (by assumption) | exact zw_lt4 (by assumption) | exact zt_lt (by assumption)) (by decide) (by decide) lfRX8_72 rfl ?_
      refine ev_icmp_ge (q := 76) (t := 311) dX8_lie_73 rfl (by decide) (fun h73 => ?_) (fun h73 => ?_)
      · obtain rfl : i = N := by rw [hN, nI_leI (by omega) (by omega)] at h73; omega
        refine ev_aload_n (q := 312) dX8_lie_311 rfl rfl ?_
        refine ev_getI (q := 315) (ci := 8) (f := 4) dX8_lie_312 rfl (by first | rfl | assumption | exact zf_kd (by assumption) | exact zw_kd (by assumption) | exact zt_kd (by assumption)) (by first | decide | exact zf_lt (by assumption) | exact zf_lt1 (by assumption) | exact zf_lt2 (by assumption) | exact zf_lt3 (by assumption) | exact zf_lt4 (by assumption) | exact zw_lt (by assumption) | exact zw_lt1 (by assumption) | exact zw_lt2 (by assumption) | exact zw_lt3 (by assumption) | exact zw_lt4 (by assumption) | exact zt_lt (by assumption)) (by decide) (by decide) lfRX8_128 rfl ?_
        refine ev_if_ne (q := 318) (t := 323) dX8_lie_315 rfl (by decide) (fun h315 => ?_) (fun h315 => ?_)
        · refine ev_aload_n (q := 324) dX8_lie_323 rfl rfl ?_
          refine ev_getI (q := 327) (ci := 8) (f := 4) dX8_lie_324 rfl (by first | rfl | assumption | exact zf_kd (by assumption) | exact zw_kd (by assumption) | exact zt_kd (by assumption)) (by first | decide | exact zf_lt (by assumption) | exact zf_lt1 (by assumption) | exact zf_lt2 (by assumption) | exact zf_lt3 (by assumption) | exact zf_lt4 (by assumption) | exact zw_lt (by assumption) | exact zw_lt1 (by assumption) | exact zw_lt2 (by assumption) | exact zw_lt3 (by assumption) | exact zw_lt4 (by assumption) | exact zt_lt (by assumption)) (by decide) (by decide) lfRX8_128 rfl ?_
          refine ev_iconst (q := 328) (1 : Int32) dX8_lie_327 rfl (by decide) ?_
          refine ev_icmp_ne (q := 331) (t := 336) dX8_lie_328 rfl (by decide) (fun h328 => ?_) (fun h328 => ?_)
          · refine ev_iload (q := 338) dX8_lie_336 rfl rfl ?_
            refine ev_iload (q := 340) dX8_lie_338 rfl rfl ?_
            refine ev_iconst (q := 341) ((-1) : Int32) dX8_lie_340 rfl (by decide) ?_
            refine ev_ixor (q := 342) dX8_lie_341 rfl ?_
            refine ev_iand (q := 343) dX8_lie_342 rfl ?_
            refine ev_pS (q := 346) dX8_lie_343 rfl okX8_many lmRX8_151 smX8_many (c_X8_many G _ _ _ _) (by decide) rfl rfl (Nat.le_of_ble_eq_true rfl) ?_
            refine ev_istoreL (q := 348) (L9 := [_, _, _, _, _, _, _, _, _, _, _, _, _]) dX8_lie_346 rfl (by decide) rfl rfl ?_
            refine ev_iload_n (q := 349) dX8_lie_348 rfl rfl ?_
            refine ev_iload (q := 351) dX8_lie_349 rfl rfl ?_
            refine ev_icmp_gt (q := 354) (t := 358) dX8_lie_351 rfl (by decide) (fun h351 => ?_) (fun h351 => ?_)
            · refine ev_bipush (q := 360) ((-9) : Int32) dX8_lie_358 rfl (by decide) ?_
              exact ev_iret dX8_lie_360 rfl (by first | rfl | exact zb_nar _ | assumption) (⟨by unfold zcan; rw [← h0, ← h1, ← h2, ← h3]; first | rw [if_pos h315, if_pos (Int32.not_lt.mp h351)] | rw [if_pos h315, if_neg (Int32.not_le.mpr h351)] | rw [if_neg h315, if_pos h328, if_pos (Int32.not_lt.mp h351)] | rw [if_neg h315, if_pos h328, if_neg (Int32.not_le.mpr h351)] | rw [if_neg h315, if_neg h328, if_pos (Int32.not_lt.mp h351)] | rw [if_neg h315, if_neg h328, if_neg (Int32.not_le.mpr h351)], rfl, rfl, rfl⟩)
            · refine ev_iload_n (q := 355) dX8_lie_354 rfl rfl ?_
              refine ev_goto (t := 360) dX8_lie_355 (by decide) ?_
              exact ev_iret dX8_lie_360 rfl (by first | rfl | exact zb_nar _ | assumption) (⟨by unfold zcan; rw [← h0, ← h1, ← h2, ← h3]; first | rw [if_pos h315, if_pos (Int32.not_lt.mp h351)] | rw [if_pos h315, if_neg (Int32.not_le.mpr h351)] | rw [if_neg h315, if_pos h328, if_pos (Int32.not_lt.mp h351)] | rw [if_neg h315, if_pos h328, if_neg (Int32.not_le.mpr h351)] | rw [if_neg h315, if_neg h328, if_pos (Int32.not_lt.mp h351)] | rw [if_neg h315, if_neg h328, if_neg (Int32.not_le.mpr h351)], rfl, rfl, rfl⟩)
          · refine ev_iload (q := 333) dX8_lie_331 rfl rfl ?_
            refine ev_goto (t := 346) dX8_lie_333 (by decide) ?_
            refine ev_istoreL (q := 348) (L9 := [_, _, _, _, _, _, _, _, _, _, _, _, _]) dX8_lie_346 rfl (by decide) rfl rfl ?_
            refine ev_iload_n (q := 349) dX8_lie_348 rfl rfl ?_
            refine ev_iload (q := 351) dX8_lie_349 rfl rfl ?_
            refine ev_icmp_gt (q := 354) (t := 358) dX8_lie_351 rfl (by decide) (fun h351 => ?_) (fun h351 => ?_)
            · refine ev_bipush (q := 360) ((-9) : Int32) dX8_lie_358 rfl (by decide) ?_
              exact ev_iret dX8_lie_360 rfl (by first | rfl | exact zb_nar _ | assumption) (⟨by unfold zcan; rw [← h0, ← h1, ← h2, ← h3]; first | rw [if_pos h315, if_pos (Int32.not_lt.mp h351)] | rw [if_pos h315, if_neg (Int32.not_le.mpr h351)] | rw [if_neg h315, if_pos h328, if_pos (Int32.not_lt.mp h351)] | rw [if_neg h315, if_pos h328, if_neg (Int32.not_le.mpr h351)] | rw [if_neg h315, if_neg h328, if_pos (Int32.not_lt.mp h351)] | rw [if_neg h315, if_neg h328, if_neg (Int32.not_le.mpr h351)], rfl, rfl, rfl⟩)
            · refine ev_iload_n (q := 355) dX8_lie_354 rfl rfl ?_
              refine ev_goto (t := 360) dX8_lie_355 (by decide) ?_
              exact ev_iret dX8_lie_360 rfl (by first | rfl | exact zb_nar _ | assumption) (⟨by unfold zcan; rw [← h0, ← h1, ← h2, ← h3]; first | rw [if_pos h315, if_pos (Int32.not_lt.mp h351)] | rw [if_pos h315, if_neg (Int32.not_le.mpr h351)] | rw [if_neg h315, if_pos h328, if_pos (Int32.not_lt.mp h351)] | rw [if_neg h315, if_pos h328, if_neg (Int32.not_le.mpr h351)] | rw [if_neg h315, if_neg h328, if_pos (Int32.not_lt.mp h351)] | rw [if_neg h315, if_neg h328, if_neg (Int32.not_le.mpr h351)], rfl, rfl, rfl⟩)
        · refine ev_iload (q := 320) dX8_lie_318 rfl rfl ?_
          refine ev_goto (t := 346) dX8_lie_320 (by decide) ?_
          refine ev_istoreL (q := 348) (L9 := [_, _, _, _, _, _, _, _, _, _, _, _, _]) dX8_lie_346 rfl (by decide) rfl rfl ?_
          refine ev_iload_n (q := 349) dX8_lie_348 rfl rfl ?_
          refine ev_iload (q := 351) dX8_lie_349 rfl rfl ?_
          refine ev_icmp_gt (q := 354) (t := 358) dX8_lie_351 rfl (by decide) (fun h351 => ?_) (fun h351 => ?_)
          · refine ev_bipush (q := 360) ((-9) : Int32) dX8_lie_358 rfl (by decide) ?_
            exact ev_iret dX8_lie_360 rfl (by first | rfl | exact zb_nar _ | assumption) (⟨by unfold zcan; rw [← h0, ← h1, ← h2, ← h3]; first | rw [if_pos h315, if_pos (Int32.not_lt.mp h351)] | rw [if_pos h315, if_neg (Int32.not_le.mpr h351)] | rw [if_neg h315, if_pos h328, if_pos (Int32.not_lt.mp h351)] | rw [if_neg h315, if_pos h328, if_neg (Int32.not_le.mpr h351)] | rw [if_neg h315, if_neg h328, if_pos (Int32.not_lt.mp h351)] | rw [if_neg h315, if_neg h328, if_neg (Int32.not_le.mpr h351)], rfl, rfl, rfl⟩)
          · refine ev_iload_n (q := 355) dX8_lie_354 rfl rfl ?_
            refine ev_goto (t := 360) dX8_lie_355 (by decide) ?_
            exact ev_iret dX8_lie_360 rfl (by first | rfl | exact zb_nar _ | assumption) (⟨by unfold zcan; rw [← h0, ← h1, ← h2, ← h3]; first | rw [if_pos h315, if_pos (Int32.not_lt.mp h351)] | rw [if_pos h315, if_neg (Int32.not_le.mpr h351)] | rw [if_neg h315, if_pos h328, if_pos (Int32.not_lt.mp h351)] | rw [if_neg h315, if_pos h328, if_neg (Int32.not_le.mpr h351)] | rw [if_neg h315, if_neg h328, if_pos (Int32.not_lt.mp h351)] | rw [if_neg h315, if_neg h328, if_neg (Int32.not_le.mpr h351)], rfl, rfl, rfl⟩)
      · have hlt_i : i < N := by rw [hN, nI_leI (by omega) (by omega)] at h73; omega
        refine ev_aload_n (q := 77) dX8_lie_76 rfl rfl ?_
        refine ev_aload_n (q := 78) dX8_lie_77 rfl rfl ?_
        refine ev_getI (q := 81) (ci := 8) (f := 15) dX8_lie_78 rfl (by first | rfl | assumption | exact zf_kd (by assumption) | exact zw_kd (by assumption) | exact zt_kd (by assumption)) (by first | decide | exact zf_lt (by assumption) | exact zf_lt1 (by assumption) | exact zf_lt2 (by assumption) | exact zf_lt3 (by assumption) | exact zf_lt4 (by assumption) | exact zw_lt (by assumption) | exact zw_lt1 (by assumption) | exact zw_lt2 (by assumption) | exact zw_lt3 (by assumption) | exact zw_lt4 (by assumption) | exact zt_lt (by assumption)) (by decide) (by decide) lfRX8_131 rfl ?_
        refine ev_pV (q := 84) (ci := 8) dX8_lie_81 rfl okX8_missed lmRX8_161 imX8_missed seX8_missed (by first | rfl | assumption | exact zf_kd (by assumption) | exact zw_kd (by assumption) | exact zt_kd (by assumption)) (by first | decide | exact zf_lt (by assumption) | exact zf_lt1 (by assumption) | exact zf_lt2 (by assumption) | exact zf_lt3 (by assumption) | exact zf_lt4 (by assumption) | exact zw_lt (by assumption) | exact zw_lt1 (by assumption) | exact zw_lt2 (by assumption) | exact zw_lt3 (by assumption) | exact zw_lt4 (by assumption) | exact zt_lt (by assumption)) (by decide) rfl (c_X8_missed G fo I hs _) (by decide) rfl rfl (Nat.le_of_ble_eq_true rfl) ?_
        refine ev_iload (q := 86) dX8_lie_84 rfl rfl ?_
        refine ev_pS (q := 89) dX8_lie_86 rfl okX8_has lmRX8_101 smX8_has (c_X8_has G _ _ _ _ _) (by decide) rfl rfl (Nat.le_of_ble_eq_true rfl) ?_
        refine ev_if_eq (q := 92) (t := 107) dX8_lie_89 rfl (by decide) (fun h89 => ?_) (fun h89 => ?_)
        · refine ev_iconst (q := 108) (0 : Int32) dX8_lie_107 rfl (by decide) ?_
          refine ev_istoreL (q := 110) (L9 := [_, _, _, _, _, _, _, _, _, _, _, _, _]) dX8_lie_108 rfl (by decide) rfl rfl ?_
          refine ev_iload (q := 112) dX8_lie_110 rfl rfl ?_
          refine ev_iload (q := 114) dX8_lie_112 rfl rfl ?_
          refine ev_if_eq (q := 117) (t := 129) dX8_lie_114 rfl (by decide) (fun h114 => ?_) (fun h114 => ?_)
          · refine ev_iconst (q := 130) (0 : Int32) dX8_lie_129 rfl (by decide) ?_
            refine ev_ior (q := 131) dX8_lie_130 rfl ?_
            refine ev_istoreL (q := 133) (L9 := [_, _, _, _, _, _, _, _, _, _, _, _, _]) dX8_lie_131 rfl (by decide) rfl rfl ?_
            refine ev_iconst (q := 134) (0 : Int32) dX8_lie_133 rfl (by decide) ?_
            refine ev_istoreL (q := 136) (L9 := [_, _, _, _, _, _, _, _, _, _, _, _, _]) dX8_lie_134 rfl (by decide) rfl rfl ?_
            refine ev_iconst (q := 137) (0 : Int32) dX8_lie_136 rfl (by decide) ?_
            refine ev_istoreL (q := 139) (L9 := [_, _, _, _, _, _, _, _, _, _, _, _, _]) dX8_lie_137 rfl (by decide) rfl rfl ?_
            have fim : zism (zV I) N (nI t) (I 119 15) i = false := by unfold zism; rw [zb_eq h89]; rfl
            refine lp_X8_lie_in G fo I hN8 (show i < 8 by omega) hN ?_
            have hbl : zmby (zV I) N (nI t) (I 119 15) i < 2 ^ 31 := Nat.lt_of_le_of_lt (zcn_le _ _) (by omega)
            refine ev_iload (q := 252) dX8_lie_250 rfl rfl ?_
            refine ev_iload (q := 254) dX8_lie_252 rfl rfl ?_
            refine ev_iadd (q := 255) dX8_lie_254 rfl ?_
            refine ev_istoreL (q := 257) (L9 := [_, _, _, _, _, _, _, _, _, _, _, _, _]) dX8_lie_255 rfl (by decide) rfl rfl ?_
            refine ev_iload (q := 259) dX8_lie_257 rfl rfl ?_
            refine ev_iload (q := 261) dX8_lie_259 rfl rfl ?_
            refine ev_if_le (q := 264) (t := 273) dX8_lie_261 rfl (by decide) (fun h261 => ?_) (fun h261 => ?_)
            · refine ev_iconst (q := 274) (0 : Int32) dX8_lie_273 rfl (by decide) ?_
              refine ev_iadd (q := 275) dX8_lie_274 rfl ?_
              refine ev_istoreL (q := 277) (L9 := [_, _, _, _, _, _, _, _, _, _, _, _, _]) dX8_lie_275 rfl (by decide) rfl rfl ?_
              refine ev_iload (q := 279) dX8_lie_277 rfl rfl ?_
              refine ev_iload (q := 281) dX8_lie_279 rfl rfl ?_
              refine ev_if_le (q := 284) (t := 301) dX8_lie_281 rfl (by decide) (fun h281 => ?_) (fun h281 => ?_)
              · refine ev_iconst (q := 302) (0 : Int32) dX8_lie_301 rfl (by decide) ?_
                refine ev_ior (q := 303) dX8_lie_302 rfl ?_
                refine ev_istoreL (q := 305) (L9 := [_, _, _, _, _, _, _, _, _, _, _, _, _]) dX8_lie_303 rfl (by decide) rfl rfl ?_
                refine ev_iincL (q := 308) (L9 := [_, _, _, _, _, _, _, _, _, _, _, _, _]) (1 : Int32) dX8_lie_305 rfl rfl (by decide) (by decide) rfl rfl ?_
                refine ev_goto (t := 67) dX8_lie_308 (by decide) ?_
                have hby : ¬ 0 < zmby (zV I) N (nI t) (I 119 15) i := by have q : nI (zmby (zV I) N (nI t) (I 119 15) i) ≤ nI 0 := h261; rw [nI_leI hbl (by omega)] at q; exact Nat.not_lt.mpr (Nat.le_of_eq (Nat.le_zero.mp q))
                have ft : zfre (zV I) N (nI t) (I 119 15) i = false := by unfold zfre; rw [decide_eq_false hby]; rfl
                rw [nI_1]
                refine ev_wk (L' := [some (.ref 119), some (.int (nI t)), some (.int m), some (.int lk), some (.int _), some (.int _), some (.int _), some (.int _), some (.int (nI (i + 1))), none, none, none, none]) ⟨rfl, rfl, rfl, rfl, rfl, rfl, rfl, rfl, rfl, trivial⟩ ?_
                exact ih (i + 1) _ _ _ _ (by omega) (by omega) (by rw [h0, zsu, ← nI_add]; rfl) (by rw [h1, zcn, if_neg (by rw [ft]; decide)]; exact Int32.add_zero _) (by rw [i32_or_0]; exact zor_n h2 ft) (by rw [i32_or_0]; exact zor_n h3 fim)
              · refine ev_iload (q := 286) dX8_lie_284 rfl rfl ?_
                refine ev_if_ne (q := 289) (t := 301) dX8_lie_286 rfl (by decide) (fun h286 => ?_) (fun h286 => ?_)
                · refine ev_iconst (q := 302) (0 : Int32) dX8_lie_301 rfl (by decide) ?_
                  refine ev_ior (q := 303) dX8_lie_302 rfl ?_
                  refine ev_istoreL (q := 305) (L9 := [_, _, _, _, _, _, _, _, _, _, _, _, _]) dX8_lie_303 rfl (by decide) rfl rfl ?_
                  refine ev_iincL (q := 308) (L9 := [_, _, _, _, _, _, _, _, _, _, _, _, _]) (1 : Int32) dX8_lie_305 rfl rfl (by decide) (by decide) rfl rfl ?_
                  refine ev_goto (t := 67) dX8_lie_308 (by decide) ?_
                  exact absurd h261 h281
                · refine ev_iconst (q := 290) (1 : Int32) dX8_lie_289 rfl (by decide) ?_
                  refine ev_aload_n (q := 291) dX8_lie_290 rfl rfl ?_
                  refine ev_getR (q := 294) (ci := 8) (f := 8) dX8_lie_291 rfl (by first | rfl | assumption | exact zf_kd (by assumption) | exact zw_kd (by assumption) | exact zt_kd (by assumption)) (by first | decide | exact zf_lt (by assumption) | exact zf_lt1 (by assumption) | exact zf_lt2 (by assumption) | exact zf_lt3 (by assumption) | exact zf_lt4 (by assumption) | exact zw_lt (by assumption) | exact zw_lt1 (by assumption) | exact zw_lt2 (by assumption) | exact zw_lt3 (by assumption) | exact zw_lt4 (by assumption) | exact zt_lt (by assumption)) (by decide) (by decide) lfRX8_20 rfl (by first | rfl | assumption | exact zf_p4 _ (by assumption) | exact zf_p5 _ (by assumption) | exact zf_p6 _ (by assumption) | exact zf_p7 _ (by assumption) | exact zw_p1 _ (by assumption) | exact zw_p2 _ (by assumption) | exact zw_p3 _ (by assumption) | exact zw_p4 _ (by assumption)) ?_
                  refine ev_iload (q := 296) dX8_lie_294 rfl rfl ?_
                  refine ev_ialdN (q := 297) dX8_lie_296 rfl (by first | rfl | assumption | exact zf_kd1 (by assumption) | exact zf_kd2 (by assumption) | exact zf_kd3 (by assumption) | exact zf_kd4 (by assumption) | exact zw_kd1 (by assumption) | exact zw_kd2 (by assumption) | exact zw_kd3 (by assumption) | exact zw_kd4 (by assumption)) (by first | decide | exact zf_lt (by assumption) | exact zf_lt1 (by assumption) | exact zf_lt2 (by assumption) | exact zf_lt3 (by assumption) | exact zf_lt4 (by assumption) | exact zw_lt (by assumption) | exact zw_lt1 (by assumption) | exact zw_lt2 (by assumption) | exact zw_lt3 (by assumption) | exact zw_lt4 (by assumption) | exact zt_lt (by assumption)) (by first | omega | assumption) ?_
                  refine ev_ishl (q := 298) dX8_lie_297 rfl ?_
                  refine ev_goto (t := 302) dX8_lie_298 (by decide) ?_
                  refine ev_ior (q := 303) dX8_lie_302 rfl ?_
                  refine ev_istoreL (q := 305) (L9 := [_, _, _, _, _, _, _, _, _, _, _, _, _]) dX8_lie_303 rfl (by decide) rfl rfl ?_
                  refine ev_iincL (q := 308) (L9 := [_, _, _, _, _, _, _, _, _, _, _, _, _]) (1 : Int32) dX8_lie_305 rfl rfl (by decide) (by decide) rfl rfl ?_
                  refine ev_goto (t := 67) dX8_lie_308 (by decide) ?_
                  exact absurd h261 h281
            · refine ev_iload (q := 266) dX8_lie_264 rfl rfl ?_
              refine ev_if_ne (q := 269) (t := 273) dX8_lie_266 rfl (by decide) (fun h266 => ?_) (fun h266 => ?_)
              · refine ev_iconst (q := 274) (0 : Int32) dX8_lie_273 rfl (by decide) ?_
                refine ev_iadd (q := 275) dX8_lie_274 rfl ?_
                refine ev_istoreL (q := 277) (L9 := [_, _, _, _, _, _, _, _, _, _, _, _, _]) dX8_lie_275 rfl (by decide) rfl rfl ?_
                refine ev_iload (q := 279) dX8_lie_277 rfl rfl ?_
                refine ev_iload (q := 281) dX8_lie_279 rfl rfl ?_
                refine ev_if_le (q := 284) (t := 301) dX8_lie_281 rfl (by decide) (fun h281 => ?_) (fun h281 => ?_)
                · refine ev_iconst (q := 302) (0 : Int32) dX8_lie_301 rfl (by decide) ?_
                  refine ev_ior (q := 303) dX8_lie_302 rfl ?_
                  refine ev_istoreL (q := 305) (L9 := [_, _, _, _, _, _, _, _, _, _, _, _, _]) dX8_lie_303 rfl (by decide) rfl rfl ?_
                  refine ev_iincL (q := 308) (L9 := [_, _, _, _, _, _, _, _, _, _, _, _, _]) (1 : Int32) dX8_lie_305 rfl rfl (by decide) (by decide) rfl rfl ?_
                  refine ev_goto (t := 67) dX8_lie_308 (by decide) ?_
                  exact absurd rfl h266
                · refine ev_iload (q := 286) dX8_lie_284 rfl rfl ?_
                  refine ev_if_ne (q := 289) (t := 301) dX8_lie_286 rfl (by decide) (fun h286 => ?_) (fun h286 => ?_)
                  · refine ev_iconst (q := 302) (0 : Int32) dX8_lie_301 rfl (by decide) ?_
                    refine ev_ior (q := 303) dX8_lie_302 rfl ?_
                    refine ev_istoreL (q := 305) (L9 := [_, _, _, _, _, _, _, _, _, _, _, _, _]) dX8_lie_303 rfl (by decide) rfl rfl ?_
                    refine ev_iincL (q := 308) (L9 := [_, _, _, _, _, _, _, _, _, _, _, _, _]) (1 : Int32) dX8_lie_305 rfl rfl (by decide) (by decide) rfl rfl ?_
                    refine ev_goto (t := 67) dX8_lie_308 (by decide) ?_
                    exact absurd rfl h266
                  · refine ev_iconst (q := 290) (1 : Int32) dX8_lie_289 rfl (by decide) ?_
                    refine ev_aload_n (q := 291) dX8_lie_290 rfl rfl ?_
                    refine ev_getR (q := 294) (ci := 8) (f := 8) dX8_lie_291 rfl (by first | rfl | assumption | exact zf_kd (by assumption) | exact zw_kd (by assumption) | exact zt_kd (by assumption)) (by first | decide | exact zf_lt (by assumption) | exact zf_lt1 (by assumption) | exact zf_lt2 (by assumption) | exact zf_lt3 (by assumption) | exact zf_lt4 (by assumption) | exact zw_lt (by assumption) | exact zw_lt1 (by assumption) | exact zw_lt2 (by assumption) | exact zw_lt3 (by assumption) | exact zw_lt4 (by assumption) | exact zt_lt (by assumption)) (by decide) (by decide) lfRX8_20 rfl (by first | rfl | assumption | exact zf_p4 _ (by assumption) | exact zf_p5 _ (by assumption) | exact zf_p6 _ (by assumption) | exact zf_p7 _ (by assumption) | exact zw_p1 _ (by assumption) | exact zw_p2 _ (by assumption) | exact zw_p3 _ (by assumption) | exact zw_p4 _ (by assumption)) ?_
                    refine ev_iload (q := 296) dX8_lie_294 rfl rfl ?_
                    refine ev_ialdN (q := 297) dX8_lie_296 rfl (by first | rfl | assumption | exact zf_kd1 (by assumption) | exact zf_kd2 (by assumption) | exact zf_kd3 (by assumption) | exact zf_kd4 (by assumption) | exact zw_kd1 (by assumption) | exact zw_kd2 (by assumption) | exact zw_kd3 (by assumption) | exact zw_kd4 (by assumption)) (by first | decide | exact zf_lt (by assumption) | exact zf_lt1 (by assumption) | exact zf_lt2 (by assumption) | exact zf_lt3 (by assumption) | exact zf_lt4 (by assumption) | exact zw_lt (by assumption) | exact zw_lt1 (by assumption) | exact zw_lt2 (by assumption) | exact zw_lt3 (by assumption) | exact zw_lt4 (by assumption) | exact zt_lt (by assumption)) (by first | omega | assumption) ?_
                    refine ev_ishl (q := 298) dX8_lie_297 rfl ?_
                    refine ev_goto (t := 302) dX8_lie_298 (by decide) ?_
                    refine ev_ior (q := 303) dX8_lie_302 rfl ?_
                    refine ev_istoreL (q := 305) (L9 := [_, _, _, _, _, _, _, _, _, _, _, _, _]) dX8_lie_303 rfl (by decide) rfl rfl ?_
                    refine ev_iincL (q := 308) (L9 := [_, _, _, _, _, _, _, _, _, _, _, _, _]) (1 : Int32) dX8_lie_305 rfl rfl (by decide) (by decide) rfl rfl ?_
                    refine ev_goto (t := 67) dX8_lie_308 (by decide) ?_
                    exact absurd rfl h266
              · refine ev_iconst (q := 270) (1 : Int32) dX8_lie_269 rfl (by decide) ?_
                refine ev_goto (t := 274) dX8_lie_270 (by decide) ?_
                refine ev_iadd (q := 275) dX8_lie_274 rfl ?_
                refine ev_istoreL (q := 277) (L9 := [_, _, _, _, _, _, _, _, _, _, _, _, _]) dX8_lie_275 rfl (by decide) rfl rfl ?_
                refine ev_iload (q := 279) dX8_lie_277 rfl rfl ?_
                refine ev_iload (q := 281) dX8_lie_279 rfl rfl ?_
                refine ev_if_le (q := 284) (t := 301) dX8_lie_281 rfl (by decide) (fun h281 => ?_) (fun h281 => ?_)
                · refine ev_iconst (q := 302) (0 : Int32) dX8_lie_301 rfl (by decide) ?_
                  refine ev_ior (q := 303) dX8_lie_302 rfl ?_
                  refine ev_istoreL (q := 305) (L9 := [_, _, _, _, _, _, _, _, _, _, _, _, _]) dX8_lie_303 rfl (by decide) rfl rfl ?_
                  refine ev_iincL (q := 308) (L9 := [_, _, _, _, _, _, _, _, _, _, _, _, _]) (1 : Int32) dX8_lie_305 rfl rfl (by decide) (by decide) rfl rfl ?_
                  refine ev_goto (t := 67) dX8_lie_308 (by decide) ?_
                  exact absurd h281 h261
                · refine ev_iload (q := 286) dX8_lie_284 rfl rfl ?_
                  refine ev_if_ne (q := 289) (t := 301) dX8_lie_286 rfl (by decide) (fun h286 => ?_) (fun h286 => ?_)
                  · refine ev_iconst (q := 302) (0 : Int32) dX8_lie_301 rfl (by decide) ?_
                    refine ev_ior (q := 303) dX8_lie_302 rfl ?_
                    refine ev_istoreL (q := 305) (L9 := [_, _, _, _, _, _, _, _, _, _, _, _, _]) dX8_lie_303 rfl (by decide) rfl rfl ?_
                    refine ev_iincL (q := 308) (L9 := [_, _, _, _, _, _, _, _, _, _, _, _, _]) (1 : Int32) dX8_lie_305 rfl rfl (by decide) (by decide) rfl rfl ?_
                    refine ev_goto (t := 67) dX8_lie_308 (by decide) ?_
                    exact absurd h266 h286
                  · refine ev_iconst (q := 290) (1 : Int32) dX8_lie_289 rfl (by decide) ?_
                    refine ev_aload_n (q := 291) dX8_lie_290 rfl rfl ?_
                    refine ev_getR (q := 294) (ci := 8) (f := 8) dX8_lie_291 rfl (by first | rfl | assumption | exact zf_kd (by assumption) | exact zw_kd (by assumption) | exact zt_kd (by assumption)) (by first | decide | exact zf_lt (by assumption) | exact zf_lt1 (by assumption) | exact zf_lt2 (by assumption) | exact zf_lt3 (by assumption) | exact zf_lt4 (by assumption) | exact zw_lt (by assumption) | exact zw_lt1 (by assumption) | exact zw_lt2 (by assumption) | exact zw_lt3 (by assumption) | exact zw_lt4 (by assumption) | exact zt_lt (by assumption)) (by decide) (by decide) lfRX8_20 rfl (by first | rfl | assumption | exact zf_p4 _ (by assumption) | exact zf_p5 _ (by assumption) | exact zf_p6 _ (by assumption) | exact zf_p7 _ (by assumption) | exact zw_p1 _ (by assumption) | exact zw_p2 _ (by assumption) | exact zw_p3 _ (by assumption) | exact zw_p4 _ (by assumption)) ?_
                    refine ev_iload (q := 296) dX8_lie_294 rfl rfl ?_
                    refine ev_ialdN (q := 297) dX8_lie_296 rfl (by first | rfl | assumption | exact zf_kd1 (by assumption) | exact zf_kd2 (by assumption) | exact zf_kd3 (by assumption) | exact zf_kd4 (by assumption) | exact zw_kd1 (by assumption) | exact zw_kd2 (by assumption) | exact zw_kd3 (by assumption) | exact zw_kd4 (by assumption)) (by first | decide | exact zf_lt (by assumption) | exact zf_lt1 (by assumption) | exact zf_lt2 (by assumption) | exact zf_lt3 (by assumption) | exact zf_lt4 (by assumption) | exact zw_lt (by assumption) | exact zw_lt1 (by assumption) | exact zw_lt2 (by assumption) | exact zw_lt3 (by assumption) | exact zw_lt4 (by assumption) | exact zt_lt (by assumption)) (by first | omega | assumption) ?_
                    refine ev_ishl (q := 298) dX8_lie_297 rfl ?_
                    refine ev_goto (t := 302) dX8_lie_298 (by decide) ?_
                    refine ev_ior (q := 303) dX8_lie_302 rfl ?_
                    refine ev_istoreL (q := 305) (L9 := [_, _, _, _, _, _, _, _, _, _, _, _, _]) dX8_lie_303 rfl (by decide) rfl rfl ?_
                    refine ev_iincL (q := 308) (L9 := [_, _, _, _, _, _, _, _, _, _, _, _, _]) (1 : Int32) dX8_lie_305 rfl rfl (by decide) (by decide) rfl rfl ?_
                    refine ev_goto (t := 67) dX8_lie_308 (by decide) ?_
                    have hby : 0 < zmby (zV I) N (nI t) (I 119 15) i := by have q : ¬ nI (zmby (zV I) N (nI t) (I 119 15) i) ≤ nI 0 := h261; rw [nI_leI hbl (by omega)] at q; exact Nat.not_le.mp q
                    have ft : zfre (zV I) N (nI t) (I 119 15) i = true := by unfold zfre; rw [decide_eq_true hby, fim]; rfl
                    rw [nI_1]
                    refine ev_wk (L' := [some (.ref 119), some (.int (nI t)), some (.int m), some (.int lk), some (.int _), some (.int _), some (.int _), some (.int _), some (.int (nI (i + 1))), none, none, none, none]) ⟨rfl, rfl, rfl, rfl, rfl, rfl, rfl, rfl, rfl, trivial⟩ ?_
                    exact ih (i + 1) _ _ _ _ (by omega) (by omega) (by rw [h0, zsu, ← nI_add]; rfl) (by rw [h1, zcn, if_pos ft, nI_1]) (zor_s h2 ft) (by rw [i32_or_0]; exact zor_n h3 fim)
          · refine ev_iconst (q := 118) (1 : Int32) dX8_lie_117 rfl (by decide) ?_
            refine ev_aload_n (q := 119) dX8_lie_118 rfl rfl ?_
            refine ev_getR (q := 122) (ci := 8) (f := 8) dX8_lie_119 rfl (by first | rfl | assumption | exact zf_kd (by assumption) | exact zw_kd (by assumption) | exact zt_kd (by assumption)) (by first | decide | exact zf_lt (by assumption) | exact zf_lt1 (by assumption) | exact zf_lt2 (by assumption) | exact zf_lt3 (by assumption) | exact zf_lt4 (by assumption) | exact zw_lt (by assumption) | exact zw_lt1 (by assumption) | exact zw_lt2 (by assumption) | exact zw_lt3 (by assumption) | exact zw_lt4 (by assumption) | exact zt_lt (by assumption)) (by decide) (by decide) lfRX8_20 rfl (by first | rfl | assumption | exact zf_p4 _ (by assumption) | exact zf_p5 _ (by assumption) | exact zf_p6 _ (by assumption) | exact zf_p7 _ (by assumption) | exact zw_p1 _ (by assumption) | exact zw_p2 _ (by assumption) | exact zw_p3 _ (by assumption) | exact zw_p4 _ (by assumption)) ?_
            refine ev_iload (q := 124) dX8_lie_122 rfl rfl ?_
            refine ev_ialdN (q := 125) dX8_lie_124 rfl (by first | rfl | assumption | exact zf_kd1 (by assumption) | exact zf_kd2 (by assumption) | exact zf_kd3 (by assumption) | exact zf_kd4 (by assumption) | exact zw_kd1 (by assumption) | exact zw_kd2 (by assumption) | exact zw_kd3 (by assumption) | exact zw_kd4 (by assumption)) (by first | decide | exact zf_lt (by assumption) | exact zf_lt1 (by assumption) | exact zf_lt2 (by assumption) | exact zf_lt3 (by assumption) | exact zf_lt4 (by assumption) | exact zw_lt (by assumption) | exact zw_lt1 (by assumption) | exact zw_lt2 (by assumption) | exact zw_lt3 (by assumption) | exact zw_lt4 (by assumption) | exact zt_lt (by assumption)) (by first | omega | assumption) ?_
            refine ev_ishl (q := 126) dX8_lie_125 rfl ?_
            refine ev_goto (t := 130) dX8_lie_126 (by decide) ?_
            refine ev_ior (q := 131) dX8_lie_130 rfl ?_
            refine ev_istoreL (q := 133) (L9 := [_, _, _, _, _, _, _, _, _, _, _, _, _]) dX8_lie_131 rfl (by decide) rfl rfl ?_
            refine ev_iconst (q := 134) (0 : Int32) dX8_lie_133 rfl (by decide) ?_
            refine ev_istoreL (q := 136) (L9 := [_, _, _, _, _, _, _, _, _, _, _, _, _]) dX8_lie_134 rfl (by decide) rfl rfl ?_
            refine ev_iconst (q := 137) (0 : Int32) dX8_lie_136 rfl (by decide) ?_
            refine ev_istoreL (q := 139) (L9 := [_, _, _, _, _, _, _, _, _, _, _, _, _]) dX8_lie_137 rfl (by decide) rfl rfl ?_
            exact absurd rfl h114
        · refine ev_aload_n (q := 93) dX8_lie_92 rfl rfl ?_
          refine ev_getR (q := 96) (ci := 8) (f := 7) dX8_lie_93 rfl (by first | rfl | assumption | exact zf_kd (by assumption) | exact zw_kd (by assumption) | exact zt_kd (by assumption)) (by first | decide | exact zf_lt (by assumption) | exact zf_lt1 (by assumption) | exact zf_lt2 (by assumption) | exact zf_lt3 (by assumption) | exact zf_lt4 (by assumption) | exact zw_lt (by assumption) | exact zw_lt1 (by assumption) | exact zw_lt2 (by assumption) | exact zw_lt3 (by assumption) | exact zw_lt4 (by assumption) | exact zt_lt (by assumption)) (by decide) (by decide) lfRX8_17 rfl (by first | rfl | assumption | exact zf_p4 _ (by assumption) | exact zf_p5 _ (by assumption) | exact zf_p6 _ (by assumption) | exact zf_p7 _ (by assumption) | exact zw_p1 _ (by assumption) | exact zw_p2 _ (by assumption) | exact zw_p3 _ (by assumption) | exact zw_p4 _ (by assumption)) ?_
          refine ev_iload (q := 98) dX8_lie_96 rfl rfl ?_
          refine ev_ialdN (q := 99) dX8_lie_98 rfl (by first | rfl | assumption | exact zf_kd1 (by assumption) | exact zf_kd2 (by assumption) | exact zf_kd3 (by assumption) | exact zf_kd4 (by assumption) | exact zw_kd1 (by assumption) | exact zw_kd2 (by assumption) | exact zw_kd3 (by assumption) | exact zw_kd4 (by assumption)) (by first | decide | exact zf_lt (by assumption) | exact zf_lt1 (by assumption) | exact zf_lt2 (by assumption) | exact zf_lt3 (by assumption) | exact zf_lt4 (by assumption) | exact zw_lt (by assumption) | exact zw_lt1 (by assumption) | exact zw_lt2 (by assumption) | exact zw_lt3 (by assumption) | exact zw_lt4 (by assumption) | exact zt_lt (by assumption)) (by first | omega | assumption) ?_
          refine ev_iload_n (q := 100) dX8_lie_99 rfl rfl ?_
          refine ev_icmp_ne (q := 103) (t := 107) dX8_lie_100 rfl (by decide) (fun h100 => ?_) (fun h100 => ?_)
          · refine ev_iconst (q := 108) (0 : Int32) dX8_lie_107 rfl (by decide) ?_
            refine ev_istoreL (q := 110) (L9 := [_, _, _, _, _, _, _, _, _, _, _, _, _]) dX8_lie_108 rfl (by decide) rfl rfl ?_
            refine ev_iload (q := 112) dX8_lie_110 rfl rfl ?_
            refine ev_iload (q := 114) dX8_lie_112 rfl rfl ?_
            refine ev_if_eq (q := 117) (t := 129) dX8_lie_114 rfl (by decide) (fun h114 => ?_) (fun h114 => ?_)
            · refine ev_iconst (q := 130) (0 : Int32) dX8_lie_129 rfl (by decide) ?_
              refine ev_ior (q := 131) dX8_lie_130 rfl ?_
              refine ev_istoreL (q := 133) (L9 := [_, _, _, _, _, _, _, _, _, _, _, _, _]) dX8_lie_131 rfl (by decide) rfl rfl ?_
              refine ev_iconst (q := 134) (0 : Int32) dX8_lie_133 rfl (by decide) ?_
              refine ev_istoreL (q := 136) (L9 := [_, _, _, _, _, _, _, _, _, _, _, _, _]) dX8_lie_134 rfl (by decide) rfl rfl ?_
              refine ev_iconst (q := 137) (0 : Int32) dX8_lie_136 rfl (by decide) ?_
              refine ev_istoreL (q := 139) (L9 := [_, _, _, _, _, _, _, _, _, _, _, _, _]) dX8_lie_137 rfl (by decide) rfl rfl ?_
              have fim : zism (zV I) N (nI t) (I 119 15) i = false := by unfold zism; rw [show (vH (zV I) i == nI t) = false from beq_eq_false_iff_ne.mpr h100]; exact Bool.and_false _
              refine lp_X8_lie_in G fo I hN8 (show i < 8 by omega) hN ?_
              have hbl : zmby (zV I) N (nI t) (I 119 15) i < 2 ^ 31 := Nat.lt_of_le_of_lt (zcn_le _ _) (by omega)
              refine ev_iload (q := 252) dX8_lie_250 rfl rfl ?_
              refine ev_iload (q := 254) dX8_lie_252 rfl rfl ?_
              refine ev_iadd (q := 255) dX8_lie_254 rfl ?_
              refine ev_istoreL (q := 257) (L9 := [_, _, _, _, _, _, _, _, _, _, _, _, _]) dX8_lie_255 rfl (by decide) rfl rfl ?_
              refine ev_iload (q := 259) dX8_lie_257 rfl rfl ?_
              refine ev_iload (q := 261) dX8_lie_259 rfl rfl ?_
              refine ev_if_le (q := 264) (t := 273) dX8_lie_261 rfl (by decide) (fun h261 => ?_) (fun h261 => ?_)
              · refine ev_iconst (q := 274) (0 : Int32) dX8_lie_273 rfl (by decide) ?_
                refine ev_iadd (q := 275) dX8_lie_274 rfl ?_
                refine ev_istoreL (q := 277) (L9 := [_, _, _, _, _, _, _, _, _, _, _, _, _]) dX8_lie_275 rfl (by decide) rfl rfl ?_
                refine ev_iload (q := 279) dX8_lie_277 rfl rfl ?_
                refine ev_iload (q := 281) dX8_lie_279 rfl rfl ?_
                refine ev_if_le (q := 284) (t := 301) dX8_lie_281 rfl (by decide) (fun h281 => ?_) (fun h281 => ?_)
                · refine ev_iconst (q := 302) (0 : Int32) dX8_lie_301 rfl (by decide) ?_
                  refine ev_ior (q := 303) dX8_lie_302 rfl ?_
                  refine ev_istoreL (q := 305) (L9 := [_, _, _, _, _, _, _, _, _, _, _, _, _]) dX8_lie_303 rfl (by decide) rfl rfl ?_
                  refine ev_iincL (q := 308) (L9 := [_, _, _, _, _, _, _, _, _, _, _, _, _]) (1 : Int32) dX8_lie_305 rfl rfl (by decide) (by decide) rfl rfl ?_
                  refine ev_goto (t := 67) dX8_lie_308 (by decide) ?_
                  have hby : ¬ 0 < zmby (zV I) N (nI t) (I 119 15) i := by have q : nI (zmby (zV I) N (nI t) (I 119 15) i) ≤ nI 0 := h261; rw [nI_leI hbl (by omega)] at q; exact Nat.not_lt.mpr (Nat.le_of_eq (Nat.le_zero.mp q))
                  have ft : zfre (zV I) N (nI t) (I 119 15) i = false := by unfold zfre; rw [decide_eq_false hby]; rfl
                  rw [nI_1]
                  refine ev_wk (L' := [some (.ref 119), some (.int (nI t)), some (.int m), some (.int lk), some (.int _), some (.int _), some (.int _), some (.int _), some (.int (nI (i + 1))), none, none, none, none]) ⟨rfl, rfl, rfl, rfl, rfl, rfl, rfl, rfl, rfl, trivial⟩ ?_
                  exact ih (i + 1) _ _ _ _ (by omega) (by omega) (by rw [h0, zsu, ← nI_add]; rfl) (by rw [h1, zcn, if_neg (by rw [ft]; decide)]; exact Int32.add_zero _) (by rw [i32_or_0]; exact zor_n h2 ft) (by rw [i32_or_0]; exact zor_n h3 fim)
                · refine ev_iload (q := 286) dX8_lie_284 rfl rfl ?_
                  refine ev_if_ne (q := 289) (t := 301) dX8_lie_286 rfl (by decide) (fun h286 => ?_) (fun h286 => ?_)
                  · refine ev_iconst (q := 302) (0 : Int32) dX8_lie_301 rfl (by decide) ?_
                    refine ev_ior (q := 303) dX8_lie_302 rfl ?_
                    refine ev_istoreL (q := 305) (L9 := [_, _, _, _, _, _, _, _, _, _, _, _, _]) dX8_lie_303 rfl (by decide) rfl rfl ?_
                    refine ev_iincL (q := 308) (L9 := [_, _, _, _, _, _, _, _, _, _, _, _, _]) (1 : Int32) dX8_lie_305 rfl rfl (by decide) (by decide) rfl rfl ?_
                    refine ev_goto (t := 67) dX8_lie_308 (by decide) ?_
                    exact absurd h261 h281
                  · refine ev_iconst (q := 290) (1 : Int32) dX8_lie_289 rfl (by decide) ?_
                    refine ev_aload_n (q := 291) dX8_lie_290 rfl rfl ?_
                    refine ev_getR (q := 294) (ci := 8) (f := 8) dX8_lie_291 rfl (by first | rfl | assumption | exact zf_kd (by assumption) | exact zw_kd (by assumption) | exact zt_kd (by assumption)) (by first | decide | exact zf_lt (by assumption) | exact zf_lt1 (by assumption) | exact zf_lt2 (by assumption) | exact zf_lt3 (by assumption) | exact zf_lt4 (by assumption) | exact zw_lt (by assumption) | exact zw_lt1 (by assumption) | exact zw_lt2 (by assumption) | exact zw_lt3 (by assumption) | exact zw_lt4 (by assumption) | exact zt_lt (by assumption)) (by decide) (by decide) lfRX8_20 rfl (by first | rfl | assumption | exact zf_p4 _ (by assumption) | exact zf_p5 _ (by assumption) | exact zf_p6 _ (by assumption) | exact zf_p7 _ (by assumption) | exact zw_p1 _ (by assumption) | exact zw_p2 _ (by assumption) | exact zw_p3 _ (by assumption) | exact zw_p4 _ (by assumption)) ?_
                    refine ev_iload (q := 296) dX8_lie_294 rfl rfl ?_
                    refine ev_ialdN (q := 297) dX8_lie_296 rfl (by first | rfl | assumption | exact zf_kd1 (by assumption) | exact zf_kd2 (by assumption) | exact zf_kd3 (by assumption) | exact zf_kd4 (by assumption) | exact zw_kd1 (by assumption) | exact zw_kd2 (by assumption) | exact zw_kd3 (by assumption) | exact zw_kd4 (by assumption)) (by first | decide | exact zf_lt (by assumption) | exact zf_lt1 (by assumption) | exact zf_lt2 (by assumption) | exact zf_lt3 (by assumption) | exact zf_lt4 (by assumption) | exact zw_lt (by assumption) | exact zw_lt1 (by assumption) | exact zw_lt2 (by assumption) | exact zw_lt3 (by assumption) | exact zw_lt4 (by assumption) | exact zt_lt (by assumption)) (by first | omega | assumption) ?_
                    refine ev_ishl (q := 298) dX8_lie_297 rfl ?_
                    refine ev_goto (t := 302) dX8_lie_298 (by decide) ?_
                    refine ev_ior (q := 303) dX8_lie_302 rfl ?_
                    refine ev_istoreL (q := 305) (L9 := [_, _, _, _, _, _, _, _, _, _, _, _, _]) dX8_lie_303 rfl (by decide) rfl rfl ?_
                    refine ev_iincL (q := 308) (L9 := [_, _, _, _, _, _, _, _, _, _, _, _, _]) (1 : Int32) dX8_lie_305 rfl rfl (by decide) (by decide) rfl rfl ?_
                    refine ev_goto (t := 67) dX8_lie_308 (by decide) ?_
                    exact absurd h261 h281
              · refine ev_iload (q := 266) dX8_lie_264 rfl rfl ?_
                refine ev_if_ne (q := 269) (t := 273) dX8_lie_266 rfl (by decide) (fun h266 => ?_) (fun h266 => ?_)
                · refine ev_iconst (q := 274) (0 : Int32) dX8_lie_273 rfl (by decide) ?_
                  refine ev_iadd (q := 275) dX8_lie_274 rfl ?_
                  refine ev_istoreL (q := 277) (L9 := [_, _, _, _, _, _, _, _, _, _, _, _, _]) dX8_lie_275 rfl (by decide) rfl rfl ?_
                  refine ev_iload (q := 279) dX8_lie_277 rfl rfl ?_
                  refine ev_iload (q := 281) dX8_lie_279 rfl rfl ?_
                  refine ev_if_le (q := 284) (t := 301) dX8_lie_281 rfl (by decide) (fun h281 => ?_) (fun h281 => ?_)
                  · refine ev_iconst (q := 302) (0 : Int32) dX8_lie_301 rfl (by decide) ?_
                    refine ev_ior (q := 303) dX8_lie_302 rfl ?_
                    refine ev_istoreL (q := 305) (L9 := [_, _, _, _, _, _, _, _, _, _, _, _, _]) dX8_lie_303 rfl (by decide) rfl rfl ?_
                    refine ev_iincL (q := 308) (L9 := [_, _, _, _, _, _, _, _, _, _, _, _, _]) (1 : Int32) dX8_lie_305 rfl rfl (by decide) (by decide) rfl rfl ?_
                    refine ev_goto (t := 67) dX8_lie_308 (by decide) ?_
                    exact absurd rfl h266
                  · refine ev_iload (q := 286) dX8_lie_284 rfl rfl ?_
                    refine ev_if_ne (q := 289) (t := 301) dX8_lie_286 rfl (by decide) (fun h286 => ?_) (fun h286 => ?_)
                    · refine ev_iconst (q := 302) (0 : Int32) dX8_lie_301 rfl (by decide) ?_
                      refine ev_ior (q := 303) dX8_lie_302 rfl ?_
                      refine ev_istoreL (q := 305) (L9 := [_, _, _, _, _, _, _, _, _, _, _, _, _]) dX8_lie_303 rfl (by decide) rfl rfl ?_
                      refine ev_iincL (q := 308) (L9 := [_, _, _, _, _, _, _, _, _, _, _, _, _]) (1 : Int32) dX8_lie_305 rfl rfl (by decide) (by decide) rfl rfl ?_
                      refine ev_goto (t := 67) dX8_lie_308 (by decide) ?_
                      exact absurd rfl h266
                    · refine ev_iconst (q := 290) (1 : Int32) dX8_lie_289 rfl (by decide) ?_
                      refine ev_aload_n (q := 291) dX8_lie_290 rfl rfl ?_
                      refine ev_getR (q := 294) (ci := 8) (f := 8) dX8_lie_291 rfl (by first | rfl | assumption | exact zf_kd (by assumption) | exact zw_kd (by assumption) | exact zt_kd (by assumption)) (by first | decide | exact zf_lt (by assumption) | exact zf_lt1 (by assumption) | exact zf_lt2 (by assumption) | exact zf_lt3 (by assumption) | exact zf_lt4 (by assumption) | exact zw_lt (by assumption) | exact zw_lt1 (by assumption) | exact zw_lt2 (by assumption) | exact zw_lt3 (by assumption) | exact zw_lt4 (by assumption) | exact zt_lt (by assumption)) (by decide) (by decide) lfRX8_20 rfl (by first | rfl | assumption | exact zf_p4 _ (by assumption) | exact zf_p5 _ (by assumption) | exact zf_p6 _ (by assumption) | exact zf_p7 _ (by assumption) | exact zw_p1 _ (by assumption) | exact zw_p2 _ (by assumption) | exact zw_p3 _ (by assumption) | exact zw_p4 _ (by assumption)) ?_
                      refine ev_iload (q := 296) dX8_lie_294 rfl rfl ?_
                      refine ev_ialdN (q := 297) dX8_lie_296 rfl (by first | rfl | assumption | exact zf_kd1 (by assumption) | exact zf_kd2 (by assumption) | exact zf_kd3 (by assumption) | exact zf_kd4 (by assumption) | exact zw_kd1 (by assumption) | exact zw_kd2 (by assumption) | exact zw_kd3 (by assumption) | exact zw_kd4 (by assumption)) (by first | decide | exact zf_lt (by assumption) | exact zf_lt1 (by assumption) | exact zf_lt2 (by assumption) | exact zf_lt3 (by assumption) | exact zf_lt4 (by assumption) | exact zw_lt (by assumption) | exact zw_lt1 (by assumption) | exact zw_lt2 (by assumption) | exact zw_lt3 (by assumption) | exact zw_lt4 (by assumption) | exact zt_lt (by assumption)) (by first | omega | assumption) ?_
                      refine ev_ishl (q := 298) dX8_lie_297 rfl ?_
                      refine ev_goto (t := 302) dX8_lie_298 (by decide) ?_
                      refine ev_ior (q := 303) dX8_lie_302 rfl ?_
                      refine ev_istoreL (q := 305) (L9 := [_, _, _, _, _, _, _, _, _, _, _, _, _]) dX8_lie_303 rfl (by decide) rfl rfl ?_
                      refine ev_iincL (q := 308) (L9 := [_, _, _, _, _, _, _, _, _, _, _, _, _]) (1 : Int32) dX8_lie_305 rfl rfl (by decide) (by decide) rfl rfl ?_
                      refine ev_goto (t := 67) dX8_lie_308 (by decide) ?_
                      exact absurd rfl h266
                · refine ev_iconst (q := 270) (1 : Int32) dX8_lie_269 rfl (by decide) ?_
                  refine ev_goto (t := 274) dX8_lie_270 (by decide) ?_
                  refine ev_iadd (q := 275) dX8_lie_274 rfl ?_
                  refine ev_istoreL (q := 277) (L9 := [_, _, _, _, _, _, _, _, _, _, _, _, _]) dX8_lie_275 rfl (by decide) rfl rfl ?_
                  refine ev_iload (q := 279) dX8_lie_277 rfl rfl ?_
                  refine ev_iload (q := 281) dX8_lie_279 rfl rfl ?_
                  refine ev_if_le (q := 284) (t := 301) dX8_lie_281 rfl (by decide) (fun h281 => ?_) (fun h281 => ?_)
                  · refine ev_iconst (q := 302) (0 : Int32) dX8_lie_301 rfl (by decide) ?_
                    refine ev_ior (q := 303) dX8_lie_302 rfl ?_
                    refine ev_istoreL (q := 305) (L9 := [_, _, _, _, _, _, _, _, _, _, _, _, _]) dX8_lie_303 rfl (by decide) rfl rfl ?_
                    refine ev_iincL (q := 308) (L9 := [_, _, _, _, _, _, _, _, _, _, _, _, _]) (1 : Int32) dX8_lie_305 rfl rfl (by decide) (by decide) rfl rfl ?_
                    refine ev_goto (t := 67) dX8_lie_308 (by decide) ?_
                    exact absurd h281 h261
                  · refine ev_iload (q := 286) dX8_lie_284 rfl rfl ?_
                    refine ev_if_ne (q := 289) (t := 301) dX8_lie_286 rfl (by decide) (fun h286 => ?_) (fun h286 => ?_)
                    · refine ev_iconst (q := 302) (0 : Int32) dX8_lie_301 rfl (by decide) ?_
                      refine ev_ior (q := 303) dX8_lie_302 rfl ?_
                      refine ev_istoreL (q := 305) (L9 := [_, _, _, _, _, _, _, _, _, _, _, _, _]) dX8_lie_303 rfl (by decide) rfl rfl ?_
                      refine ev_iincL (q := 308) (L9 := [_, _, _, _, _, _, _, _, _, _, _, _, _]) (1 : Int32) dX8_lie_305 rfl rfl (by decide) (by decide) rfl rfl ?_
                      refine ev_goto (t := 67) dX8_lie_308 (by decide) ?_
                      exact absurd h266 h286
                    · refine ev_iconst (q := 290) (1 : Int32) dX8_lie_289 rfl (by decide) ?_
                      refine ev_aload_n (q := 291) dX8_lie_290 rfl rfl ?_
                      refine ev_getR (q := 294) (ci := 8) (f := 8) dX8_lie_291 rfl (by first | rfl | assumption | exact zf_kd (by assumption) | exact zw_kd (by assumption) | exact zt_kd (by assumption)) (by first | decide | exact zf_lt (by assumption) | exact zf_lt1 (by assumption) | exact zf_lt2 (by assumption) | exact zf_lt3 (by assumption) | exact zf_lt4 (by assumption) | exact zw_lt (by assumption) | exact zw_lt1 (by assumption) | exact zw_lt2 (by assumption) | exact zw_lt3 (by assumption) | exact zw_lt4 (by assumption) | exact zt_lt (by assumption)) (by decide) (by decide) lfRX8_20 rfl (by first | rfl | assumption | exact zf_p4 _ (by assumption) | exact zf_p5 _ (by assumption) | exact zf_p6 _ (by assumption) | exact zf_p7 _ (by assumption) | exact zw_p1 _ (by assumption) | exact zw_p2 _ (by assumption) | exact zw_p3 _ (by assumption) | exact zw_p4 _ (by assumption)) ?_
                      refine ev_iload (q := 296) dX8_lie_294 rfl rfl ?_
                      refine ev_ialdN (q := 297) dX8_lie_296 rfl (by first | rfl | assumption | exact zf_kd1 (by assumption) | exact zf_kd2 (by assumption) | exact zf_kd3 (by assumption) | exact zf_kd4 (by assumption) | exact zw_kd1 (by assumption) | exact zw_kd2 (by assumption) | exact zw_kd3 (by assumption) | exact zw_kd4 (by assumption)) (by first | decide | exact zf_lt (by assumption) | exact zf_lt1 (by assumption) | exact zf_lt2 (by assumption) | exact zf_lt3 (by assumption) | exact zf_lt4 (by assumption) | exact zw_lt (by assumption) | exact zw_lt1 (by assumption) | exact zw_lt2 (by assumption) | exact zw_lt3 (by assumption) | exact zw_lt4 (by assumption) | exact zt_lt (by assumption)) (by first | omega | assumption) ?_
                      refine ev_ishl (q := 298) dX8_lie_297 rfl ?_
                      refine ev_goto (t := 302) dX8_lie_298 (by decide) ?_
                      refine ev_ior (q := 303) dX8_lie_302 rfl ?_
                      refine ev_istoreL (q := 305) (L9 := [_, _, _, _, _, _, _, _, _, _, _, _, _]) dX8_lie_303 rfl (by decide) rfl rfl ?_
                      refine ev_iincL (q := 308) (L9 := [_, _, _, _, _, _, _, _, _, _, _, _, _]) (1 : Int32) dX8_lie_305 rfl rfl (by decide) (by decide) rfl rfl ?_
                      refine ev_goto (t := 67) dX8_lie_308 (by decide) ?_
                      have hby : 0 < zmby (zV I) N (nI t) (I 119 15) i := by have q : ¬ nI (zmby (zV I) N (nI t) (I 119 15) i) ≤ nI 0 := h261; rw [nI_leI hbl (by omega)] at q; exact Nat.not_le.mp q
                      have ft : zfre (zV I) N (nI t) (I 119 15) i = true := by unfold zfre; rw [decide_eq_true hby, fim]; rfl
                      rw [nI_1]
                      refine ev_wk (L' := [some (.ref 119), some (.int (nI t)), some (.int m), some (.int lk), some (.int _), some (.int _), some (.int _), some (.int _), some (.int (nI (i + 1))), none, none, none, none]) ⟨rfl, rfl, rfl, rfl, rfl, rfl, rfl, rfl, rfl, trivial⟩ ?_
                      exact ih (i + 1) _ _ _ _ (by omega) (by omega) (by rw [h0, zsu, ← nI_add]; rfl) (by rw [h1, zcn, if_pos ft, nI_1]) (zor_s h2 ft) (by rw [i32_or_0]; exact zor_n h3 fim)
            · refine ev_iconst (q := 118) (1 : Int32) dX8_lie_117 rfl (by decide) ?_
              refine ev_aload_n (q := 119) dX8_lie_118 rfl rfl ?_
              refine ev_getR (q := 122) (ci := 8) (f := 8) dX8_lie_119 rfl (by first | rfl | assumption | exact zf_kd (by assumption) | exact zw_kd (by assumption) | exact zt_kd (by assumption)) (by first | decide | exact zf_lt (by assumption) | exact zf_lt1 (by assumption) | exact zf_lt2 (by assumption) | exact zf_lt3 (by assumption) | exact zf_lt4 (by assumption) | exact zw_lt (by assumption) | exact zw_lt1 (by assumption) | exact zw_lt2 (by assumption) | exact zw_lt3 (by assumption) | exact zw_lt4 (by assumption) | exact zt_lt (by assumption)) (by decide) (by decide) lfRX8_20 rfl (by first | rfl | assumption | exact zf_p4 _ (by assumption) | exact zf_p5 _ (by assumption) | exact zf_p6 _ (by assumption) | exact zf_p7 _ (by assumption) | exact zw_p1 _ (by assumption) | exact zw_p2 _ (by assumption) | exact zw_p3 _ (by assumption) | exact zw_p4 _ (by assumption)) ?_
              refine ev_iload (q := 124) dX8_lie_122 rfl rfl ?_
              refine ev_ialdN (q := 125) dX8_lie_124 rfl (by first | rfl | assumption | exact zf_kd1 (by assumption) | exact zf_kd2 (by assumption) | exact zf_kd3 (by assumption) | exact zf_kd4 (by assumption) | exact zw_kd1 (by assumption) | exact zw_kd2 (by assumption) | exact zw_kd3 (by assumption) | exact zw_kd4 (by assumption)) (by first | decide | exact zf_lt (by assumption) | exact zf_lt1 (by assumption) | exact zf_lt2 (by assumption) | exact zf_lt3 (by assumption) | exact zf_lt4 (by assumption) | exact zw_lt (by assumption) | exact zw_lt1 (by assumption) | exact zw_lt2 (by assumption) | exact zw_lt3 (by assumption) | exact zw_lt4 (by assumption) | exact zt_lt (by assumption)) (by first | omega | assumption) ?_
              refine ev_ishl (q := 126) dX8_lie_125 rfl ?_
              refine ev_goto (t := 130) dX8_lie_126 (by decide) ?_
              refine ev_ior (q := 131) dX8_lie_130 rfl ?_
              refine ev_istoreL (q := 133) (L9 := [_, _, _, _, _, _, _, _, _, _, _, _, _]) dX8_lie_131 rfl (by decide) rfl rfl ?_
              refine ev_iconst (q := 134) (0 : Int32) dX8_lie_133 rfl (by decide) ?_
              refine ev_istoreL (q := 136) (L9 := [_, _, _, _, _, _, _, _, _, _, _, _, _]) dX8_lie_134 rfl (by decide) rfl rfl ?_
              refine ev_iconst (q := 137) (0 : Int32) dX8_lie_136 rfl (by decide) ?_
              refine ev_istoreL (q := 139) (L9 := [_, _, _, _, _, _, _, _, _, _, _, _, _]) dX8_lie_137 rfl (by decide) rfl rfl ?_
              exact absurd rfl h114
          · refine ev_iconst (q := 104) (1 : Int32) dX8_lie_103 rfl (by decide) ?_
            refine ev_goto (t := 108) dX8_lie_104 (by decide) ?_
            refine ev_istoreL (q := 110) (L9 := [_, _, _, _, _, _, _, _, _, _, _, _, _]) dX8_lie_108 rfl (by decide) rfl rfl ?_
            refine ev_iload (q := 112) dX8_lie_110 rfl rfl ?_
            refine ev_iload (q := 114) dX8_lie_112 rfl rfl ?_
            refine ev_if_eq (q := 117) (t := 129) dX8_lie_114 rfl (by decide) (fun h114 => ?_) (fun h114 => ?_)
            · refine ev_iconst (q := 130) (0 : Int32) dX8_lie_129 rfl (by decide) ?_
              refine ev_ior (q := 131) dX8_lie_130 rfl ?_
              refine ev_istoreL (q := 133) (L9 := [_, _, _, _, _, _, _, _, _, _, _, _, _]) dX8_lie_131 rfl (by decide) rfl rfl ?_
              refine ev_iconst (q := 134) (0 : Int32) dX8_lie_133 rfl (by decide) ?_
              refine ev_istoreL (q := 136) (L9 := [_, _, _, _, _, _, _, _, _, _, _, _, _]) dX8_lie_134 rfl (by decide) rfl rfl ?_
              refine ev_iconst (q := 137) (0 : Int32) dX8_lie_136 rfl (by decide) ?_
              refine ev_istoreL (q := 139) (L9 := [_, _, _, _, _, _, _, _, _, _, _, _, _]) dX8_lie_137 rfl (by decide) rfl rfl ?_
              exact absurd h114 (by decide)
            · refine ev_iconst (q := 118) (1 : Int32) dX8_lie_117 rfl (by decide) ?_
              refine ev_aload_n (q := 119) dX8_lie_118 rfl rfl ?_
              refine ev_getR (q := 122) (ci := 8) (f := 8) dX8_lie_119 rfl (by first | rfl | assumption | exact zf_kd (by assumption) | exact zw_kd (by assumption) | exact zt_kd (by assumption)) (by first | decide | exact zf_lt (by assumption) | exact zf_lt1 (by assumption) | exact zf_lt2 (by assumption) | exact zf_lt3 (by assumption) | exact zf_lt4 (by assumption) | exact zw_lt (by assumption) | exact zw_lt1 (by assumption) | exact zw_lt2 (by assumption) | exact zw_lt3 (by assumption) | exact zw_lt4 (by assumption) | exact zt_lt (by assumption)) (by decide) (by decide) lfRX8_20 rfl (by first | rfl | assumption | exact zf_p4 _ (by assumption) | exact zf_p5 _ (by assumption) | exact zf_p6 _ (by assumption) | exact zf_p7 _ (by assumption) | exact zw_p1 _ (by assumption) | exact zw_p2 _ (by assumption) | exact zw_p3 _ (by assumption) | exact zw_p4 _ (by assumption)) ?_
              refine ev_iload (q := 124) dX8_lie_122 rfl rfl ?_
              refine ev_ialdN (q := 125) dX8_lie_124 rfl (by first | rfl | assumption | exact zf_kd1 (by assumption) | exact zf_kd2 (by assumption) | exact zf_kd3 (by assumption) | exact zf_kd4 (by assumption) | exact zw_kd1 (by assumption) | exact zw_kd2 (by assumption) | exact zw_kd3 (by assumption) | exact zw_kd4 (by assumption)) (by first | decide | exact zf_lt (by assumption) | exact zf_lt1 (by assumption) | exact zf_lt2 (by assumption) | exact zf_lt3 (by assumption) | exact zf_lt4 (by assumption) | exact zw_lt (by assumption) | exact zw_lt1 (by assumption) | exact zw_lt2 (by assumption) | exact zw_lt3 (by assumption) | exact zw_lt4 (by assumption) | exact zt_lt (by assumption)) (by first | omega | assumption) ?_
              refine ev_ishl (q := 126) dX8_lie_125 rfl ?_
              refine ev_goto (t := 130) dX8_lie_126 (by decide) ?_
              refine ev_ior (q := 131) dX8_lie_130 rfl ?_
              refine ev_istoreL (q := 133) (L9 := [_, _, _, _, _, _, _, _, _, _, _, _, _]) dX8_lie_131 rfl (by decide) rfl rfl ?_
              refine ev_iconst (q := 134) (0 : Int32) dX8_lie_133 rfl (by decide) ?_
              refine ev_istoreL (q := 136) (L9 := [_, _, _, _, _, _, _, _, _, _, _, _, _]) dX8_lie_134 rfl (by decide) rfl rfl ?_
              refine ev_iconst (q := 137) (0 : Int32) dX8_lie_136 rfl (by decide) ?_
              refine ev_istoreL (q := 139) (L9 := [_, _, _, _, _, _, _, _, _, _, _, _, _]) dX8_lie_137 rfl (by decide) rfl rfl ?_
              have fim : zism (zV I) N (nI t) (I 119 15) i = true := by unfold zism; rw [zb_ne h89, show (vH (zV I) i == nI t) = true from beq_iff_eq.mpr h100]; rfl
              refine lp_X8_lie_in G fo I hN8 (show i < 8 by omega) hN ?_
              have hbl : zmby (zV I) N (nI t) (I 119 15) i < 2 ^ 31 := Nat.lt_of_le_of_lt (zcn_le _ _) (by omega)
              refine ev_iload (q := 252) dX8_lie_250 rfl rfl ?_
              refine ev_iload (q := 254) dX8_lie_252 rfl rfl ?_
              refine ev_iadd (q := 255) dX8_lie_254 rfl ?_
              refine ev_istoreL (q := 257) (L9 := [_, _, _, _, _, _, _, _, _, _, _, _, _]) dX8_lie_255 rfl (by decide) rfl rfl ?_
              refine ev_iload (q := 259) dX8_lie_257 rfl rfl ?_
              refine ev_iload (q := 261) dX8_lie_259 rfl rfl ?_
              refine ev_if_le (q := 264) (t := 273) dX8_lie_261 rfl (by decide) (fun h261 => ?_) (fun h261 => ?_)
              · refine ev_iconst (q := 274) (0 : Int32) dX8_lie_273 rfl (by decide) ?_
                refine ev_iadd (q := 275) dX8_lie_274 rfl ?_
                refine ev_istoreL (q := 277) (L9 := [_, _, _, _, _, _, _, _, _, _, _, _, _]) dX8_lie_275 rfl (by decide) rfl rfl ?_
                refine ev_iload (q := 279) dX8_lie_277 rfl rfl ?_
                refine ev_iload (q := 281) dX8_lie_279 rfl rfl ?_
                refine ev_if_le (q := 284) (t := 301) dX8_lie_281 rfl (by decide) (fun h281 => ?_) (fun h281 => ?_)
                · refine ev_iconst (q := 302) (0 : Int32) dX8_lie_301 rfl (by decide) ?_
                  refine ev_ior (q := 303) dX8_lie_302 rfl ?_
                  refine ev_istoreL (q := 305) (L9 := [_, _, _, _, _, _, _, _, _, _, _, _, _]) dX8_lie_303 rfl (by decide) rfl rfl ?_
                  refine ev_iincL (q := 308) (L9 := [_, _, _, _, _, _, _, _, _, _, _, _, _]) (1 : Int32) dX8_lie_305 rfl rfl (by decide) (by decide) rfl rfl ?_
                  refine ev_goto (t := 67) dX8_lie_308 (by decide) ?_
                  have hby : ¬ 0 < zmby (zV I) N (nI t) (I 119 15) i := by have q : nI (zmby (zV I) N (nI t) (I 119 15) i) ≤ nI 0 := h261; rw [nI_leI hbl (by omega)] at q; exact Nat.not_lt.mpr (Nat.le_of_eq (Nat.le_zero.mp q))
                  have ft : zfre (zV I) N (nI t) (I 119 15) i = false := by unfold zfre; rw [decide_eq_false hby]; rfl
                  rw [nI_1]
                  refine ev_wk (L' := [some (.ref 119), some (.int (nI t)), some (.int m), some (.int lk), some (.int _), some (.int _), some (.int _), some (.int _), some (.int (nI (i + 1))), none, none, none, none]) ⟨rfl, rfl, rfl, rfl, rfl, rfl, rfl, rfl, rfl, trivial⟩ ?_
                  exact ih (i + 1) _ _ _ _ (by omega) (by omega) (by rw [h0, zsu, ← nI_add]; rfl) (by rw [h1, zcn, if_neg (by rw [ft]; decide)]; exact Int32.add_zero _) (by rw [i32_or_0]; exact zor_n h2 ft) (zor_s h3 fim)
                · refine ev_iload (q := 286) dX8_lie_284 rfl rfl ?_
                  refine ev_if_ne (q := 289) (t := 301) dX8_lie_286 rfl (by decide) (fun h286 => ?_) (fun h286 => ?_)
                  · refine ev_iconst (q := 302) (0 : Int32) dX8_lie_301 rfl (by decide) ?_
                    refine ev_ior (q := 303) dX8_lie_302 rfl ?_
                    refine ev_istoreL (q := 305) (L9 := [_, _, _, _, _, _, _, _, _, _, _, _, _]) dX8_lie_303 rfl (by decide) rfl rfl ?_
                    refine ev_iincL (q := 308) (L9 := [_, _, _, _, _, _, _, _, _, _, _, _, _]) (1 : Int32) dX8_lie_305 rfl rfl (by decide) (by decide) rfl rfl ?_
                    refine ev_goto (t := 67) dX8_lie_308 (by decide) ?_
                    exact absurd h261 h281
                  · refine ev_iconst (q := 290) (1 : Int32) dX8_lie_289 rfl (by decide) ?_
                    refine ev_aload_n (q := 291) dX8_lie_290 rfl rfl ?_
                    refine ev_getR (q := 294) (ci := 8) (f := 8) dX8_lie_291 rfl (by first | rfl | assumption | exact zf_kd (by assumption) | exact zw_kd (by assumption) | exact zt_kd (by assumption)) (by first | decide | exact zf_lt (by assumption) | exact zf_lt1 (by assumption) | exact zf_lt2 (by assumption) | exact zf_lt3 (by assumption) | exact zf_lt4 (by assumption) | exact zw_lt (by assumption) | exact zw_lt1 (by assumption) | exact zw_lt2 (by assumption) | exact zw_lt3 (by assumption) | exact zw_lt4 (by assumption) | exact zt_lt (by assumption)) (by decide) (by decide) lfRX8_20 rfl (by first | rfl | assumption | exact zf_p4 _ (by assumption) | exact zf_p5 _ (by assumption) | exact zf_p6 _ (by assumption) | exact zf_p7 _ (by assumption) | exact zw_p1 _ (by assumption) | exact zw_p2 _ (by assumption) | exact zw_p3 _ (by assumption) | exact zw_p4 _ (by assumption)) ?_
                    refine ev_iload (q := 296) dX8_lie_294 rfl rfl ?_
                    refine ev_ialdN (q := 297) dX8_lie_296 rfl (by first | rfl | assumption | exact zf_kd1 (by assumption) | exact zf_kd2 (by assumption) | exact zf_kd3 (by assumption) | exact zf_kd4 (by assumption) | exact zw_kd1 (by assumption) | exact zw_kd2 (by assumption) | exact zw_kd3 (by assumption) | exact zw_kd4 (by assumption)) (by first | decide | exact zf_lt (by assumption) | exact zf_lt1 (by assumption) | exact zf_lt2 (by assumption) | exact zf_lt3 (by assumption) | exact zf_lt4 (by assumption) | exact zw_lt (by assumption) | exact zw_lt1 (by assumption) | exact zw_lt2 (by assumption) | exact zw_lt3 (by assumption) | exact zw_lt4 (by assumption) | exact zt_lt (by assumption)) (by first | omega | assumption) ?_
                    refine ev_ishl (q := 298) dX8_lie_297 rfl ?_
                    refine ev_goto (t := 302) dX8_lie_298 (by decide) ?_
                    refine ev_ior (q := 303) dX8_lie_302 rfl ?_
                    refine ev_istoreL (q := 305) (L9 := [_, _, _, _, _, _, _, _, _, _, _, _, _]) dX8_lie_303 rfl (by decide) rfl rfl ?_
                    refine ev_iincL (q := 308) (L9 := [_, _, _, _, _, _, _, _, _, _, _, _, _]) (1 : Int32) dX8_lie_305 rfl rfl (by decide) (by decide) rfl rfl ?_
                    refine ev_goto (t := 67) dX8_lie_308 (by decide) ?_
                    exact absurd h261 h281
              · refine ev_iload (q := 266) dX8_lie_264 rfl rfl ?_
                refine ev_if_ne (q := 269) (t := 273) dX8_lie_266 rfl (by decide) (fun h266 => ?_) (fun h266 => ?_)
                · refine ev_iconst (q := 274) (0 : Int32) dX8_lie_273 rfl (by decide) ?_
                  refine ev_iadd (q := 275) dX8_lie_274 rfl ?_
                  refine ev_istoreL (q := 277) (L9 := [_, _, _, _, _, _, _, _, _, _, _, _, _]) dX8_lie_275 rfl (by decide) rfl rfl ?_
                  refine ev_iload (q := 279) dX8_lie_277 rfl rfl ?_
                  refine ev_iload (q := 281) dX8_lie_279 rfl rfl ?_
                  refine ev_if_le (q := 284) (t := 301) dX8_lie_281 rfl (by decide) (fun h281 => ?_) (fun h281 => ?_)
                  · refine ev_iconst (q := 302) (0 : Int32) dX8_lie_301 rfl (by decide) ?_
                    refine ev_ior (q := 303) dX8_lie_302 rfl ?_
                    refine ev_istoreL (q := 305) (L9 := [_, _, _, _, _, _, _, _, _, _, _, _, _]) dX8_lie_303 rfl (by decide) rfl rfl ?_
                    refine ev_iincL (q := 308) (L9 := [_, _, _, _, _, _, _, _, _, _, _, _, _]) (1 : Int32) dX8_lie_305 rfl rfl (by decide) (by decide) rfl rfl ?_
                    refine ev_goto (t := 67) dX8_lie_308 (by decide) ?_
                    exact absurd h281 h261
                  · refine ev_iload (q := 286) dX8_lie_284 rfl rfl ?_
                    refine ev_if_ne (q := 289) (t := 301) dX8_lie_286 rfl (by decide) (fun h286 => ?_) (fun h286 => ?_)
                    · refine ev_iconst (q := 302) (0 : Int32) dX8_lie_301 rfl (by decide) ?_
                      refine ev_ior (q := 303) dX8_lie_302 rfl ?_
                      refine ev_istoreL (q := 305) (L9 := [_, _, _, _, _, _, _, _, _, _, _, _, _]) dX8_lie_303 rfl (by decide) rfl rfl ?_
                      refine ev_iincL (q := 308) (L9 := [_, _, _, _, _, _, _, _, _, _, _, _, _]) (1 : Int32) dX8_lie_305 rfl rfl (by decide) (by decide) rfl rfl ?_
                      refine ev_goto (t := 67) dX8_lie_308 (by decide) ?_
                      have hby : 0 < zmby (zV I) N (nI t) (I 119 15) i := by have q : ¬ nI (zmby (zV I) N (nI t) (I 119 15) i) ≤ nI 0 := h261; rw [nI_leI hbl (by omega)] at q; exact Nat.not_le.mp q
                      have ft : zfre (zV I) N (nI t) (I 119 15) i = false := by unfold zfre; rw [fim]; exact Bool.and_false _
                      rw [nI_1]
                      refine ev_wk (L' := [some (.ref 119), some (.int (nI t)), some (.int m), some (.int lk), some (.int _), some (.int _), some (.int _), some (.int _), some (.int (nI (i + 1))), none, none, none, none]) ⟨rfl, rfl, rfl, rfl, rfl, rfl, rfl, rfl, rfl, trivial⟩ ?_
                      exact ih (i + 1) _ _ _ _ (by omega) (by omega) (by rw [h0, zsu, ← nI_add]; rfl) (by rw [h1, zcn, if_neg (by rw [ft]; decide)]; exact Int32.add_zero _) (by rw [i32_or_0]; exact zor_n h2 ft) (zor_s h3 fim)
                    · refine ev_iconst (q := 290) (1 : Int32) dX8_lie_289 rfl (by decide) ?_
                      refine ev_aload_n (q := 291) dX8_lie_290 rfl rfl ?_
                      refine ev_getR (q := 294) (ci := 8) (f := 8) dX8_lie_291 rfl (by first | rfl | assumption | exact zf_kd (by assumption) | exact zw_kd (by assumption) | exact zt_kd (by assumption)) (by first | decide | exact zf_lt (by assumption) | exact zf_lt1 (by assumption) | exact zf_lt2 (by assumption) | exact zf_lt3 (by assumption) | exact zf_lt4 (by assumption) | exact zw_lt (by assumption) | exact zw_lt1 (by assumption) | exact zw_lt2 (by assumption) | exact zw_lt3 (by assumption) | exact zw_lt4 (by assumption) | exact zt_lt (by assumption)) (by decide) (by decide) lfRX8_20 rfl (by first | rfl | assumption | exact zf_p4 _ (by assumption) | exact zf_p5 _ (by assumption) | exact zf_p6 _ (by assumption) | exact zf_p7 _ (by assumption) | exact zw_p1 _ (by assumption) | exact zw_p2 _ (by assumption) | exact zw_p3 _ (by assumption) | exact zw_p4 _ (by assumption)) ?_
                      refine ev_iload (q := 296) dX8_lie_294 rfl rfl ?_
                      refine ev_ialdN (q := 297) dX8_lie_296 rfl (by first | rfl | assumption | exact zf_kd1 (by assumption) | exact zf_kd2 (by assumption) | exact zf_kd3 (by assumption) | exact zf_kd4 (by assumption) | exact zw_kd1 (by assumption) | exact zw_kd2 (by assumption) | exact zw_kd3 (by assumption) | exact zw_kd4 (by assumption)) (by first | decide | exact zf_lt (by assumption) | exact zf_lt1 (by assumption) | exact zf_lt2 (by assumption) | exact zf_lt3 (by assumption) | exact zf_lt4 (by assumption) | exact zw_lt (by assumption) | exact zw_lt1 (by assumption) | exact zw_lt2 (by assumption) | exact zw_lt3 (by assumption) | exact zw_lt4 (by assumption) | exact zt_lt (by assumption)) (by first | omega | assumption) ?_
                      refine ev_ishl (q := 298) dX8_lie_297 rfl ?_
                      refine ev_goto (t := 302) dX8_lie_298 (by decide) ?_
                      refine ev_ior (q := 303) dX8_lie_302 rfl ?_
                      refine ev_istoreL (q := 305) (L9 := [_, _, _, _, _, _, _, _, _, _, _, _, _]) dX8_lie_303 rfl (by decide) rfl rfl ?_
                      refine ev_iincL (q := 308) (L9 := [_, _, _, _, _, _, _, _, _, _, _, _, _]) (1 : Int32) dX8_lie_305 rfl rfl (by decide) (by decide) rfl rfl ?_
                      refine ev_goto (t := 67) dX8_lie_308 (by decide) ?_
                      exact absurd h286 h266
                · refine ev_iconst (q := 270) (1 : Int32) dX8_lie_269 rfl (by decide) ?_
                  refine ev_goto (t := 274) dX8_lie_270 (by decide) ?_
                  refine ev_iadd (q := 275) dX8_lie_274 rfl ?_
                  refine ev_istoreL (q := 277) (L9 := [_, _, _, _, _, _, _, _, _, _, _, _, _]) dX8_lie_275 rfl (by decide) rfl rfl ?_
                  refine ev_iload (q := 279) dX8_lie_277 rfl rfl ?_
                  refine ev_iload (q := 281) dX8_lie_279 rfl rfl ?_
                  refine ev_if_le (q := 284) (t := 301) dX8_lie_281 rfl (by decide) (fun h281 => ?_) (fun h281 => ?_)
                  · refine ev_iconst (q := 302) (0 : Int32) dX8_lie_301 rfl (by decide) ?_
                    refine ev_ior (q := 303) dX8_lie_302 rfl ?_
                    refine ev_istoreL (q := 305) (L9 := [_, _, _, _, _, _, _, _, _, _, _, _, _]) dX8_lie_303 rfl (by decide) rfl rfl ?_
                    refine ev_iincL (q := 308) (L9 := [_, _, _, _, _, _, _, _, _, _, _, _, _]) (1 : Int32) dX8_lie_305 rfl rfl (by decide) (by decide) rfl rfl ?_
                    refine ev_goto (t := 67) dX8_lie_308 (by decide) ?_
                    exact absurd h266 (by decide)
                  · refine ev_iload (q := 286) dX8_lie_284 rfl rfl ?_
                    refine ev_if_ne (q := 289) (t := 301) dX8_lie_286 rfl (by decide) (fun h286 => ?_) (fun h286 => ?_)
                    · refine ev_iconst (q := 302) (0 : Int32) dX8_lie_301 rfl (by decide) ?_
                      refine ev_ior (q := 303) dX8_lie_302 rfl ?_
                      refine ev_istoreL (q := 305) (L9 := [_, _, _, _, _, _, _, _, _, _, _, _, _]) dX8_lie_303 rfl (by decide) rfl rfl ?_
                      refine ev_iincL (q := 308) (L9 := [_, _, _, _, _, _, _, _, _, _, _, _, _]) (1 : Int32) dX8_lie_305 rfl rfl (by decide) (by decide) rfl rfl ?_
                      refine ev_goto (t := 67) dX8_lie_308 (by decide) ?_
                      exact absurd h266 (by decide)
                    · refine ev_iconst (q := 290) (1 : Int32) dX8_lie_289 rfl (by decide) ?_
                      refine ev_aload_n (q := 291) dX8_lie_290 rfl rfl ?_
                      refine ev_getR (q := 294) (ci := 8) (f := 8) dX8_lie_291 rfl (by first | rfl | assumption | exact zf_kd (by assumption) | exact zw_kd (by assumption) | exact zt_kd (by assumption)) (by first | decide | exact zf_lt (by assumption) | exact zf_lt1 (by assumption) | exact zf_lt2 (by assumption) | exact zf_lt3 (by assumption) | exact zf_lt4 (by assumption) | exact zw_lt (by assumption) | exact zw_lt1 (by assumption) | exact zw_lt2 (by assumption) | exact zw_lt3 (by assumption) | exact zw_lt4 (by assumption) | exact zt_lt (by assumption)) (by decide) (by decide) lfRX8_20 rfl (by first | rfl | assumption | exact zf_p4 _ (by assumption) | exact zf_p5 _ (by assumption) | exact zf_p6 _ (by assumption) | exact zf_p7 _ (by assumption) | exact zw_p1 _ (by assumption) | exact zw_p2 _ (by assumption) | exact zw_p3 _ (by assumption) | exact zw_p4 _ (by assumption)) ?_
                      refine ev_iload (q := 296) dX8_lie_294 rfl rfl ?_
                      refine ev_ialdN (q := 297) dX8_lie_296 rfl (by first | rfl | assumption | exact zf_kd1 (by assumption) | exact zf_kd2 (by assumption) | exact zf_kd3 (by assumption) | exact zf_kd4 (by assumption) | exact zw_kd1 (by assumption) | exact zw_kd2 (by assumption) | exact zw_kd3 (by assumption) | exact zw_kd4 (by assumption)) (by first | decide | exact zf_lt (by assumption) | exact zf_lt1 (by assumption) | exact zf_lt2 (by assumption) | exact zf_lt3 (by assumption) | exact zf_lt4 (by assumption) | exact zw_lt (by assumption) | exact zw_lt1 (by assumption) | exact zw_lt2 (by assumption) | exact zw_lt3 (by assumption) | exact zw_lt4 (by assumption) | exact zt_lt (by assumption)) (by first | omega | assumption) ?_
                      refine ev_ishl (q := 298) dX8_lie_297 rfl ?_
                      refine ev_goto (t := 302) dX8_lie_298 (by decide) ?_
                      refine ev_ior (q := 303) dX8_lie_302 rfl ?_
                      refine ev_istoreL (q := 305) (L9 := [_, _, _, _, _, _, _, _, _, _, _, _, _]) dX8_lie_303 rfl (by decide) rfl rfl ?_
                      refine ev_iincL (q := 308) (L9 := [_, _, _, _, _, _, _, _, _, _, _, _, _]) (1 : Int32) dX8_lie_305 rfl rfl (by decide) (by decide) rfl rfl ?_
                      refine ev_goto (t := 67) dX8_lie_308 (by decide) ?_
                      exact absurd h266 (by decide)
  exact lp67 (N + 1) 0 _ _ _ _ (by omega) (by omega) rfl rfl rfl rfl
