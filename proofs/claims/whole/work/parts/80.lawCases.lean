abbrev mL_law : zq_M := (yL_law, cL_law, 4, some .boolean)
section XS
variable {B : Nat} {fo : Bool} {N T Y fs cn len : Nat} {I I1 : zq_I}
theorem m_write {x : Int32} {v : Int64} {v1 : Option Value} (h : zR6 B fo N T Y fs cn len I) (h1 : (z18 x = false → v1 = some (.int (-2)) ∧ I1 = I) ∧ ∀ m, 1 ≤ m → m ≤ 8 → x = nI m → (80 < len + m → v1 = some (.int (-4)) ∧ I1 = I) ∧ (len + m ≤ 80 → v1 = some (.int (nI (len + m))) ∧ zwrC len m v I I1)) : I1 119 2 = nI len := by
  have e : I1 119 = I 119 := by
    cases hz : z18 x with
    | false => rw [(h1.1 hz).2]
    | true =>
      have q := hz
      unfold z18 at q
      simp only [Bool.and_eq_true, Bool.not_eq_true', decide_eq_true_eq, decide_eq_false_iff_not] at q
      obtain ⟨m, hm1, hm8, e⟩ := z18_t q.1 q.2
      obtain ⟨g1, g2⟩ := h1.2 m hm1 hm8 e
      rcases Nat.lt_or_ge 80 (len + m) with hf | hf
      · rw [(g1 hf).2]
      · exact (g2 hf).2.1 119 (by omega) (by omega)
  rw [e]
  exact h.2.2.2.1.2.2.1
theorem m_wipe (h : zR6 B fo N T Y fs cn len I) : zS fo N T Y (zu I 1 1 0) := by
  have hF : zF fo = 109 ∨ zF fo = 114 := zF_is fo
  exact h.1.of (fun j hj => zu_other (by omega)) (fun c a1 a2 => zu_other (by omega)) (fun c a1 a2 => zu_other (by omega)) (by rw [zu_other (by omega)]) (by rw [zu_other (by omega)]) (by rw [zu_other (by omega)]) (by rw [zu_other (by omega)])
theorem m_law {x : Int32} {v1 : Option Value} (h : zR6 B fo N T Y fs cn len I) (h1 : (zin x 3 = false → v1 = some (.int (-2)) ∧ I1 = I) ∧ (zin x 3 = true → v1 = some (.int (I (zF fo) 0)) ∧ I1 = zu I (zF fo) 0 x)) : zSm N T I1 := by
  have hF : zF fo = 109 ∨ zF fo = 114 := zF_is fo
  refine (zact_m h (fun c hc => ?_)).1
  cases hz : zin x 3 with
  | false => rw [(h1.1 hz).2]
  | true => rw [(h1.2 hz).2, zu_other (by omega)]
theorem x_die {x : Int32} (h1 : (zDiB (zV I) N x = false → I1 = I) ∧ (zDiB (zV I) N x = true → ∃ Ic, zrem I Ic fs cn ∧ I1 = zu Ic 94 x.toNatClampNeg (I 119 15))) : zu I1 119 0 0 119 15 = I 119 15 := by
  rw [zu_ne (by omega)]
  cases hb : zDiB (zV I) N x with
  | false => rw [h1.1 hb]
  | true =>
    obtain ⟨Ic, hr, rfl⟩ := h1.2 hb
    rw [zu_other (by omega), zrem_h hr 119 (by omega)]
theorem s_lie {m : Int32} (h : zFC fo I I1) : (fun t => zLie I1 N m t) = fun t => zLie I N m t := by
  obtain ⟨e1, e2, e3⟩ := h.facts
  funext t
  exact zLie_cg e1 (by rw [e2]) (by rw [e2]) e3
theorem s_leave {m : Int32} (h : zFC fo I I1) : (fun t => zLeave I1 N m t) = fun t => zLeave I N m t := by
  obtain ⟨e1, e2, e3⟩ := h.facts
  funext t
  exact zLeave_cg e1 (by rw [e2]) (by rw [e2]) e3
theorem zpuM.cen {s : zpS} {b : Nat → Nat} {n : Nat} (hb : zpuM I b n) (h : zcenC fo I I1 s) : zpuM I1 b n := by
  have hD : zD fo = 109 ∨ zD fo = 114 := zD_is fo
  have e1 := h.2.2.2.2.2.2.2 119 (by omega) (by omega) (by omega) (by omega) (by omega)
  have e2 := h.2.2.2.2.2.2.2 120 (by omega) (by omega) (by omega) (by omega) (by omega)
  exact ⟨hb.1, by rw [e1]; exact hb.2.1, by rw [e2]; exact hb.2.2⟩
end XS
set_option maxHeartbeats 4000000 in
set_option maxRecDepth 100000 in
theorem law_0 (G : zq_G) (fo : Bool) (I : zq_I) {B i N T Y fs cn len : Nat} {R : zq_R} (h : zR6 B fo N T Y fs cn len I) (hB : B < 600) (hi : i + 5 ≤ G.2.2.2.2.1) (hL : G.2.2.2.2.1 ≤ 2560) (K : ∀ (fo2 : Bool) (I2 : zq_I), zREL (B + 1) fo2 I2 → zq_E G mL_law 30 0 0 true 799 [some (.ref zq_sc), some (.ref 0), some (.ref 119), some (.int (nI i))] [] 138 I2 (zPs fo2) R) : zq_E G mL_law 30 0 0 true 136 [some (.ref zq_sc), some (.ref 0), some (.ref 119), some (.int (nI i))] [] 138 I (zPs fo) R := by
  have hin : ∀ j, j < i + 5 → vp_in (nI j) G.2.2.2.2.1 := fun j hj => vp_in_nI (by omega) (by omega)
  refine ev_aload_n (q := 137) dL_law_136 rfl rfl ?_
  refine ev_aload_n (q := 138) dL_law_137 rfl rfl ?_
  refine ev_iload_n (q := 139) dL_law_138 rfl rfl ?_
  refine ev_iconst (q := 140) (nI 1 : Int32) dL_law_139 rfl (by decide) ?_
  refine ev_iadd (q := 141) dL_law_140 rfl ?_
  rw [nI_add]
  refine ev_sald (q := 142) dL_law_141 rfl rfl (hin _ (by omega)) ?_
  refine ev_aload_n (q := 143) dL_law_142 rfl rfl ?_
  refine ev_iload_n (q := 144) dL_law_143 rfl rfl ?_
  refine ev_iconst (q := 145) (nI 2 : Int32) dL_law_144 rfl (by decide) ?_
  refine ev_iadd (q := 146) dL_law_145 rfl ?_
  rw [nI_add]
  refine ev_sald (q := 147) dL_law_146 rfl rfl (hin _ (by omega)) ?_
  refine ev_i2l (q := 148) dL_law_147 rfl ?_
  refine ev_bipush (q := 150) (32 : Int32) dL_law_148 rfl (by decide) ?_
  refine ev_lshl (q := 151) dL_law_150 rfl ?_
  refine ev_aload_n (q := 152) dL_law_151 rfl rfl ?_
  refine ev_iload_n (q := 153) dL_law_152 rfl rfl ?_
  refine ev_iconst (q := 154) (nI 3 : Int32) dL_law_153 rfl (by decide) ?_
  refine ev_iadd (q := 155) dL_law_154 rfl ?_
  rw [nI_add]
  refine ev_sald (q := 156) dL_law_155 rfl rfl (hin _ (by omega)) ?_
  refine ev_i2l (q := 157) dL_law_156 rfl ?_
  refine ev_ldc2 (q := 160) dL_law_157 rfl ctRL_13 ?_
  refine ev_land (q := 161) dL_law_160 rfl ?_
  refine ev_lor (q := 162) dL_law_161 rfl ?_
  refine ev_cV (q := 165) (ci := 7) dL_law_162 rfl okX7_write lmRL_15 imX7_write seX7_write (by first | rfl | assumption | exact zf_kd (by assumption) | exact zw_kd (by assumption) | exact zt_kd (by assumption)) (by first | decide | exact zf_lt (by assumption) | exact zf_lt1 (by assumption) | exact zf_lt2 (by assumption) | exact zf_lt3 (by assumption) | exact zf_lt4 (by assumption) | exact zw_lt (by assumption) | exact zw_lt1 (by assumption) | exact zw_lt2 (by assumption) | exact zw_lt3 (by assumption) | exact zw_lt4 (by assumption) | exact zt_lt (by assumption)) (by decide) rfl (c_X7_write G fo I h.2.2.2.1.1 h.2.2.2.1.2.1 _ _) (by decide) rfl rfl (Nat.le_of_ble_eq_true rfl) (fun v162 n162 I162 P162 hR162 => ?_)
  obtain ⟨rfl, rfl, hw1⟩ := hR162
  obtain ⟨a1, rfl⟩ := v_write (B' := True) hw1
  refine ev_aload_n (q := 166) dL_law_165 rfl rfl ?_
  refine ev_aload_n (q := 167) dL_law_166 rfl rfl ?_
  refine ev_iload_n (q := 168) dL_law_167 rfl rfl ?_
  refine ev_iconst (q := 169) (nI 1 : Int32) dL_law_168 rfl (by decide) ?_
  refine ev_iadd (q := 170) dL_law_169 rfl ?_
  rw [nI_add]
  refine ev_sald (q := 171) dL_law_170 rfl rfl (hin _ (by omega)) ?_
  refine ev_aload_n (q := 172) dL_law_171 rfl rfl ?_
  refine ev_iload_n (q := 173) dL_law_172 rfl rfl ?_
  refine ev_iconst (q := 174) (nI 2 : Int32) dL_law_173 rfl (by decide) ?_
  refine ev_iadd (q := 175) dL_law_174 rfl ?_
  rw [nI_add]
  refine ev_sald (q := 176) dL_law_175 rfl rfl (hin _ (by omega)) ?_
  refine ev_i2l (q := 177) dL_law_176 rfl ?_
  refine ev_bipush (q := 179) (32 : Int32) dL_law_177 rfl (by decide) ?_
  refine ev_lshl (q := 180) dL_law_179 rfl ?_
  refine ev_aload_n (q := 181) dL_law_180 rfl rfl ?_
  refine ev_iload_n (q := 182) dL_law_181 rfl rfl ?_
  refine ev_iconst (q := 183) (nI 3 : Int32) dL_law_182 rfl (by decide) ?_
  refine ev_iadd (q := 184) dL_law_183 rfl ?_
  rw [nI_add]
  refine ev_sald (q := 185) dL_law_184 rfl rfl (hin _ (by omega)) ?_
  refine ev_i2l (q := 186) dL_law_185 rfl ?_
  refine ev_ldc2 (q := 189) dL_law_186 rfl ctRL_13 ?_
  refine ev_land (q := 190) dL_law_189 rfl ?_
  refine ev_lor (q := 191) dL_law_190 rfl ?_
  refine ev_cV (q := 194) (ci := 8) dL_law_191 rfl okX8_write lmRL_19 imX8_write seX8_write (by first | rfl | assumption | exact zf_kd (by assumption) | exact zw_kd (by assumption) | exact zt_kd (by assumption)) (by first | decide | exact zf_lt (by assumption) | exact zf_lt1 (by assumption) | exact zf_lt2 (by assumption) | exact zf_lt3 (by assumption) | exact zf_lt4 (by assumption) | exact zw_lt (by assumption) | exact zw_lt1 (by assumption) | exact zw_lt2 (by assumption) | exact zw_lt3 (by assumption) | exact zw_lt4 (by assumption) | exact zt_lt (by assumption)) (by decide) rfl (c_X8_write G fo I162 h.2.2.2.1.1 (m_write h hw1) _ _) (by decide) rfl rfl (Nat.le_of_ble_eq_true rfl) (fun v191 n191 I191 P191 hR191 => ?_)
  obtain ⟨rfl, rfl, hw2⟩ := hR191
  obtain ⟨rfl, hrel⟩ := s_write h hw1 hw2
  refine ev_icmp_eq (q := 197) (t := 799) dL_law_194 rfl (by decide) (fun h194 => ?_) (fun h194 => ?_)
  · exact K _ _ (hrel)
  · exact absurd (rfl) h194
set_option maxHeartbeats 4000000 in
set_option maxRecDepth 100000 in
theorem law_1 (G : zq_G) (fo : Bool) (I : zq_I) {B i N T Y fs cn len : Nat} {R : zq_R} (h : zR6 B fo N T Y fs cn len I) (hB : B < 600) (hi : i + 5 ≤ G.2.2.2.2.1) (hL : G.2.2.2.2.1 ≤ 2560) (K : ∀ (fo2 : Bool) (I2 : zq_I), zREL (B + 1) fo2 I2 → zq_E G mL_law 30 0 0 true 799 [some (.ref zq_sc), some (.ref 0), some (.ref 119), some (.int (nI i))] [] 138 I2 (zPs fo2) R) : zq_E G mL_law 30 0 0 true 199 [some (.ref zq_sc), some (.ref 0), some (.ref 119), some (.int (nI i))] [] 138 I (zPs fo) R := by
  have hin : ∀ j, j < i + 5 → vp_in (nI j) G.2.2.2.2.1 := fun j hj => vp_in_nI (by omega) (by omega)
  refine ev_aload_n (q := 200) dL_law_199 rfl rfl ?_
  refine ev_cV (q := 203) (ci := 7) dL_law_200 rfl okX7_wipe lmRL_20 imX7_wipe seX7_wipe (by first | rfl | assumption | exact zf_kd (by assumption) | exact zw_kd (by assumption) | exact zt_kd (by assumption)) (by first | decide | exact zf_lt (by assumption) | exact zf_lt1 (by assumption) | exact zf_lt2 (by assumption) | exact zf_lt3 (by assumption) | exact zf_lt4 (by assumption) | exact zw_lt (by assumption) | exact zw_lt1 (by assumption) | exact zw_lt2 (by assumption) | exact zw_lt3 (by assumption) | exact zw_lt4 (by assumption) | exact zt_lt (by assumption)) (by decide) rfl (c_X7_wipe G fo I) (by decide) rfl rfl (Nat.le_of_ble_eq_true rfl) (fun v200 n200 I200 P200 hR200 => ?_)
  obtain ⟨rfl, rfl, rfl, rfl⟩ := hR200
  refine ev_aload_n (q := 204) dL_law_203 rfl rfl ?_
  refine ev_cV (q := 207) (ci := 8) dL_law_204 rfl okX8_wipe lmRL_24 imX8_wipe seX8_wipe (by first | rfl | assumption | exact zf_kd (by assumption) | exact zw_kd (by assumption) | exact zt_kd (by assumption)) (by first | decide | exact zf_lt (by assumption) | exact zf_lt1 (by assumption) | exact zf_lt2 (by assumption) | exact zf_lt3 (by assumption) | exact zf_lt4 (by assumption) | exact zw_lt (by assumption) | exact zw_lt1 (by assumption) | exact zw_lt2 (by assumption) | exact zw_lt3 (by assumption) | exact zw_lt4 (by assumption) | exact zt_lt (by assumption)) (by decide) rfl (c_X8_wipe G fo (zu I 1 1 0) (m_wipe h)) (by decide) rfl rfl (Nat.le_of_ble_eq_true rfl) (fun v204 n204 I204 P204 hR204 => ?_)
  obtain ⟨rfl, rfl, rfl, hfm⟩ := hR204
  refine ev_icmp_eq (q := 210) (t := 799) dL_law_207 rfl (by decide) (fun h207 => ?_) (fun h207 => ?_)
  · exact K _ _ ((s_wipe h hfm).2)
  · exact absurd ((s_wipe h hfm).1.symm) h207
set_option maxHeartbeats 4000000 in
set_option maxRecDepth 100000 in
theorem law_2 (G : zq_G) (fo : Bool) (I : zq_I) {B i N T Y fs cn len : Nat} {R : zq_R} (h : zR6 B fo N T Y fs cn len I) (hB : B < 600) (hi : i + 5 ≤ G.2.2.2.2.1) (hL : G.2.2.2.2.1 ≤ 2560) (K : ∀ (fo2 : Bool) (I2 : zq_I), zREL (B + 1) fo2 I2 → zq_E G mL_law 30 0 0 true 799 [some (.ref zq_sc), some (.ref 0), some (.ref 119), some (.int (nI i))] [] 138 I2 (zPs fo2) R) : zq_E G mL_law 30 0 0 true 212 [some (.ref zq_sc), some (.ref 0), some (.ref 119), some (.int (nI i))] [] 138 I (zPs fo) R := by
  have hin : ∀ j, j < i + 5 → vp_in (nI j) G.2.2.2.2.1 := fun j hj => vp_in_nI (by omega) (by omega)
  obtain ⟨b, hb1, hb2⟩ := h.2.2.2.1.pub
  refine ev_aload_n (q := 213) dL_law_212 rfl rfl ?_
  refine ev_cV (q := 216) (ci := 7) dL_law_213 rfl okX7_fault lmRL_25 imX7_fault seX7_fault (by first | rfl | assumption | exact zf_kd (by assumption) | exact zw_kd (by assumption) | exact zt_kd (by assumption)) (by first | decide | exact zf_lt (by assumption) | exact zf_lt1 (by assumption) | exact zf_lt2 (by assumption) | exact zf_lt3 (by assumption) | exact zf_lt4 (by assumption) | exact zw_lt (by assumption) | exact zw_lt1 (by assumption) | exact zw_lt2 (by assumption) | exact zw_lt3 (by assumption) | exact zw_lt4 (by assumption) | exact zt_lt (by assumption)) (by decide) rfl (c_X7_fault G fo I hb1) (by decide) rfl rfl (Nat.le_of_ble_eq_true rfl) (fun v213 n213 I213 P213 hR213 => ?_)
  obtain ⟨rfl, rfl, rfl, hof⟩ := hR213
  refine ev_aload_n (q := 217) dL_law_216 rfl rfl ?_
  refine ev_cV (q := 220) (ci := 8) dL_law_217 rfl okX8_fault lmRL_28 imX8_fault seX8_fault (by first | rfl | assumption | exact zf_kd (by assumption) | exact zw_kd (by assumption) | exact zt_kd (by assumption)) (by first | decide | exact zf_lt (by assumption) | exact zf_lt1 (by assumption) | exact zf_lt2 (by assumption) | exact zf_lt3 (by assumption) | exact zf_lt4 (by assumption) | exact zw_lt (by assumption) | exact zw_lt1 (by assumption) | exact zw_lt2 (by assumption) | exact zw_lt3 (by assumption) | exact zw_lt4 (by assumption) | exact zt_lt (by assumption)) (by decide) rfl (c_X8_fault G fo I213 (hb2.fc hof.FC)) (by decide) rfl rfl (Nat.le_of_ble_eq_true rfl) (fun v217 n217 I217 P217 hR217 => ?_)
  obtain ⟨rfl, rfl, rfl, hfm⟩ := hR217
  refine ev_icmp_eq (q := 223) (t := 799) dL_law_220 rfl (by decide) (fun h220 => ?_) (fun h220 => ?_)
  · exact K _ _ (h.q hof.FC ((zFM.rf.zu 119 0 0 rfl).tr hfm))
  · exact absurd (rfl) h220
set_option maxHeartbeats 4000000 in
set_option maxRecDepth 100000 in
theorem law_3 (G : zq_G) (fo : Bool) (I : zq_I) {B i N T Y fs cn len : Nat} {R : zq_R} (h : zR6 B fo N T Y fs cn len I) (hB : B < 600) (hi : i + 5 ≤ G.2.2.2.2.1) (hL : G.2.2.2.2.1 ≤ 2560) (K : ∀ (fo2 : Bool) (I2 : zq_I), zREL (B + 1) fo2 I2 → zq_E G mL_law 30 0 0 true 799 [some (.ref zq_sc), some (.ref 0), some (.ref 119), some (.int (nI i))] [] 138 I2 (zPs fo2) R) : zq_E G mL_law 30 0 0 true 225 [some (.ref zq_sc), some (.ref 0), some (.ref 119), some (.int (nI i))] [] 138 I (zPs fo) R := by
  have hin : ∀ j, j < i + 5 → vp_in (nI j) G.2.2.2.2.1 := fun j hj => vp_in_nI (by omega) (by omega)
  obtain ⟨b, hb1, hb2⟩ := h.2.2.2.1.pub
  refine ev_aload_n (q := 226) dL_law_225 rfl rfl ?_
  refine ev_cV (q := 229) (ci := 7) dL_law_226 rfl okX7_census lmRL_29 imX7_census seX7_census (by first | rfl | assumption | exact zf_kd (by assumption) | exact zw_kd (by assumption) | exact zt_kd (by assumption)) (by first | decide | exact zf_lt (by assumption) | exact zf_lt1 (by assumption) | exact zf_lt2 (by assumption) | exact zf_lt3 (by assumption) | exact zf_lt4 (by assumption) | exact zw_lt (by assumption) | exact zw_lt1 (by assumption) | exact zw_lt2 (by assumption) | exact zw_lt3 (by assumption) | exact zw_lt4 (by assumption) | exact zt_lt (by assumption)) (by decide) rfl (c_X7_census G fo I hb1) (by decide) rfl rfl (Nat.le_of_ble_eq_true rfl) (fun v226 n226 I226 P226 hR226 => ?_)
  obtain ⟨rfl, hc1, hc2⟩ := hR226
  by_cases hF : zpF b len = -9
  · obtain ⟨s, hs, hs3⟩ := zpF_3 (by have := hb1.1; omega) hF
    obtain ⟨rfl, rfl, hcc⟩ := hc2 s hs hs3
    refine ev_aload_n (q := 230) dL_law_229 rfl rfl ?_
    refine ev_cV (q := 233) (ci := 8) dL_law_230 rfl okX8_census lmRL_32 imX8_census seX8_census (by first | rfl | assumption | exact zf_kd (by assumption) | exact zw_kd (by assumption) | exact zt_kd (by assumption)) (by first | decide | exact zf_lt (by assumption) | exact zf_lt1 (by assumption) | exact zf_lt2 (by assumption) | exact zf_lt3 (by assumption) | exact zf_lt4 (by assumption) | exact zw_lt (by assumption) | exact zw_lt1 (by assumption) | exact zw_lt2 (by assumption) | exact zw_lt3 (by assumption) | exact zw_lt4 (by assumption) | exact zt_lt (by assumption)) (by decide) rfl (c_X8_census G (!fo) I226 (hb2.cen hcc)) (by decide) rfl rfl (Nat.le_of_ble_eq_true rfl) (fun v230 n230 I230 P230 hR230 => ?_)
    obtain ⟨rfl, rfl, -, hcm⟩ := hR230
    obtain ⟨rfl, hcm2⟩ := hcm s hs hs3
    refine ev_icmp_eq (q := 236) (t := 799) dL_law_233 rfl (by decide) (fun h233 => ?_) (fun h233 => ?_)
    · exact K _ _ (s_census (b := b) h hs3 (zpR_ok _ _ hs) hcc hcm2)
    · exact absurd rfl h233
  · obtain ⟨rfl, rfl, hof⟩ := hc1 hF
    refine ev_aload_n (q := 230) dL_law_229 rfl rfl ?_
    refine ev_cV (q := 233) (ci := 8) dL_law_230 rfl okX8_census lmRL_32 imX8_census seX8_census (by first | rfl | assumption | exact zf_kd (by assumption) | exact zw_kd (by assumption) | exact zt_kd (by assumption)) (by first | decide | exact zf_lt (by assumption) | exact zf_lt1 (by assumption) | exact zf_lt2 (by assumption) | exact zf_lt3 (by assumption) | exact zf_lt4 (by assumption) | exact zw_lt (by assumption) | exact zw_lt1 (by assumption) | exact zw_lt2 (by assumption) | exact zw_lt3 (by assumption) | exact zw_lt4 (by assumption) | exact zt_lt (by assumption)) (by decide) rfl (c_X8_census G fo I226 (hb2.fc hof.FC)) (by decide) rfl rfl (Nat.le_of_ble_eq_true rfl) (fun v230 n230 I230 P230 hR230 => ?_)
    obtain ⟨rfl, rfl, hcm, -⟩ := hR230
    obtain ⟨rfl, hfm⟩ := hcm hF
    refine ev_icmp_eq (q := 236) (t := 799) dL_law_233 rfl (by decide) (fun h233 => ?_) (fun h233 => ?_)
    · exact K _ _ (h.q hof.FC ((zFM.rf.zu 119 0 0 rfl).tr hfm))
    · exact absurd rfl h233
set_option maxHeartbeats 4000000 in
set_option maxRecDepth 100000 in
theorem law_4 (G : zq_G) (fo : Bool) (I : zq_I) {B i N T Y fs cn len : Nat} {R : zq_R} (h : zR6 B fo N T Y fs cn len I) (hB : B < 600) (hi : i + 5 ≤ G.2.2.2.2.1) (hL : G.2.2.2.2.1 ≤ 2560) (K : ∀ (fo2 : Bool) (I2 : zq_I), zREL (B + 1) fo2 I2 → zq_E G mL_law 30 0 0 true 799 [some (.ref zq_sc), some (.ref 0), some (.ref 119), some (.int (nI i))] [] 138 I2 (zPs fo2) R) : zq_E G mL_law 30 0 0 true 238 [some (.ref zq_sc), some (.ref 0), some (.ref 119), some (.int (nI i))] [] 138 I (zPs fo) R := by
  have hin : ∀ j, j < i + 5 → vp_in (nI j) G.2.2.2.2.1 := fun j hj => vp_in_nI (by omega) (by omega)
  refine ev_aload_n (q := 239) dL_law_238 rfl rfl ?_
  refine ev_aload_n (q := 240) dL_law_239 rfl rfl ?_
  refine ev_iload_n (q := 241) dL_law_240 rfl rfl ?_
  refine ev_iconst (q := 242) (nI 1 : Int32) dL_law_241 rfl (by decide) ?_
  refine ev_iadd (q := 243) dL_law_242 rfl ?_
  rw [nI_add]
  refine ev_sald (q := 244) dL_law_243 rfl rfl (hin _ (by omega)) ?_
  refine ev_pV (q := 247) (ci := 7) dL_law_244 rfl okX7_about lmRL_33 imX7_about seX7_about (by first | rfl | assumption | exact zf_kd (by assumption) | exact zw_kd (by assumption) | exact zt_kd (by assumption)) (by first | decide | exact zf_lt (by assumption) | exact zf_lt1 (by assumption) | exact zf_lt2 (by assumption) | exact zf_lt3 (by assumption) | exact zf_lt4 (by assumption) | exact zw_lt (by assumption) | exact zw_lt1 (by assumption) | exact zw_lt2 (by assumption) | exact zw_lt3 (by assumption) | exact zw_lt4 (by assumption) | exact zt_lt (by assumption)) (by decide) rfl (c_X7_about G fo I h.1 _) (by decide) rfl rfl (Nat.le_of_ble_eq_true rfl) ?_
  refine ev_aload_n (q := 248) dL_law_247 rfl rfl ?_
  refine ev_aload_n (q := 249) dL_law_248 rfl rfl ?_
  refine ev_iload_n (q := 250) dL_law_249 rfl rfl ?_
  refine ev_iconst (q := 251) (nI 1 : Int32) dL_law_250 rfl (by decide) ?_
  refine ev_iadd (q := 252) dL_law_251 rfl ?_
  rw [nI_add]
  refine ev_sald (q := 253) dL_law_252 rfl rfl (hin _ (by omega)) ?_
  refine ev_cV (q := 256) (ci := 8) dL_law_253 rfl okX8_about lmRL_37 imX8_about seX8_about (by first | rfl | assumption | exact zf_kd (by assumption) | exact zw_kd (by assumption) | exact zt_kd (by assumption)) (by first | decide | exact zf_lt (by assumption) | exact zf_lt1 (by assumption) | exact zf_lt2 (by assumption) | exact zf_lt3 (by assumption) | exact zf_lt4 (by assumption) | exact zw_lt (by assumption) | exact zw_lt1 (by assumption) | exact zw_lt2 (by assumption) | exact zw_lt3 (by assumption) | exact zw_lt4 (by assumption) | exact zt_lt (by assumption)) (by decide) rfl (c_X8_about G fo I h.1 _) (by decide) rfl rfl (Nat.le_of_ble_eq_true rfl) (fun v253 n253 I253 P253 hR253 => ?_)
  obtain ⟨rfl, rfl, rfl, hfm⟩ := hR253
  refine ev_icmp_eq (q := 259) (t := 799) dL_law_256 rfl (by decide) (fun h256 => ?_) (fun h256 => ?_)
  · exact K _ _ (h.q zFC.rf hfm)
  · exact absurd (s_about h) h256
set_option maxHeartbeats 4000000 in
set_option maxRecDepth 100000 in
theorem law_5 (G : zq_G) (fo : Bool) (I : zq_I) {B i N T Y fs cn len : Nat} {R : zq_R} (h : zR6 B fo N T Y fs cn len I) (hB : B < 600) (hi : i + 5 ≤ G.2.2.2.2.1) (hL : G.2.2.2.2.1 ≤ 2560) (K : ∀ (fo2 : Bool) (I2 : zq_I), zREL (B + 1) fo2 I2 → zq_E G mL_law 30 0 0 true 799 [some (.ref zq_sc), some (.ref 0), some (.ref 119), some (.int (nI i))] [] 138 I2 (zPs fo2) R) : zq_E G mL_law 30 0 0 true 261 [some (.ref zq_sc), some (.ref 0), some (.ref 119), some (.int (nI i))] [] 138 I (zPs fo) R := by
  have hin : ∀ j, j < i + 5 → vp_in (nI j) G.2.2.2.2.1 := fun j hj => vp_in_nI (by omega) (by omega)
  refine ev_aload_n (q := 262) dL_law_261 rfl rfl ?_
  refine ev_aload_n (q := 263) dL_law_262 rfl rfl ?_
  refine ev_iload_n (q := 264) dL_law_263 rfl rfl ?_
  refine ev_iconst (q := 265) (nI 1 : Int32) dL_law_264 rfl (by decide) ?_
  refine ev_iadd (q := 266) dL_law_265 rfl ?_
  rw [nI_add]
  refine ev_sald (q := 267) dL_law_266 rfl rfl (hin _ (by omega)) ?_
  refine ev_aload_n (q := 268) dL_law_267 rfl rfl ?_
  refine ev_iload_n (q := 269) dL_law_268 rfl rfl ?_
  refine ev_iconst (q := 270) (nI 2 : Int32) dL_law_269 rfl (by decide) ?_
  refine ev_iadd (q := 271) dL_law_270 rfl ?_
  rw [nI_add]
  refine ev_sald (q := 272) dL_law_271 rfl rfl (hin _ (by omega)) ?_
  refine ev_pV (q := 275) (ci := 7) dL_law_272 rfl okX7_person lmRL_38 imX7_person seX7_person (by first | rfl | assumption | exact zf_kd (by assumption) | exact zw_kd (by assumption) | exact zt_kd (by assumption)) (by first | decide | exact zf_lt (by assumption) | exact zf_lt1 (by assumption) | exact zf_lt2 (by assumption) | exact zf_lt3 (by assumption) | exact zf_lt4 (by assumption) | exact zw_lt (by assumption) | exact zw_lt1 (by assumption) | exact zw_lt2 (by assumption) | exact zw_lt3 (by assumption) | exact zw_lt4 (by assumption) | exact zt_lt (by assumption)) (by decide) rfl (c_X7_person G fo I h.1 _ _) (by decide) rfl rfl (Nat.le_of_ble_eq_true rfl) ?_
  refine ev_aload_n (q := 276) dL_law_275 rfl rfl ?_
  refine ev_aload_n (q := 277) dL_law_276 rfl rfl ?_
  refine ev_iload_n (q := 278) dL_law_277 rfl rfl ?_
  refine ev_iconst (q := 279) (nI 1 : Int32) dL_law_278 rfl (by decide) ?_
  refine ev_iadd (q := 280) dL_law_279 rfl ?_
  rw [nI_add]
  refine ev_sald (q := 281) dL_law_280 rfl rfl (hin _ (by omega)) ?_
  refine ev_aload_n (q := 282) dL_law_281 rfl rfl ?_
  refine ev_iload_n (q := 283) dL_law_282 rfl rfl ?_
  refine ev_iconst (q := 284) (nI 2 : Int32) dL_law_283 rfl (by decide) ?_
  refine ev_iadd (q := 285) dL_law_284 rfl ?_
  rw [nI_add]
  refine ev_sald (q := 286) dL_law_285 rfl rfl (hin _ (by omega)) ?_
  refine ev_cV (q := 289) (ci := 8) dL_law_286 rfl okX8_person lmRL_42 imX8_person seX8_person (by first | rfl | assumption | exact zf_kd (by assumption) | exact zw_kd (by assumption) | exact zt_kd (by assumption)) (by first | decide | exact zf_lt (by assumption) | exact zf_lt1 (by assumption) | exact zf_lt2 (by assumption) | exact zf_lt3 (by assumption) | exact zf_lt4 (by assumption) | exact zw_lt (by assumption) | exact zw_lt1 (by assumption) | exact zw_lt2 (by assumption) | exact zw_lt3 (by assumption) | exact zw_lt4 (by assumption) | exact zt_lt (by assumption)) (by decide) rfl (c_X8_person G fo I h.1 _ _) (by decide) rfl rfl (Nat.le_of_ble_eq_true rfl) (fun v286 n286 I286 P286 hR286 => ?_)
  obtain ⟨rfl, rfl, rfl, hfm⟩ := hR286
  refine ev_icmp_eq (q := 292) (t := 799) dL_law_289 rfl (by decide) (fun h289 => ?_) (fun h289 => ?_)
  · exact K _ _ (h.q zFC.rf hfm)
  · exact absurd (s_person h) h289
set_option maxHeartbeats 4000000 in
set_option maxRecDepth 100000 in
theorem law_6 (G : zq_G) (fo : Bool) (I : zq_I) {B i N T Y fs cn len : Nat} {R : zq_R} (h : zR6 B fo N T Y fs cn len I) (hB : B < 600) (hi : i + 5 ≤ G.2.2.2.2.1) (hL : G.2.2.2.2.1 ≤ 2560) (K : ∀ (fo2 : Bool) (I2 : zq_I), zREL (B + 1) fo2 I2 → zq_E G mL_law 30 0 0 true 799 [some (.ref zq_sc), some (.ref 0), some (.ref 119), some (.int (nI i))] [] 138 I2 (zPs fo2) R) : zq_E G mL_law 30 0 0 true 294 [some (.ref zq_sc), some (.ref 0), some (.ref 119), some (.int (nI i))] [] 138 I (zPs fo) R := by
  have hin : ∀ j, j < i + 5 → vp_in (nI j) G.2.2.2.2.1 := fun j hj => vp_in_nI (by omega) (by omega)
  refine ev_aload_n (q := 295) dL_law_294 rfl rfl ?_
  refine ev_aload_n (q := 296) dL_law_295 rfl rfl ?_
  refine ev_iload_n (q := 297) dL_law_296 rfl rfl ?_
  refine ev_iconst (q := 298) (nI 1 : Int32) dL_law_297 rfl (by decide) ?_
  refine ev_iadd (q := 299) dL_law_298 rfl ?_
  rw [nI_add]
  refine ev_sald (q := 300) dL_law_299 rfl rfl (hin _ (by omega)) ?_
  refine ev_aload_n (q := 301) dL_law_300 rfl rfl ?_
  refine ev_iload_n (q := 302) dL_law_301 rfl rfl ?_
  refine ev_iconst (q := 303) (nI 2 : Int32) dL_law_302 rfl (by decide) ?_
  refine ev_iadd (q := 304) dL_law_303 rfl ?_
  rw [nI_add]
  refine ev_sald (q := 305) dL_law_304 rfl rfl (hin _ (by omega)) ?_
  refine ev_cV (q := 308) (ci := 7) dL_law_305 rfl okX7_town lmRL_43 imX7_town seX7_town (by first | rfl | assumption | exact zf_kd (by assumption) | exact zw_kd (by assumption) | exact zt_kd (by assumption)) (by first | decide | exact zf_lt (by assumption) | exact zf_lt1 (by assumption) | exact zf_lt2 (by assumption) | exact zf_lt3 (by assumption) | exact zf_lt4 (by assumption) | exact zw_lt (by assumption) | exact zw_lt1 (by assumption) | exact zw_lt2 (by assumption) | exact zw_lt3 (by assumption) | exact zw_lt4 (by assumption) | exact zt_lt (by assumption)) (by decide) rfl (c_X7_town G fo I h.1 _ _) (by decide) rfl rfl (Nat.le_of_ble_eq_true rfl) (fun v305 n305 I305 P305 hR305 => ?_)
  obtain ⟨rfl, rfl, rfl, hfc⟩ := hR305
  refine ev_aload_n (q := 309) dL_law_308 rfl rfl ?_
  refine ev_aload_n (q := 310) dL_law_309 rfl rfl ?_
  refine ev_iload_n (q := 311) dL_law_310 rfl rfl ?_
  refine ev_iconst (q := 312) (nI 1 : Int32) dL_law_311 rfl (by decide) ?_
  refine ev_iadd (q := 313) dL_law_312 rfl ?_
  rw [nI_add]
  refine ev_sald (q := 314) dL_law_313 rfl rfl (hin _ (by omega)) ?_
  refine ev_aload_n (q := 315) dL_law_314 rfl rfl ?_
  refine ev_iload_n (q := 316) dL_law_315 rfl rfl ?_
  refine ev_iconst (q := 317) (nI 2 : Int32) dL_law_316 rfl (by decide) ?_
  refine ev_iadd (q := 318) dL_law_317 rfl ?_
  rw [nI_add]
  refine ev_sald (q := 319) dL_law_318 rfl rfl (hin _ (by omega)) ?_
  refine ev_cV (q := 322) (ci := 8) dL_law_319 rfl okX8_town lmRL_46 imX8_town seX8_town (by first | rfl | assumption | exact zf_kd (by assumption) | exact zw_kd (by assumption) | exact zt_kd (by assumption)) (by first | decide | exact zf_lt (by assumption) | exact zf_lt1 (by assumption) | exact zf_lt2 (by assumption) | exact zf_lt3 (by assumption) | exact zf_lt4 (by assumption) | exact zw_lt (by assumption) | exact zw_lt1 (by assumption) | exact zw_lt2 (by assumption) | exact zw_lt3 (by assumption) | exact zw_lt4 (by assumption) | exact zt_lt (by assumption)) (by decide) rfl (c_X8_town G fo I305 (hfc.S h.1) _ _) (by decide) rfl rfl (Nat.le_of_ble_eq_true rfl) (fun v319 n319 I319 P319 hR319 => ?_)
  obtain ⟨rfl, rfl, rfl, hfm⟩ := hR319
  refine ev_icmp_eq (q := 325) (t := 799) dL_law_322 rfl (by decide) (fun h322 => ?_) (fun h322 => ?_)
  · exact K _ _ (h.q hfc hfm)
  · exact absurd (by rw [hfc.facts.1, hfc.facts.2.1, hfc.facts.2.2]) h322
set_option maxHeartbeats 4000000 in
set_option maxRecDepth 100000 in
theorem law_7 (G : zq_G) (fo : Bool) (I : zq_I) {B i N T Y fs cn len : Nat} {R : zq_R} (h : zR6 B fo N T Y fs cn len I) (hB : B < 600) (hi : i + 5 ≤ G.2.2.2.2.1) (hL : G.2.2.2.2.1 ≤ 2560) (K : ∀ (fo2 : Bool) (I2 : zq_I), zREL (B + 1) fo2 I2 → zq_E G mL_law 30 0 0 true 799 [some (.ref zq_sc), some (.ref 0), some (.ref 119), some (.int (nI i))] [] 138 I2 (zPs fo2) R) : zq_E G mL_law 30 0 0 true 327 [some (.ref zq_sc), some (.ref 0), some (.ref 119), some (.int (nI i))] [] 138 I (zPs fo) R := by
  have hin : ∀ j, j < i + 5 → vp_in (nI j) G.2.2.2.2.1 := fun j hj => vp_in_nI (by omega) (by omega)
  refine ev_aload_n (q := 328) dL_law_327 rfl rfl ?_
  refine ev_aload_n (q := 329) dL_law_328 rfl rfl ?_
  refine ev_iload_n (q := 330) dL_law_329 rfl rfl ?_
  refine ev_iconst (q := 331) (nI 1 : Int32) dL_law_330 rfl (by decide) ?_
  refine ev_iadd (q := 332) dL_law_331 rfl ?_
  rw [nI_add]
  refine ev_sald (q := 333) dL_law_332 rfl rfl (hin _ (by omega)) ?_
  refine ev_cV (q := 336) (ci := 7) dL_law_333 rfl okX7_law lmRL_47 imX7_law seX7_law (by first | rfl | assumption | exact zf_kd (by assumption) | exact zw_kd (by assumption) | exact zt_kd (by assumption)) (by first | decide | exact zf_lt (by assumption) | exact zf_lt1 (by assumption) | exact zf_lt2 (by assumption) | exact zf_lt3 (by assumption) | exact zf_lt4 (by assumption) | exact zw_lt (by assumption) | exact zw_lt1 (by assumption) | exact zw_lt2 (by assumption) | exact zw_lt3 (by assumption) | exact zw_lt4 (by assumption) | exact zt_lt (by assumption)) (by decide) rfl (c_X7_law G fo I _) (by decide) rfl rfl (Nat.le_of_ble_eq_true rfl) (fun v333 n333 I333 P333 hR333 => ?_)
  obtain ⟨rfl, rfl, hl1⟩ := hR333
  obtain ⟨a1, rfl⟩ := v_law hl1
  refine ev_aload_n (q := 337) dL_law_336 rfl rfl ?_
  refine ev_aload_n (q := 338) dL_law_337 rfl rfl ?_
  refine ev_iload_n (q := 339) dL_law_338 rfl rfl ?_
  refine ev_iconst (q := 340) (nI 1 : Int32) dL_law_339 rfl (by decide) ?_
  refine ev_iadd (q := 341) dL_law_340 rfl ?_
  rw [nI_add]
  refine ev_sald (q := 342) dL_law_341 rfl rfl (hin _ (by omega)) ?_
  refine ev_cV (q := 345) (ci := 8) dL_law_342 rfl okX8_law lmRL_50 imX8_law seX8_law (by first | rfl | assumption | exact zf_kd (by assumption) | exact zw_kd (by assumption) | exact zt_kd (by assumption)) (by first | decide | exact zf_lt (by assumption) | exact zf_lt1 (by assumption) | exact zf_lt2 (by assumption) | exact zf_lt3 (by assumption) | exact zf_lt4 (by assumption) | exact zw_lt (by assumption) | exact zw_lt1 (by assumption) | exact zw_lt2 (by assumption) | exact zw_lt3 (by assumption) | exact zw_lt4 (by assumption) | exact zt_lt (by assumption)) (by decide) rfl (cm_X8_law G fo I333 (m_law h hl1) _) (by decide) rfl rfl (Nat.le_of_ble_eq_true rfl) (fun v342 n342 I342 P342 hR342 => ?_)
  obtain ⟨rfl, rfl, hl2⟩ := hR342
  obtain ⟨rfl, hrel⟩ := s_law h hl1 hl2
  refine ev_icmp_eq (q := 348) (t := 799) dL_law_345 rfl (by decide) (fun h345 => ?_) (fun h345 => ?_)
  · exact K _ _ (hrel)
  · exact absurd (rfl) h345
set_option maxHeartbeats 4000000 in
set_option maxRecDepth 100000 in
theorem law_8 (G : zq_G) (fo : Bool) (I : zq_I) {B i N T Y fs cn len : Nat} {R : zq_R} (h : zR6 B fo N T Y fs cn len I) (hB : B < 600) (hi : i + 5 ≤ G.2.2.2.2.1) (hL : G.2.2.2.2.1 ≤ 2560) (K : ∀ (fo2 : Bool) (I2 : zq_I), zREL (B + 1) fo2 I2 → zq_E G mL_law 30 0 0 true 799 [some (.ref zq_sc), some (.ref 0), some (.ref 119), some (.int (nI i))] [] 138 I2 (zPs fo2) R) : zq_E G mL_law 30 0 0 true 350 [some (.ref zq_sc), some (.ref 0), some (.ref 119), some (.int (nI i))] [] 138 I (zPs fo) R := by
  have hin : ∀ j, j < i + 5 → vp_in (nI j) G.2.2.2.2.1 := fun j hj => vp_in_nI (by omega) (by omega)
  refine ev_aload_n (q := 351) dL_law_350 rfl rfl ?_
  refine ev_aload_n (q := 352) dL_law_351 rfl rfl ?_
  refine ev_iload_n (q := 353) dL_law_352 rfl rfl ?_
  refine ev_iconst (q := 354) (nI 1 : Int32) dL_law_353 rfl (by decide) ?_
  refine ev_iadd (q := 355) dL_law_354 rfl ?_
  rw [nI_add]
  refine ev_sald (q := 356) dL_law_355 rfl rfl (hin _ (by omega)) ?_
  refine ev_aload_n (q := 357) dL_law_356 rfl rfl ?_
  refine ev_iload_n (q := 358) dL_law_357 rfl rfl ?_
  refine ev_iconst (q := 359) (nI 2 : Int32) dL_law_358 rfl (by decide) ?_
  refine ev_iadd (q := 360) dL_law_359 rfl ?_
  rw [nI_add]
  refine ev_sald (q := 361) dL_law_360 rfl rfl (hin _ (by omega)) ?_
  refine ev_cV (q := 364) (ci := 7) dL_law_361 rfl okX7_go lmRL_51 imX7_go seX7_go (by first | rfl | assumption | exact zf_kd (by assumption) | exact zw_kd (by assumption) | exact zt_kd (by assumption)) (by first | decide | exact zf_lt (by assumption) | exact zf_lt1 (by assumption) | exact zf_lt2 (by assumption) | exact zf_lt3 (by assumption) | exact zf_lt4 (by assumption) | exact zw_lt (by assumption) | exact zw_lt1 (by assumption) | exact zw_lt2 (by assumption) | exact zw_lt3 (by assumption) | exact zw_lt4 (by assumption) | exact zt_lt (by assumption)) (by decide) rfl (c_X7_go G fo I h.1 h.2.2.2.2.1.1 h.2.2.2.2.1.2.1 h.2.2.2.2.1.2.2.1 h.2.2.2.2.1.2.2.2.1 _ _) (by decide) rfl rfl (Nat.le_of_ble_eq_true rfl) (fun v361 n361 I361 P361 hR361 => ?_)
  obtain ⟨rfl, rfl, rfl, hg1⟩ := hR361
  refine ev_aload_n (q := 365) dL_law_364 rfl rfl ?_
  refine ev_aload_n (q := 366) dL_law_365 rfl rfl ?_
  refine ev_iload_n (q := 367) dL_law_366 rfl rfl ?_
  refine ev_iconst (q := 368) (nI 1 : Int32) dL_law_367 rfl (by decide) ?_
  refine ev_iadd (q := 369) dL_law_368 rfl ?_
  rw [nI_add]
  refine ev_sald (q := 370) dL_law_369 rfl rfl (hin _ (by omega)) ?_
  refine ev_aload_n (q := 371) dL_law_370 rfl rfl ?_
  refine ev_iload_n (q := 372) dL_law_371 rfl rfl ?_
  refine ev_iconst (q := 373) (nI 2 : Int32) dL_law_372 rfl (by decide) ?_
  refine ev_iadd (q := 374) dL_law_373 rfl ?_
  rw [nI_add]
  refine ev_sald (q := 375) dL_law_374 rfl rfl (hin _ (by omega)) ?_
  refine ev_cV (q := 378) (ci := 8) dL_law_375 rfl okX8_go lmRL_54 imX8_go seX8_go (by first | rfl | assumption | exact zf_kd (by assumption) | exact zw_kd (by assumption) | exact zt_kd (by assumption)) (by first | decide | exact zf_lt (by assumption) | exact zf_lt1 (by assumption) | exact zf_lt2 (by assumption) | exact zf_lt3 (by assumption) | exact zf_lt4 (by assumption) | exact zw_lt (by assumption) | exact zw_lt1 (by assumption) | exact zw_lt2 (by assumption) | exact zw_lt3 (by assumption) | exact zw_lt4 (by assumption) | exact zt_lt (by assumption)) (by decide) rfl (cm_X8_go G fo I361 (m_go h hg1).1 h.2.2.2.2.1.2.1 (m_go h hg1).2.1 _ _) (by decide) rfl rfl (Nat.le_of_ble_eq_true rfl) (fun v375 n375 I375 P375 hR375 => ?_)
  obtain ⟨rfl, rfl, rfl, hg2⟩ := hR375
  refine ev_icmp_eq (q := 381) (t := 799) dL_law_378 rfl (by decide) (fun h378 => ?_) (fun h378 => ?_)
  · exact K _ _ (s_go h hB hg1 hg2)
  · exact absurd (by rw [zV_th, (m_go h hg1).2.2]) h378
set_option maxHeartbeats 4000000 in
set_option maxRecDepth 100000 in
theorem law_9 (G : zq_G) (fo : Bool) (I : zq_I) {B i N T Y fs cn len : Nat} {R : zq_R} (h : zR6 B fo N T Y fs cn len I) (hB : B < 600) (hi : i + 5 ≤ G.2.2.2.2.1) (hL : G.2.2.2.2.1 ≤ 2560) (K : ∀ (fo2 : Bool) (I2 : zq_I), zREL (B + 1) fo2 I2 → zq_E G mL_law 30 0 0 true 799 [some (.ref zq_sc), some (.ref 0), some (.ref 119), some (.int (nI i))] [] 138 I2 (zPs fo2) R) : zq_E G mL_law 30 0 0 true 383 [some (.ref zq_sc), some (.ref 0), some (.ref 119), some (.int (nI i))] [] 138 I (zPs fo) R := by
  have hin : ∀ j, j < i + 5 → vp_in (nI j) G.2.2.2.2.1 := fun j hj => vp_in_nI (by omega) (by omega)
  refine ev_aload_n (q := 384) dL_law_383 rfl rfl ?_
  refine ev_aload_n (q := 385) dL_law_384 rfl rfl ?_
  refine ev_iload_n (q := 386) dL_law_385 rfl rfl ?_
  refine ev_iconst (q := 387) (nI 1 : Int32) dL_law_386 rfl (by decide) ?_
  refine ev_iadd (q := 388) dL_law_387 rfl ?_
  rw [nI_add]
  refine ev_sald (q := 389) dL_law_388 rfl rfl (hin _ (by omega)) ?_
  refine ev_cV (q := 392) (ci := 7) dL_law_389 rfl okX7_die lmRL_55 imX7_die seX7_die (by first | rfl | assumption | exact zf_kd (by assumption) | exact zw_kd (by assumption) | exact zt_kd (by assumption)) (by first | decide | exact zf_lt (by assumption) | exact zf_lt1 (by assumption) | exact zf_lt2 (by assumption) | exact zf_lt3 (by assumption) | exact zf_lt4 (by assumption) | exact zw_lt (by assumption) | exact zw_lt1 (by assumption) | exact zw_lt2 (by assumption) | exact zw_lt3 (by assumption) | exact zw_lt4 (by assumption) | exact zt_lt (by assumption)) (by decide) rfl (c_X7_die G fo I h.1 h.2.2.2.2.1.1 h.2.2.2.2.1.2.1 h.2.2.2.2.1.2.2.1 h.2.2.2.2.1.2.2.2.1 _) (by decide) rfl rfl (Nat.le_of_ble_eq_true rfl) (fun v389 n389 I389 P389 hR389 => ?_)
  obtain ⟨rfl, rfl, rfl, hg1⟩ := hR389
  refine ev_aload_n (q := 393) dL_law_392 rfl rfl ?_
  refine ev_aload_n (q := 394) dL_law_393 rfl rfl ?_
  refine ev_iload_n (q := 395) dL_law_394 rfl rfl ?_
  refine ev_iconst (q := 396) (nI 1 : Int32) dL_law_395 rfl (by decide) ?_
  refine ev_iadd (q := 397) dL_law_396 rfl ?_
  rw [nI_add]
  refine ev_sald (q := 398) dL_law_397 rfl rfl (hin _ (by omega)) ?_
  refine ev_cV (q := 401) (ci := 8) dL_law_398 rfl okX8_die lmRL_58 imX8_die seX8_die (by first | rfl | assumption | exact zf_kd (by assumption) | exact zw_kd (by assumption) | exact zt_kd (by assumption)) (by first | decide | exact zf_lt (by assumption) | exact zf_lt1 (by assumption) | exact zf_lt2 (by assumption) | exact zf_lt3 (by assumption) | exact zf_lt4 (by assumption) | exact zw_lt (by assumption) | exact zw_lt1 (by assumption) | exact zw_lt2 (by assumption) | exact zw_lt3 (by assumption) | exact zw_lt4 (by assumption) | exact zt_lt (by assumption)) (by decide) rfl (cm_X8_die G fo I389 (m_die h hg1).1 h.2.2.2.2.1.2.1 (m_die h hg1).2.1 _) (by decide) rfl rfl (Nat.le_of_ble_eq_true rfl) (fun v398 n398 I398 P398 hR398 => ?_)
  obtain ⟨rfl, rfl, rfl, hg2⟩ := hR398
  refine ev_icmp_eq (q := 404) (t := 799) dL_law_401 rfl (by decide) (fun h401 => ?_) (fun h401 => ?_)
  · exact K _ _ (s_die h hB hg1 hg2)
  · exact absurd (by rw [zV_th, (m_die h hg1).2.2, x_die hg1]) h401
set_option maxHeartbeats 4000000 in
set_option maxRecDepth 100000 in
theorem law_10 (G : zq_G) (fo : Bool) (I : zq_I) {B i N T Y fs cn len : Nat} {R : zq_R} (h : zR6 B fo N T Y fs cn len I) (hB : B < 600) (hi : i + 5 ≤ G.2.2.2.2.1) (hL : G.2.2.2.2.1 ≤ 2560) (K : ∀ (fo2 : Bool) (I2 : zq_I), zREL (B + 1) fo2 I2 → zq_E G mL_law 30 0 0 true 799 [some (.ref zq_sc), some (.ref 0), some (.ref 119), some (.int (nI i))] [] 138 I2 (zPs fo2) R) : zq_E G mL_law 30 0 0 true 406 [some (.ref zq_sc), some (.ref 0), some (.ref 119), some (.int (nI i))] [] 138 I (zPs fo) R := by
  have hin : ∀ j, j < i + 5 → vp_in (nI j) G.2.2.2.2.1 := fun j hj => vp_in_nI (by omega) (by omega)
  refine ev_aload_n (q := 407) dL_law_406 rfl rfl ?_
  refine ev_cV (q := 410) (ci := 7) dL_law_407 rfl okX7_year lmRL_59 imX7_year seX7_year (by first | rfl | assumption | exact zf_kd (by assumption) | exact zw_kd (by assumption) | exact zt_kd (by assumption)) (by first | decide | exact zf_lt (by assumption) | exact zf_lt1 (by assumption) | exact zf_lt2 (by assumption) | exact zf_lt3 (by assumption) | exact zf_lt4 (by assumption) | exact zw_lt (by assumption) | exact zw_lt1 (by assumption) | exact zw_lt2 (by assumption) | exact zw_lt3 (by assumption) | exact zw_lt4 (by assumption) | exact zt_lt (by assumption)) (by decide) rfl (c_X7_year G fo I h.1 h.2.2.2.2.1.1 h.2.2.2.2.1.2.1 h.2.2.2.2.1.2.2.1 h.2.2.2.2.1.2.2.2.1) (by decide) rfl rfl (Nat.le_of_ble_eq_true rfl) (fun v407 n407 I407 P407 hR407 => ?_)
  obtain ⟨rfl, rfl, rfl, hg1⟩ := hR407
  refine ev_aload_n (q := 411) dL_law_410 rfl rfl ?_
  refine ev_cV (q := 414) (ci := 8) dL_law_411 rfl okX8_year lmRL_62 imX8_year seX8_year (by first | rfl | assumption | exact zf_kd (by assumption) | exact zw_kd (by assumption) | exact zt_kd (by assumption)) (by first | decide | exact zf_lt (by assumption) | exact zf_lt1 (by assumption) | exact zf_lt2 (by assumption) | exact zf_lt3 (by assumption) | exact zf_lt4 (by assumption) | exact zw_lt (by assumption) | exact zw_lt1 (by assumption) | exact zw_lt2 (by assumption) | exact zw_lt3 (by assumption) | exact zw_lt4 (by assumption) | exact zt_lt (by assumption)) (by decide) rfl (cm_X8_year G fo I407 (m_year h hg1).1 h.2.2.2.2.1.2.1 (m_year h hg1).2.1) (by decide) rfl rfl (Nat.le_of_ble_eq_true rfl) (fun v411 n411 I411 P411 hR411 => ?_)
  obtain ⟨rfl, rfl, rfl, hg2⟩ := hR411
  refine ev_icmp_eq (q := 417) (t := 799) dL_law_414 rfl (by decide) (fun h414 => ?_) (fun h414 => ?_)
  · exact K _ _ (s_year h hB hg1 hg2)
  · exact absurd (by rw [(m_year h hg1).2.2]) h414
set_option maxHeartbeats 4000000 in
set_option maxRecDepth 100000 in
theorem law_11 (G : zq_G) (fo : Bool) (I : zq_I) {B i N T Y fs cn len : Nat} {R : zq_R} (h : zR6 B fo N T Y fs cn len I) (hB : B < 600) (hi : i + 5 ≤ G.2.2.2.2.1) (hL : G.2.2.2.2.1 ≤ 2560) (K : ∀ (fo2 : Bool) (I2 : zq_I), zREL (B + 1) fo2 I2 → zq_E G mL_law 30 0 0 true 799 [some (.ref zq_sc), some (.ref 0), some (.ref 119), some (.int (nI i))] [] 138 I2 (zPs fo2) R) : zq_E G mL_law 30 0 0 true 419 [some (.ref zq_sc), some (.ref 0), some (.ref 119), some (.int (nI i))] [] 138 I (zPs fo) R := by
  have hin : ∀ j, j < i + 5 → vp_in (nI j) G.2.2.2.2.1 := fun j hj => vp_in_nI (by omega) (by omega)
  refine ev_aload_n (q := 420) dL_law_419 rfl rfl ?_
  refine ev_aload_n (q := 421) dL_law_420 rfl rfl ?_
  refine ev_iload_n (q := 422) dL_law_421 rfl rfl ?_
  refine ev_iconst (q := 423) (nI 1 : Int32) dL_law_422 rfl (by decide) ?_
  refine ev_iadd (q := 424) dL_law_423 rfl ?_
  rw [nI_add]
  refine ev_sald (q := 425) dL_law_424 rfl rfl (hin _ (by omega)) ?_
  refine ev_aload_n (q := 426) dL_law_425 rfl rfl ?_
  refine ev_iload_n (q := 427) dL_law_426 rfl rfl ?_
  refine ev_iconst (q := 428) (nI 2 : Int32) dL_law_427 rfl (by decide) ?_
  refine ev_iadd (q := 429) dL_law_428 rfl ?_
  rw [nI_add]
  refine ev_sald (q := 430) dL_law_429 rfl rfl (hin _ (by omega)) ?_
  refine ev_cV (q := 433) (ci := 7) dL_law_430 rfl okX7_rumour lmRL_63 imX7_rumour seX7_rumour (by first | rfl | assumption | exact zf_kd (by assumption) | exact zw_kd (by assumption) | exact zt_kd (by assumption)) (by first | decide | exact zf_lt (by assumption) | exact zf_lt1 (by assumption) | exact zf_lt2 (by assumption) | exact zf_lt3 (by assumption) | exact zf_lt4 (by assumption) | exact zw_lt (by assumption) | exact zw_lt1 (by assumption) | exact zw_lt2 (by assumption) | exact zw_lt3 (by assumption) | exact zw_lt4 (by assumption) | exact zt_lt (by assumption)) (by decide) rfl (c_X7_rumour G fo I h.1 h.2.2.2.2.1.1 h.2.2.2.2.1.2.1 h.2.2.2.2.1.2.2.1 h.2.2.2.2.1.2.2.2.1 _ _) (by decide) rfl rfl (Nat.le_of_ble_eq_true rfl) (fun v430 n430 I430 P430 hR430 => ?_)
  obtain ⟨rfl, rfl, rfl, hg1⟩ := hR430
  refine ev_aload_n (q := 434) dL_law_433 rfl rfl ?_
  refine ev_aload_n (q := 435) dL_law_434 rfl rfl ?_
  refine ev_iload_n (q := 436) dL_law_435 rfl rfl ?_
  refine ev_iconst (q := 437) (nI 1 : Int32) dL_law_436 rfl (by decide) ?_
  refine ev_iadd (q := 438) dL_law_437 rfl ?_
  rw [nI_add]
  refine ev_sald (q := 439) dL_law_438 rfl rfl (hin _ (by omega)) ?_
  refine ev_aload_n (q := 440) dL_law_439 rfl rfl ?_
  refine ev_iload_n (q := 441) dL_law_440 rfl rfl ?_
  refine ev_iconst (q := 442) (nI 2 : Int32) dL_law_441 rfl (by decide) ?_
  refine ev_iadd (q := 443) dL_law_442 rfl ?_
  rw [nI_add]
  refine ev_sald (q := 444) dL_law_443 rfl rfl (hin _ (by omega)) ?_
  refine ev_cV (q := 447) (ci := 8) dL_law_444 rfl okX8_rumour lmRL_66 imX8_rumour seX8_rumour (by first | rfl | assumption | exact zf_kd (by assumption) | exact zw_kd (by assumption) | exact zt_kd (by assumption)) (by first | decide | exact zf_lt (by assumption) | exact zf_lt1 (by assumption) | exact zf_lt2 (by assumption) | exact zf_lt3 (by assumption) | exact zf_lt4 (by assumption) | exact zw_lt (by assumption) | exact zw_lt1 (by assumption) | exact zw_lt2 (by assumption) | exact zw_lt3 (by assumption) | exact zw_lt4 (by assumption) | exact zt_lt (by assumption)) (by decide) rfl (cm_X8_rumour G fo I430 (m_rumour h hg1).1 h.2.2.2.2.1.2.1 (m_rumour h hg1).2.1 _ _) (by decide) rfl rfl (Nat.le_of_ble_eq_true rfl) (fun v444 n444 I444 P444 hR444 => ?_)
  obtain ⟨rfl, rfl, rfl, hg2⟩ := hR444
  refine ev_icmp_eq (q := 450) (t := 799) dL_law_447 rfl (by decide) (fun h447 => ?_) (fun h447 => ?_)
  · exact K _ _ (s_rumour h hB hg1 hg2)
  · exact absurd ((zRu_cg (m_rumour h hg1).2.2 T _ _).2.symm) h447
set_option maxHeartbeats 4000000 in
set_option maxRecDepth 100000 in
theorem law_12 (G : zq_G) (fo : Bool) (I : zq_I) {B i N T Y fs cn len : Nat} {R : zq_R} (h : zR6 B fo N T Y fs cn len I) (hB : B < 600) (hi : i + 5 ≤ G.2.2.2.2.1) (hL : G.2.2.2.2.1 ≤ 2560) (K : ∀ (fo2 : Bool) (I2 : zq_I), zREL (B + 1) fo2 I2 → zq_E G mL_law 30 0 0 true 799 [some (.ref zq_sc), some (.ref 0), some (.ref 119), some (.int (nI i))] [] 138 I2 (zPs fo2) R) : zq_E G mL_law 30 0 0 true 452 [some (.ref zq_sc), some (.ref 0), some (.ref 119), some (.int (nI i))] [] 138 I (zPs fo) R := by
  have hin : ∀ j, j < i + 5 → vp_in (nI j) G.2.2.2.2.1 := fun j hj => vp_in_nI (by omega) (by omega)
  refine ev_aload_n (q := 453) dL_law_452 rfl rfl ?_
  refine ev_cV (q := 456) (ci := 7) dL_law_453 rfl okX7_undo lmRL_67 imX7_undo seX7_undo (by first | rfl | assumption | exact zf_kd (by assumption) | exact zw_kd (by assumption) | exact zt_kd (by assumption)) (by first | decide | exact zf_lt (by assumption) | exact zf_lt1 (by assumption) | exact zf_lt2 (by assumption) | exact zf_lt3 (by assumption) | exact zf_lt4 (by assumption) | exact zw_lt (by assumption) | exact zw_lt1 (by assumption) | exact zw_lt2 (by assumption) | exact zw_lt3 (by assumption) | exact zw_lt4 (by assumption) | exact zt_lt (by assumption)) (by decide) rfl (c_X7_undo G fo I h.2.2.2.2.1.1 h.2.2.2.2.1.2.1 h.2.2.2.2.1.2.2.1 h.2.2.2.2.1.2.2.2.1) (by decide) rfl rfl (Nat.le_of_ble_eq_true rfl) (fun v453 n453 I453 P453 hR453 => ?_)
  obtain ⟨rfl, rfl, hu1⟩ := hR453
  obtain ⟨a1, rfl⟩ := v_undo hu1
  refine ev_aload_n (q := 457) dL_law_456 rfl rfl ?_
  refine ev_cV (q := 460) (ci := 8) dL_law_457 rfl okX8_undo lmRL_70 imX8_undo seX8_undo (by first | rfl | assumption | exact zf_kd (by assumption) | exact zw_kd (by assumption) | exact zt_kd (by assumption)) (by first | decide | exact zf_lt (by assumption) | exact zf_lt1 (by assumption) | exact zf_lt2 (by assumption) | exact zf_lt3 (by assumption) | exact zf_lt4 (by assumption) | exact zw_lt (by assumption) | exact zw_lt1 (by assumption) | exact zw_lt2 (by assumption) | exact zw_lt3 (by assumption) | exact zw_lt4 (by assumption) | exact zt_lt (by assumption)) (by decide) rfl (cm_X8_undo G fo I453 (m_undo h hu1).1 h.2.2.2.2.1.2.1 (m_undo h hu1).2) (by decide) rfl rfl (Nat.le_of_ble_eq_true rfl) (fun v457 n457 I457 P457 hR457 => ?_)
  obtain ⟨rfl, rfl, hu2⟩ := hR457
  obtain ⟨rfl, hrel⟩ := s_undo h hB hu1 hu2
  refine ev_icmp_eq (q := 463) (t := 799) dL_law_460 rfl (by decide) (fun h460 => ?_) (fun h460 => ?_)
  · exact K _ _ (hrel)
  · exact absurd (rfl) h460
set_option maxHeartbeats 4000000 in
set_option maxRecDepth 100000 in
theorem law_13 (G : zq_G) (fo : Bool) (I : zq_I) {B i N T Y fs cn len : Nat} {R : zq_R} (h : zR6 B fo N T Y fs cn len I) (hB : B < 600) (hi : i + 5 ≤ G.2.2.2.2.1) (hL : G.2.2.2.2.1 ≤ 2560) (K : ∀ (fo2 : Bool) (I2 : zq_I), zREL (B + 1) fo2 I2 → zq_E G mL_law 30 0 0 true 799 [some (.ref zq_sc), some (.ref 0), some (.ref 119), some (.int (nI i))] [] 138 I2 (zPs fo2) R) : zq_E G mL_law 30 0 0 true 465 [some (.ref zq_sc), some (.ref 0), some (.ref 119), some (.int (nI i))] [] 138 I (zPs fo) R := by
  have hin : ∀ j, j < i + 5 → vp_in (nI j) G.2.2.2.2.1 := fun j hj => vp_in_nI (by omega) (by omega)
  refine ev_aload_n (q := 466) dL_law_465 rfl rfl ?_
  refine ev_aload_n (q := 467) dL_law_466 rfl rfl ?_
  refine ev_iload_n (q := 468) dL_law_467 rfl rfl ?_
  refine ev_iconst (q := 469) (nI 1 : Int32) dL_law_468 rfl (by decide) ?_
  refine ev_iadd (q := 470) dL_law_469 rfl ?_
  rw [nI_add]
  refine ev_sald (q := 471) dL_law_470 rfl rfl (hin _ (by omega)) ?_
  refine ev_pV (q := 474) (ci := 7) dL_law_471 rfl okX7_forgotten lmRL_71 imX7_forgotten seX7_forgotten (by first | rfl | assumption | exact zf_kd (by assumption) | exact zw_kd (by assumption) | exact zt_kd (by assumption)) (by first | decide | exact zf_lt (by assumption) | exact zf_lt1 (by assumption) | exact zf_lt2 (by assumption) | exact zf_lt3 (by assumption) | exact zf_lt4 (by assumption) | exact zw_lt (by assumption) | exact zw_lt1 (by assumption) | exact zw_lt2 (by assumption) | exact zw_lt3 (by assumption) | exact zw_lt4 (by assumption) | exact zt_lt (by assumption)) (by decide) rfl (c_X7_forgotten G fo I h.1 _) (by decide) rfl rfl (Nat.le_of_ble_eq_true rfl) ?_
  refine ev_aload_n (q := 475) dL_law_474 rfl rfl ?_
  refine ev_aload_n (q := 476) dL_law_475 rfl rfl ?_
  refine ev_iload_n (q := 477) dL_law_476 rfl rfl ?_
  refine ev_iconst (q := 478) (nI 1 : Int32) dL_law_477 rfl (by decide) ?_
  refine ev_iadd (q := 479) dL_law_478 rfl ?_
  rw [nI_add]
  refine ev_sald (q := 480) dL_law_479 rfl rfl (hin _ (by omega)) ?_
  refine ev_cV (q := 483) (ci := 8) dL_law_480 rfl okX8_forgotten lmRL_74 imX8_forgotten seX8_forgotten (by first | rfl | assumption | exact zf_kd (by assumption) | exact zw_kd (by assumption) | exact zt_kd (by assumption)) (by first | decide | exact zf_lt (by assumption) | exact zf_lt1 (by assumption) | exact zf_lt2 (by assumption) | exact zf_lt3 (by assumption) | exact zf_lt4 (by assumption) | exact zw_lt (by assumption) | exact zw_lt1 (by assumption) | exact zw_lt2 (by assumption) | exact zw_lt3 (by assumption) | exact zw_lt4 (by assumption) | exact zt_lt (by assumption)) (by decide) rfl (c_X8_forgotten G fo I h.1 _) (by decide) rfl rfl (Nat.le_of_ble_eq_true rfl) (fun v480 n480 I480 P480 hR480 => ?_)
  obtain ⟨rfl, rfl, rfl, hfm⟩ := hR480
  refine ev_icmp_eq (q := 486) (t := 799) dL_law_483 rfl (by decide) (fun h483 => ?_) (fun h483 => ?_)
  · exact K _ _ (h.q zFC.rf hfm)
  · exact absurd (rfl) h483
set_option maxHeartbeats 4000000 in
set_option maxRecDepth 100000 in
theorem law_14 (G : zq_G) (fo : Bool) (I : zq_I) {B i N T Y fs cn len : Nat} {R : zq_R} (h : zR6 B fo N T Y fs cn len I) (hB : B < 600) (hi : i + 5 ≤ G.2.2.2.2.1) (hL : G.2.2.2.2.1 ≤ 2560) (K : ∀ (fo2 : Bool) (I2 : zq_I), zREL (B + 1) fo2 I2 → zq_E G mL_law 30 0 0 true 799 [some (.ref zq_sc), some (.ref 0), some (.ref 119), some (.int (nI i))] [] 138 I2 (zPs fo2) R) : zq_E G mL_law 30 0 0 true 488 [some (.ref zq_sc), some (.ref 0), some (.ref 119), some (.int (nI i))] [] 138 I (zPs fo) R := by
  have hin : ∀ j, j < i + 5 → vp_in (nI j) G.2.2.2.2.1 := fun j hj => vp_in_nI (by omega) (by omega)
  refine ev_aload_n (q := 489) dL_law_488 rfl rfl ?_
  refine ev_aload_n (q := 490) dL_law_489 rfl rfl ?_
  refine ev_iload_n (q := 491) dL_law_490 rfl rfl ?_
  refine ev_iconst (q := 492) (nI 1 : Int32) dL_law_491 rfl (by decide) ?_
  refine ev_iadd (q := 493) dL_law_492 rfl ?_
  rw [nI_add]
  refine ev_sald (q := 494) dL_law_493 rfl rfl (hin _ (by omega)) ?_
  refine ev_aload_n (q := 495) dL_law_494 rfl rfl ?_
  refine ev_iload_n (q := 496) dL_law_495 rfl rfl ?_
  refine ev_iconst (q := 497) (nI 2 : Int32) dL_law_496 rfl (by decide) ?_
  refine ev_iadd (q := 498) dL_law_497 rfl ?_
  rw [nI_add]
  refine ev_sald (q := 499) dL_law_498 rfl rfl (hin _ (by omega)) ?_
  refine ev_cV (q := 502) (ci := 7) dL_law_499 rfl okX7_lie lmRL_75 imX7_lie seX7_lie (by first | rfl | assumption | exact zf_kd (by assumption) | exact zw_kd (by assumption) | exact zt_kd (by assumption)) (by first | decide | exact zf_lt (by assumption) | exact zf_lt1 (by assumption) | exact zf_lt2 (by assumption) | exact zf_lt3 (by assumption) | exact zf_lt4 (by assumption) | exact zw_lt (by assumption) | exact zw_lt1 (by assumption) | exact zw_lt2 (by assumption) | exact zw_lt3 (by assumption) | exact zw_lt4 (by assumption) | exact zt_lt (by assumption)) (by decide) rfl (c_X7_lie G fo I h.1 _ _) (by decide) rfl rfl (Nat.le_of_ble_eq_true rfl) (fun v499 n499 I499 P499 hR499 => ?_)
  obtain ⟨rfl, rfl, rfl, hfc⟩ := hR499
  refine ev_aload_n (q := 503) dL_law_502 rfl rfl ?_
  refine ev_aload_n (q := 504) dL_law_503 rfl rfl ?_
  refine ev_iload_n (q := 505) dL_law_504 rfl rfl ?_
  refine ev_iconst (q := 506) (nI 1 : Int32) dL_law_505 rfl (by decide) ?_
  refine ev_iadd (q := 507) dL_law_506 rfl ?_
  rw [nI_add]
  refine ev_sald (q := 508) dL_law_507 rfl rfl (hin _ (by omega)) ?_
  refine ev_aload_n (q := 509) dL_law_508 rfl rfl ?_
  refine ev_iload_n (q := 510) dL_law_509 rfl rfl ?_
  refine ev_iconst (q := 511) (nI 2 : Int32) dL_law_510 rfl (by decide) ?_
  refine ev_iadd (q := 512) dL_law_511 rfl ?_
  rw [nI_add]
  refine ev_sald (q := 513) dL_law_512 rfl rfl (hin _ (by omega)) ?_
  refine ev_cV (q := 516) (ci := 8) dL_law_513 rfl okX8_lie lmRL_78 imX8_lie seX8_lie (by first | rfl | assumption | exact zf_kd (by assumption) | exact zw_kd (by assumption) | exact zt_kd (by assumption)) (by first | decide | exact zf_lt (by assumption) | exact zf_lt1 (by assumption) | exact zf_lt2 (by assumption) | exact zf_lt3 (by assumption) | exact zf_lt4 (by assumption) | exact zw_lt (by assumption) | exact zw_lt1 (by assumption) | exact zw_lt2 (by assumption) | exact zw_lt3 (by assumption) | exact zw_lt4 (by assumption) | exact zt_lt (by assumption)) (by decide) rfl (c_X8_lie G fo I499 (hfc.S h.1) _ _) (by decide) rfl rfl (Nat.le_of_ble_eq_true rfl) (fun v513 n513 I513 P513 hR513 => ?_)
  obtain ⟨rfl, rfl, rfl, hfm⟩ := hR513
  refine ev_icmp_eq (q := 519) (t := 799) dL_law_516 rfl (by decide) (fun h516 => ?_) (fun h516 => ?_)
  · exact K _ _ (h.q hfc hfm)
  · exact absurd (by rw [s_lie hfc]) h516
set_option maxHeartbeats 4000000 in
set_option maxRecDepth 100000 in
theorem law_15 (G : zq_G) (fo : Bool) (I : zq_I) {B i N T Y fs cn len : Nat} {R : zq_R} (h : zR6 B fo N T Y fs cn len I) (hB : B < 600) (hi : i + 5 ≤ G.2.2.2.2.1) (hL : G.2.2.2.2.1 ≤ 2560) (K : ∀ (fo2 : Bool) (I2 : zq_I), zREL (B + 1) fo2 I2 → zq_E G mL_law 30 0 0 true 799 [some (.ref zq_sc), some (.ref 0), some (.ref 119), some (.int (nI i))] [] 138 I2 (zPs fo2) R) : zq_E G mL_law 30 0 0 true 521 [some (.ref zq_sc), some (.ref 0), some (.ref 119), some (.int (nI i))] [] 138 I (zPs fo) R := by
  have hin : ∀ j, j < i + 5 → vp_in (nI j) G.2.2.2.2.1 := fun j hj => vp_in_nI (by omega) (by omega)
  refine ev_aload_n (q := 522) dL_law_521 rfl rfl ?_
  refine ev_aload_n (q := 523) dL_law_522 rfl rfl ?_
  refine ev_iload_n (q := 524) dL_law_523 rfl rfl ?_
  refine ev_iconst (q := 525) (nI 1 : Int32) dL_law_524 rfl (by decide) ?_
  refine ev_iadd (q := 526) dL_law_525 rfl ?_
  rw [nI_add]
  refine ev_sald (q := 527) dL_law_526 rfl rfl (hin _ (by omega)) ?_
  refine ev_aload_n (q := 528) dL_law_527 rfl rfl ?_
  refine ev_iload_n (q := 529) dL_law_528 rfl rfl ?_
  refine ev_iconst (q := 530) (nI 2 : Int32) dL_law_529 rfl (by decide) ?_
  refine ev_iadd (q := 531) dL_law_530 rfl ?_
  rw [nI_add]
  refine ev_sald (q := 532) dL_law_531 rfl rfl (hin _ (by omega)) ?_
  refine ev_cV (q := 535) (ci := 7) dL_law_532 rfl okX7_leave lmRL_79 imX7_leave seX7_leave (by first | rfl | assumption | exact zf_kd (by assumption) | exact zw_kd (by assumption) | exact zt_kd (by assumption)) (by first | decide | exact zf_lt (by assumption) | exact zf_lt1 (by assumption) | exact zf_lt2 (by assumption) | exact zf_lt3 (by assumption) | exact zf_lt4 (by assumption) | exact zw_lt (by assumption) | exact zw_lt1 (by assumption) | exact zw_lt2 (by assumption) | exact zw_lt3 (by assumption) | exact zw_lt4 (by assumption) | exact zt_lt (by assumption)) (by decide) rfl (c_X7_leave G fo I h.1 _ _) (by decide) rfl rfl (Nat.le_of_ble_eq_true rfl) (fun v532 n532 I532 P532 hR532 => ?_)
  obtain ⟨rfl, rfl, rfl, hfc⟩ := hR532
  refine ev_aload_n (q := 536) dL_law_535 rfl rfl ?_
  refine ev_aload_n (q := 537) dL_law_536 rfl rfl ?_
  refine ev_iload_n (q := 538) dL_law_537 rfl rfl ?_
  refine ev_iconst (q := 539) (nI 1 : Int32) dL_law_538 rfl (by decide) ?_
  refine ev_iadd (q := 540) dL_law_539 rfl ?_
  rw [nI_add]
  refine ev_sald (q := 541) dL_law_540 rfl rfl (hin _ (by omega)) ?_
  refine ev_aload_n (q := 542) dL_law_541 rfl rfl ?_
  refine ev_iload_n (q := 543) dL_law_542 rfl rfl ?_
  refine ev_iconst (q := 544) (nI 2 : Int32) dL_law_543 rfl (by decide) ?_
  refine ev_iadd (q := 545) dL_law_544 rfl ?_
  rw [nI_add]
  refine ev_sald (q := 546) dL_law_545 rfl rfl (hin _ (by omega)) ?_
  refine ev_cV (q := 549) (ci := 8) dL_law_546 rfl okX8_leave lmRL_82 imX8_leave seX8_leave (by first | rfl | assumption | exact zf_kd (by assumption) | exact zw_kd (by assumption) | exact zt_kd (by assumption)) (by first | decide | exact zf_lt (by assumption) | exact zf_lt1 (by assumption) | exact zf_lt2 (by assumption) | exact zf_lt3 (by assumption) | exact zf_lt4 (by assumption) | exact zw_lt (by assumption) | exact zw_lt1 (by assumption) | exact zw_lt2 (by assumption) | exact zw_lt3 (by assumption) | exact zw_lt4 (by assumption) | exact zt_lt (by assumption)) (by decide) rfl (c_X8_leave G fo I532 (hfc.S h.1) _ _) (by decide) rfl rfl (Nat.le_of_ble_eq_true rfl) (fun v546 n546 I546 P546 hR546 => ?_)
  obtain ⟨rfl, rfl, rfl, hfm⟩ := hR546
  refine ev_icmp_eq (q := 552) (t := 799) dL_law_549 rfl (by decide) (fun h549 => ?_) (fun h549 => ?_)
  · exact K _ _ (h.q hfc hfm)
  · exact absurd (by rw [s_leave hfc]) h549
set_option maxHeartbeats 4000000 in
set_option maxRecDepth 100000 in
theorem law_16 (G : zq_G) (fo : Bool) (I : zq_I) {B i N T Y fs cn len : Nat} {R : zq_R} (h : zR6 B fo N T Y fs cn len I) (hB : B < 600) (hi : i + 5 ≤ G.2.2.2.2.1) (hL : G.2.2.2.2.1 ≤ 2560) (K : ∀ (fo2 : Bool) (I2 : zq_I), zREL (B + 1) fo2 I2 → zq_E G mL_law 30 0 0 true 799 [some (.ref zq_sc), some (.ref 0), some (.ref 119), some (.int (nI i))] [] 138 I2 (zPs fo2) R) : zq_E G mL_law 30 0 0 true 554 [some (.ref zq_sc), some (.ref 0), some (.ref 119), some (.int (nI i))] [] 138 I (zPs fo) R := by
  have hin : ∀ j, j < i + 5 → vp_in (nI j) G.2.2.2.2.1 := fun j hj => vp_in_nI (by omega) (by omega)
  refine ev_aload_n (q := 555) dL_law_554 rfl rfl ?_
  refine ev_aload_n (q := 556) dL_law_555 rfl rfl ?_
  refine ev_iload_n (q := 557) dL_law_556 rfl rfl ?_
  refine ev_iconst (q := 558) (nI 1 : Int32) dL_law_557 rfl (by decide) ?_
  refine ev_iadd (q := 559) dL_law_558 rfl ?_
  rw [nI_add]
  refine ev_sald (q := 560) dL_law_559 rfl rfl (hin _ (by omega)) ?_
  refine ev_aload_n (q := 561) dL_law_560 rfl rfl ?_
  refine ev_iload_n (q := 562) dL_law_561 rfl rfl ?_
  refine ev_iconst (q := 563) (nI 2 : Int32) dL_law_562 rfl (by decide) ?_
  refine ev_iadd (q := 564) dL_law_563 rfl ?_
  rw [nI_add]
  refine ev_sald (q := 565) dL_law_564 rfl rfl (hin _ (by omega)) ?_
  refine ev_aload_n (q := 566) dL_law_565 rfl rfl ?_
  refine ev_iload_n (q := 567) dL_law_566 rfl rfl ?_
  refine ev_iconst (q := 568) (nI 3 : Int32) dL_law_567 rfl (by decide) ?_
  refine ev_iadd (q := 569) dL_law_568 rfl ?_
  rw [nI_add]
  refine ev_sald (q := 570) dL_law_569 rfl rfl (hin _ (by omega)) ?_
  refine ev_cV (q := 573) (ci := 7) dL_law_570 rfl okX7_spans lmRL_83 imX7_spans seX7_spans (by first | rfl | assumption | exact zf_kd (by assumption) | exact zw_kd (by assumption) | exact zt_kd (by assumption)) (by first | decide | exact zf_lt (by assumption) | exact zf_lt1 (by assumption) | exact zf_lt2 (by assumption) | exact zf_lt3 (by assumption) | exact zf_lt4 (by assumption) | exact zw_lt (by assumption) | exact zw_lt1 (by assumption) | exact zw_lt2 (by assumption) | exact zw_lt3 (by assumption) | exact zw_lt4 (by assumption) | exact zt_lt (by assumption)) (by decide) rfl (c_X7_spans G fo I h.1 _ _ _) (by decide) rfl rfl (Nat.le_of_ble_eq_true rfl) (fun v570 n570 I570 P570 hR570 => ?_)
  obtain ⟨rfl, rfl, rfl, hfc⟩ := hR570
  refine ev_aload_n (q := 574) dL_law_573 rfl rfl ?_
  refine ev_aload_n (q := 575) dL_law_574 rfl rfl ?_
  refine ev_iload_n (q := 576) dL_law_575 rfl rfl ?_
  refine ev_iconst (q := 577) (nI 1 : Int32) dL_law_576 rfl (by decide) ?_
  refine ev_iadd (q := 578) dL_law_577 rfl ?_
  rw [nI_add]
  refine ev_sald (q := 579) dL_law_578 rfl rfl (hin _ (by omega)) ?_
  refine ev_aload_n (q := 580) dL_law_579 rfl rfl ?_
  refine ev_iload_n (q := 581) dL_law_580 rfl rfl ?_
  refine ev_iconst (q := 582) (nI 2 : Int32) dL_law_581 rfl (by decide) ?_
  refine ev_iadd (q := 583) dL_law_582 rfl ?_
  rw [nI_add]
  refine ev_sald (q := 584) dL_law_583 rfl rfl (hin _ (by omega)) ?_
  refine ev_aload_n (q := 585) dL_law_584 rfl rfl ?_
  refine ev_iload_n (q := 586) dL_law_585 rfl rfl ?_
  refine ev_iconst (q := 587) (nI 3 : Int32) dL_law_586 rfl (by decide) ?_
  refine ev_iadd (q := 588) dL_law_587 rfl ?_
  rw [nI_add]
  refine ev_sald (q := 589) dL_law_588 rfl rfl (hin _ (by omega)) ?_
  refine ev_cV (q := 592) (ci := 8) dL_law_589 rfl okX8_spans lmRL_87 imX8_spans seX8_spans (by first | rfl | assumption | exact zf_kd (by assumption) | exact zw_kd (by assumption) | exact zt_kd (by assumption)) (by first | decide | exact zf_lt (by assumption) | exact zf_lt1 (by assumption) | exact zf_lt2 (by assumption) | exact zf_lt3 (by assumption) | exact zf_lt4 (by assumption) | exact zw_lt (by assumption) | exact zw_lt1 (by assumption) | exact zw_lt2 (by assumption) | exact zw_lt3 (by assumption) | exact zw_lt4 (by assumption) | exact zt_lt (by assumption)) (by decide) rfl (c_X8_spans G fo I570 (hfc.S h.1) _ _ _) (by decide) rfl rfl (Nat.le_of_ble_eq_true rfl) (fun v589 n589 I589 P589 hR589 => ?_)
  obtain ⟨rfl, rfl, rfl, hfm⟩ := hR589
  refine ev_icmp_eq (q := 595) (t := 799) dL_law_592 rfl (by decide) (fun h592 => ?_) (fun h592 => ?_)
  · exact K _ _ (h.q hfc hfm)
  · exact absurd (by rw [hfc.facts.1, hfc.facts.2.1]) h592
set_option maxHeartbeats 4000000 in
set_option maxRecDepth 100000 in
theorem law_17 (G : zq_G) (fo : Bool) (I : zq_I) {B i N T Y fs cn len : Nat} {R : zq_R} (h : zR6 B fo N T Y fs cn len I) (hB : B < 600) (hi : i + 5 ≤ G.2.2.2.2.1) (hL : G.2.2.2.2.1 ≤ 2560) (K : ∀ (fo2 : Bool) (I2 : zq_I), zREL (B + 1) fo2 I2 → zq_E G mL_law 30 0 0 true 799 [some (.ref zq_sc), some (.ref 0), some (.ref 119), some (.int (nI i))] [] 138 I2 (zPs fo2) R) : zq_E G mL_law 30 0 0 true 597 [some (.ref zq_sc), some (.ref 0), some (.ref 119), some (.int (nI i))] [] 138 I (zPs fo) R := by
  have hin : ∀ j, j < i + 5 → vp_in (nI j) G.2.2.2.2.1 := fun j hj => vp_in_nI (by omega) (by omega)
  refine ev_aload_n (q := 598) dL_law_597 rfl rfl ?_
  refine ev_aload_n (q := 599) dL_law_598 rfl rfl ?_
  refine ev_iload_n (q := 600) dL_law_599 rfl rfl ?_
  refine ev_iconst (q := 601) (nI 1 : Int32) dL_law_600 rfl (by decide) ?_
  refine ev_iadd (q := 602) dL_law_601 rfl ?_
  rw [nI_add]
  refine ev_sald (q := 603) dL_law_602 rfl rfl (hin _ (by omega)) ?_
  refine ev_aload_n (q := 604) dL_law_603 rfl rfl ?_
  refine ev_iload_n (q := 605) dL_law_604 rfl rfl ?_
  refine ev_iconst (q := 606) (nI 2 : Int32) dL_law_605 rfl (by decide) ?_
  refine ev_iadd (q := 607) dL_law_606 rfl ?_
  rw [nI_add]
  refine ev_sald (q := 608) dL_law_607 rfl rfl (hin _ (by omega)) ?_
  refine ev_cV (q := 611) (ci := 7) dL_law_608 rfl okX7_toAsk lmRL_88 imX7_toAsk seX7_toAsk (by first | rfl | assumption | exact zf_kd (by assumption) | exact zw_kd (by assumption) | exact zt_kd (by assumption)) (by first | decide | exact zf_lt (by assumption) | exact zf_lt1 (by assumption) | exact zf_lt2 (by assumption) | exact zf_lt3 (by assumption) | exact zf_lt4 (by assumption) | exact zw_lt (by assumption) | exact zw_lt1 (by assumption) | exact zw_lt2 (by assumption) | exact zw_lt3 (by assumption) | exact zw_lt4 (by assumption) | exact zt_lt (by assumption)) (by decide) rfl (c_X7_toAsk G fo I h.1 _ _) (by decide) rfl rfl (Nat.le_of_ble_eq_true rfl) (fun v608 n608 I608 P608 hR608 => ?_)
  obtain ⟨rfl, rfl, rfl, hfc⟩ := hR608
  refine ev_aload_n (q := 612) dL_law_611 rfl rfl ?_
  refine ev_aload_n (q := 613) dL_law_612 rfl rfl ?_
  refine ev_iload_n (q := 614) dL_law_613 rfl rfl ?_
  refine ev_iconst (q := 615) (nI 1 : Int32) dL_law_614 rfl (by decide) ?_
  refine ev_iadd (q := 616) dL_law_615 rfl ?_
  rw [nI_add]
  refine ev_sald (q := 617) dL_law_616 rfl rfl (hin _ (by omega)) ?_
  refine ev_aload_n (q := 618) dL_law_617 rfl rfl ?_
  refine ev_iload_n (q := 619) dL_law_618 rfl rfl ?_
  refine ev_iconst (q := 620) (nI 2 : Int32) dL_law_619 rfl (by decide) ?_
  refine ev_iadd (q := 621) dL_law_620 rfl ?_
  rw [nI_add]
  refine ev_sald (q := 622) dL_law_621 rfl rfl (hin _ (by omega)) ?_
  refine ev_cV (q := 625) (ci := 8) dL_law_622 rfl okX8_toAsk lmRL_91 imX8_toAsk seX8_toAsk (by first | rfl | assumption | exact zf_kd (by assumption) | exact zw_kd (by assumption) | exact zt_kd (by assumption)) (by first | decide | exact zf_lt (by assumption) | exact zf_lt1 (by assumption) | exact zf_lt2 (by assumption) | exact zf_lt3 (by assumption) | exact zf_lt4 (by assumption) | exact zw_lt (by assumption) | exact zw_lt1 (by assumption) | exact zw_lt2 (by assumption) | exact zw_lt3 (by assumption) | exact zw_lt4 (by assumption) | exact zt_lt (by assumption)) (by decide) rfl (c_X8_toAsk G fo I608 (hfc.S h.1) _ _) (by decide) rfl rfl (Nat.le_of_ble_eq_true rfl) (fun v622 n622 I622 P622 hR622 => ?_)
  obtain ⟨rfl, rfl, rfl, hfm⟩ := hR622
  refine ev_icmp_eq (q := 628) (t := 799) dL_law_625 rfl (by decide) (fun h625 => ?_) (fun h625 => ?_)
  · exact K _ _ (h.q hfc hfm)
  · exact absurd (by rw [hfc.facts.1, hfc.facts.2.1]) h625
set_option maxHeartbeats 4000000 in
set_option maxRecDepth 100000 in
theorem law_18 (G : zq_G) (fo : Bool) (I : zq_I) {B i N T Y fs cn len : Nat} {R : zq_R} (h : zR6 B fo N T Y fs cn len I) (hB : B < 600) (hi : i + 5 ≤ G.2.2.2.2.1) (hL : G.2.2.2.2.1 ≤ 2560) (K : ∀ (fo2 : Bool) (I2 : zq_I), zREL (B + 1) fo2 I2 → zq_E G mL_law 30 0 0 true 799 [some (.ref zq_sc), some (.ref 0), some (.ref 119), some (.int (nI i))] [] 138 I2 (zPs fo2) R) : zq_E G mL_law 30 0 0 true 630 [some (.ref zq_sc), some (.ref 0), some (.ref 119), some (.int (nI i))] [] 138 I (zPs fo) R := by
  have hin : ∀ j, j < i + 5 → vp_in (nI j) G.2.2.2.2.1 := fun j hj => vp_in_nI (by omega) (by omega)
  refine ev_aload_n (q := 631) dL_law_630 rfl rfl ?_
  refine ev_aload_n (q := 632) dL_law_631 rfl rfl ?_
  refine ev_iload_n (q := 633) dL_law_632 rfl rfl ?_
  refine ev_iconst (q := 634) (nI 1 : Int32) dL_law_633 rfl (by decide) ?_
  refine ev_iadd (q := 635) dL_law_634 rfl ?_
  rw [nI_add]
  refine ev_sald (q := 636) dL_law_635 rfl rfl (hin _ (by omega)) ?_
  refine ev_aload_n (q := 637) dL_law_636 rfl rfl ?_
  refine ev_iload_n (q := 638) dL_law_637 rfl rfl ?_
  refine ev_iconst (q := 639) (nI 2 : Int32) dL_law_638 rfl (by decide) ?_
  refine ev_iadd (q := 640) dL_law_639 rfl ?_
  rw [nI_add]
  refine ev_sald (q := 641) dL_law_640 rfl rfl (hin _ (by omega)) ?_
  refine ev_aload_n (q := 642) dL_law_641 rfl rfl ?_
  refine ev_iload_n (q := 643) dL_law_642 rfl rfl ?_
  refine ev_iconst (q := 644) (nI 3 : Int32) dL_law_643 rfl (by decide) ?_
  refine ev_iadd (q := 645) dL_law_644 rfl ?_
  rw [nI_add]
  refine ev_sald (q := 646) dL_law_645 rfl rfl (hin _ (by omega)) ?_
  refine ev_aload_n (q := 647) dL_law_646 rfl rfl ?_
  refine ev_iload_n (q := 648) dL_law_647 rfl rfl ?_
  refine ev_iconst (q := 649) (nI 4 : Int32) dL_law_648 rfl (by decide) ?_
  refine ev_iadd (q := 650) dL_law_649 rfl ?_
  rw [nI_add]
  refine ev_sald (q := 651) dL_law_650 rfl rfl (hin _ (by omega)) ?_
  refine ev_cV (q := 654) (ci := 7) dL_law_651 rfl okX7_retold lmRL_92 imX7_retold seX7_retold (by first | rfl | assumption | exact zf_kd (by assumption) | exact zw_kd (by assumption) | exact zt_kd (by assumption)) (by first | decide | exact zf_lt (by assumption) | exact zf_lt1 (by assumption) | exact zf_lt2 (by assumption) | exact zf_lt3 (by assumption) | exact zf_lt4 (by assumption) | exact zw_lt (by assumption) | exact zw_lt1 (by assumption) | exact zw_lt2 (by assumption) | exact zw_lt3 (by assumption) | exact zw_lt4 (by assumption) | exact zt_lt (by assumption)) (by decide) rfl (c_X7_retold G fo I h.1 _ _ _ _) (by decide) rfl rfl (Nat.le_of_ble_eq_true rfl) (fun v651 n651 I651 P651 hR651 => ?_)
  obtain ⟨rfl, rfl, rfl, hfc⟩ := hR651
  refine ev_aload_n (q := 655) dL_law_654 rfl rfl ?_
  refine ev_aload_n (q := 656) dL_law_655 rfl rfl ?_
  refine ev_iload_n (q := 657) dL_law_656 rfl rfl ?_
  refine ev_iconst (q := 658) (nI 1 : Int32) dL_law_657 rfl (by decide) ?_
  refine ev_iadd (q := 659) dL_law_658 rfl ?_
  rw [nI_add]
  refine ev_sald (q := 660) dL_law_659 rfl rfl (hin _ (by omega)) ?_
  refine ev_aload_n (q := 661) dL_law_660 rfl rfl ?_
  refine ev_iload_n (q := 662) dL_law_661 rfl rfl ?_
  refine ev_iconst (q := 663) (nI 2 : Int32) dL_law_662 rfl (by decide) ?_
  refine ev_iadd (q := 664) dL_law_663 rfl ?_
  rw [nI_add]
  refine ev_sald (q := 665) dL_law_664 rfl rfl (hin _ (by omega)) ?_
  refine ev_aload_n (q := 666) dL_law_665 rfl rfl ?_
  refine ev_iload_n (q := 667) dL_law_666 rfl rfl ?_
  refine ev_iconst (q := 668) (nI 3 : Int32) dL_law_667 rfl (by decide) ?_
  refine ev_iadd (q := 669) dL_law_668 rfl ?_
  rw [nI_add]
  refine ev_sald (q := 670) dL_law_669 rfl rfl (hin _ (by omega)) ?_
  refine ev_aload_n (q := 671) dL_law_670 rfl rfl ?_
  refine ev_iload_n (q := 672) dL_law_671 rfl rfl ?_
  refine ev_iconst (q := 673) (nI 4 : Int32) dL_law_672 rfl (by decide) ?_
  refine ev_iadd (q := 674) dL_law_673 rfl ?_
  rw [nI_add]
  refine ev_sald (q := 675) dL_law_674 rfl rfl (hin _ (by omega)) ?_
  refine ev_cV (q := 678) (ci := 8) dL_law_675 rfl okX8_retold lmRL_96 imX8_retold seX8_retold (by first | rfl | assumption | exact zf_kd (by assumption) | exact zw_kd (by assumption) | exact zt_kd (by assumption)) (by first | decide | exact zf_lt (by assumption) | exact zf_lt1 (by assumption) | exact zf_lt2 (by assumption) | exact zf_lt3 (by assumption) | exact zf_lt4 (by assumption) | exact zw_lt (by assumption) | exact zw_lt1 (by assumption) | exact zw_lt2 (by assumption) | exact zw_lt3 (by assumption) | exact zw_lt4 (by assumption) | exact zt_lt (by assumption)) (by decide) rfl (c_X8_retold G fo I651 (hfc.S h.1) _ _ _ _) (by decide) rfl rfl (Nat.le_of_ble_eq_true rfl) (fun v675 n675 I675 P675 hR675 => ?_)
  obtain ⟨rfl, rfl, rfl, hfm⟩ := hR675
  refine ev_icmp_eq (q := 681) (t := 799) dL_law_678 rfl (by decide) (fun h678 => ?_) (fun h678 => ?_)
  · exact K _ _ (h.q hfc hfm)
  · exact absurd (by rw [hfc.facts.1, hfc.facts.2.1]) h678
set_option maxHeartbeats 4000000 in
set_option maxRecDepth 100000 in
theorem law_19 (G : zq_G) (fo : Bool) (I : zq_I) {B i N T Y fs cn len : Nat} {R : zq_R} (h : zR6 B fo N T Y fs cn len I) (hB : B < 600) (hi : i + 5 ≤ G.2.2.2.2.1) (hL : G.2.2.2.2.1 ≤ 2560) (K : ∀ (fo2 : Bool) (I2 : zq_I), zREL (B + 1) fo2 I2 → zq_E G mL_law 30 0 0 true 799 [some (.ref zq_sc), some (.ref 0), some (.ref 119), some (.int (nI i))] [] 138 I2 (zPs fo2) R) : zq_E G mL_law 30 0 0 true 683 [some (.ref zq_sc), some (.ref 0), some (.ref 119), some (.int (nI i))] [] 138 I (zPs fo) R := by
  have hin : ∀ j, j < i + 5 → vp_in (nI j) G.2.2.2.2.1 := fun j hj => vp_in_nI (by omega) (by omega)
  refine ev_aload_n (q := 684) dL_law_683 rfl rfl ?_
  refine ev_aload_n (q := 685) dL_law_684 rfl rfl ?_
  refine ev_iload_n (q := 686) dL_law_685 rfl rfl ?_
  refine ev_iconst (q := 687) (nI 1 : Int32) dL_law_686 rfl (by decide) ?_
  refine ev_iadd (q := 688) dL_law_687 rfl ?_
  rw [nI_add]
  refine ev_sald (q := 689) dL_law_688 rfl rfl (hin _ (by omega)) ?_
  refine ev_aload_n (q := 690) dL_law_689 rfl rfl ?_
  refine ev_iload_n (q := 691) dL_law_690 rfl rfl ?_
  refine ev_iconst (q := 692) (nI 2 : Int32) dL_law_691 rfl (by decide) ?_
  refine ev_iadd (q := 693) dL_law_692 rfl ?_
  rw [nI_add]
  refine ev_sald (q := 694) dL_law_693 rfl rfl (hin _ (by omega)) ?_
  refine ev_aload_n (q := 695) dL_law_694 rfl rfl ?_
  refine ev_iload_n (q := 696) dL_law_695 rfl rfl ?_
  refine ev_iconst (q := 697) (nI 3 : Int32) dL_law_696 rfl (by decide) ?_
  refine ev_iadd (q := 698) dL_law_697 rfl ?_
  rw [nI_add]
  refine ev_sald (q := 699) dL_law_698 rfl rfl (hin _ (by omega)) ?_
  refine ev_aload_n (q := 700) dL_law_699 rfl rfl ?_
  refine ev_iload_n (q := 701) dL_law_700 rfl rfl ?_
  refine ev_iconst (q := 702) (nI 4 : Int32) dL_law_701 rfl (by decide) ?_
  refine ev_iadd (q := 703) dL_law_702 rfl ?_
  rw [nI_add]
  refine ev_sald (q := 704) dL_law_703 rfl rfl (hin _ (by omega)) ?_
  refine ev_if_eq (q := 707) (t := 711) dL_law_704 rfl (by decide) (fun h704 => ?_) (fun h704 => ?_)
  · refine ev_iconst (q := 712) (0 : Int32) dL_law_711 rfl (by decide) ?_
    refine ev_cV (q := 715) (ci := 7) dL_law_712 rfl okX7_chance lmRL_97 imX7_chance seX7_chance (by first | rfl | assumption | exact zf_kd (by assumption) | exact zw_kd (by assumption) | exact zt_kd (by assumption)) (by first | decide | exact zf_lt (by assumption) | exact zf_lt1 (by assumption) | exact zf_lt2 (by assumption) | exact zf_lt3 (by assumption) | exact zf_lt4 (by assumption) | exact zw_lt (by assumption) | exact zw_lt1 (by assumption) | exact zw_lt2 (by assumption) | exact zw_lt3 (by assumption) | exact zw_lt4 (by assumption) | exact zt_lt (by assumption)) (by decide) rfl (c_X7_chance G fo I h.1 _ _ _ _) (by decide) rfl rfl (Nat.le_of_ble_eq_true rfl) (fun v712 n712 I712 P712 hR712 => ?_)
    obtain ⟨rfl, rfl, rfl, hfc⟩ := hR712
    refine ev_aload_n (q := 716) dL_law_715 rfl rfl ?_
    refine ev_aload_n (q := 717) dL_law_716 rfl rfl ?_
    refine ev_iload_n (q := 718) dL_law_717 rfl rfl ?_
    refine ev_iconst (q := 719) (nI 1 : Int32) dL_law_718 rfl (by decide) ?_
    refine ev_iadd (q := 720) dL_law_719 rfl ?_
    rw [nI_add]
    refine ev_sald (q := 721) dL_law_720 rfl rfl (hin _ (by omega)) ?_
    refine ev_aload_n (q := 722) dL_law_721 rfl rfl ?_
    refine ev_iload_n (q := 723) dL_law_722 rfl rfl ?_
    refine ev_iconst (q := 724) (nI 2 : Int32) dL_law_723 rfl (by decide) ?_
    refine ev_iadd (q := 725) dL_law_724 rfl ?_
    rw [nI_add]
    refine ev_sald (q := 726) dL_law_725 rfl rfl (hin _ (by omega)) ?_
    refine ev_aload_n (q := 727) dL_law_726 rfl rfl ?_
    refine ev_iload_n (q := 728) dL_law_727 rfl rfl ?_
    refine ev_iconst (q := 729) (nI 3 : Int32) dL_law_728 rfl (by decide) ?_
    refine ev_iadd (q := 730) dL_law_729 rfl ?_
    rw [nI_add]
    refine ev_sald (q := 731) dL_law_730 rfl rfl (hin _ (by omega)) ?_
    refine ev_aload_n (q := 732) dL_law_731 rfl rfl ?_
    refine ev_iload_n (q := 733) dL_law_732 rfl rfl ?_
    refine ev_iconst (q := 734) (nI 4 : Int32) dL_law_733 rfl (by decide) ?_
    refine ev_iadd (q := 735) dL_law_734 rfl ?_
    rw [nI_add]
    refine ev_sald (q := 736) dL_law_735 rfl rfl (hin _ (by omega)) ?_
    refine ev_if_eq (q := 739) (t := 743) dL_law_736 rfl (by decide) (fun h736 => ?_) (fun h736 => ?_)
    · refine ev_iconst (q := 744) (0 : Int32) dL_law_743 rfl (by decide) ?_
      refine ev_cV (q := 747) (ci := 8) dL_law_744 rfl okX8_chance lmRL_101 imX8_chance seX8_chance (by first | rfl | assumption | exact zf_kd (by assumption) | exact zw_kd (by assumption) | exact zt_kd (by assumption)) (by first | decide | exact zf_lt (by assumption) | exact zf_lt1 (by assumption) | exact zf_lt2 (by assumption) | exact zf_lt3 (by assumption) | exact zf_lt4 (by assumption) | exact zw_lt (by assumption) | exact zw_lt1 (by assumption) | exact zw_lt2 (by assumption) | exact zw_lt3 (by assumption) | exact zw_lt4 (by assumption) | exact zt_lt (by assumption)) (by decide) rfl (c_X8_chance G fo I712 (hfc.S h.1) _ _ _ _) (by decide) rfl rfl (Nat.le_of_ble_eq_true rfl) (fun v744 n744 I744 P744 hR744 => ?_)
      obtain ⟨rfl, rfl, rfl, hfm⟩ := hR744
      refine ev_lcmp (q := 748) dL_law_747 rfl ?_
      refine ev_if_eq (q := 751) (t := 799) dL_law_748 rfl (by decide) (fun h748 => ?_) (fun h748 => ?_)
      · exact K _ _ (h.q hfc hfm)
      · exact absurd (zcmp0.mpr (by rw [hfc.facts.1, hfc.facts.2.1])) h748
    · exact absurd h704 h736
  · refine ev_iconst (q := 708) (1 : Int32) dL_law_707 rfl (by decide) ?_
    refine ev_goto (t := 712) dL_law_708 (by decide) ?_
    refine ev_cV (q := 715) (ci := 7) dL_law_712 rfl okX7_chance lmRL_97 imX7_chance seX7_chance (by first | rfl | assumption | exact zf_kd (by assumption) | exact zw_kd (by assumption) | exact zt_kd (by assumption)) (by first | decide | exact zf_lt (by assumption) | exact zf_lt1 (by assumption) | exact zf_lt2 (by assumption) | exact zf_lt3 (by assumption) | exact zf_lt4 (by assumption) | exact zw_lt (by assumption) | exact zw_lt1 (by assumption) | exact zw_lt2 (by assumption) | exact zw_lt3 (by assumption) | exact zw_lt4 (by assumption) | exact zt_lt (by assumption)) (by decide) rfl (c_X7_chance G fo I h.1 _ _ _ _) (by decide) rfl rfl (Nat.le_of_ble_eq_true rfl) (fun v712 n712 I712 P712 hR712 => ?_)
    obtain ⟨rfl, rfl, rfl, hfc⟩ := hR712
    refine ev_aload_n (q := 716) dL_law_715 rfl rfl ?_
    refine ev_aload_n (q := 717) dL_law_716 rfl rfl ?_
    refine ev_iload_n (q := 718) dL_law_717 rfl rfl ?_
    refine ev_iconst (q := 719) (nI 1 : Int32) dL_law_718 rfl (by decide) ?_
    refine ev_iadd (q := 720) dL_law_719 rfl ?_
    rw [nI_add]
    refine ev_sald (q := 721) dL_law_720 rfl rfl (hin _ (by omega)) ?_
    refine ev_aload_n (q := 722) dL_law_721 rfl rfl ?_
    refine ev_iload_n (q := 723) dL_law_722 rfl rfl ?_
    refine ev_iconst (q := 724) (nI 2 : Int32) dL_law_723 rfl (by decide) ?_
    refine ev_iadd (q := 725) dL_law_724 rfl ?_
    rw [nI_add]
    refine ev_sald (q := 726) dL_law_725 rfl rfl (hin _ (by omega)) ?_
    refine ev_aload_n (q := 727) dL_law_726 rfl rfl ?_
    refine ev_iload_n (q := 728) dL_law_727 rfl rfl ?_
    refine ev_iconst (q := 729) (nI 3 : Int32) dL_law_728 rfl (by decide) ?_
    refine ev_iadd (q := 730) dL_law_729 rfl ?_
    rw [nI_add]
    refine ev_sald (q := 731) dL_law_730 rfl rfl (hin _ (by omega)) ?_
    refine ev_aload_n (q := 732) dL_law_731 rfl rfl ?_
    refine ev_iload_n (q := 733) dL_law_732 rfl rfl ?_
    refine ev_iconst (q := 734) (nI 4 : Int32) dL_law_733 rfl (by decide) ?_
    refine ev_iadd (q := 735) dL_law_734 rfl ?_
    rw [nI_add]
    refine ev_sald (q := 736) dL_law_735 rfl rfl (hin _ (by omega)) ?_
    refine ev_if_eq (q := 739) (t := 743) dL_law_736 rfl (by decide) (fun h736 => ?_) (fun h736 => ?_)
    · exact absurd h736 h704
    · refine ev_iconst (q := 740) (1 : Int32) dL_law_739 rfl (by decide) ?_
      refine ev_goto (t := 744) dL_law_740 (by decide) ?_
      refine ev_cV (q := 747) (ci := 8) dL_law_744 rfl okX8_chance lmRL_101 imX8_chance seX8_chance (by first | rfl | assumption | exact zf_kd (by assumption) | exact zw_kd (by assumption) | exact zt_kd (by assumption)) (by first | decide | exact zf_lt (by assumption) | exact zf_lt1 (by assumption) | exact zf_lt2 (by assumption) | exact zf_lt3 (by assumption) | exact zf_lt4 (by assumption) | exact zw_lt (by assumption) | exact zw_lt1 (by assumption) | exact zw_lt2 (by assumption) | exact zw_lt3 (by assumption) | exact zw_lt4 (by assumption) | exact zt_lt (by assumption)) (by decide) rfl (c_X8_chance G fo I712 (hfc.S h.1) _ _ _ _) (by decide) rfl rfl (Nat.le_of_ble_eq_true rfl) (fun v744 n744 I744 P744 hR744 => ?_)
      obtain ⟨rfl, rfl, rfl, hfm⟩ := hR744
      refine ev_lcmp (q := 748) dL_law_747 rfl ?_
      refine ev_if_eq (q := 751) (t := 799) dL_law_748 rfl (by decide) (fun h748 => ?_) (fun h748 => ?_)
      · exact K _ _ (h.q hfc hfm)
      · exact absurd (zcmp0.mpr (by rw [hfc.facts.1, hfc.facts.2.1])) h748
set_option maxHeartbeats 4000000 in
set_option maxRecDepth 100000 in
theorem law_20 (G : zq_G) (fo : Bool) (I : zq_I) {B i N T Y fs cn len : Nat} {R : zq_R} (h : zR6 B fo N T Y fs cn len I) (hB : B < 600) (hi : i + 5 ≤ G.2.2.2.2.1) (hL : G.2.2.2.2.1 ≤ 2560) (K : ∀ (fo2 : Bool) (I2 : zq_I), zREL (B + 1) fo2 I2 → zq_E G mL_law 30 0 0 true 799 [some (.ref zq_sc), some (.ref 0), some (.ref 119), some (.int (nI i))] [] 138 I2 (zPs fo2) R) : zq_E G mL_law 30 0 0 true 753 [some (.ref zq_sc), some (.ref 0), some (.ref 119), some (.int (nI i))] [] 138 I (zPs fo) R := by
  have hin : ∀ j, j < i + 5 → vp_in (nI j) G.2.2.2.2.1 := fun j hj => vp_in_nI (by omega) (by omega)
  refine ev_aload_n (q := 754) dL_law_753 rfl rfl ?_
  refine ev_aload_n (q := 755) dL_law_754 rfl rfl ?_
  refine ev_iload_n (q := 756) dL_law_755 rfl rfl ?_
  refine ev_iconst (q := 757) (nI 1 : Int32) dL_law_756 rfl (by decide) ?_
  refine ev_iadd (q := 758) dL_law_757 rfl ?_
  rw [nI_add]
  refine ev_sald (q := 759) dL_law_758 rfl rfl (hin _ (by omega)) ?_
  refine ev_cV (q := 762) (ci := 7) dL_law_759 rfl okX7_keep lmRL_102 imX7_keep seX7_keep (by first | rfl | assumption | exact zf_kd (by assumption) | exact zw_kd (by assumption) | exact zt_kd (by assumption)) (by first | decide | exact zf_lt (by assumption) | exact zf_lt1 (by assumption) | exact zf_lt2 (by assumption) | exact zf_lt3 (by assumption) | exact zf_lt4 (by assumption) | exact zw_lt (by assumption) | exact zw_lt1 (by assumption) | exact zw_lt2 (by assumption) | exact zw_lt3 (by assumption) | exact zw_lt4 (by assumption) | exact zt_lt (by assumption)) (by decide) rfl (c_X7_keep G fo I _) (by decide) rfl rfl (Nat.le_of_ble_eq_true rfl) (fun v759 n759 I759 P759 hR759 => ?_)
  obtain ⟨rfl, rfl, hk1⟩ := hR759
  obtain ⟨a1, rfl⟩ := v_keep hk1
  refine ev_aload_n (q := 763) dL_law_762 rfl rfl ?_
  refine ev_aload_n (q := 764) dL_law_763 rfl rfl ?_
  refine ev_iload_n (q := 765) dL_law_764 rfl rfl ?_
  refine ev_iconst (q := 766) (nI 1 : Int32) dL_law_765 rfl (by decide) ?_
  refine ev_iadd (q := 767) dL_law_766 rfl ?_
  rw [nI_add]
  refine ev_sald (q := 768) dL_law_767 rfl rfl (hin _ (by omega)) ?_
  refine ev_cV (q := 771) (ci := 8) dL_law_768 rfl okX8_keep lmRL_105 imX8_keep seX8_keep (by first | rfl | assumption | exact zf_kd (by assumption) | exact zw_kd (by assumption) | exact zt_kd (by assumption)) (by first | decide | exact zf_lt (by assumption) | exact zf_lt1 (by assumption) | exact zf_lt2 (by assumption) | exact zf_lt3 (by assumption) | exact zf_lt4 (by assumption) | exact zw_lt (by assumption) | exact zw_lt1 (by assumption) | exact zw_lt2 (by assumption) | exact zw_lt3 (by assumption) | exact zw_lt4 (by assumption) | exact zt_lt (by assumption)) (by decide) rfl (c_X8_keep G fo I759 (m_keep h hk1) _) (by decide) rfl rfl (Nat.le_of_ble_eq_true rfl) (fun v768 n768 I768 P768 hR768 => ?_)
  obtain ⟨rfl, rfl, hk2⟩ := hR768
  obtain ⟨rfl, hrel⟩ := s_keep h hk1 hk2
  refine ev_icmp_eq (q := 774) (t := 799) dL_law_771 rfl (by decide) (fun h771 => ?_) (fun h771 => ?_)
  · exact K _ _ (hrel)
  · exact absurd (rfl) h771
set_option maxHeartbeats 4000000 in
set_option maxRecDepth 100000 in
theorem law_21 (G : zq_G) (fo : Bool) (I : zq_I) {B i N T Y fs cn len : Nat} {R : zq_R} (h : zR6 B fo N T Y fs cn len I) (hB : B < 600) (hi : i + 5 ≤ G.2.2.2.2.1) (hL : G.2.2.2.2.1 ≤ 2560) (K : ∀ (fo2 : Bool) (I2 : zq_I), zREL (B + 1) fo2 I2 → zq_E G mL_law 30 0 0 true 799 [some (.ref zq_sc), some (.ref 0), some (.ref 119), some (.int (nI i))] [] 138 I2 (zPs fo2) R) : zq_E G mL_law 30 0 0 true 776 [some (.ref zq_sc), some (.ref 0), some (.ref 119), some (.int (nI i))] [] 138 I (zPs fo) R := by
  have hin : ∀ j, j < i + 5 → vp_in (nI j) G.2.2.2.2.1 := fun j hj => vp_in_nI (by omega) (by omega)
  refine ev_aload_n (q := 777) dL_law_776 rfl rfl ?_
  refine ev_aload_n (q := 778) dL_law_777 rfl rfl ?_
  refine ev_iload_n (q := 779) dL_law_778 rfl rfl ?_
  refine ev_iconst (q := 780) (nI 1 : Int32) dL_law_779 rfl (by decide) ?_
  refine ev_iadd (q := 781) dL_law_780 rfl ?_
  rw [nI_add]
  refine ev_sald (q := 782) dL_law_781 rfl rfl (hin _ (by omega)) ?_
  refine ev_cV (q := 785) (ci := 7) dL_law_782 rfl okX7_again lmRL_106 imX7_again seX7_again (by first | rfl | assumption | exact zf_kd (by assumption) | exact zw_kd (by assumption) | exact zt_kd (by assumption)) (by first | decide | exact zf_lt (by assumption) | exact zf_lt1 (by assumption) | exact zf_lt2 (by assumption) | exact zf_lt3 (by assumption) | exact zf_lt4 (by assumption) | exact zw_lt (by assumption) | exact zw_lt1 (by assumption) | exact zw_lt2 (by assumption) | exact zw_lt3 (by assumption) | exact zw_lt4 (by assumption) | exact zt_lt (by assumption)) (by decide) rfl (c_X7_again G fo I _) (by decide) rfl rfl (Nat.le_of_ble_eq_true rfl) (fun v782 n782 I782 P782 hR782 => ?_)
  obtain ⟨rfl, rfl, hk1⟩ := hR782
  obtain ⟨a1, rfl⟩ := v_again hk1
  refine ev_aload_n (q := 786) dL_law_785 rfl rfl ?_
  refine ev_aload_n (q := 787) dL_law_786 rfl rfl ?_
  refine ev_iload_n (q := 788) dL_law_787 rfl rfl ?_
  refine ev_iconst (q := 789) (nI 1 : Int32) dL_law_788 rfl (by decide) ?_
  refine ev_iadd (q := 790) dL_law_789 rfl ?_
  rw [nI_add]
  refine ev_sald (q := 791) dL_law_790 rfl rfl (hin _ (by omega)) ?_
  refine ev_cV (q := 794) (ci := 8) dL_law_791 rfl okX8_again lmRL_109 imX8_again seX8_again (by first | rfl | assumption | exact zf_kd (by assumption) | exact zw_kd (by assumption) | exact zt_kd (by assumption)) (by first | decide | exact zf_lt (by assumption) | exact zf_lt1 (by assumption) | exact zf_lt2 (by assumption) | exact zf_lt3 (by assumption) | exact zf_lt4 (by assumption) | exact zw_lt (by assumption) | exact zw_lt1 (by assumption) | exact zw_lt2 (by assumption) | exact zw_lt3 (by assumption) | exact zw_lt4 (by assumption) | exact zt_lt (by assumption)) (by decide) rfl (cm_X8_again G fo I782 (m_again h hk1) _) (by decide) rfl rfl (Nat.le_of_ble_eq_true rfl) (fun v791 n791 I791 P791 hR791 => ?_)
  obtain ⟨rfl, rfl, hk2⟩ := hR791
  obtain ⟨rfl, hrel⟩ := s_again h hB hk1 hk2
  refine ev_icmp_eq (q := 797) (t := 799) dL_law_794 rfl (by decide) (fun h794 => ?_) (fun h794 => ?_)
  · exact K _ _ (hrel)
  · exact absurd (rfl) h794
