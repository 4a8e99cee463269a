/-! what is made: P as at the end below n, but for the places L; nothing from n on -/
def zPin (n : Nat) (L : List (Nat × Nat)) (P : zq_P) : Prop := (∀ c k, n ≤ c → P c k = none) ∧ ∀ c k, c < n → P c k = if (c, k) ∈ L then none else zPs false c k
def zIin (n : Nat) (I : zq_I) : Prop := ∀ c k, n ≤ c → I c k = 0
theorem zIin.s {n : Nat} {I : zq_I} (h : zIin n I) : zIin (n + 1) I := fun c k hc => h c k (by omega)
theorem zIin.mono {n m : Nat} {I : zq_I} (h : zIin n I) (hm : n ≤ m) : zIin m I := fun c k hc => h c k (by omega)
theorem zIin.zu {n : Nat} {I : zq_I} (h : zIin n I) {c k : Nat} {v : Int32} (hc : c < n) : zIin n (zu I c k v) := fun c' k' hc' => by
  rw [zu_other (by omega)]; exact h c' k' hc'
theorem zpl_big : ∀ c, c < 138 → (zq_pl.getD c []).length ≤ 33 := by decide +kernel
theorem zPs_big (fo : Bool) (c k : Nat) (hk : 33 ≤ k) : zPs fo c k = none := by
  unfold zPs zq_P0
  rw [if_neg (by omega), if_neg (by omega)]
  by_cases hc : c < 138
  · have h1 := zpl_big c hc
    rw [List.getD_eq_getElem?_getD (l := zq_pl.getD c []), List.getElem?_eq_none (by omega)]
    rfl
  · have h2 : zq_pl.length ≤ 138 := by decide +kernel
    rw [List.getD_eq_getElem?_getD (l := zq_pl), List.getElem?_eq_none (by omega)]
    rfl
theorem zPs_out (fo : Bool) (c k : Nat) (hc : 138 ≤ c) : zPs fo c k = none := by
  unfold zPs zq_P0
  have h2 : zq_pl.length ≤ 138 := by decide +kernel
  rw [if_neg (by omega), if_neg (by omega), List.getD_eq_getElem?_getD (l := zq_pl), List.getElem?_eq_none (by omega)]
  rfl
theorem zrow_of {n : Nat} {rows : List Nat} (h : ∀ k, k < 33 → k ∈ rows ∨ zPs false n k = none) : ∀ k, k ∈ rows ∨ zPs false n k = none := by
  intro k
  by_cases hk : k < 33
  · exact h k hk
  · exact Or.inr (zPs_big false n k (by omega))
theorem zrowW : ∀ w ∈ zq_wl, ∀ k, k < 33 → (k ∈ [1, 2, 3, 4] ∨ zPs false w k = none) ∧ zPs false (w + 1) k = none ∧ zPs false (w + 2) k = none ∧ zPs false (w + 3) k = none ∧ zPs false (w + 4) k = none := by decide +kernel
theorem zrowF : ∀ f ∈ [109, 114], ∀ k, k < 33 → (k ∈ [4, 5, 6, 7] ∨ zPs false f k = none) ∧ zPs false (f + 1) k = none ∧ zPs false (f + 2) k = none ∧ zPs false (f + 3) k = none ∧ zPs false (f + 4) k = none := by decide +kernel
theorem zPin.new {n : Nat} {L : List (Nat × Nat)} {P : zq_P} (rows : List Nat) (hr : ∀ k, k ∈ rows ∨ zPs false n k = none) (h : zPin n L P) : zPin (n + 1) (rows.map (fun k => (n, k)) ++ L) P := by
  refine ⟨fun c k hc => h.1 c k (by omega), fun c k hc => ?_⟩
  by_cases hcn : c = n
  · subst hcn
    rw [h.1 c k (Nat.le_refl _)]
    split
    · rfl
    · rename_i h1
      rcases hr k with q | q
      · exact absurd (List.mem_append_left _ (List.mem_map.mpr ⟨k, q, rfl⟩)) h1
      · exact q.symm
  · rw [h.2 c k (by omega)]
    have e : (c, k) ∈ rows.map (fun k => (n, k)) ++ L ↔ (c, k) ∈ L := by
      rw [List.mem_append, List.mem_map]
      constructor
      · rintro (⟨j, -, q⟩ | q)
        · exact absurd (Prod.mk.inj q).1.symm hcn
        · exact q
      · exact Or.inr
    simp only [e]
theorem zPin.put {n c k v : Nat} {L : List (Nat × Nat)} {P : zq_P} (hc : c < n) (hv : zPs false c k = some v) (hL : (c, k) ∉ L) (h : zPin n ((c, k) :: L) P) : zPin n L (zp P c k (some v)) := by
  refine ⟨fun c' k' hc' => ?_, fun c' k' hc' => ?_⟩
  · show (if c' = c ∧ k' = k then some v else P c' k') = none
    rw [if_neg (by omega)]; exact h.1 c' k' hc'
  · show (if c' = c ∧ k' = k then some v else P c' k') = _
    by_cases hq : c' = c ∧ k' = k
    · obtain ⟨rfl, rfl⟩ := hq
      rw [if_pos ⟨rfl, rfl⟩, if_neg hL, hv]
    · rw [if_neg hq, h.2 c' k' hc']
      have e : (c', k') ∈ (c, k) :: L ↔ (c', k') ∈ L := by
        rw [List.mem_cons]
        constructor
        · rintro (q | q)
          · exact absurd ⟨(Prod.mk.inj q).1, (Prod.mk.inj q).2⟩ hq
          · exact q
        · exact Or.inr
      simp only [e]
theorem zPin.perm {n : Nat} {L L' : List (Nat × Nat)} {P : zq_P} (hL : L.Perm L') (h : zPin n L P) : zPin n L' P := by
  refine ⟨h.1, fun c k hc => ?_⟩
  rw [h.2 c k hc]
  simp only [hL.mem_iff]
theorem zPin.get {n c k v : Nat} {L : List (Nat × Nat)} {P : zq_P} (h : zPin n L P) (hc : c < n) (hL : (c, k) ∉ L) (hv : zPs false c k = some v) : P c k = some v := by
  rw [h.2 c k hc, if_neg hL, hv]
theorem zPin.all {P : zq_P} (h : zPin 138 [] P) : P = zPs false := by
  funext c k
  by_cases hc : c < 138
  · rw [h.2 c k hc, if_neg (by simp)]
  · rw [h.1 c k (by omega), zPs_out false c k (by omega)]
set_option maxHeartbeats 4000000 in
set_option maxRecDepth 100000 in
theorem c_X5_init (G : zq_G) {a n : Nat} (I : zq_I) (P : zq_P) : zq_Met G mX5_init 1 0 0 [.ref a] (n) I P (fun v n' I' P' => v = none ∧ n' = n ∧ I' = I ∧ P' = P) := by
  refine zq_Met.of okX5_init (Nat.le_of_ble_eq_true rfl) ?_
  show zq_E _ _ _ _ _ _ _ [some (.ref a)] _ _ _ _ _
  refine ev_aload_n (q := 1) dX5_init_0 rfl rfl ?_
  refine ev_objInit (q := 4) dX5_init_1 rfl lmRX5_3 imObj cdObj (by decide) (Nat.le_of_ble_eq_true rfl) ?_
  exact ev_vret dX5_init_4 rfl (⟨rfl, rfl, rfl, rfl⟩)
set_option maxHeartbeats 4000000 in
set_option maxRecDepth 100000 in
theorem c_X2_init (G : zq_G) {a n : Nat} (I : zq_I) (P : zq_P) : zq_Met G mX2_init 1 0 0 [.ref a] (n) I P (fun v n' I' P' => v = none ∧ n' = n ∧ I' = I ∧ P' = P) := by
  refine zq_Met.of okX2_init (Nat.le_of_ble_eq_true rfl) ?_
  show zq_E _ _ _ _ _ _ _ [some (.ref a)] _ _ _ _ _
  refine ev_aload_n (q := 1) dX2_init_0 rfl rfl ?_
  refine ev_objInit (q := 4) dX2_init_1 rfl lmRX2_3 imObj cdObj (by decide) (Nat.le_of_ble_eq_true rfl) ?_
  exact ev_vret dX2_init_4 rfl (⟨rfl, rfl, rfl, rfl⟩)
set_option maxHeartbeats 4000000 in
set_option maxRecDepth 100000 in
theorem c_X6_init (G : zq_G) {w : Nat} {L : List (Nat × Nat)} {I : zq_I} {P : zq_P} (hw : zq_isW w) (hI : zIin (w + 1) I) (hp : zPin (w + 1) ((w, 1) :: (w, 2) :: (w, 3) :: (w, 4) :: L) P) (hL : ∀ k, (w, k) ∉ L) : zq_Met G mX6_init 1 4 28 [.ref w] (w + 1) I P (fun v n' I' P' => v = none ∧ n' = w + 5 ∧ I' = I ∧ zPin (w + 5) L P') := by
  refine zq_Met.of okX6_init (Nat.le_of_ble_eq_true rfl) ?_
  show zq_E _ _ _ _ _ _ _ [some (.ref w)] _ _ _ _ _
  refine ev_aload_n (q := 1) dX6_init_0 rfl rfl ?_
  refine ev_objInit (q := 4) dX6_init_1 rfl lmRX6_3 imObj cdObj (by decide) (Nat.le_of_ble_eq_true rfl) ?_
  refine ev_aload_n (q := 5) dX6_init_4 rfl rfl ?_
  refine ev_bipush (q := 7) (8 : Int32) dX6_init_5 rfl (by decide) ?_
  refine ev_room (kc := 3 + 1) (ks := 20 + 8) (by decide) (by decide) ?_
  refine ev_newarr (q := 9) (t := 0) (N := 8) dX6_init_7 rfl (zw_kd1 hw) (by decide) rfl ac_int (by decide) (by decide) (by decide) (by have := zw_lt hw; omega) (fun f => hI _ f (Nat.le_refl _)) ?_
  refine (show zq_E _ _ _ 3 20 _ _ _ _ (w + 2) _ _ _ from ?_)
  have hI : zIin (w + 2) _ := zIin.s hI
  have hp : zPin (w + 2) ((w, 1) :: (w, 2) :: (w, 3) :: (w, 4) :: L) _ := zPin.new [] (zrow_of (fun k hk => Or.inr (zrowW w hw k hk).2.1)) hp
  refine ev_putRF (q := 12) (ci := 6) (f := 1) dX6_init_9 rfl (by first | rfl | assumption | exact zf_kd (by assumption) | exact zw_kd (by assumption) | exact zt_kd (by assumption)) (by omega) (by decide) (by decide) lfRX6_9 rfl rfl rfl rfl rfl (fun _ => rfl) (fun _ => rfl) ?_
  have hp : zPin (w + 2) ((w, 2) :: (w, 3) :: (w, 4) :: L) _ := zPin.put (by omega) (zw_p1 false hw) (by simp [hL]) hp
  refine ev_aload_n (q := 13) dX6_init_12 rfl rfl ?_
  refine ev_bipush (q := 15) (8 : Int32) dX6_init_13 rfl (by decide) ?_
  refine ev_room (kc := 2 + 1) (ks := 12 + 8) (by decide) (by decide) ?_
  refine ev_newarr (q := 17) (t := 0) (N := 8) dX6_init_15 rfl (zw_kd2 hw) (by decide) rfl ac_int (by decide) (by decide) (by decide) (by have := zw_lt hw; omega) (fun f => hI _ f (Nat.le_refl _)) ?_
  refine (show zq_E _ _ _ 2 12 _ _ _ _ (w + 3) _ _ _ from ?_)
  have hI : zIin (w + 3) _ := zIin.s hI
  have hp : zPin (w + 3) ((w, 2) :: (w, 3) :: (w, 4) :: L) _ := zPin.new [] (zrow_of (fun k hk => Or.inr (zrowW w hw k hk).2.2.1)) hp
  refine ev_putRF (q := 20) (ci := 6) (f := 2) dX6_init_17 rfl (by first | rfl | assumption | exact zf_kd (by assumption) | exact zw_kd (by assumption) | exact zt_kd (by assumption)) (by omega) (by decide) (by decide) lfRX6_15 rfl rfl rfl rfl rfl (fun _ => rfl) (fun _ => rfl) ?_
  have hp : zPin (w + 3) ((w, 3) :: (w, 4) :: L) _ := zPin.put (by omega) (zw_p2 false hw) (by simp [hL]) hp
  refine ev_aload_n (q := 21) dX6_init_20 rfl rfl ?_
  refine ev_bipush (q := 23) (8 : Int32) dX6_init_21 rfl (by decide) ?_
  refine ev_room (kc := 1 + 1) (ks := 4 + 8) (by decide) (by decide) ?_
  refine ev_newarr (q := 25) (t := 0) (N := 8) dX6_init_23 rfl (zw_kd3 hw) (by decide) rfl ac_int (by decide) (by decide) (by decide) (by have := zw_lt hw; omega) (fun f => hI _ f (Nat.le_refl _)) ?_
  refine (show zq_E _ _ _ 1 4 _ _ _ _ (w + 4) _ _ _ from ?_)
  have hI : zIin (w + 4) _ := zIin.s hI
  have hp : zPin (w + 4) ((w, 3) :: (w, 4) :: L) _ := zPin.new [] (zrow_of (fun k hk => Or.inr (zrowW w hw k hk).2.2.2.1)) hp
  refine ev_putRF (q := 28) (ci := 6) (f := 3) dX6_init_25 rfl (by first | rfl | assumption | exact zf_kd (by assumption) | exact zw_kd (by assumption) | exact zt_kd (by assumption)) (by omega) (by decide) (by decide) lfRX6_18 rfl rfl rfl rfl rfl (fun _ => rfl) (fun _ => rfl) ?_
  have hp : zPin (w + 4) ((w, 4) :: L) _ := zPin.put (by omega) (zw_p3 false hw) (by simp [hL]) hp
  refine ev_aload_n (q := 29) dX6_init_28 rfl rfl ?_
  refine ev_iconst (q := 30) (4 : Int32) dX6_init_29 rfl (by decide) ?_
  refine ev_room (kc := 0 + 1) (ks := 0 + 4) (by decide) (by decide) ?_
  refine ev_newarr (q := 32) (t := 0) (N := 4) dX6_init_30 rfl (zw_kd4 hw) (by decide) rfl ac_int (by decide) (by decide) (by decide) (by have := zw_lt hw; omega) (fun f => hI _ f (Nat.le_refl _)) ?_
  refine (show zq_E _ _ _ 0 0 _ _ _ _ (w + 5) _ _ _ from ?_)
  have hI : zIin (w + 5) _ := zIin.s hI
  have hp : zPin (w + 5) ((w, 4) :: L) _ := zPin.new [] (zrow_of (fun k hk => Or.inr (zrowW w hw k hk).2.2.2.2)) hp
  refine ev_putRF (q := 35) (ci := 6) (f := 4) dX6_init_32 rfl (by first | rfl | assumption | exact zf_kd (by assumption) | exact zw_kd (by assumption) | exact zt_kd (by assumption)) (by omega) (by decide) (by decide) lfRX6_21 rfl rfl rfl rfl rfl (fun _ => rfl) (fun _ => rfl) ?_
  have hp : zPin (w + 5) (L) _ := zPin.put (by omega) (zw_p4 false hw) (by simp [hL]) hp
  exact ev_vret dX6_init_35 rfl (⟨rfl, rfl, rfl, hp⟩)
set_option maxHeartbeats 4000000 in
set_option maxRecDepth 100000 in
theorem c_X0_init (G : zq_G) {f : Nat} {L : List (Nat × Nat)} {I : zq_I} {P : zq_P} (hf : zq_isF f) (hI : zIin (f + 1) I) (hp : zPin (f + 1) ((f, 4) :: (f, 5) :: (f, 6) :: (f, 7) :: L) P) (hL : ∀ k, (f, k) ∉ L) : zq_Met G mX0_init 1 4 32 [.ref f] (f + 1) I P (fun v n' I' P' => v = none ∧ n' = f + 5 ∧ I' = zu I f 1 1 ∧ zPin (f + 5) L P') := by
  refine zq_Met.of okX0_init (Nat.le_of_ble_eq_true rfl) ?_
  show zq_E _ _ _ _ _ _ _ [some (.ref f)] _ _ _ _ _
  have hfm : f ∈ [109, 114] := by rcases hf with rfl | rfl <;> decide
  refine ev_aload_n (q := 1) dX0_init_0 rfl rfl ?_
  refine ev_objInit (q := 4) dX0_init_1 rfl lmRX0_3 imObj cdObj (by decide) (Nat.le_of_ble_eq_true rfl) ?_
  refine ev_aload_n (q := 5) dX0_init_4 rfl rfl ?_
  refine ev_iconst (q := 6) (1 : Int32) dX0_init_5 rfl (by decide) ?_
  refine ev_putI (q := 9) (ci := 0) (f := 1) dX0_init_6 rfl (by first | rfl | assumption | exact zf_kd (by assumption) | exact zw_kd (by assumption) | exact zt_kd (by assumption)) (by omega) (by decide) (by decide) lfRX0_9 rfl rfl rfl rfl ?_
  have hI : zIin (f + 1) (zu I f 1 1) := hI.zu (by omega)
  refine ev_aload_n (q := 10) dX0_init_9 rfl rfl ?_
  refine ev_bipush (q := 12) (8 : Int32) dX0_init_10 rfl (by decide) ?_
  refine ev_room (kc := 3 + 1) (ks := 24 + 8) (by decide) (by decide) ?_
  refine ev_newarr (q := 14) (t := 0) (N := 8) dX0_init_12 rfl (zf_kd1 hf) (by decide) rfl ac_int (by decide) (by decide) (by decide) (by have := zf_lt hf; omega) (fun f => hI _ f (Nat.le_refl _)) ?_
  refine (show zq_E _ _ _ 3 24 _ _ _ _ (f + 2) _ _ _ from ?_)
  have hI : zIin (f + 2) _ := zIin.s hI
  have hp : zPin (f + 2) ((f, 4) :: (f, 5) :: (f, 6) :: (f, 7) :: L) _ := zPin.new [] (zrow_of (fun k hk => Or.inr (zrowF f hfm k hk).2.1)) hp
  refine ev_putRF (q := 17) (ci := 0) (f := 4) dX0_init_14 rfl (by first | rfl | assumption | exact zf_kd (by assumption) | exact zw_kd (by assumption) | exact zt_kd (by assumption)) (by omega) (by decide) (by decide) lfRX0_15 rfl rfl rfl rfl rfl (fun _ => rfl) (fun _ => rfl) ?_
  have hp : zPin (f + 2) ((f, 5) :: (f, 6) :: (f, 7) :: L) _ := zPin.put (by omega) (zf_p4 false hf) (by simp [hL]) hp
  refine ev_aload_n (q := 18) dX0_init_17 rfl rfl ?_
  refine ev_bipush (q := 20) (8 : Int32) dX0_init_18 rfl (by decide) ?_
  refine ev_room (kc := 2 + 1) (ks := 16 + 8) (by decide) (by decide) ?_
  refine ev_newarr (q := 22) (t := 0) (N := 8) dX0_init_20 rfl (zf_kd2 hf) (by decide) rfl ac_int (by decide) (by decide) (by decide) (by have := zf_lt hf; omega) (fun f => hI _ f (Nat.le_refl _)) ?_
  refine (show zq_E _ _ _ 2 16 _ _ _ _ (f + 3) _ _ _ from ?_)
  have hI : zIin (f + 3) _ := zIin.s hI
  have hp : zPin (f + 3) ((f, 5) :: (f, 6) :: (f, 7) :: L) _ := zPin.new [] (zrow_of (fun k hk => Or.inr (zrowF f hfm k hk).2.2.1)) hp
  refine ev_putRF (q := 25) (ci := 0) (f := 5) dX0_init_22 rfl (by first | rfl | assumption | exact zf_kd (by assumption) | exact zw_kd (by assumption) | exact zt_kd (by assumption)) (by omega) (by decide) (by decide) lfRX0_19 rfl rfl rfl rfl rfl (fun _ => rfl) (fun _ => rfl) ?_
  have hp : zPin (f + 3) ((f, 6) :: (f, 7) :: L) _ := zPin.put (by omega) (zf_p5 false hf) (by simp [hL]) hp
  refine ev_aload_n (q := 26) dX0_init_25 rfl rfl ?_
  refine ev_bipush (q := 28) (8 : Int32) dX0_init_26 rfl (by decide) ?_
  refine ev_room (kc := 1 + 1) (ks := 8 + 8) (by decide) (by decide) ?_
  refine ev_newarr (q := 30) (t := 0) (N := 8) dX0_init_28 rfl (zf_kd3 hf) (by decide) rfl ac_int (by decide) (by decide) (by decide) (by have := zf_lt hf; omega) (fun f => hI _ f (Nat.le_refl _)) ?_
  refine (show zq_E _ _ _ 1 8 _ _ _ _ (f + 4) _ _ _ from ?_)
  have hI : zIin (f + 4) _ := zIin.s hI
  have hp : zPin (f + 4) ((f, 6) :: (f, 7) :: L) _ := zPin.new [] (zrow_of (fun k hk => Or.inr (zrowF f hfm k hk).2.2.2.1)) hp
  refine ev_putRF (q := 33) (ci := 0) (f := 6) dX0_init_30 rfl (by first | rfl | assumption | exact zf_kd (by assumption) | exact zw_kd (by assumption) | exact zt_kd (by assumption)) (by omega) (by decide) (by decide) lfRX0_22 rfl rfl rfl rfl rfl (fun _ => rfl) (fun _ => rfl) ?_
  have hp : zPin (f + 4) ((f, 7) :: L) _ := zPin.put (by omega) (zf_p6 false hf) (by simp [hL]) hp
  refine ev_aload_n (q := 34) dX0_init_33 rfl rfl ?_
  refine ev_bipush (q := 36) (8 : Int32) dX0_init_34 rfl (by decide) ?_
  refine ev_room (kc := 0 + 1) (ks := 0 + 8) (by decide) (by decide) ?_
  refine ev_newarr (q := 38) (t := 0) (N := 8) dX0_init_36 rfl (zf_kd4 hf) (by decide) rfl ac_int (by decide) (by decide) (by decide) (by have := zf_lt hf; omega) (fun f => hI _ f (Nat.le_refl _)) ?_
  refine (show zq_E _ _ _ 0 0 _ _ _ _ (f + 5) _ _ _ from ?_)
  have hI : zIin (f + 5) _ := zIin.s hI
  have hp : zPin (f + 5) ((f, 7) :: L) _ := zPin.new [] (zrow_of (fun k hk => Or.inr (zrowF f hfm k hk).2.2.2.2)) hp
  refine ev_putRF (q := 41) (ci := 0) (f := 7) dX0_init_38 rfl (by first | rfl | assumption | exact zf_kd (by assumption) | exact zw_kd (by assumption) | exact zt_kd (by assumption)) (by omega) (by decide) (by decide) lfRX0_25 rfl rfl rfl rfl rfl (fun _ => rfl) (fun _ => rfl) ?_
  have hp : zPin (f + 5) (L) _ := zPin.put (by omega) (zf_p7 false hf) (by simp [hL]) hp
  exact ev_vret dX0_init_41 rfl (⟨rfl, rfl, rfl, hp⟩)
set_option maxHeartbeats 4000000 in
set_option maxRecDepth 100000 in
theorem c_X4_init (G : zq_G) {I : zq_I} {P : zq_P} (hI : zIin 2 I) (hp : zPin 2 [(1, 0), (0, 0), (0, 1), (0, 2), (0, 3), (0, 4), (0, 5), (0, 6), (0, 7), (0, 8), (0, 9), (0, 10)] P) : zq_Met G mX4_init 1 1 80 [.ref 1] (2) I P (fun v n' I' P' => v = none ∧ n' = 3 ∧ I' = I ∧ zPin 3 [(0, 0), (0, 1), (0, 2), (0, 3), (0, 4), (0, 5), (0, 6), (0, 7), (0, 8), (0, 9), (0, 10)] P') := by
  refine zq_Met.of okX4_init (Nat.le_of_ble_eq_true rfl) ?_
  show zq_E _ _ _ _ _ _ _ [some (.ref 1)] _ _ _ _ _
  refine ev_aload_n (q := 1) dX4_init_0 rfl rfl ?_
  refine ev_objInit (q := 4) dX4_init_1 rfl lmRX4_3 imObj cdObj (by decide) (Nat.le_of_ble_eq_true rfl) ?_
  refine ev_aload_n (q := 5) dX4_init_4 rfl rfl ?_
  refine ev_bipush (q := 7) (80 : Int32) dX4_init_5 rfl (by decide) ?_
  refine ev_room (kc := 0 + 1) (ks := 0 + 80) (by decide) (by decide) ?_
  refine ev_newarr (q := 9) (t := 1) (N := 80) dX4_init_7 rfl rfl (by decide) rfl ac_byte (by decide) (by decide) (by decide) (by decide) (fun f => hI _ f (Nat.le_refl _)) ?_
  refine (show zq_E _ _ _ 0 0 _ _ _ _ (3) _ _ _ from ?_)
  have hI : zIin (3) _ := zIin.s hI
  have hp : zPin (3) ([(1, 0), (0, 0), (0, 1), (0, 2), (0, 3), (0, 4), (0, 5), (0, 6), (0, 7), (0, 8), (0, 9), (0, 10)]) _ := zPin.new [] (zrow_of (by decide +kernel)) hp
  refine ev_putRF (q := 12) (ci := 4) (f := 0) dX4_init_9 rfl (by first | rfl | assumption | exact zf_kd (by assumption) | exact zw_kd (by assumption) | exact zt_kd (by assumption)) (by omega) (by decide) (by decide) lfRX4_9 rfl rfl rfl rfl rfl (fun _ => rfl) (fun _ => rfl) ?_
  have hp : zPin (3) ([(0, 0), (0, 1), (0, 2), (0, 3), (0, 4), (0, 5), (0, 6), (0, 7), (0, 8), (0, 9), (0, 10)]) _ := zPin.put (by omega) rfl (by decide) hp
  exact ev_vret dX4_init_12 rfl (⟨rfl, rfl, rfl, hp⟩)
set_option maxHeartbeats 4000000 in
set_option maxRecDepth 100000 in
theorem c_X3_init (G : zq_G) {I : zq_I} {P : zq_P} (hI : zIin 6 I) (hp : zPin 6 [(5, 0), (5, 1), (5, 2), (0, 3), (0, 4), (0, 5), (0, 6), (0, 7), (0, 8), (0, 9), (0, 10)] P) : zq_Met G mX3_init 2 3 8 [.ref 5] (6) I P (fun v n' I' P' => v = none ∧ n' = 9 ∧ I' = I ∧ zPin 9 [(0, 3), (0, 4), (0, 5), (0, 6), (0, 7), (0, 8), (0, 9), (0, 10)] P') := by
  refine zq_Met.of okX3_init (Nat.le_of_ble_eq_true rfl) ?_
  show zq_E _ _ _ _ _ _ _ [some (.ref 5)] _ _ _ _ _
  refine ev_aload_n (q := 1) dX3_init_0 rfl rfl ?_
  refine ev_objInit (q := 4) dX3_init_1 rfl lmRX3_3 imObj cdObj (by decide) (Nat.le_of_ble_eq_true rfl) ?_
  refine ev_aload_n (q := 5) dX3_init_4 rfl rfl ?_
  refine ev_iconst (q := 6) (3 : Int32) dX3_init_5 rfl (by decide) ?_
  refine ev_room (kc := 2 + 1) (ks := 5 + 3) (by decide) (by decide) ?_
  refine ev_newarr (q := 8) (t := 0) (N := 3) dX3_init_6 rfl rfl (by decide) rfl ac_int (by decide) (by decide) (by decide) (by decide) (fun f => hI _ f (Nat.le_refl _)) ?_
  refine (show zq_E _ _ _ 2 5 _ _ _ _ (7) _ _ _ from ?_)
  have hI : zIin (7) _ := zIin.s hI
  have hp : zPin (7) ([(5, 0), (5, 1), (5, 2), (0, 3), (0, 4), (0, 5), (0, 6), (0, 7), (0, 8), (0, 9), (0, 10)]) _ := zPin.new [] (zrow_of (by decide +kernel)) hp
  refine ev_putRF (q := 11) (ci := 3) (f := 0) dX3_init_8 rfl (by first | rfl | assumption | exact zf_kd (by assumption) | exact zw_kd (by assumption) | exact zt_kd (by assumption)) (by omega) (by decide) (by decide) lfRX3_9 rfl rfl rfl rfl rfl (fun _ => rfl) (fun _ => rfl) ?_
  have hp : zPin (7) ([(5, 1), (5, 2), (0, 3), (0, 4), (0, 5), (0, 6), (0, 7), (0, 8), (0, 9), (0, 10)]) _ := zPin.put (by omega) rfl (by decide) hp
  refine ev_aload_n (q := 12) dX3_init_11 rfl rfl ?_
  refine ev_iconst (q := 13) (3 : Int32) dX3_init_12 rfl (by decide) ?_
  refine ev_room (kc := 1 + 1) (ks := 2 + 3) (by decide) (by decide) ?_
  refine ev_newarr (q := 15) (t := 0) (N := 3) dX3_init_13 rfl rfl (by decide) rfl ac_int (by decide) (by decide) (by decide) (by decide) (fun f => hI _ f (Nat.le_refl _)) ?_
  refine (show zq_E _ _ _ 1 2 _ _ _ _ (8) _ _ _ from ?_)
  have hI : zIin (8) _ := zIin.s hI
  have hp : zPin (8) ([(5, 1), (5, 2), (0, 3), (0, 4), (0, 5), (0, 6), (0, 7), (0, 8), (0, 9), (0, 10)]) _ := zPin.new [] (zrow_of (by decide +kernel)) hp
  refine ev_putRF (q := 18) (ci := 3) (f := 1) dX3_init_15 rfl (by first | rfl | assumption | exact zf_kd (by assumption) | exact zw_kd (by assumption) | exact zt_kd (by assumption)) (by omega) (by decide) (by decide) lfRX3_15 rfl rfl rfl rfl rfl (fun _ => rfl) (fun _ => rfl) ?_
  have hp : zPin (8) ([(5, 2), (0, 3), (0, 4), (0, 5), (0, 6), (0, 7), (0, 8), (0, 9), (0, 10)]) _ := zPin.put (by omega) rfl (by decide) hp
  refine ev_aload_n (q := 19) dX3_init_18 rfl rfl ?_
  refine ev_room (kc := 0 + 1) (ks := 0 + (zq_cls 5).2.2) (by decide) (by decide) ?_
  refine ev_new (q := 22) (ci := 5) dX3_init_19 rfl rfl (by decide) lcRX3_18 itRX5 iniRX5 (by decide) (fun f => hI _ f (Nat.le_refl _)) (fun f => hp.1 _ f (Nat.le_refl _)) ?_
  refine (show zq_E _ _ _ 0 0 _ _ _ _ (9) _ _ _ from ?_)
  have hI : zIin (9) _ := zIin.s hI
  have hp : zPin (9) ([(5, 2), (0, 3), (0, 4), (0, 5), (0, 6), (0, 7), (0, 8), (0, 9), (0, 10)]) _ := zPin.new [] (zrow_of (by decide +kernel)) hp
  refine ev_dup (q := 23) dX3_init_22 rfl rfl ?_
  refine ev_room (kc := 0 + 0) (ks := 0 + 0) (by decide) (by decide) ?_
  refine ev_callIN (q := 26) dX3_init_23 rfl okX5_init lnRX3_20 imX5_init rfl rfl (c_X5_init G _ _) (by decide) rfl rfl (Nat.le_of_ble_eq_true rfl) (fun v23 n23 I23 P23 hR23 => ?_)
  obtain ⟨rfl, rfl, rfl, rfl⟩ := hR23
  refine (show zq_E _ _ _ 0 0 _ _ _ _ (9) _ _ _ from ?_)
  have hp : zPin (9) ([(5, 2), (0, 3), (0, 4), (0, 5), (0, 6), (0, 7), (0, 8), (0, 9), (0, 10)]) _ := hp
  have hI : zIin (9) _ := zIin.mono hI (by omega)
  refine ev_putRF (q := 29) (ci := 3) (f := 2) dX3_init_26 rfl (by first | rfl | assumption | exact zf_kd (by assumption) | exact zw_kd (by assumption) | exact zt_kd (by assumption)) (by omega) (by decide) (by decide) lfRX3_21 rfl rfl rfl rfl rfl (fun _ => rfl) (fun _ => rfl) ?_
  have hp : zPin (9) ([(0, 3), (0, 4), (0, 5), (0, 6), (0, 7), (0, 8), (0, 9), (0, 10)]) _ := zPin.put (by omega) rfl (by decide) hp
  exact ev_vret dX3_init_29 rfl (⟨rfl, rfl, rfl, hp⟩)
set_option maxHeartbeats 8000000 in
set_option maxRecDepth 100000 in
theorem c_X1_init (G : zq_G) {I : zq_I} {P : zq_P} (hI : zIin 10 I) (hp : zPin 10 [(9, 0), (0, 4), (0, 5), (0, 6), (0, 7), (0, 8), (0, 9), (0, 10)] P) : zq_Met G mX1_init 2 81 544 [.ref 9] 10 I P (fun v n' I' P' => v = none ∧ n' = 91 ∧ I' = I ∧ zPin 91 [(0, 4), (0, 5), (0, 6), (0, 7), (0, 8), (0, 9), (0, 10)] P') := by
  refine zq_Met.of okX1_init (Nat.le_of_ble_eq_true rfl) ?_
  show zq_E _ _ _ _ _ _ _ [some (.ref 9), none] _ _ _ _ _
  refine ev_aload_n (q := 1) dX1_init_0 rfl rfl ?_
  refine ev_objInit (q := 4) dX1_init_1 rfl lmRX1_3 imObj cdObj (by decide) (Nat.le_of_ble_eq_true rfl) ?_
  refine ev_aload_n (q := 5) dX1_init_4 rfl rfl ?_
  refine ev_bipush (q := 7) (16 : Int32) dX1_init_5 rfl (by decide) ?_
  refine ev_room (kc := 80 + 1) (ks := 528 + 16) (by decide) (by decide) ?_
  refine ev_anew (q := 10) (N := 16) dX1_init_7 rfl rfl lcRX1_9 ao_World (by decide) (by decide) (by decide) (by decide) (fun f => hp.1 _ f (Nat.le_refl _)) ?_
  refine (show zq_E _ _ _ 80 528 _ _ _ _ (11) _ _ _ from ?_)
  have hI : zIin (11) _ := zIin.s hI
  have hp : zPin (11) ([(10, 0), (10, 1), (10, 2), (10, 3), (10, 4), (10, 5), (10, 6), (10, 7), (10, 8), (10, 9), (10, 10), (10, 11), (10, 12), (10, 13), (10, 14), (10, 15), (9, 0), (0, 4), (0, 5), (0, 6), (0, 7), (0, 8), (0, 9), (0, 10)]) _ := zPin.new [0, 1, 2, 3, 4, 5, 6, 7, 8, 9, 10, 11, 12, 13, 14, 15] (zrow_of (by decide +kernel)) hp
  refine ev_putRF (q := 13) (ci := 1) (f := 0) dX1_init_10 rfl (by first | rfl | assumption | exact zf_kd (by assumption) | exact zw_kd (by assumption) | exact zt_kd (by assumption)) (by omega) (by decide) (by decide) lfRX1_11 rfl rfl rfl rfl rfl (fun _ => rfl) (fun _ => rfl) ?_
  have hp : zPin (11) ([(9, 0), (10, 0), (10, 1), (10, 2), (10, 3), (10, 4), (10, 5), (10, 6), (10, 7), (10, 8), (10, 9), (10, 10), (10, 11), (10, 12), (10, 13), (10, 14), (10, 15), (0, 4), (0, 5), (0, 6), (0, 7), (0, 8), (0, 9), (0, 10)]) _ := zPin.perm (by decide) hp
  have hp : zPin (11) ([(10, 0), (10, 1), (10, 2), (10, 3), (10, 4), (10, 5), (10, 6), (10, 7), (10, 8), (10, 9), (10, 10), (10, 11), (10, 12), (10, 13), (10, 14), (10, 15), (0, 4), (0, 5), (0, 6), (0, 7), (0, 8), (0, 9), (0, 10)]) _ := zPin.put (by omega) rfl (by decide) hp
  refine ev_iconst (q := 14) (nI 0 : Int32) dX1_init_13 rfl (by decide) ?_
  refine ev_istore_nL (q := 15) (L9 := [_, _]) dX1_init_14 rfl (by decide) rfl rfl ?_
  refine ev_iload_n (q := 16) dX1_init_15 rfl rfl ?_
  refine ev_bipush (q := 18) (nI 16 : Int32) dX1_init_16 rfl (by decide) ?_
  refine ev_icmp_ge (q := 21) (t := 40) dX1_init_18 rfl (by decide) (fun h18 => absurd h18 (by decide)) (fun h18 => ?_)
  refine ev_aload_n (q := 22) dX1_init_21 rfl rfl ?_
  refine ev_getR (q := 25) (ci := 1) (f := 0) dX1_init_22 rfl (by first | rfl | assumption | exact zf_kd (by assumption) | exact zw_kd (by assumption) | exact zt_kd (by assumption)) (by omega) (by decide) (by decide) lfRX1_11 rfl (hp.get (by omega) (by decide) rfl) ?_
  refine ev_iload_n (q := 26) dX1_init_25 rfl rfl ?_
  refine ev_room (kc := 79 + 1) (ks := 523 + (zq_cls 6).2.2) (by decide) (by decide) ?_
  refine ev_new (q := 29) (ci := 6) dX1_init_26 rfl rfl (by decide) lcRX1_9 itRX6 iniRX6 (by decide) (fun f => hI _ f (Nat.le_refl _)) (fun f => hp.1 _ f (Nat.le_refl _)) ?_
  refine (show zq_E _ _ _ 79 523 _ _ _ _ (12) _ _ _ from ?_)
  have hI : zIin (12) _ := zIin.s hI
  have hp : zPin (12) ([(11, 1), (11, 2), (11, 3), (11, 4), (10, 0), (10, 1), (10, 2), (10, 3), (10, 4), (10, 5), (10, 6), (10, 7), (10, 8), (10, 9), (10, 10), (10, 11), (10, 12), (10, 13), (10, 14), (10, 15), (0, 4), (0, 5), (0, 6), (0, 7), (0, 8), (0, 9), (0, 10)]) _ := zPin.new [1, 2, 3, 4] (zrow_of (by decide +kernel)) hp
  refine ev_dup (q := 30) dX1_init_29 rfl rfl ?_
  refine ev_room (kc := 75 + 4) (ks := 495 + 28) (by decide) (by decide) ?_
  refine ev_callIN (q := 33) dX1_init_30 rfl okX6_init lnRX1_17 imX6_init rfl rfl (c_X6_init G (w := 11) (by unfold zq_isW; decide) hI hp (by intro k; simp)) (by decide) rfl rfl (Nat.le_of_ble_eq_true rfl) (fun v30 n30 I30 P30 hR30 => ?_)
  obtain ⟨rfl, rfl, rfl, hp⟩ := hR30
  refine (show zq_E _ _ _ 75 495 _ _ _ _ (16) _ _ _ from ?_)
  have hp : zPin (16) ([(10, 0), (10, 1), (10, 2), (10, 3), (10, 4), (10, 5), (10, 6), (10, 7), (10, 8), (10, 9), (10, 10), (10, 11), (10, 12), (10, 13), (10, 14), (10, 15), (0, 4), (0, 5), (0, 6), (0, 7), (0, 8), (0, 9), (0, 10)]) _ := hp
  have hI : zIin (16) _ := zIin.mono hI (by omega)
  refine ev_aastN (q := 34) dX1_init_33 rfl rfl (by omega) (by decide) rfl (by first | decide | exact zf_lt (by assumption) | exact zf_lt1 (by assumption) | exact zf_lt2 (by assumption) | exact zf_lt3 (by assumption) | exact zf_lt4 (by assumption) | exact zw_lt (by assumption) | exact zw_lt1 (by assumption) | exact zw_lt2 (by assumption) | exact zw_lt3 (by assumption) | exact zw_lt4 (by assumption) | exact zt_lt (by assumption)) ?_
  have hp : zPin (16) ([(10, 1), (10, 2), (10, 3), (10, 4), (10, 5), (10, 6), (10, 7), (10, 8), (10, 9), (10, 10), (10, 11), (10, 12), (10, 13), (10, 14), (10, 15), (0, 4), (0, 5), (0, 6), (0, 7), (0, 8), (0, 9), (0, 10)]) _ := zPin.put (by omega) rfl (by decide) hp
  refine ev_iincL (q := 37) (L9 := [_, _]) (1 : Int32) dX1_init_34 rfl rfl (by decide) (by decide) rfl rfl ?_
  refine ev_goto (t := 15) dX1_init_37 (by decide) ?_
  rw [nI_1]
  refine (show zq_E _ _ _ _ _ _ _ [some (.ref 9), some (.int (nI 1))] _ _ _ _ _ from ?_)
  refine ev_iload_n (q := 16) dX1_init_15 rfl rfl ?_
  refine ev_bipush (q := 18) (nI 16 : Int32) dX1_init_16 rfl (by decide) ?_
  refine ev_icmp_ge (q := 21) (t := 40) dX1_init_18 rfl (by decide) (fun h18 => absurd h18 (by decide)) (fun h18 => ?_)
  refine ev_aload_n (q := 22) dX1_init_21 rfl rfl ?_
  refine ev_getR (q := 25) (ci := 1) (f := 0) dX1_init_22 rfl (by first | rfl | assumption | exact zf_kd (by assumption) | exact zw_kd (by assumption) | exact zt_kd (by assumption)) (by omega) (by decide) (by decide) lfRX1_11 rfl (hp.get (by omega) (by decide) rfl) ?_
  refine ev_iload_n (q := 26) dX1_init_25 rfl rfl ?_
  refine ev_room (kc := 74 + 1) (ks := 490 + (zq_cls 6).2.2) (by decide) (by decide) ?_
  refine ev_new (q := 29) (ci := 6) dX1_init_26 rfl rfl (by decide) lcRX1_9 itRX6 iniRX6 (by decide) (fun f => hI _ f (Nat.le_refl _)) (fun f => hp.1 _ f (Nat.le_refl _)) ?_
  refine (show zq_E _ _ _ 74 490 _ _ _ _ (17) _ _ _ from ?_)
  have hI : zIin (17) _ := zIin.s hI
  have hp : zPin (17) ([(16, 1), (16, 2), (16, 3), (16, 4), (10, 1), (10, 2), (10, 3), (10, 4), (10, 5), (10, 6), (10, 7), (10, 8), (10, 9), (10, 10), (10, 11), (10, 12), (10, 13), (10, 14), (10, 15), (0, 4), (0, 5), (0, 6), (0, 7), (0, 8), (0, 9), (0, 10)]) _ := zPin.new [1, 2, 3, 4] (zrow_of (by decide +kernel)) hp
  refine ev_dup (q := 30) dX1_init_29 rfl rfl ?_
  refine ev_room (kc := 70 + 4) (ks := 462 + 28) (by decide) (by decide) ?_
  refine ev_callIN (q := 33) dX1_init_30 rfl okX6_init lnRX1_17 imX6_init rfl rfl (c_X6_init G (w := 16) (by unfold zq_isW; decide) hI hp (by intro k; simp)) (by decide) rfl rfl (Nat.le_of_ble_eq_true rfl) (fun v30 n30 I30 P30 hR30 => ?_)
  obtain ⟨rfl, rfl, rfl, hp⟩ := hR30
  refine (show zq_E _ _ _ 70 462 _ _ _ _ (21) _ _ _ from ?_)
  have hp : zPin (21) ([(10, 1), (10, 2), (10, 3), (10, 4), (10, 5), (10, 6), (10, 7), (10, 8), (10, 9), (10, 10), (10, 11), (10, 12), (10, 13), (10, 14), (10, 15), (0, 4), (0, 5), (0, 6), (0, 7), (0, 8), (0, 9), (0, 10)]) _ := hp
  have hI : zIin (21) _ := zIin.mono hI (by omega)
  refine ev_aastN (q := 34) dX1_init_33 rfl rfl (by omega) (by decide) rfl (by first | decide | exact zf_lt (by assumption) | exact zf_lt1 (by assumption) | exact zf_lt2 (by assumption) | exact zf_lt3 (by assumption) | exact zf_lt4 (by assumption) | exact zw_lt (by assumption) | exact zw_lt1 (by assumption) | exact zw_lt2 (by assumption) | exact zw_lt3 (by assumption) | exact zw_lt4 (by assumption) | exact zt_lt (by assumption)) ?_
  have hp : zPin (21) ([(10, 2), (10, 3), (10, 4), (10, 5), (10, 6), (10, 7), (10, 8), (10, 9), (10, 10), (10, 11), (10, 12), (10, 13), (10, 14), (10, 15), (0, 4), (0, 5), (0, 6), (0, 7), (0, 8), (0, 9), (0, 10)]) _ := zPin.put (by omega) rfl (by decide) hp
  refine ev_iincL (q := 37) (L9 := [_, _]) (1 : Int32) dX1_init_34 rfl rfl (by decide) (by decide) rfl rfl ?_
  refine ev_goto (t := 15) dX1_init_37 (by decide) ?_
  rw [nI_1]
  refine (show zq_E _ _ _ _ _ _ _ [some (.ref 9), some (.int (nI 2))] _ _ _ _ _ from ?_)
  refine ev_iload_n (q := 16) dX1_init_15 rfl rfl ?_
  refine ev_bipush (q := 18) (nI 16 : Int32) dX1_init_16 rfl (by decide) ?_
  refine ev_icmp_ge (q := 21) (t := 40) dX1_init_18 rfl (by decide) (fun h18 => absurd h18 (by decide)) (fun h18 => ?_)
  refine ev_aload_n (q := 22) dX1_init_21 rfl rfl ?_
  refine ev_getR (q := 25) (ci := 1) (f := 0) dX1_init_22 rfl (by first | rfl | assumption | exact zf_kd (by assumption) | exact zw_kd (by assumption) | exact zt_kd (by assumption)) (by omega) (by decide) (by decide) lfRX1_11 rfl (hp.get (by omega) (by decide) rfl) ?_
  refine ev_iload_n (q := 26) dX1_init_25 rfl rfl ?_
  refine ev_room (kc := 69 + 1) (ks := 457 + (zq_cls 6).2.2) (by decide) (by decide) ?_
  refine ev_new (q := 29) (ci := 6) dX1_init_26 rfl rfl (by decide) lcRX1_9 itRX6 iniRX6 (by decide) (fun f => hI _ f (Nat.le_refl _)) (fun f => hp.1 _ f (Nat.le_refl _)) ?_
  refine (show zq_E _ _ _ 69 457 _ _ _ _ (22) _ _ _ from ?_)
  have hI : zIin (22) _ := zIin.s hI
  have hp : zPin (22) ([(21, 1), (21, 2), (21, 3), (21, 4), (10, 2), (10, 3), (10, 4), (10, 5), (10, 6), (10, 7), (10, 8), (10, 9), (10, 10), (10, 11), (10, 12), (10, 13), (10, 14), (10, 15), (0, 4), (0, 5), (0, 6), (0, 7), (0, 8), (0, 9), (0, 10)]) _ := zPin.new [1, 2, 3, 4] (zrow_of (by decide +kernel)) hp
  refine ev_dup (q := 30) dX1_init_29 rfl rfl ?_
  refine ev_room (kc := 65 + 4) (ks := 429 + 28) (by decide) (by decide) ?_
  refine ev_callIN (q := 33) dX1_init_30 rfl okX6_init lnRX1_17 imX6_init rfl rfl (c_X6_init G (w := 21) (by unfold zq_isW; decide) hI hp (by intro k; simp)) (by decide) rfl rfl (Nat.le_of_ble_eq_true rfl) (fun v30 n30 I30 P30 hR30 => ?_)
  obtain ⟨rfl, rfl, rfl, hp⟩ := hR30
  refine (show zq_E _ _ _ 65 429 _ _ _ _ (26) _ _ _ from ?_)
  have hp : zPin (26) ([(10, 2), (10, 3), (10, 4), (10, 5), (10, 6), (10, 7), (10, 8), (10, 9), (10, 10), (10, 11), (10, 12), (10, 13), (10, 14), (10, 15), (0, 4), (0, 5), (0, 6), (0, 7), (0, 8), (0, 9), (0, 10)]) _ := hp
  have hI : zIin (26) _ := zIin.mono hI (by omega)
  refine ev_aastN (q := 34) dX1_init_33 rfl rfl (by omega) (by decide) rfl (by first | decide | exact zf_lt (by assumption) | exact zf_lt1 (by assumption) | exact zf_lt2 (by assumption) | exact zf_lt3 (by assumption) | exact zf_lt4 (by assumption) | exact zw_lt (by assumption) | exact zw_lt1 (by assumption) | exact zw_lt2 (by assumption) | exact zw_lt3 (by assumption) | exact zw_lt4 (by assumption) | exact zt_lt (by assumption)) ?_
  have hp : zPin (26) ([(10, 3), (10, 4), (10, 5), (10, 6), (10, 7), (10, 8), (10, 9), (10, 10), (10, 11), (10, 12), (10, 13), (10, 14), (10, 15), (0, 4), (0, 5), (0, 6), (0, 7), (0, 8), (0, 9), (0, 10)]) _ := zPin.put (by omega) rfl (by decide) hp
  refine ev_iincL (q := 37) (L9 := [_, _]) (1 : Int32) dX1_init_34 rfl rfl (by decide) (by decide) rfl rfl ?_
  refine ev_goto (t := 15) dX1_init_37 (by decide) ?_
  rw [nI_1]
  refine (show zq_E _ _ _ _ _ _ _ [some (.ref 9), some (.int (nI 3))] _ _ _ _ _ from ?_)
  refine ev_iload_n (q := 16) dX1_init_15 rfl rfl ?_
  refine ev_bipush (q := 18) (nI 16 : Int32) dX1_init_16 rfl (by decide) ?_
  refine ev_icmp_ge (q := 21) (t := 40) dX1_init_18 rfl (by decide) (fun h18 => absurd h18 (by decide)) (fun h18 => ?_)
  refine ev_aload_n (q := 22) dX1_init_21 rfl rfl ?_
  refine ev_getR (q := 25) (ci := 1) (f := 0) dX1_init_22 rfl (by first | rfl | assumption | exact zf_kd (by assumption) | exact zw_kd (by assumption) | exact zt_kd (by assumption)) (by omega) (by decide) (by decide) lfRX1_11 rfl (hp.get (by omega) (by decide) rfl) ?_
  refine ev_iload_n (q := 26) dX1_init_25 rfl rfl ?_
  refine ev_room (kc := 64 + 1) (ks := 424 + (zq_cls 6).2.2) (by decide) (by decide) ?_
  refine ev_new (q := 29) (ci := 6) dX1_init_26 rfl rfl (by decide) lcRX1_9 itRX6 iniRX6 (by decide) (fun f => hI _ f (Nat.le_refl _)) (fun f => hp.1 _ f (Nat.le_refl _)) ?_
  refine (show zq_E _ _ _ 64 424 _ _ _ _ (27) _ _ _ from ?_)
  have hI : zIin (27) _ := zIin.s hI
  have hp : zPin (27) ([(26, 1), (26, 2), (26, 3), (26, 4), (10, 3), (10, 4), (10, 5), (10, 6), (10, 7), (10, 8), (10, 9), (10, 10), (10, 11), (10, 12), (10, 13), (10, 14), (10, 15), (0, 4), (0, 5), (0, 6), (0, 7), (0, 8), (0, 9), (0, 10)]) _ := zPin.new [1, 2, 3, 4] (zrow_of (by decide +kernel)) hp
  refine ev_dup (q := 30) dX1_init_29 rfl rfl ?_
  refine ev_room (kc := 60 + 4) (ks := 396 + 28) (by decide) (by decide) ?_
  refine ev_callIN (q := 33) dX1_init_30 rfl okX6_init lnRX1_17 imX6_init rfl rfl (c_X6_init G (w := 26) (by unfold zq_isW; decide) hI hp (by intro k; simp)) (by decide) rfl rfl (Nat.le_of_ble_eq_true rfl) (fun v30 n30 I30 P30 hR30 => ?_)
  obtain ⟨rfl, rfl, rfl, hp⟩ := hR30
  refine (show zq_E _ _ _ 60 396 _ _ _ _ (31) _ _ _ from ?_)
  have hp : zPin (31) ([(10, 3), (10, 4), (10, 5), (10, 6), (10, 7), (10, 8), (10, 9), (10, 10), (10, 11), (10, 12), (10, 13), (10, 14), (10, 15), (0, 4), (0, 5), (0, 6), (0, 7), (0, 8), (0, 9), (0, 10)]) _ := hp
  have hI : zIin (31) _ := zIin.mono hI (by omega)
  refine ev_aastN (q := 34) dX1_init_33 rfl rfl (by omega) (by decide) rfl (by first | decide | exact zf_lt (by assumption) | exact zf_lt1 (by assumption) | exact zf_lt2 (by assumption) | exact zf_lt3 (by assumption) | exact zf_lt4 (by assumption) | exact zw_lt (by assumption) | exact zw_lt1 (by assumption) | exact zw_lt2 (by assumption) | exact zw_lt3 (by assumption) | exact zw_lt4 (by assumption) | exact zt_lt (by assumption)) ?_
  have hp : zPin (31) ([(10, 4), (10, 5), (10, 6), (10, 7), (10, 8), (10, 9), (10, 10), (10, 11), (10, 12), (10, 13), (10, 14), (10, 15), (0, 4), (0, 5), (0, 6), (0, 7), (0, 8), (0, 9), (0, 10)]) _ := zPin.put (by omega) rfl (by decide) hp
  refine ev_iincL (q := 37) (L9 := [_, _]) (1 : Int32) dX1_init_34 rfl rfl (by decide) (by decide) rfl rfl ?_
  refine ev_goto (t := 15) dX1_init_37 (by decide) ?_
  rw [nI_1]
  refine (show zq_E _ _ _ _ _ _ _ [some (.ref 9), some (.int (nI 4))] _ _ _ _ _ from ?_)
  refine ev_iload_n (q := 16) dX1_init_15 rfl rfl ?_
  refine ev_bipush (q := 18) (nI 16 : Int32) dX1_init_16 rfl (by decide) ?_
  refine ev_icmp_ge (q := 21) (t := 40) dX1_init_18 rfl (by decide) (fun h18 => absurd h18 (by decide)) (fun h18 => ?_)
  refine ev_aload_n (q := 22) dX1_init_21 rfl rfl ?_
  refine ev_getR (q := 25) (ci := 1) (f := 0) dX1_init_22 rfl (by first | rfl | assumption | exact zf_kd (by assumption) | exact zw_kd (by assumption) | exact zt_kd (by assumption)) (by omega) (by decide) (by decide) lfRX1_11 rfl (hp.get (by omega) (by decide) rfl) ?_
  refine ev_iload_n (q := 26) dX1_init_25 rfl rfl ?_
  refine ev_room (kc := 59 + 1) (ks := 391 + (zq_cls 6).2.2) (by decide) (by decide) ?_
  refine ev_new (q := 29) (ci := 6) dX1_init_26 rfl rfl (by decide) lcRX1_9 itRX6 iniRX6 (by decide) (fun f => hI _ f (Nat.le_refl _)) (fun f => hp.1 _ f (Nat.le_refl _)) ?_
  refine (show zq_E _ _ _ 59 391 _ _ _ _ (32) _ _ _ from ?_)
  have hI : zIin (32) _ := zIin.s hI
  have hp : zPin (32) ([(31, 1), (31, 2), (31, 3), (31, 4), (10, 4), (10, 5), (10, 6), (10, 7), (10, 8), (10, 9), (10, 10), (10, 11), (10, 12), (10, 13), (10, 14), (10, 15), (0, 4), (0, 5), (0, 6), (0, 7), (0, 8), (0, 9), (0, 10)]) _ := zPin.new [1, 2, 3, 4] (zrow_of (by decide +kernel)) hp
  refine ev_dup (q := 30) dX1_init_29 rfl rfl ?_
  refine ev_room (kc := 55 + 4) (ks := 363 + 28) (by decide) (by decide) ?_
  refine ev_callIN (q := 33) dX1_init_30 rfl okX6_init lnRX1_17 imX6_init rfl rfl (c_X6_init G (w := 31) (by unfold zq_isW; decide) hI hp (by intro k; simp)) (by decide) rfl rfl (Nat.le_of_ble_eq_true rfl) (fun v30 n30 I30 P30 hR30 => ?_)
  obtain ⟨rfl, rfl, rfl, hp⟩ := hR30
  refine (show zq_E _ _ _ 55 363 _ _ _ _ (36) _ _ _ from ?_)
  have hp : zPin (36) ([(10, 4), (10, 5), (10, 6), (10, 7), (10, 8), (10, 9), (10, 10), (10, 11), (10, 12), (10, 13), (10, 14), (10, 15), (0, 4), (0, 5), (0, 6), (0, 7), (0, 8), (0, 9), (0, 10)]) _ := hp
  have hI : zIin (36) _ := zIin.mono hI (by omega)
  refine ev_aastN (q := 34) dX1_init_33 rfl rfl (by omega) (by decide) rfl (by first | decide | exact zf_lt (by assumption) | exact zf_lt1 (by assumption) | exact zf_lt2 (by assumption) | exact zf_lt3 (by assumption) | exact zf_lt4 (by assumption) | exact zw_lt (by assumption) | exact zw_lt1 (by assumption) | exact zw_lt2 (by assumption) | exact zw_lt3 (by assumption) | exact zw_lt4 (by assumption) | exact zt_lt (by assumption)) ?_
  have hp : zPin (36) ([(10, 5), (10, 6), (10, 7), (10, 8), (10, 9), (10, 10), (10, 11), (10, 12), (10, 13), (10, 14), (10, 15), (0, 4), (0, 5), (0, 6), (0, 7), (0, 8), (0, 9), (0, 10)]) _ := zPin.put (by omega) rfl (by decide) hp
  refine ev_iincL (q := 37) (L9 := [_, _]) (1 : Int32) dX1_init_34 rfl rfl (by decide) (by decide) rfl rfl ?_
  refine ev_goto (t := 15) dX1_init_37 (by decide) ?_
  rw [nI_1]
  refine (show zq_E _ _ _ _ _ _ _ [some (.ref 9), some (.int (nI 5))] _ _ _ _ _ from ?_)
  refine ev_iload_n (q := 16) dX1_init_15 rfl rfl ?_
  refine ev_bipush (q := 18) (nI 16 : Int32) dX1_init_16 rfl (by decide) ?_
  refine ev_icmp_ge (q := 21) (t := 40) dX1_init_18 rfl (by decide) (fun h18 => absurd h18 (by decide)) (fun h18 => ?_)
  refine ev_aload_n (q := 22) dX1_init_21 rfl rfl ?_
  refine ev_getR (q := 25) (ci := 1) (f := 0) dX1_init_22 rfl (by first | rfl | assumption | exact zf_kd (by assumption) | exact zw_kd (by assumption) | exact zt_kd (by assumption)) (by omega) (by decide) (by decide) lfRX1_11 rfl (hp.get (by omega) (by decide) rfl) ?_
  refine ev_iload_n (q := 26) dX1_init_25 rfl rfl ?_
  refine ev_room (kc := 54 + 1) (ks := 358 + (zq_cls 6).2.2) (by decide) (by decide) ?_
  refine ev_new (q := 29) (ci := 6) dX1_init_26 rfl rfl (by decide) lcRX1_9 itRX6 iniRX6 (by decide) (fun f => hI _ f (Nat.le_refl _)) (fun f => hp.1 _ f (Nat.le_refl _)) ?_
  refine (show zq_E _ _ _ 54 358 _ _ _ _ (37) _ _ _ from ?_)
  have hI : zIin (37) _ := zIin.s hI
  have hp : zPin (37) ([(36, 1), (36, 2), (36, 3), (36, 4), (10, 5), (10, 6), (10, 7), (10, 8), (10, 9), (10, 10), (10, 11), (10, 12), (10, 13), (10, 14), (10, 15), (0, 4), (0, 5), (0, 6), (0, 7), (0, 8), (0, 9), (0, 10)]) _ := zPin.new [1, 2, 3, 4] (zrow_of (by decide +kernel)) hp
  refine ev_dup (q := 30) dX1_init_29 rfl rfl ?_
  refine ev_room (kc := 50 + 4) (ks := 330 + 28) (by decide) (by decide) ?_
  refine ev_callIN (q := 33) dX1_init_30 rfl okX6_init lnRX1_17 imX6_init rfl rfl (c_X6_init G (w := 36) (by unfold zq_isW; decide) hI hp (by intro k; simp)) (by decide) rfl rfl (Nat.le_of_ble_eq_true rfl) (fun v30 n30 I30 P30 hR30 => ?_)
  obtain ⟨rfl, rfl, rfl, hp⟩ := hR30
  refine (show zq_E _ _ _ 50 330 _ _ _ _ (41) _ _ _ from ?_)
  have hp : zPin (41) ([(10, 5), (10, 6), (10, 7), (10, 8), (10, 9), (10, 10), (10, 11), (10, 12), (10, 13), (10, 14), (10, 15), (0, 4), (0, 5), (0, 6), (0, 7), (0, 8), (0, 9), (0, 10)]) _ := hp
  have hI : zIin (41) _ := zIin.mono hI (by omega)
  refine ev_aastN (q := 34) dX1_init_33 rfl rfl (by omega) (by decide) rfl (by first | decide | exact zf_lt (by assumption) | exact zf_lt1 (by assumption) | exact zf_lt2 (by assumption) | exact zf_lt3 (by assumption) | exact zf_lt4 (by assumption) | exact zw_lt (by assumption) | exact zw_lt1 (by assumption) | exact zw_lt2 (by assumption) | exact zw_lt3 (by assumption) | exact zw_lt4 (by assumption) | exact zt_lt (by assumption)) ?_
  have hp : zPin (41) ([(10, 6), (10, 7), (10, 8), (10, 9), (10, 10), (10, 11), (10, 12), (10, 13), (10, 14), (10, 15), (0, 4), (0, 5), (0, 6), (0, 7), (0, 8), (0, 9), (0, 10)]) _ := zPin.put (by omega) rfl (by decide) hp
  refine ev_iincL (q := 37) (L9 := [_, _]) (1 : Int32) dX1_init_34 rfl rfl (by decide) (by decide) rfl rfl ?_
  refine ev_goto (t := 15) dX1_init_37 (by decide) ?_
  rw [nI_1]
  refine (show zq_E _ _ _ _ _ _ _ [some (.ref 9), some (.int (nI 6))] _ _ _ _ _ from ?_)
  refine ev_iload_n (q := 16) dX1_init_15 rfl rfl ?_
  refine ev_bipush (q := 18) (nI 16 : Int32) dX1_init_16 rfl (by decide) ?_
  refine ev_icmp_ge (q := 21) (t := 40) dX1_init_18 rfl (by decide) (fun h18 => absurd h18 (by decide)) (fun h18 => ?_)
  refine ev_aload_n (q := 22) dX1_init_21 rfl rfl ?_
  refine ev_getR (q := 25) (ci := 1) (f := 0) dX1_init_22 rfl (by first | rfl | assumption | exact zf_kd (by assumption) | exact zw_kd (by assumption) | exact zt_kd (by assumption)) (by omega) (by decide) (by decide) lfRX1_11 rfl (hp.get (by omega) (by decide) rfl) ?_
  refine ev_iload_n (q := 26) dX1_init_25 rfl rfl ?_
  refine ev_room (kc := 49 + 1) (ks := 325 + (zq_cls 6).2.2) (by decide) (by decide) ?_
  refine ev_new (q := 29) (ci := 6) dX1_init_26 rfl rfl (by decide) lcRX1_9 itRX6 iniRX6 (by decide) (fun f => hI _ f (Nat.le_refl _)) (fun f => hp.1 _ f (Nat.le_refl _)) ?_
  refine (show zq_E _ _ _ 49 325 _ _ _ _ (42) _ _ _ from ?_)
  have hI : zIin (42) _ := zIin.s hI
  have hp : zPin (42) ([(41, 1), (41, 2), (41, 3), (41, 4), (10, 6), (10, 7), (10, 8), (10, 9), (10, 10), (10, 11), (10, 12), (10, 13), (10, 14), (10, 15), (0, 4), (0, 5), (0, 6), (0, 7), (0, 8), (0, 9), (0, 10)]) _ := zPin.new [1, 2, 3, 4] (zrow_of (by decide +kernel)) hp
  refine ev_dup (q := 30) dX1_init_29 rfl rfl ?_
  refine ev_room (kc := 45 + 4) (ks := 297 + 28) (by decide) (by decide) ?_
  refine ev_callIN (q := 33) dX1_init_30 rfl okX6_init lnRX1_17 imX6_init rfl rfl (c_X6_init G (w := 41) (by unfold zq_isW; decide) hI hp (by intro k; simp)) (by decide) rfl rfl (Nat.le_of_ble_eq_true rfl) (fun v30 n30 I30 P30 hR30 => ?_)
  obtain ⟨rfl, rfl, rfl, hp⟩ := hR30
  refine (show zq_E _ _ _ 45 297 _ _ _ _ (46) _ _ _ from ?_)
  have hp : zPin (46) ([(10, 6), (10, 7), (10, 8), (10, 9), (10, 10), (10, 11), (10, 12), (10, 13), (10, 14), (10, 15), (0, 4), (0, 5), (0, 6), (0, 7), (0, 8), (0, 9), (0, 10)]) _ := hp
  have hI : zIin (46) _ := zIin.mono hI (by omega)
  refine ev_aastN (q := 34) dX1_init_33 rfl rfl (by omega) (by decide) rfl (by first | decide | exact zf_lt (by assumption) | exact zf_lt1 (by assumption) | exact zf_lt2 (by assumption) | exact zf_lt3 (by assumption) | exact zf_lt4 (by assumption) | exact zw_lt (by assumption) | exact zw_lt1 (by assumption) | exact zw_lt2 (by assumption) | exact zw_lt3 (by assumption) | exact zw_lt4 (by assumption) | exact zt_lt (by assumption)) ?_
  have hp : zPin (46) ([(10, 7), (10, 8), (10, 9), (10, 10), (10, 11), (10, 12), (10, 13), (10, 14), (10, 15), (0, 4), (0, 5), (0, 6), (0, 7), (0, 8), (0, 9), (0, 10)]) _ := zPin.put (by omega) rfl (by decide) hp
  refine ev_iincL (q := 37) (L9 := [_, _]) (1 : Int32) dX1_init_34 rfl rfl (by decide) (by decide) rfl rfl ?_
  refine ev_goto (t := 15) dX1_init_37 (by decide) ?_
  rw [nI_1]
  refine (show zq_E _ _ _ _ _ _ _ [some (.ref 9), some (.int (nI 7))] _ _ _ _ _ from ?_)
  refine ev_iload_n (q := 16) dX1_init_15 rfl rfl ?_
  refine ev_bipush (q := 18) (nI 16 : Int32) dX1_init_16 rfl (by decide) ?_
  refine ev_icmp_ge (q := 21) (t := 40) dX1_init_18 rfl (by decide) (fun h18 => absurd h18 (by decide)) (fun h18 => ?_)
  refine ev_aload_n (q := 22) dX1_init_21 rfl rfl ?_
  refine ev_getR (q := 25) (ci := 1) (f := 0) dX1_init_22 rfl (by first | rfl | assumption | exact zf_kd (by assumption) | exact zw_kd (by assumption) | exact zt_kd (by assumption)) (by omega) (by decide) (by decide) lfRX1_11 rfl (hp.get (by omega) (by decide) rfl) ?_
  refine ev_iload_n (q := 26) dX1_init_25 rfl rfl ?_
  refine ev_room (kc := 44 + 1) (ks := 292 + (zq_cls 6).2.2) (by decide) (by decide) ?_
  refine ev_new (q := 29) (ci := 6) dX1_init_26 rfl rfl (by decide) lcRX1_9 itRX6 iniRX6 (by decide) (fun f => hI _ f (Nat.le_refl _)) (fun f => hp.1 _ f (Nat.le_refl _)) ?_
  refine (show zq_E _ _ _ 44 292 _ _ _ _ (47) _ _ _ from ?_)
  have hI : zIin (47) _ := zIin.s hI
  have hp : zPin (47) ([(46, 1), (46, 2), (46, 3), (46, 4), (10, 7), (10, 8), (10, 9), (10, 10), (10, 11), (10, 12), (10, 13), (10, 14), (10, 15), (0, 4), (0, 5), (0, 6), (0, 7), (0, 8), (0, 9), (0, 10)]) _ := zPin.new [1, 2, 3, 4] (zrow_of (by decide +kernel)) hp
  refine ev_dup (q := 30) dX1_init_29 rfl rfl ?_
  refine ev_room (kc := 40 + 4) (ks := 264 + 28) (by decide) (by decide) ?_
  refine ev_callIN (q := 33) dX1_init_30 rfl okX6_init lnRX1_17 imX6_init rfl rfl (c_X6_init G (w := 46) (by unfold zq_isW; decide) hI hp (by intro k; simp)) (by decide) rfl rfl (Nat.le_of_ble_eq_true rfl) (fun v30 n30 I30 P30 hR30 => ?_)
  obtain ⟨rfl, rfl, rfl, hp⟩ := hR30
  refine (show zq_E _ _ _ 40 264 _ _ _ _ (51) _ _ _ from ?_)
  have hp : zPin (51) ([(10, 7), (10, 8), (10, 9), (10, 10), (10, 11), (10, 12), (10, 13), (10, 14), (10, 15), (0, 4), (0, 5), (0, 6), (0, 7), (0, 8), (0, 9), (0, 10)]) _ := hp
  have hI : zIin (51) _ := zIin.mono hI (by omega)
  refine ev_aastN (q := 34) dX1_init_33 rfl rfl (by omega) (by decide) rfl (by first | decide | exact zf_lt (by assumption) | exact zf_lt1 (by assumption) | exact zf_lt2 (by assumption) | exact zf_lt3 (by assumption) | exact zf_lt4 (by assumption) | exact zw_lt (by assumption) | exact zw_lt1 (by assumption) | exact zw_lt2 (by assumption) | exact zw_lt3 (by assumption) | exact zw_lt4 (by assumption) | exact zt_lt (by assumption)) ?_
  have hp : zPin (51) ([(10, 8), (10, 9), (10, 10), (10, 11), (10, 12), (10, 13), (10, 14), (10, 15), (0, 4), (0, 5), (0, 6), (0, 7), (0, 8), (0, 9), (0, 10)]) _ := zPin.put (by omega) rfl (by decide) hp
  refine ev_iincL (q := 37) (L9 := [_, _]) (1 : Int32) dX1_init_34 rfl rfl (by decide) (by decide) rfl rfl ?_
  refine ev_goto (t := 15) dX1_init_37 (by decide) ?_
  rw [nI_1]
  refine (show zq_E _ _ _ _ _ _ _ [some (.ref 9), some (.int (nI 8))] _ _ _ _ _ from ?_)
  refine ev_iload_n (q := 16) dX1_init_15 rfl rfl ?_
  refine ev_bipush (q := 18) (nI 16 : Int32) dX1_init_16 rfl (by decide) ?_
  refine ev_icmp_ge (q := 21) (t := 40) dX1_init_18 rfl (by decide) (fun h18 => absurd h18 (by decide)) (fun h18 => ?_)
  refine ev_aload_n (q := 22) dX1_init_21 rfl rfl ?_
  refine ev_getR (q := 25) (ci := 1) (f := 0) dX1_init_22 rfl (by first | rfl | assumption | exact zf_kd (by assumption) | exact zw_kd (by assumption) | exact zt_kd (by assumption)) (by omega) (by decide) (by decide) lfRX1_11 rfl (hp.get (by omega) (by decide) rfl) ?_
  refine ev_iload_n (q := 26) dX1_init_25 rfl rfl ?_
  refine ev_room (kc := 39 + 1) (ks := 259 + (zq_cls 6).2.2) (by decide) (by decide) ?_
  refine ev_new (q := 29) (ci := 6) dX1_init_26 rfl rfl (by decide) lcRX1_9 itRX6 iniRX6 (by decide) (fun f => hI _ f (Nat.le_refl _)) (fun f => hp.1 _ f (Nat.le_refl _)) ?_
  refine (show zq_E _ _ _ 39 259 _ _ _ _ (52) _ _ _ from ?_)
  have hI : zIin (52) _ := zIin.s hI
  have hp : zPin (52) ([(51, 1), (51, 2), (51, 3), (51, 4), (10, 8), (10, 9), (10, 10), (10, 11), (10, 12), (10, 13), (10, 14), (10, 15), (0, 4), (0, 5), (0, 6), (0, 7), (0, 8), (0, 9), (0, 10)]) _ := zPin.new [1, 2, 3, 4] (zrow_of (by decide +kernel)) hp
  refine ev_dup (q := 30) dX1_init_29 rfl rfl ?_
  refine ev_room (kc := 35 + 4) (ks := 231 + 28) (by decide) (by decide) ?_
  refine ev_callIN (q := 33) dX1_init_30 rfl okX6_init lnRX1_17 imX6_init rfl rfl (c_X6_init G (w := 51) (by unfold zq_isW; decide) hI hp (by intro k; simp)) (by decide) rfl rfl (Nat.le_of_ble_eq_true rfl) (fun v30 n30 I30 P30 hR30 => ?_)
  obtain ⟨rfl, rfl, rfl, hp⟩ := hR30
  refine (show zq_E _ _ _ 35 231 _ _ _ _ (56) _ _ _ from ?_)
  have hp : zPin (56) ([(10, 8), (10, 9), (10, 10), (10, 11), (10, 12), (10, 13), (10, 14), (10, 15), (0, 4), (0, 5), (0, 6), (0, 7), (0, 8), (0, 9), (0, 10)]) _ := hp
  have hI : zIin (56) _ := zIin.mono hI (by omega)
  refine ev_aastN (q := 34) dX1_init_33 rfl rfl (by omega) (by decide) rfl (by first | decide | exact zf_lt (by assumption) | exact zf_lt1 (by assumption) | exact zf_lt2 (by assumption) | exact zf_lt3 (by assumption) | exact zf_lt4 (by assumption) | exact zw_lt (by assumption) | exact zw_lt1 (by assumption) | exact zw_lt2 (by assumption) | exact zw_lt3 (by assumption) | exact zw_lt4 (by assumption) | exact zt_lt (by assumption)) ?_
  have hp : zPin (56) ([(10, 9), (10, 10), (10, 11), (10, 12), (10, 13), (10, 14), (10, 15), (0, 4), (0, 5), (0, 6), (0, 7), (0, 8), (0, 9), (0, 10)]) _ := zPin.put (by omega) rfl (by decide) hp
  refine ev_iincL (q := 37) (L9 := [_, _]) (1 : Int32) dX1_init_34 rfl rfl (by decide) (by decide) rfl rfl ?_
  refine ev_goto (t := 15) dX1_init_37 (by decide) ?_
  rw [nI_1]
  refine (show zq_E _ _ _ _ _ _ _ [some (.ref 9), some (.int (nI 9))] _ _ _ _ _ from ?_)
  refine ev_iload_n (q := 16) dX1_init_15 rfl rfl ?_
  refine ev_bipush (q := 18) (nI 16 : Int32) dX1_init_16 rfl (by decide) ?_
  refine ev_icmp_ge (q := 21) (t := 40) dX1_init_18 rfl (by decide) (fun h18 => absurd h18 (by decide)) (fun h18 => ?_)
  refine ev_aload_n (q := 22) dX1_init_21 rfl rfl ?_
  refine ev_getR (q := 25) (ci := 1) (f := 0) dX1_init_22 rfl (by first | rfl | assumption | exact zf_kd (by assumption) | exact zw_kd (by assumption) | exact zt_kd (by assumption)) (by omega) (by decide) (by decide) lfRX1_11 rfl (hp.get (by omega) (by decide) rfl) ?_
  refine ev_iload_n (q := 26) dX1_init_25 rfl rfl ?_
  refine ev_room (kc := 34 + 1) (ks := 226 + (zq_cls 6).2.2) (by decide) (by decide) ?_
  refine ev_new (q := 29) (ci := 6) dX1_init_26 rfl rfl (by decide) lcRX1_9 itRX6 iniRX6 (by decide) (fun f => hI _ f (Nat.le_refl _)) (fun f => hp.1 _ f (Nat.le_refl _)) ?_
  refine (show zq_E _ _ _ 34 226 _ _ _ _ (57) _ _ _ from ?_)
  have hI : zIin (57) _ := zIin.s hI
  have hp : zPin (57) ([(56, 1), (56, 2), (56, 3), (56, 4), (10, 9), (10, 10), (10, 11), (10, 12), (10, 13), (10, 14), (10, 15), (0, 4), (0, 5), (0, 6), (0, 7), (0, 8), (0, 9), (0, 10)]) _ := zPin.new [1, 2, 3, 4] (zrow_of (by decide +kernel)) hp
  refine ev_dup (q := 30) dX1_init_29 rfl rfl ?_
  refine ev_room (kc := 30 + 4) (ks := 198 + 28) (by decide) (by decide) ?_
  refine ev_callIN (q := 33) dX1_init_30 rfl okX6_init lnRX1_17 imX6_init rfl rfl (c_X6_init G (w := 56) (by unfold zq_isW; decide) hI hp (by intro k; simp)) (by decide) rfl rfl (Nat.le_of_ble_eq_true rfl) (fun v30 n30 I30 P30 hR30 => ?_)
  obtain ⟨rfl, rfl, rfl, hp⟩ := hR30
  refine (show zq_E _ _ _ 30 198 _ _ _ _ (61) _ _ _ from ?_)
  have hp : zPin (61) ([(10, 9), (10, 10), (10, 11), (10, 12), (10, 13), (10, 14), (10, 15), (0, 4), (0, 5), (0, 6), (0, 7), (0, 8), (0, 9), (0, 10)]) _ := hp
  have hI : zIin (61) _ := zIin.mono hI (by omega)
  refine ev_aastN (q := 34) dX1_init_33 rfl rfl (by omega) (by decide) rfl (by first | decide | exact zf_lt (by assumption) | exact zf_lt1 (by assumption) | exact zf_lt2 (by assumption) | exact zf_lt3 (by assumption) | exact zf_lt4 (by assumption) | exact zw_lt (by assumption) | exact zw_lt1 (by assumption) | exact zw_lt2 (by assumption) | exact zw_lt3 (by assumption) | exact zw_lt4 (by assumption) | exact zt_lt (by assumption)) ?_
  have hp : zPin (61) ([(10, 10), (10, 11), (10, 12), (10, 13), (10, 14), (10, 15), (0, 4), (0, 5), (0, 6), (0, 7), (0, 8), (0, 9), (0, 10)]) _ := zPin.put (by omega) rfl (by decide) hp
  refine ev_iincL (q := 37) (L9 := [_, _]) (1 : Int32) dX1_init_34 rfl rfl (by decide) (by decide) rfl rfl ?_
  refine ev_goto (t := 15) dX1_init_37 (by decide) ?_
  rw [nI_1]
  refine (show zq_E _ _ _ _ _ _ _ [some (.ref 9), some (.int (nI 10))] _ _ _ _ _ from ?_)
  refine ev_iload_n (q := 16) dX1_init_15 rfl rfl ?_
  refine ev_bipush (q := 18) (nI 16 : Int32) dX1_init_16 rfl (by decide) ?_
  refine ev_icmp_ge (q := 21) (t := 40) dX1_init_18 rfl (by decide) (fun h18 => absurd h18 (by decide)) (fun h18 => ?_)
  refine ev_aload_n (q := 22) dX1_init_21 rfl rfl ?_
  refine ev_getR (q := 25) (ci := 1) (f := 0) dX1_init_22 rfl (by first | rfl | assumption | exact zf_kd (by assumption) | exact zw_kd (by assumption) | exact zt_kd (by assumption)) (by omega) (by decide) (by decide) lfRX1_11 rfl (hp.get (by omega) (by decide) rfl) ?_
  refine ev_iload_n (q := 26) dX1_init_25 rfl rfl ?_
  refine ev_room (kc := 29 + 1) (ks := 193 + (zq_cls 6).2.2) (by decide) (by decide) ?_
  refine ev_new (q := 29) (ci := 6) dX1_init_26 rfl rfl (by decide) lcRX1_9 itRX6 iniRX6 (by decide) (fun f => hI _ f (Nat.le_refl _)) (fun f => hp.1 _ f (Nat.le_refl _)) ?_
  refine (show zq_E _ _ _ 29 193 _ _ _ _ (62) _ _ _ from ?_)
  have hI : zIin (62) _ := zIin.s hI
  have hp : zPin (62) ([(61, 1), (61, 2), (61, 3), (61, 4), (10, 10), (10, 11), (10, 12), (10, 13), (10, 14), (10, 15), (0, 4), (0, 5), (0, 6), (0, 7), (0, 8), (0, 9), (0, 10)]) _ := zPin.new [1, 2, 3, 4] (zrow_of (by decide +kernel)) hp
  refine ev_dup (q := 30) dX1_init_29 rfl rfl ?_
  refine ev_room (kc := 25 + 4) (ks := 165 + 28) (by decide) (by decide) ?_
  refine ev_callIN (q := 33) dX1_init_30 rfl okX6_init lnRX1_17 imX6_init rfl rfl (c_X6_init G (w := 61) (by unfold zq_isW; decide) hI hp (by intro k; simp)) (by decide) rfl rfl (Nat.le_of_ble_eq_true rfl) (fun v30 n30 I30 P30 hR30 => ?_)
  obtain ⟨rfl, rfl, rfl, hp⟩ := hR30
  refine (show zq_E _ _ _ 25 165 _ _ _ _ (66) _ _ _ from ?_)
  have hp : zPin (66) ([(10, 10), (10, 11), (10, 12), (10, 13), (10, 14), (10, 15), (0, 4), (0, 5), (0, 6), (0, 7), (0, 8), (0, 9), (0, 10)]) _ := hp
  have hI : zIin (66) _ := zIin.mono hI (by omega)
  refine ev_aastN (q := 34) dX1_init_33 rfl rfl (by omega) (by decide) rfl (by first | decide | exact zf_lt (by assumption) | exact zf_lt1 (by assumption) | exact zf_lt2 (by assumption) | exact zf_lt3 (by assumption) | exact zf_lt4 (by assumption) | exact zw_lt (by assumption) | exact zw_lt1 (by assumption) | exact zw_lt2 (by assumption) | exact zw_lt3 (by assumption) | exact zw_lt4 (by assumption) | exact zt_lt (by assumption)) ?_
  have hp : zPin (66) ([(10, 11), (10, 12), (10, 13), (10, 14), (10, 15), (0, 4), (0, 5), (0, 6), (0, 7), (0, 8), (0, 9), (0, 10)]) _ := zPin.put (by omega) rfl (by decide) hp
  refine ev_iincL (q := 37) (L9 := [_, _]) (1 : Int32) dX1_init_34 rfl rfl (by decide) (by decide) rfl rfl ?_
  refine ev_goto (t := 15) dX1_init_37 (by decide) ?_
  rw [nI_1]
  refine (show zq_E _ _ _ _ _ _ _ [some (.ref 9), some (.int (nI 11))] _ _ _ _ _ from ?_)
  refine ev_iload_n (q := 16) dX1_init_15 rfl rfl ?_
  refine ev_bipush (q := 18) (nI 16 : Int32) dX1_init_16 rfl (by decide) ?_
  refine ev_icmp_ge (q := 21) (t := 40) dX1_init_18 rfl (by decide) (fun h18 => absurd h18 (by decide)) (fun h18 => ?_)
  refine ev_aload_n (q := 22) dX1_init_21 rfl rfl ?_
  refine ev_getR (q := 25) (ci := 1) (f := 0) dX1_init_22 rfl (by first | rfl | assumption | exact zf_kd (by assumption) | exact zw_kd (by assumption) | exact zt_kd (by assumption)) (by omega) (by decide) (by decide) lfRX1_11 rfl (hp.get (by omega) (by decide) rfl) ?_
  refine ev_iload_n (q := 26) dX1_init_25 rfl rfl ?_
  refine ev_room (kc := 24 + 1) (ks := 160 + (zq_cls 6).2.2) (by decide) (by decide) ?_
  refine ev_new (q := 29) (ci := 6) dX1_init_26 rfl rfl (by decide) lcRX1_9 itRX6 iniRX6 (by decide) (fun f => hI _ f (Nat.le_refl _)) (fun f => hp.1 _ f (Nat.le_refl _)) ?_
  refine (show zq_E _ _ _ 24 160 _ _ _ _ (67) _ _ _ from ?_)
  have hI : zIin (67) _ := zIin.s hI
  have hp : zPin (67) ([(66, 1), (66, 2), (66, 3), (66, 4), (10, 11), (10, 12), (10, 13), (10, 14), (10, 15), (0, 4), (0, 5), (0, 6), (0, 7), (0, 8), (0, 9), (0, 10)]) _ := zPin.new [1, 2, 3, 4] (zrow_of (by decide +kernel)) hp
  refine ev_dup (q := 30) dX1_init_29 rfl rfl ?_
  refine ev_room (kc := 20 + 4) (ks := 132 + 28) (by decide) (by decide) ?_
  refine ev_callIN (q := 33) dX1_init_30 rfl okX6_init lnRX1_17 imX6_init rfl rfl (c_X6_init G (w := 66) (by unfold zq_isW; decide) hI hp (by intro k; simp)) (by decide) rfl rfl (Nat.le_of_ble_eq_true rfl) (fun v30 n30 I30 P30 hR30 => ?_)
  obtain ⟨rfl, rfl, rfl, hp⟩ := hR30
  refine (show zq_E _ _ _ 20 132 _ _ _ _ (71) _ _ _ from ?_)
  have hp : zPin (71) ([(10, 11), (10, 12), (10, 13), (10, 14), (10, 15), (0, 4), (0, 5), (0, 6), (0, 7), (0, 8), (0, 9), (0, 10)]) _ := hp
  have hI : zIin (71) _ := zIin.mono hI (by omega)
  refine ev_aastN (q := 34) dX1_init_33 rfl rfl (by omega) (by decide) rfl (by first | decide | exact zf_lt (by assumption) | exact zf_lt1 (by assumption) | exact zf_lt2 (by assumption) | exact zf_lt3 (by assumption) | exact zf_lt4 (by assumption) | exact zw_lt (by assumption) | exact zw_lt1 (by assumption) | exact zw_lt2 (by assumption) | exact zw_lt3 (by assumption) | exact zw_lt4 (by assumption) | exact zt_lt (by assumption)) ?_
  have hp : zPin (71) ([(10, 12), (10, 13), (10, 14), (10, 15), (0, 4), (0, 5), (0, 6), (0, 7), (0, 8), (0, 9), (0, 10)]) _ := zPin.put (by omega) rfl (by decide) hp
  refine ev_iincL (q := 37) (L9 := [_, _]) (1 : Int32) dX1_init_34 rfl rfl (by decide) (by decide) rfl rfl ?_
  refine ev_goto (t := 15) dX1_init_37 (by decide) ?_
  rw [nI_1]
  refine (show zq_E _ _ _ _ _ _ _ [some (.ref 9), some (.int (nI 12))] _ _ _ _ _ from ?_)
  refine ev_iload_n (q := 16) dX1_init_15 rfl rfl ?_
  refine ev_bipush (q := 18) (nI 16 : Int32) dX1_init_16 rfl (by decide) ?_
  refine ev_icmp_ge (q := 21) (t := 40) dX1_init_18 rfl (by decide) (fun h18 => absurd h18 (by decide)) (fun h18 => ?_)
  refine ev_aload_n (q := 22) dX1_init_21 rfl rfl ?_
  refine ev_getR (q := 25) (ci := 1) (f := 0) dX1_init_22 rfl (by first | rfl | assumption | exact zf_kd (by assumption) | exact zw_kd (by assumption) | exact zt_kd (by assumption)) (by omega) (by decide) (by decide) lfRX1_11 rfl (hp.get (by omega) (by decide) rfl) ?_
  refine ev_iload_n (q := 26) dX1_init_25 rfl rfl ?_
  refine ev_room (kc := 19 + 1) (ks := 127 + (zq_cls 6).2.2) (by decide) (by decide) ?_
  refine ev_new (q := 29) (ci := 6) dX1_init_26 rfl rfl (by decide) lcRX1_9 itRX6 iniRX6 (by decide) (fun f => hI _ f (Nat.le_refl _)) (fun f => hp.1 _ f (Nat.le_refl _)) ?_
  refine (show zq_E _ _ _ 19 127 _ _ _ _ (72) _ _ _ from ?_)
  have hI : zIin (72) _ := zIin.s hI
  have hp : zPin (72) ([(71, 1), (71, 2), (71, 3), (71, 4), (10, 12), (10, 13), (10, 14), (10, 15), (0, 4), (0, 5), (0, 6), (0, 7), (0, 8), (0, 9), (0, 10)]) _ := zPin.new [1, 2, 3, 4] (zrow_of (by decide +kernel)) hp
  refine ev_dup (q := 30) dX1_init_29 rfl rfl ?_
  refine ev_room (kc := 15 + 4) (ks := 99 + 28) (by decide) (by decide) ?_
  refine ev_callIN (q := 33) dX1_init_30 rfl okX6_init lnRX1_17 imX6_init rfl rfl (c_X6_init G (w := 71) (by unfold zq_isW; decide) hI hp (by intro k; simp)) (by decide) rfl rfl (Nat.le_of_ble_eq_true rfl) (fun v30 n30 I30 P30 hR30 => ?_)
  obtain ⟨rfl, rfl, rfl, hp⟩ := hR30
  refine (show zq_E _ _ _ 15 99 _ _ _ _ (76) _ _ _ from ?_)
  have hp : zPin (76) ([(10, 12), (10, 13), (10, 14), (10, 15), (0, 4), (0, 5), (0, 6), (0, 7), (0, 8), (0, 9), (0, 10)]) _ := hp
  have hI : zIin (76) _ := zIin.mono hI (by omega)
  refine ev_aastN (q := 34) dX1_init_33 rfl rfl (by omega) (by decide) rfl (by first | decide | exact zf_lt (by assumption) | exact zf_lt1 (by assumption) | exact zf_lt2 (by assumption) | exact zf_lt3 (by assumption) | exact zf_lt4 (by assumption) | exact zw_lt (by assumption) | exact zw_lt1 (by assumption) | exact zw_lt2 (by assumption) | exact zw_lt3 (by assumption) | exact zw_lt4 (by assumption) | exact zt_lt (by assumption)) ?_
  have hp : zPin (76) ([(10, 13), (10, 14), (10, 15), (0, 4), (0, 5), (0, 6), (0, 7), (0, 8), (0, 9), (0, 10)]) _ := zPin.put (by omega) rfl (by decide) hp
  refine ev_iincL (q := 37) (L9 := [_, _]) (1 : Int32) dX1_init_34 rfl rfl (by decide) (by decide) rfl rfl ?_
  refine ev_goto (t := 15) dX1_init_37 (by decide) ?_
  rw [nI_1]
  refine (show zq_E _ _ _ _ _ _ _ [some (.ref 9), some (.int (nI 13))] _ _ _ _ _ from ?_)
  refine ev_iload_n (q := 16) dX1_init_15 rfl rfl ?_
  refine ev_bipush (q := 18) (nI 16 : Int32) dX1_init_16 rfl (by decide) ?_
  refine ev_icmp_ge (q := 21) (t := 40) dX1_init_18 rfl (by decide) (fun h18 => absurd h18 (by decide)) (fun h18 => ?_)
  refine ev_aload_n (q := 22) dX1_init_21 rfl rfl ?_
  refine ev_getR (q := 25) (ci := 1) (f := 0) dX1_init_22 rfl (by first | rfl | assumption | exact zf_kd (by assumption) | exact zw_kd (by assumption) | exact zt_kd (by assumption)) (by omega) (by decide) (by decide) lfRX1_11 rfl (hp.get (by omega) (by decide) rfl) ?_
  refine ev_iload_n (q := 26) dX1_init_25 rfl rfl ?_
  refine ev_room (kc := 14 + 1) (ks := 94 + (zq_cls 6).2.2) (by decide) (by decide) ?_
  refine ev_new (q := 29) (ci := 6) dX1_init_26 rfl rfl (by decide) lcRX1_9 itRX6 iniRX6 (by decide) (fun f => hI _ f (Nat.le_refl _)) (fun f => hp.1 _ f (Nat.le_refl _)) ?_
  refine (show zq_E _ _ _ 14 94 _ _ _ _ (77) _ _ _ from ?_)
  have hI : zIin (77) _ := zIin.s hI
  have hp : zPin (77) ([(76, 1), (76, 2), (76, 3), (76, 4), (10, 13), (10, 14), (10, 15), (0, 4), (0, 5), (0, 6), (0, 7), (0, 8), (0, 9), (0, 10)]) _ := zPin.new [1, 2, 3, 4] (zrow_of (by decide +kernel)) hp
  refine ev_dup (q := 30) dX1_init_29 rfl rfl ?_
  refine ev_room (kc := 10 + 4) (ks := 66 + 28) (by decide) (by decide) ?_
  refine ev_callIN (q := 33) dX1_init_30 rfl okX6_init lnRX1_17 imX6_init rfl rfl (c_X6_init G (w := 76) (by unfold zq_isW; decide) hI hp (by intro k; simp)) (by decide) rfl rfl (Nat.le_of_ble_eq_true rfl) (fun v30 n30 I30 P30 hR30 => ?_)
  obtain ⟨rfl, rfl, rfl, hp⟩ := hR30
  refine (show zq_E _ _ _ 10 66 _ _ _ _ (81) _ _ _ from ?_)
  have hp : zPin (81) ([(10, 13), (10, 14), (10, 15), (0, 4), (0, 5), (0, 6), (0, 7), (0, 8), (0, 9), (0, 10)]) _ := hp
  have hI : zIin (81) _ := zIin.mono hI (by omega)
  refine ev_aastN (q := 34) dX1_init_33 rfl rfl (by omega) (by decide) rfl (by first | decide | exact zf_lt (by assumption) | exact zf_lt1 (by assumption) | exact zf_lt2 (by assumption) | exact zf_lt3 (by assumption) | exact zf_lt4 (by assumption) | exact zw_lt (by assumption) | exact zw_lt1 (by assumption) | exact zw_lt2 (by assumption) | exact zw_lt3 (by assumption) | exact zw_lt4 (by assumption) | exact zt_lt (by assumption)) ?_
  have hp : zPin (81) ([(10, 14), (10, 15), (0, 4), (0, 5), (0, 6), (0, 7), (0, 8), (0, 9), (0, 10)]) _ := zPin.put (by omega) rfl (by decide) hp
  refine ev_iincL (q := 37) (L9 := [_, _]) (1 : Int32) dX1_init_34 rfl rfl (by decide) (by decide) rfl rfl ?_
  refine ev_goto (t := 15) dX1_init_37 (by decide) ?_
  rw [nI_1]
  refine (show zq_E _ _ _ _ _ _ _ [some (.ref 9), some (.int (nI 14))] _ _ _ _ _ from ?_)
  refine ev_iload_n (q := 16) dX1_init_15 rfl rfl ?_
  refine ev_bipush (q := 18) (nI 16 : Int32) dX1_init_16 rfl (by decide) ?_
  refine ev_icmp_ge (q := 21) (t := 40) dX1_init_18 rfl (by decide) (fun h18 => absurd h18 (by decide)) (fun h18 => ?_)
  refine ev_aload_n (q := 22) dX1_init_21 rfl rfl ?_
  refine ev_getR (q := 25) (ci := 1) (f := 0) dX1_init_22 rfl (by first | rfl | assumption | exact zf_kd (by assumption) | exact zw_kd (by assumption) | exact zt_kd (by assumption)) (by omega) (by decide) (by decide) lfRX1_11 rfl (hp.get (by omega) (by decide) rfl) ?_
  refine ev_iload_n (q := 26) dX1_init_25 rfl rfl ?_
  refine ev_room (kc := 9 + 1) (ks := 61 + (zq_cls 6).2.2) (by decide) (by decide) ?_
  refine ev_new (q := 29) (ci := 6) dX1_init_26 rfl rfl (by decide) lcRX1_9 itRX6 iniRX6 (by decide) (fun f => hI _ f (Nat.le_refl _)) (fun f => hp.1 _ f (Nat.le_refl _)) ?_
  refine (show zq_E _ _ _ 9 61 _ _ _ _ (82) _ _ _ from ?_)
  have hI : zIin (82) _ := zIin.s hI
  have hp : zPin (82) ([(81, 1), (81, 2), (81, 3), (81, 4), (10, 14), (10, 15), (0, 4), (0, 5), (0, 6), (0, 7), (0, 8), (0, 9), (0, 10)]) _ := zPin.new [1, 2, 3, 4] (zrow_of (by decide +kernel)) hp
  refine ev_dup (q := 30) dX1_init_29 rfl rfl ?_
  refine ev_room (kc := 5 + 4) (ks := 33 + 28) (by decide) (by decide) ?_
  refine ev_callIN (q := 33) dX1_init_30 rfl okX6_init lnRX1_17 imX6_init rfl rfl (c_X6_init G (w := 81) (by unfold zq_isW; decide) hI hp (by intro k; simp)) (by decide) rfl rfl (Nat.le_of_ble_eq_true rfl) (fun v30 n30 I30 P30 hR30 => ?_)
  obtain ⟨rfl, rfl, rfl, hp⟩ := hR30
  refine (show zq_E _ _ _ 5 33 _ _ _ _ (86) _ _ _ from ?_)
  have hp : zPin (86) ([(10, 14), (10, 15), (0, 4), (0, 5), (0, 6), (0, 7), (0, 8), (0, 9), (0, 10)]) _ := hp
  have hI : zIin (86) _ := zIin.mono hI (by omega)
  refine ev_aastN (q := 34) dX1_init_33 rfl rfl (by omega) (by decide) rfl (by first | decide | exact zf_lt (by assumption) | exact zf_lt1 (by assumption) | exact zf_lt2 (by assumption) | exact zf_lt3 (by assumption) | exact zf_lt4 (by assumption) | exact zw_lt (by assumption) | exact zw_lt1 (by assumption) | exact zw_lt2 (by assumption) | exact zw_lt3 (by assumption) | exact zw_lt4 (by assumption) | exact zt_lt (by assumption)) ?_
  have hp : zPin (86) ([(10, 15), (0, 4), (0, 5), (0, 6), (0, 7), (0, 8), (0, 9), (0, 10)]) _ := zPin.put (by omega) rfl (by decide) hp
  refine ev_iincL (q := 37) (L9 := [_, _]) (1 : Int32) dX1_init_34 rfl rfl (by decide) (by decide) rfl rfl ?_
  refine ev_goto (t := 15) dX1_init_37 (by decide) ?_
  rw [nI_1]
  refine (show zq_E _ _ _ _ _ _ _ [some (.ref 9), some (.int (nI 15))] _ _ _ _ _ from ?_)
  refine ev_iload_n (q := 16) dX1_init_15 rfl rfl ?_
  refine ev_bipush (q := 18) (nI 16 : Int32) dX1_init_16 rfl (by decide) ?_
  refine ev_icmp_ge (q := 21) (t := 40) dX1_init_18 rfl (by decide) (fun h18 => absurd h18 (by decide)) (fun h18 => ?_)
  refine ev_aload_n (q := 22) dX1_init_21 rfl rfl ?_
  refine ev_getR (q := 25) (ci := 1) (f := 0) dX1_init_22 rfl (by first | rfl | assumption | exact zf_kd (by assumption) | exact zw_kd (by assumption) | exact zt_kd (by assumption)) (by omega) (by decide) (by decide) lfRX1_11 rfl (hp.get (by omega) (by decide) rfl) ?_
  refine ev_iload_n (q := 26) dX1_init_25 rfl rfl ?_
  refine ev_room (kc := 4 + 1) (ks := 28 + (zq_cls 6).2.2) (by decide) (by decide) ?_
  refine ev_new (q := 29) (ci := 6) dX1_init_26 rfl rfl (by decide) lcRX1_9 itRX6 iniRX6 (by decide) (fun f => hI _ f (Nat.le_refl _)) (fun f => hp.1 _ f (Nat.le_refl _)) ?_
  refine (show zq_E _ _ _ 4 28 _ _ _ _ (87) _ _ _ from ?_)
  have hI : zIin (87) _ := zIin.s hI
  have hp : zPin (87) ([(86, 1), (86, 2), (86, 3), (86, 4), (10, 15), (0, 4), (0, 5), (0, 6), (0, 7), (0, 8), (0, 9), (0, 10)]) _ := zPin.new [1, 2, 3, 4] (zrow_of (by decide +kernel)) hp
  refine ev_dup (q := 30) dX1_init_29 rfl rfl ?_
  refine ev_room (kc := 0 + 4) (ks := 0 + 28) (by decide) (by decide) ?_
  refine ev_callIN (q := 33) dX1_init_30 rfl okX6_init lnRX1_17 imX6_init rfl rfl (c_X6_init G (w := 86) (by unfold zq_isW; decide) hI hp (by intro k; simp)) (by decide) rfl rfl (Nat.le_of_ble_eq_true rfl) (fun v30 n30 I30 P30 hR30 => ?_)
  obtain ⟨rfl, rfl, rfl, hp⟩ := hR30
  refine (show zq_E _ _ _ 0 0 _ _ _ _ (91) _ _ _ from ?_)
  have hp : zPin (91) ([(10, 15), (0, 4), (0, 5), (0, 6), (0, 7), (0, 8), (0, 9), (0, 10)]) _ := hp
  have hI : zIin (91) _ := zIin.mono hI (by omega)
  refine ev_aastN (q := 34) dX1_init_33 rfl rfl (by omega) (by decide) rfl (by first | decide | exact zf_lt (by assumption) | exact zf_lt1 (by assumption) | exact zf_lt2 (by assumption) | exact zf_lt3 (by assumption) | exact zf_lt4 (by assumption) | exact zw_lt (by assumption) | exact zw_lt1 (by assumption) | exact zw_lt2 (by assumption) | exact zw_lt3 (by assumption) | exact zw_lt4 (by assumption) | exact zt_lt (by assumption)) ?_
  have hp : zPin (91) ([(0, 4), (0, 5), (0, 6), (0, 7), (0, 8), (0, 9), (0, 10)]) _ := zPin.put (by omega) rfl (by decide) hp
  refine ev_iincL (q := 37) (L9 := [_, _]) (1 : Int32) dX1_init_34 rfl rfl (by decide) (by decide) rfl rfl ?_
  refine ev_goto (t := 15) dX1_init_37 (by decide) ?_
  rw [nI_1]
  refine (show zq_E _ _ _ _ _ _ _ [some (.ref 9), some (.int (nI 16))] _ _ _ _ _ from ?_)
  refine ev_iload_n (q := 16) dX1_init_15 rfl rfl ?_
  refine ev_bipush (q := 18) (nI 16 : Int32) dX1_init_16 rfl (by decide) ?_
  refine ev_icmp_ge (q := 21) (t := 40) dX1_init_18 rfl (by decide) (fun h18 => ?_) (fun h18 => ?_)
  · exact ev_vret dX1_init_40 rfl (⟨rfl, rfl, rfl, hp⟩)
  · exact absurd (by decide) h18
set_option maxHeartbeats 4000000 in
set_option maxRecDepth 100000 in
theorem cb_X6_clearRumours (G : zq_G) (I : zq_I) {P : zq_P} (hw4 : P 91 4 = some 95) : zq_Met G mX6_clearRumours 0 0 0 [.ref 91] 119 I P (fun v n' I' P' => v = none ∧ n' = 119 ∧ P' = P ∧ (∀ c, c ≠ 95 → I' c = I c) ∧ ∀ t, t < 4 → I' 95 t = 0) := by
  refine zq_Met.of okX6_clearRumours (Nat.le_of_ble_eq_true rfl) ?_
  show zq_E _ _ _ _ _ _ _ [some (.ref 91), none] _ _ _ _ _
  have lp2 : ∀ (k i : Nat) (I1 : zq_I), 4 + 1 ≤ i + k → i ≤ 4 → (∀ c, c ≠ 95 → I1 c = I c) → (∀ t, t < i → I1 95 t = 0) → zq_E G mX6_clearRumours 0 0 0 false 2 [some (.ref 91), some (.int (nI i))] [] 119 I1 P (fun v n' I' P' => v = none ∧ n' = 119 ∧ P' = P ∧ (∀ c, c ≠ 95 → I' c = I c) ∧ ∀ t, t < 4 → I' 95 t = 0) := by
    intro k
    induction k with
    | zero => intro i I1 hk hi; exact absurd hk (by omega)
    | succ k ih =>
      intro i I1 hk hi hf h0
      refine ev_iload_n (q := 3) dX6_clearRumours_2 rfl rfl ?_
      refine ev_iconst (q := 4) (nI 4 : Int32) dX6_clearRumours_3 rfl (by decide) ?_
      refine ev_icmp_ge (q := 7) (t := 20) dX6_clearRumours_4 rfl (by decide) (fun h4 => ?_) (fun h4 => ?_)
      · obtain rfl : i = 4 := by rw [nI_leI (by omega) (by omega)] at h4; omega
        exact ev_vret dX6_clearRumours_20 rfl (⟨rfl, rfl, rfl, hf, h0⟩)
      · have hlt_i : i < 4 := by rw [nI_leI (by omega) (by omega)] at h4; omega
        refine ev_aload_n (q := 8) dX6_clearRumours_7 rfl rfl ?_
        refine ev_getR (q := 11) (ci := 6) (f := 4) dX6_clearRumours_8 rfl rfl (by decide) (by decide) (by decide) lfRX6_21 rfl hw4 ?_
        refine ev_iload_n (q := 12) dX6_clearRumours_11 rfl rfl ?_
        refine ev_iconst (q := 13) (0 : Int32) dX6_clearRumours_12 rfl (by decide) ?_
        refine ev_iastN (q := 14) dX6_clearRumours_13 rfl rfl (by decide) (by first | omega | assumption) ?_
        refine ev_iincL (q := 17) (L9 := [_, _]) (1 : Int32) dX6_clearRumours_14 rfl rfl (by decide) (by decide) rfl rfl ?_
        refine ev_goto (t := 2) dX6_clearRumours_17 (by decide) ?_
        rw [nI_1]
        exact ih (i + 1) _ (by omega) (by omega) (fun c hc => by rw [zu_other hc]; exact hf c hc) (fun t ht => by
          by_cases hti : t = i
          · subst hti; exact zu_eq
          · rw [zu_ne hti]; exact h0 t (by omega))
  refine ev_iconst (q := 1) (0 : Int32) dX6_clearRumours_0 rfl (by decide) ?_
  refine ev_istore_nL (q := 2) (L9 := [_, _]) dX6_clearRumours_1 rfl (by decide) rfl rfl ?_
  exact lp2 5 0 _ (by omega) (by omega) (fun _ _ => rfl) (fun t ht => absurd ht (by omega))
set_option maxHeartbeats 4000000 in
set_option maxRecDepth 100000 in
theorem cb_X6_begin (G : zq_G) (I : zq_I) {P : zq_P} (hw1 : P 91 1 = some 92) (hw2 : P 91 2 = some 93) (hw3 : P 91 3 = some 94) (hw4 : P 91 4 = some 95) (hf4 : P 109 4 = some 110) : zq_Met G mX6_begin 1 0 0 [.ref 91, .ref 109] 119 I P (fun v n' I' P' => v = none ∧ n' = 119 ∧ P' = P ∧ (∀ c, (c < 91 ∨ 95 < c) → I' c = I c) ∧ I' 91 0 = 0 ∧ ∀ t, t < 4 → I' 95 t = 0) := by
  refine zq_Met.of okX6_begin (Nat.le_of_ble_eq_true rfl) ?_
  show zq_E _ _ _ _ _ _ _ [some (.ref 91), some (.ref 109), none] _ _ _ _ _
  have lp7 : ∀ (k i : Nat) (I1 : zq_I), 8 + 1 ≤ i + k → i ≤ 8 → (∀ c, (c < 91 ∨ 95 < c) → I1 c = I c) → I1 91 0 = 0 → zq_E G mX6_begin 1 0 0 false 7 [some (.ref 91), some (.ref 109), some (.int (nI i))] [] 119 I1 P (fun v n' I' P' => v = none ∧ n' = 119 ∧ P' = P ∧ (∀ c, (c < 91 ∨ 95 < c) → I' c = I c) ∧ I' 91 0 = 0 ∧ ∀ t, t < 4 → I' 95 t = 0) := by
    intro k
    induction k with
    | zero => intro i I1 hk hi; exact absurd hk (by omega)
    | succ k ih =>
      intro i I1 hk hi hf hy
      refine ev_iload_n (q := 8) dX6_begin_7 rfl rfl ?_
      refine ev_bipush (q := 10) (nI 8 : Int32) dX6_begin_8 rfl (by decide) ?_
      refine ev_icmp_ge (q := 13) (t := 46) dX6_begin_10 rfl (by decide) (fun h10 => ?_) (fun h10 => ?_)
      · obtain rfl : i = 8 := by rw [nI_leI (by omega) (by omega)] at h10; omega
        refine ev_aload_n (q := 47) dX6_begin_46 rfl rfl ?_
        refine ev_cV (q := 50) (ci := 6) dX6_begin_47 rfl okX6_clearRumours lmRX6_33 imX6_clearRumours seX6_clearRumours rfl (by decide) (by decide) rfl (cb_X6_clearRumours G _ hw4) (by decide) rfl rfl (Nat.le_of_ble_eq_true rfl) (fun v47 n47 I47 P47 hR47 => ?_)
        obtain ⟨rfl, rfl, rfl, hf2, h02⟩ := hR47
        exact ev_vret dX6_begin_50 rfl (⟨rfl, rfl, rfl, fun c hc => by rw [hf2 c (by omega)]; exact hf c hc, by rw [hf2 91 (by decide)]; exact hy, h02⟩)
      · have hlt_i : i < 8 := by rw [nI_leI (by omega) (by omega)] at h10; omega
        refine ev_aload_n (q := 14) dX6_begin_13 rfl rfl ?_
        refine ev_getR (q := 17) (ci := 6) (f := 1) dX6_begin_14 rfl rfl (by decide) (by decide) (by decide) lfRX6_9 rfl hw1 ?_
        refine ev_iload_n (q := 18) dX6_begin_17 rfl rfl ?_
        refine ev_aload_n (q := 19) dX6_begin_18 rfl rfl ?_
        refine ev_getR (q := 22) (ci := 0) (f := 4) dX6_begin_19 rfl rfl (by decide) (by decide) (by decide) lfRX6_28 rfl hf4 ?_
        refine ev_iload_n (q := 23) dX6_begin_22 rfl rfl ?_
        refine ev_ialdN (q := 24) dX6_begin_23 rfl rfl (by decide) (by first | omega | assumption) ?_
        refine ev_iastN (q := 25) dX6_begin_24 rfl rfl (by decide) (by first | omega | assumption) ?_
        refine ev_aload_n (q := 26) dX6_begin_25 rfl rfl ?_
        refine ev_getR (q := 29) (ci := 6) (f := 2) dX6_begin_26 rfl rfl (by decide) (by decide) (by decide) lfRX6_15 rfl hw2 ?_
        refine ev_iload_n (q := 30) dX6_begin_29 rfl rfl ?_
        refine ev_iconst (q := 31) (0 : Int32) dX6_begin_30 rfl (by decide) ?_
        refine ev_iastN (q := 32) dX6_begin_31 rfl rfl (by decide) (by first | omega | assumption) ?_
        refine ev_aload_n (q := 33) dX6_begin_32 rfl rfl ?_
        refine ev_getR (q := 36) (ci := 6) (f := 3) dX6_begin_33 rfl rfl (by decide) (by decide) (by decide) lfRX6_18 rfl hw3 ?_
        refine ev_iload_n (q := 37) dX6_begin_36 rfl rfl ?_
        refine ev_bipush (q := 39) ((-9) : Int32) dX6_begin_37 rfl (by decide) ?_
        refine ev_iastN (q := 40) dX6_begin_39 rfl rfl (by decide) (by first | omega | assumption) ?_
        refine ev_iincL (q := 43) (L9 := [_, _, _]) (1 : Int32) dX6_begin_40 rfl rfl (by decide) (by decide) rfl rfl ?_
        refine ev_goto (t := 7) dX6_begin_43 (by decide) ?_
        rw [nI_1]
        exact ih (i + 1) _ (by omega) (by omega) (fun c hc => by rw [zu_other (by omega), zu_other (by omega), zu_other (by omega)]; exact hf c hc) (by rw [zu_other (by decide), zu_other (by decide), zu_other (by decide)]; exact hy)
  refine ev_aload_n (q := 1) dX6_begin_0 rfl rfl ?_
  refine ev_iconst (q := 2) (0 : Int32) dX6_begin_1 rfl (by decide) ?_
  refine ev_putI (q := 5) (ci := 6) (f := 0) dX6_begin_2 rfl rfl (by decide) (by decide) (by decide) lfRX6_24 rfl rfl rfl rfl ?_
  refine ev_iconst (q := 6) (0 : Int32) dX6_begin_5 rfl (by decide) ?_
  refine ev_istore_nL (q := 7) (L9 := [_, _, _]) dX6_begin_6 rfl (by decide) rfl rfl ?_
  exact lp7 9 0 _ (by omega) (by omega) (fun c hc => zu_other (by omega)) zu_eq
set_option maxHeartbeats 4000000 in
set_option maxRecDepth 100000 in
theorem c_X7_init (G : zq_G) {P : zq_P} (hp : zPin 1 [(0, 0), (0, 1), (0, 2), (0, 3), (0, 4), (0, 5), (0, 6), (0, 7), (0, 8), (0, 9), (0, 10)] P) : zq_Met G mX7_init 3 118 838 [.ref 0] (1) (fun _ _ => 0) P (fun v n' I' P' => v = none ∧ n' = 119 ∧ zPin 119 [] P' ∧ (∀ c, (c < 91 ∨ 95 < c) → I' c = zu (zu (fun _ _ => 0) 109 1 1) 114 1 1 c) ∧ I' 91 0 = 0 ∧ ∀ t, t < 4 → I' 95 t = 0) := by
  refine zq_Met.of okX7_init (Nat.le_of_ble_eq_true rfl) ?_
  show zq_E _ _ _ _ _ _ _ [some (.ref 0)] _ _ _ _ _
  have hI : zIin 1 (fun _ _ => 0) := fun _ _ _ => rfl
  refine ev_aload_n (q := 1) dX7_init_0 rfl rfl ?_
  refine ev_objInit (q := 4) dX7_init_1 rfl lmRX7_1 imObj cdObj (by decide) (Nat.le_of_ble_eq_true rfl) ?_
  refine ev_aload_n (q := 5) dX7_init_4 rfl rfl ?_
  refine ev_room (kc := 117 + 1) (ks := 836 + (zq_cls 4).2.2) (by decide) (by decide) ?_
  refine ev_new (q := 8) (ci := 4) dX7_init_5 rfl rfl (by decide) lcRX7_7 itRX4 iniRX4 (by decide) (fun f => hI _ f (Nat.le_refl _)) (fun f => hp.1 _ f (Nat.le_refl _)) ?_
  refine (show zq_E _ _ _ 117 836 _ _ _ _ (2) _ _ _ from ?_)
  have hI : zIin (2) _ := zIin.s hI
  have hp : zPin (2) ([(1, 0), (0, 0), (0, 1), (0, 2), (0, 3), (0, 4), (0, 5), (0, 6), (0, 7), (0, 8), (0, 9), (0, 10)]) _ := zPin.new [0] (zrow_of (by decide +kernel)) hp
  refine ev_dup (q := 9) dX7_init_8 rfl rfl ?_
  refine ev_room (kc := 116 + 1) (ks := 756 + 80) (by decide) (by decide) ?_
  refine ev_callIN (q := 12) dX7_init_9 rfl okX4_init lnRX7_9 imX4_init rfl rfl (c_X4_init G hI hp) (by decide) rfl rfl (Nat.le_of_ble_eq_true rfl) (fun v9 n9 I9 P9 hR9 => ?_)
  obtain ⟨rfl, rfl, rfl, hp⟩ := hR9
  refine (show zq_E _ _ _ 116 756 _ _ _ _ (3) _ _ _ from ?_)
  have hp : zPin (3) ([(0, 0), (0, 1), (0, 2), (0, 3), (0, 4), (0, 5), (0, 6), (0, 7), (0, 8), (0, 9), (0, 10)]) _ := hp
  have hI : zIin (3) _ := zIin.mono hI (by omega)
  refine ev_putRF (q := 15) (ci := 7) (f := 0) dX7_init_12 rfl (by first | rfl | assumption | exact zf_kd (by assumption) | exact zw_kd (by assumption) | exact zt_kd (by assumption)) (by omega) (by decide) (by decide) lfRX7_10 rfl rfl rfl rfl rfl (fun _ => rfl) (fun _ => rfl) ?_
  have hp : zPin (3) ([(0, 1), (0, 2), (0, 3), (0, 4), (0, 5), (0, 6), (0, 7), (0, 8), (0, 9), (0, 10)]) _ := zPin.put (by omega) rfl (by decide) hp
  refine ev_aload_n (q := 16) dX7_init_15 rfl rfl ?_
  refine ev_room (kc := 115 + 1) (ks := 754 + (zq_cls 2).2.2) (by decide) (by decide) ?_
  refine ev_new (q := 19) (ci := 2) dX7_init_16 rfl rfl (by decide) lcRX7_16 itRX2 iniRX2 (by decide) (fun f => hI _ f (Nat.le_refl _)) (fun f => hp.1 _ f (Nat.le_refl _)) ?_
  refine (show zq_E _ _ _ 115 754 _ _ _ _ (4) _ _ _ from ?_)
  have hI : zIin (4) _ := zIin.s hI
  have hp : zPin (4) ([(0, 1), (0, 2), (0, 3), (0, 4), (0, 5), (0, 6), (0, 7), (0, 8), (0, 9), (0, 10)]) _ := zPin.new [] (zrow_of (by decide +kernel)) hp
  refine ev_dup (q := 20) dX7_init_19 rfl rfl ?_
  refine ev_room (kc := 115 + 0) (ks := 754 + 0) (by decide) (by decide) ?_
  refine ev_callIN (q := 23) dX7_init_20 rfl okX2_init lnRX7_18 imX2_init rfl rfl (c_X2_init G _ _) (by decide) rfl rfl (Nat.le_of_ble_eq_true rfl) (fun v20 n20 I20 P20 hR20 => ?_)
  obtain ⟨rfl, rfl, rfl, rfl⟩ := hR20
  refine (show zq_E _ _ _ 115 754 _ _ _ _ (4) _ _ _ from ?_)
  have hp : zPin (4) ([(0, 1), (0, 2), (0, 3), (0, 4), (0, 5), (0, 6), (0, 7), (0, 8), (0, 9), (0, 10)]) _ := hp
  have hI : zIin (4) _ := zIin.mono hI (by omega)
  refine ev_putRF (q := 26) (ci := 7) (f := 1) dX7_init_23 rfl (by first | rfl | assumption | exact zf_kd (by assumption) | exact zw_kd (by assumption) | exact zt_kd (by assumption)) (by omega) (by decide) (by decide) lfRX7_19 rfl rfl rfl rfl rfl (fun _ => rfl) (fun _ => rfl) ?_
  have hp : zPin (4) ([(0, 2), (0, 3), (0, 4), (0, 5), (0, 6), (0, 7), (0, 8), (0, 9), (0, 10)]) _ := zPin.put (by omega) rfl (by decide) hp
  refine ev_aload_n (q := 27) dX7_init_26 rfl rfl ?_
  refine ev_room (kc := 114 + 1) (ks := 752 + (zq_cls 5).2.2) (by decide) (by decide) ?_
  refine ev_new (q := 30) (ci := 5) dX7_init_27 rfl rfl (by decide) lcRX7_23 itRX5 iniRX5 (by decide) (fun f => hI _ f (Nat.le_refl _)) (fun f => hp.1 _ f (Nat.le_refl _)) ?_
  refine (show zq_E _ _ _ 114 752 _ _ _ _ (5) _ _ _ from ?_)
  have hI : zIin (5) _ := zIin.s hI
  have hp : zPin (5) ([(0, 2), (0, 3), (0, 4), (0, 5), (0, 6), (0, 7), (0, 8), (0, 9), (0, 10)]) _ := zPin.new [] (zrow_of (by decide +kernel)) hp
  refine ev_dup (q := 31) dX7_init_30 rfl rfl ?_
  refine ev_room (kc := 114 + 0) (ks := 752 + 0) (by decide) (by decide) ?_
  refine ev_callIN (q := 34) dX7_init_31 rfl okX5_init lnRX7_25 imX5_init rfl rfl (c_X5_init G _ _) (by decide) rfl rfl (Nat.le_of_ble_eq_true rfl) (fun v31 n31 I31 P31 hR31 => ?_)
  obtain ⟨rfl, rfl, rfl, rfl⟩ := hR31
  refine (show zq_E _ _ _ 114 752 _ _ _ _ (5) _ _ _ from ?_)
  have hp : zPin (5) ([(0, 2), (0, 3), (0, 4), (0, 5), (0, 6), (0, 7), (0, 8), (0, 9), (0, 10)]) _ := hp
  have hI : zIin (5) _ := zIin.mono hI (by omega)
  refine ev_putRF (q := 37) (ci := 7) (f := 2) dX7_init_34 rfl (by first | rfl | assumption | exact zf_kd (by assumption) | exact zw_kd (by assumption) | exact zt_kd (by assumption)) (by omega) (by decide) (by decide) lfRX7_26 rfl rfl rfl rfl rfl (fun _ => rfl) (fun _ => rfl) ?_
  have hp : zPin (5) ([(0, 3), (0, 4), (0, 5), (0, 6), (0, 7), (0, 8), (0, 9), (0, 10)]) _ := zPin.put (by omega) rfl (by decide) hp
  refine ev_aload_n (q := 38) dX7_init_37 rfl rfl ?_
  refine ev_room (kc := 113 + 1) (ks := 746 + (zq_cls 3).2.2) (by decide) (by decide) ?_
  refine ev_new (q := 41) (ci := 3) dX7_init_38 rfl rfl (by decide) lcRX7_30 itRX3 iniRX3 (by decide) (fun f => hI _ f (Nat.le_refl _)) (fun f => hp.1 _ f (Nat.le_refl _)) ?_
  refine (show zq_E _ _ _ 113 746 _ _ _ _ (6) _ _ _ from ?_)
  have hI : zIin (6) _ := zIin.s hI
  have hp : zPin (6) ([(5, 0), (5, 1), (5, 2), (0, 3), (0, 4), (0, 5), (0, 6), (0, 7), (0, 8), (0, 9), (0, 10)]) _ := zPin.new [0, 1, 2] (zrow_of (by decide +kernel)) hp
  refine ev_dup (q := 42) dX7_init_41 rfl rfl ?_
  refine ev_room (kc := 110 + 3) (ks := 738 + 8) (by decide) (by decide) ?_
  refine ev_callIN (q := 45) dX7_init_42 rfl okX3_init lnRX7_32 imX3_init rfl rfl (c_X3_init G hI hp) (by decide) rfl rfl (Nat.le_of_ble_eq_true rfl) (fun v42 n42 I42 P42 hR42 => ?_)
  obtain ⟨rfl, rfl, rfl, hp⟩ := hR42
  refine (show zq_E _ _ _ 110 738 _ _ _ _ (9) _ _ _ from ?_)
  have hp : zPin (9) ([(0, 3), (0, 4), (0, 5), (0, 6), (0, 7), (0, 8), (0, 9), (0, 10)]) _ := hp
  have hI : zIin (9) _ := zIin.mono hI (by omega)
  refine ev_putRF (q := 48) (ci := 7) (f := 3) dX7_init_45 rfl (by first | rfl | assumption | exact zf_kd (by assumption) | exact zw_kd (by assumption) | exact zt_kd (by assumption)) (by omega) (by decide) (by decide) lfRX7_33 rfl rfl rfl rfl rfl (fun _ => rfl) (fun _ => rfl) ?_
  have hp : zPin (9) ([(0, 4), (0, 5), (0, 6), (0, 7), (0, 8), (0, 9), (0, 10)]) _ := zPin.put (by omega) rfl (by decide) hp
  refine ev_aload_n (q := 49) dX7_init_48 rfl rfl ?_
  refine ev_room (kc := 109 + 1) (ks := 735 + (zq_cls 1).2.2) (by decide) (by decide) ?_
  refine ev_new (q := 52) (ci := 1) dX7_init_49 rfl rfl (by decide) lcRX7_37 itRX1 iniRX1 (by decide) (fun f => hI _ f (Nat.le_refl _)) (fun f => hp.1 _ f (Nat.le_refl _)) ?_
  refine (show zq_E _ _ _ 109 735 _ _ _ _ (10) _ _ _ from ?_)
  have hI : zIin (10) _ := zIin.s hI
  have hp : zPin (10) ([(9, 0), (0, 4), (0, 5), (0, 6), (0, 7), (0, 8), (0, 9), (0, 10)]) _ := zPin.new [0] (zrow_of (by decide +kernel)) hp
  refine ev_dup (q := 53) dX7_init_52 rfl rfl ?_
  refine ev_room (kc := 28 + 81) (ks := 191 + 544) (by decide) (by decide) ?_
  refine ev_callI (q := 56) dX7_init_53 rfl okX1_init lmRX7_39 imX1_init rfl rfl (c_X1_init G hI hp) (by decide) rfl rfl (Nat.le_of_ble_eq_true rfl) (fun v53 n53 I53 P53 hR53 => ?_)
  obtain ⟨rfl, rfl, rfl, hp⟩ := hR53
  refine (show zq_E _ _ _ 28 191 _ _ _ _ (91) _ _ _ from ?_)
  have hp : zPin (91) ([(0, 4), (0, 5), (0, 6), (0, 7), (0, 8), (0, 9), (0, 10)]) _ := hp
  have hI : zIin (91) _ := zIin.mono hI (by omega)
  refine ev_putRF (q := 59) (ci := 7) (f := 4) dX7_init_56 rfl (by first | rfl | assumption | exact zf_kd (by assumption) | exact zw_kd (by assumption) | exact zt_kd (by assumption)) (by omega) (by decide) (by decide) lfRX7_40 rfl rfl rfl rfl rfl (fun _ => rfl) (fun _ => rfl) ?_
  have hp : zPin (91) ([(0, 5), (0, 6), (0, 7), (0, 8), (0, 9), (0, 10)]) _ := zPin.put (by omega) rfl (by decide) hp
  refine ev_aload_n (q := 60) dX7_init_59 rfl rfl ?_
  refine ev_room (kc := 27 + 1) (ks := 186 + (zq_cls 6).2.2) (by decide) (by decide) ?_
  refine ev_new (q := 63) (ci := 6) dX7_init_60 rfl rfl (by decide) lcRX7_44 itRX6 iniRX6 (by decide) (fun f => hI _ f (Nat.le_refl _)) (fun f => hp.1 _ f (Nat.le_refl _)) ?_
  refine (show zq_E _ _ _ 27 186 _ _ _ _ (92) _ _ _ from ?_)
  have hI : zIin (92) _ := zIin.s hI
  have hp : zPin (92) ([(91, 1), (91, 2), (91, 3), (91, 4), (0, 5), (0, 6), (0, 7), (0, 8), (0, 9), (0, 10)]) _ := zPin.new [1, 2, 3, 4] (zrow_of (by decide +kernel)) hp
  refine ev_dup (q := 64) dX7_init_63 rfl rfl ?_
  refine ev_room (kc := 23 + 4) (ks := 158 + 28) (by decide) (by decide) ?_
  refine ev_callIN (q := 67) dX7_init_64 rfl okX6_init lnRX7_46 imX6_init rfl rfl (c_X6_init G (w := 91) (by unfold zq_isW; decide) hI hp (by intro k; simp)) (by decide) rfl rfl (Nat.le_of_ble_eq_true rfl) (fun v64 n64 I64 P64 hR64 => ?_)
  obtain ⟨rfl, rfl, rfl, hp⟩ := hR64
  refine (show zq_E _ _ _ 23 158 _ _ _ _ (96) _ _ _ from ?_)
  have hp : zPin (96) ([(0, 5), (0, 6), (0, 7), (0, 8), (0, 9), (0, 10)]) _ := hp
  have hI : zIin (96) _ := zIin.mono hI (by omega)
  refine ev_putRF (q := 70) (ci := 7) (f := 5) dX7_init_67 rfl (by first | rfl | assumption | exact zf_kd (by assumption) | exact zw_kd (by assumption) | exact zt_kd (by assumption)) (by omega) (by decide) (by decide) lfRX7_47 rfl rfl rfl rfl rfl (fun _ => rfl) (fun _ => rfl) ?_
  have hp : zPin (96) ([(0, 6), (0, 7), (0, 8), (0, 9), (0, 10)]) _ := zPin.put (by omega) rfl (by decide) hp
  refine ev_aload_n (q := 71) dX7_init_70 rfl rfl ?_
  refine ev_iconst (q := 72) (2 : Int32) dX7_init_71 rfl (by decide) ?_
  refine ev_room (kc := 22 + 1) (ks := 156 + 2) (by decide) (by decide) ?_
  refine ev_anew (q := 75) (N := 2) dX7_init_72 rfl rfl lcRX7_44 ao_World (by decide) (by decide) (by decide) (by decide) (fun f => hp.1 _ f (Nat.le_refl _)) ?_
  refine (show zq_E _ _ _ 22 156 _ _ _ _ (97) _ _ _ from ?_)
  have hI : zIin (97) _ := zIin.s hI
  have hp : zPin (97) ([(96, 0), (96, 1), (0, 6), (0, 7), (0, 8), (0, 9), (0, 10)]) _ := zPin.new [0, 1] (zrow_of (by decide +kernel)) hp
  refine ev_dup (q := 76) dX7_init_75 rfl rfl ?_
  refine ev_iconst (q := 77) (nI 0 : Int32) dX7_init_76 rfl (by decide) ?_
  refine ev_room (kc := 21 + 1) (ks := 151 + (zq_cls 6).2.2) (by decide) (by decide) ?_
  refine ev_new (q := 80) (ci := 6) dX7_init_77 rfl rfl (by decide) lcRX7_44 itRX6 iniRX6 (by decide) (fun f => hI _ f (Nat.le_refl _)) (fun f => hp.1 _ f (Nat.le_refl _)) ?_
  refine (show zq_E _ _ _ 21 151 _ _ _ _ (98) _ _ _ from ?_)
  have hI : zIin (98) _ := zIin.s hI
  have hp : zPin (98) ([(97, 1), (97, 2), (97, 3), (97, 4), (96, 0), (96, 1), (0, 6), (0, 7), (0, 8), (0, 9), (0, 10)]) _ := zPin.new [1, 2, 3, 4] (zrow_of (by decide +kernel)) hp
  refine ev_dup (q := 81) dX7_init_80 rfl rfl ?_
  refine ev_room (kc := 17 + 4) (ks := 123 + 28) (by decide) (by decide) ?_
  refine ev_callIN (q := 84) dX7_init_81 rfl okX6_init lnRX7_46 imX6_init rfl rfl (c_X6_init G (w := 97) (by unfold zq_isW; decide) hI hp (by intro k; simp)) (by decide) rfl rfl (Nat.le_of_ble_eq_true rfl) (fun v81 n81 I81 P81 hR81 => ?_)
  obtain ⟨rfl, rfl, rfl, hp⟩ := hR81
  refine (show zq_E _ _ _ 17 123 _ _ _ _ (102) _ _ _ from ?_)
  have hp : zPin (102) ([(96, 0), (96, 1), (0, 6), (0, 7), (0, 8), (0, 9), (0, 10)]) _ := hp
  have hI : zIin (102) _ := zIin.mono hI (by omega)
  refine ev_aastN (q := 85) dX7_init_84 rfl rfl (by omega) (by decide) rfl (by first | decide | exact zf_lt (by assumption) | exact zf_lt1 (by assumption) | exact zf_lt2 (by assumption) | exact zf_lt3 (by assumption) | exact zf_lt4 (by assumption) | exact zw_lt (by assumption) | exact zw_lt1 (by assumption) | exact zw_lt2 (by assumption) | exact zw_lt3 (by assumption) | exact zw_lt4 (by assumption) | exact zt_lt (by assumption)) ?_
  have hp : zPin (102) ([(96, 1), (0, 6), (0, 7), (0, 8), (0, 9), (0, 10)]) _ := zPin.put (by omega) rfl (by decide) hp
  refine ev_dup (q := 86) dX7_init_85 rfl rfl ?_
  refine ev_iconst (q := 87) (nI 1 : Int32) dX7_init_86 rfl (by decide) ?_
  refine ev_room (kc := 16 + 1) (ks := 118 + (zq_cls 6).2.2) (by decide) (by decide) ?_
  refine ev_new (q := 90) (ci := 6) dX7_init_87 rfl rfl (by decide) lcRX7_44 itRX6 iniRX6 (by decide) (fun f => hI _ f (Nat.le_refl _)) (fun f => hp.1 _ f (Nat.le_refl _)) ?_
  refine (show zq_E _ _ _ 16 118 _ _ _ _ (103) _ _ _ from ?_)
  have hI : zIin (103) _ := zIin.s hI
  have hp : zPin (103) ([(102, 1), (102, 2), (102, 3), (102, 4), (96, 1), (0, 6), (0, 7), (0, 8), (0, 9), (0, 10)]) _ := zPin.new [1, 2, 3, 4] (zrow_of (by decide +kernel)) hp
  refine ev_dup (q := 91) dX7_init_90 rfl rfl ?_
  refine ev_room (kc := 12 + 4) (ks := 90 + 28) (by decide) (by decide) ?_
  refine ev_callIN (q := 94) dX7_init_91 rfl okX6_init lnRX7_46 imX6_init rfl rfl (c_X6_init G (w := 102) (by unfold zq_isW; decide) hI hp (by intro k; simp)) (by decide) rfl rfl (Nat.le_of_ble_eq_true rfl) (fun v91 n91 I91 P91 hR91 => ?_)
  obtain ⟨rfl, rfl, rfl, hp⟩ := hR91
  refine (show zq_E _ _ _ 12 90 _ _ _ _ (107) _ _ _ from ?_)
  have hp : zPin (107) ([(96, 1), (0, 6), (0, 7), (0, 8), (0, 9), (0, 10)]) _ := hp
  have hI : zIin (107) _ := zIin.mono hI (by omega)
  refine ev_aastN (q := 95) dX7_init_94 rfl rfl (by omega) (by decide) rfl (by first | decide | exact zf_lt (by assumption) | exact zf_lt1 (by assumption) | exact zf_lt2 (by assumption) | exact zf_lt3 (by assumption) | exact zf_lt4 (by assumption) | exact zw_lt (by assumption) | exact zw_lt1 (by assumption) | exact zw_lt2 (by assumption) | exact zw_lt3 (by assumption) | exact zw_lt4 (by assumption) | exact zt_lt (by assumption)) ?_
  have hp : zPin (107) ([(0, 6), (0, 7), (0, 8), (0, 9), (0, 10)]) _ := zPin.put (by omega) rfl (by decide) hp
  refine ev_putRF (q := 98) (ci := 7) (f := 6) dX7_init_95 rfl (by first | rfl | assumption | exact zf_kd (by assumption) | exact zw_kd (by assumption) | exact zt_kd (by assumption)) (by omega) (by decide) (by decide) lfRX7_51 rfl rfl rfl rfl rfl (fun _ => rfl) (fun _ => rfl) ?_
  have hp : zPin (107) ([(0, 7), (0, 8), (0, 9), (0, 10)]) _ := zPin.put (by omega) rfl (by decide) hp
  refine ev_aload_n (q := 99) dX7_init_98 rfl rfl ?_
  refine ev_iconst (q := 100) (2 : Int32) dX7_init_99 rfl (by decide) ?_
  refine ev_room (kc := 11 + 1) (ks := 88 + 2) (by decide) (by decide) ?_
  refine ev_newarr (q := 102) (t := 2) (N := 2) dX7_init_100 rfl rfl (by decide) rfl ac_boolean (by decide) (by decide) (by decide) (by decide) (fun f => hI _ f (Nat.le_refl _)) ?_
  refine (show zq_E _ _ _ 11 88 _ _ _ _ (108) _ _ _ from ?_)
  have hI : zIin (108) _ := zIin.s hI
  have hp : zPin (108) ([(0, 7), (0, 8), (0, 9), (0, 10)]) _ := zPin.new [] (zrow_of (by decide +kernel)) hp
  refine ev_putRF (q := 105) (ci := 7) (f := 7) dX7_init_102 rfl (by first | rfl | assumption | exact zf_kd (by assumption) | exact zw_kd (by assumption) | exact zt_kd (by assumption)) (by omega) (by decide) (by decide) lfRX7_55 rfl rfl rfl rfl rfl (fun _ => rfl) (fun _ => rfl) ?_
  have hp : zPin (108) ([(0, 8), (0, 9), (0, 10)]) _ := zPin.put (by omega) rfl (by decide) hp
  refine ev_aload_n (q := 106) dX7_init_105 rfl rfl ?_
  refine ev_bipush (q := 108) (8 : Int32) dX7_init_106 rfl (by decide) ?_
  refine ev_room (kc := 10 + 1) (ks := 80 + 8) (by decide) (by decide) ?_
  refine ev_newarr (q := 110) (t := 0) (N := 8) dX7_init_108 rfl rfl (by decide) rfl ac_int (by decide) (by decide) (by decide) (by decide) (fun f => hI _ f (Nat.le_refl _)) ?_
  refine (show zq_E _ _ _ 10 80 _ _ _ _ (109) _ _ _ from ?_)
  have hI : zIin (109) _ := zIin.s hI
  have hp : zPin (109) ([(0, 8), (0, 9), (0, 10)]) _ := zPin.new [] (zrow_of (by decide +kernel)) hp
  refine ev_putRF (q := 113) (ci := 7) (f := 8) dX7_init_110 rfl (by first | rfl | assumption | exact zf_kd (by assumption) | exact zw_kd (by assumption) | exact zt_kd (by assumption)) (by omega) (by decide) (by decide) lfRX7_59 rfl rfl rfl rfl rfl (fun _ => rfl) (fun _ => rfl) ?_
  have hp : zPin (109) ([(0, 9), (0, 10)]) _ := zPin.put (by omega) rfl (by decide) hp
  refine ev_aload_n (q := 114) dX7_init_113 rfl rfl ?_
  refine ev_room (kc := 9 + 1) (ks := 72 + (zq_cls 0).2.2) (by decide) (by decide) ?_
  refine ev_new (q := 117) (ci := 0) dX7_init_114 rfl rfl (by decide) lcRX7_63 itRX0 iniRX0 (by decide) (fun f => hI _ f (Nat.le_refl _)) (fun f => hp.1 _ f (Nat.le_refl _)) ?_
  refine (show zq_E _ _ _ 9 72 _ _ _ _ (110) _ _ _ from ?_)
  have hI : zIin (110) _ := zIin.s hI
  have hp : zPin (110) ([(109, 4), (109, 5), (109, 6), (109, 7), (0, 9), (0, 10)]) _ := zPin.new [4, 5, 6, 7] (zrow_of (by decide +kernel)) hp
  refine ev_dup (q := 118) dX7_init_117 rfl rfl ?_
  refine ev_room (kc := 5 + 4) (ks := 40 + 32) (by decide) (by decide) ?_
  refine ev_callIN (q := 121) dX7_init_118 rfl okX0_init lnRX7_65 imX0_init rfl rfl (c_X0_init G (f := 109) (Or.inl rfl) hI hp (by intro k; simp)) (by decide) rfl rfl (Nat.le_of_ble_eq_true rfl) (fun v118 n118 I118 P118 hR118 => ?_)
  obtain ⟨rfl, rfl, rfl, hp⟩ := hR118
  refine (show zq_E _ _ _ 5 40 _ _ _ _ (114) _ _ _ from ?_)
  have hp : zPin (114) ([(0, 9), (0, 10)]) _ := hp
  have hI : zIin (114) (zu _ 109 1 1) := zIin.zu (zIin.mono (m := 114) hI (by omega)) (by omega)
  refine ev_putR (q := 124) (ci := 7) (f := 9) dX7_init_121 rfl (by first | rfl | assumption | exact zf_kd (by assumption) | exact zw_kd (by assumption) | exact zt_kd (by assumption)) (by omega) (by decide) (by decide) lfRX7_66 rfl rfl (fun _ => rfl) (fun _ => rfl) ?_
  have hp : zPin (114) ([(0, 10)]) _ := zPin.put (by omega) rfl (by decide) hp
  refine ev_aload_n (q := 125) dX7_init_124 rfl rfl ?_
  refine ev_room (kc := 4 + 1) (ks := 32 + (zq_cls 0).2.2) (by decide) (by decide) ?_
  refine ev_new (q := 128) (ci := 0) dX7_init_125 rfl rfl (by decide) lcRX7_63 itRX0 iniRX0 (by decide) (fun f => hI _ f (Nat.le_refl _)) (fun f => hp.1 _ f (Nat.le_refl _)) ?_
  refine (show zq_E _ _ _ 4 32 _ _ _ _ (115) _ _ _ from ?_)
  have hI : zIin (115) _ := zIin.s hI
  have hp : zPin (115) ([(114, 4), (114, 5), (114, 6), (114, 7), (0, 10)]) _ := zPin.new [4, 5, 6, 7] (zrow_of (by decide +kernel)) hp
  refine ev_dup (q := 129) dX7_init_128 rfl rfl ?_
  refine ev_room (kc := 0 + 4) (ks := 0 + 32) (by decide) (by decide) ?_
  refine ev_callIN (q := 132) dX7_init_129 rfl okX0_init lnRX7_65 imX0_init rfl rfl (c_X0_init G (f := 114) (Or.inr rfl) hI hp (by intro k; simp)) (by decide) rfl rfl (Nat.le_of_ble_eq_true rfl) (fun v129 n129 I129 P129 hR129 => ?_)
  obtain ⟨rfl, rfl, rfl, hp⟩ := hR129
  refine (show zq_E _ _ _ 0 0 _ _ _ _ (119) _ _ _ from ?_)
  have hp : zPin (119) ([(0, 10)]) _ := hp
  have hI : zIin (119) (zu _ 114 1 1) := zIin.zu (zIin.mono (m := 119) hI (by omega)) (by omega)
  refine ev_putR (q := 135) (ci := 7) (f := 10) dX7_init_132 rfl (by first | rfl | assumption | exact zf_kd (by assumption) | exact zw_kd (by assumption) | exact zt_kd (by assumption)) (by omega) (by decide) (by decide) lfRX7_70 rfl rfl (fun _ => rfl) (fun _ => rfl) ?_
  have hp : zPin (119) ([]) _ := zPin.put (by omega) rfl (by decide) hp
  refine ev_aload_n (q := 136) dX7_init_135 rfl rfl ?_
  refine ev_getR (q := 139) (ci := 7) (f := 5) dX7_init_136 rfl (by first | rfl | assumption | exact zf_kd (by assumption) | exact zw_kd (by assumption) | exact zt_kd (by assumption)) (by omega) (by decide) (by decide) lfRX7_47 rfl (hp.get (by omega) (by decide) rfl) ?_
  refine ev_aload_n (q := 140) dX7_init_139 rfl rfl ?_
  refine ev_getR (q := 143) (ci := 7) (f := 9) dX7_init_140 rfl (by first | rfl | assumption | exact zf_kd (by assumption) | exact zw_kd (by assumption) | exact zt_kd (by assumption)) (by omega) (by decide) (by decide) lfRX7_66 rfl (hp.get (by omega) (by decide) rfl) ?_
  refine ev_cV (q := 146) (ci := 6) dX7_init_143 rfl okX6_begin lmRX7_73 imX6_begin seX6_begin (by first | rfl | assumption | exact zf_kd (by assumption) | exact zw_kd (by assumption) | exact zt_kd (by assumption)) (by first | decide | exact zf_lt (by assumption) | exact zf_lt1 (by assumption) | exact zf_lt2 (by assumption) | exact zf_lt3 (by assumption) | exact zf_lt4 (by assumption) | exact zw_lt (by assumption) | exact zw_lt1 (by assumption) | exact zw_lt2 (by assumption) | exact zw_lt3 (by assumption) | exact zw_lt4 (by assumption) | exact zt_lt (by assumption)) (by decide) rfl (cb_X6_begin G _ (hp.get (by omega) (by decide) rfl) (hp.get (by omega) (by decide) rfl) (hp.get (by omega) (by decide) rfl) (hp.get (by omega) (by decide) rfl) (hp.get (by omega) (by decide) rfl)) (by decide) rfl rfl (Nat.le_of_ble_eq_true rfl) (fun v143 n143 I143 P143 hR143 => ?_)
  obtain ⟨rfl, rfl, rfl, hf, h0, h4⟩ := hR143
  exact ev_vret dX7_init_146 rfl (⟨rfl, rfl, hp, hf, h0, h4⟩)
set_option maxHeartbeats 4000000 in
set_option maxRecDepth 100000 in
theorem c_X8_init (G : zq_G) {I : zq_I} {P : zq_P} (hI : zIin 119 I) (hp : zPin 120 [(119, 1), (119, 7), (119, 8), (119, 9), (119, 10), (119, 11), (119, 12), (119, 13), (119, 14), (119, 20), (119, 21), (119, 22), (119, 23), (119, 24), (119, 26), (119, 27), (119, 29), (119, 32)] P) : zq_Met G mX8_init 1 18 712 [.ref 119] (120) I P (fun v n' I' P' => v = none ∧ n' = 138 ∧ I' = zu I 119 5 1 ∧ zPin 138 [] P') := by
  refine zq_Met.of okX8_init (Nat.le_of_ble_eq_true rfl) ?_
  show zq_E _ _ _ _ _ _ _ [some (.ref 119)] _ _ _ _ _
  have hI : zIin 120 I := zIin.mono hI (by omega)
  refine ev_aload_n (q := 1) dX8_init_0 rfl rfl ?_
  refine ev_objInit (q := 4) dX8_init_1 rfl lmRX8_1 imObj cdObj (by decide) (Nat.le_of_ble_eq_true rfl) ?_
  refine ev_aload_n (q := 5) dX8_init_4 rfl rfl ?_
  refine ev_bipush (q := 7) (80 : Int32) dX8_init_5 rfl (by decide) ?_
  refine ev_room (kc := 17 + 1) (ks := 632 + 80) (by decide) (by decide) ?_
  refine ev_newarr (q := 9) (t := 0) (N := 80) dX8_init_7 rfl rfl (by decide) rfl ac_int (by decide) (by decide) (by decide) (by decide) (fun f => hI _ f (Nat.le_refl _)) ?_
  refine (show zq_E _ _ _ 17 632 _ _ _ _ (121) _ _ _ from ?_)
  have hI : zIin (121) _ := zIin.s hI
  have hp : zPin (121) ([(119, 1), (119, 7), (119, 8), (119, 9), (119, 10), (119, 11), (119, 12), (119, 13), (119, 14), (119, 20), (119, 21), (119, 22), (119, 23), (119, 24), (119, 26), (119, 27), (119, 29), (119, 32)]) _ := zPin.new [] (zrow_of (by decide +kernel)) hp
  refine ev_putRF (q := 12) (ci := 8) (f := 1) dX8_init_9 rfl (by first | rfl | assumption | exact zf_kd (by assumption) | exact zw_kd (by assumption) | exact zt_kd (by assumption)) (by omega) (by decide) (by decide) lfRX8_7 rfl rfl rfl rfl rfl (fun _ => rfl) (fun _ => rfl) ?_
  have hp : zPin (121) ([(119, 7), (119, 8), (119, 9), (119, 10), (119, 11), (119, 12), (119, 13), (119, 14), (119, 20), (119, 21), (119, 22), (119, 23), (119, 24), (119, 26), (119, 27), (119, 29), (119, 32)]) _ := zPin.put (by omega) rfl (by decide) hp
  refine ev_aload_n (q := 13) dX8_init_12 rfl rfl ?_
  refine ev_iconst (q := 14) (1 : Int32) dX8_init_13 rfl (by decide) ?_
  refine ev_putI (q := 17) (ci := 8) (f := 5) dX8_init_14 rfl (by first | rfl | assumption | exact zf_kd (by assumption) | exact zw_kd (by assumption) | exact zt_kd (by assumption)) (by omega) (by decide) (by decide) lfRX8_13 rfl rfl rfl rfl ?_
  have hI : zIin 121 (zu I 119 5 1) := (zIin.mono hI (by omega)).zu (by omega)
  refine ev_aload_n (q := 18) dX8_init_17 rfl rfl ?_
  refine ev_bipush (q := 20) (8 : Int32) dX8_init_18 rfl (by decide) ?_
  refine ev_room (kc := 16 + 1) (ks := 624 + 8) (by decide) (by decide) ?_
  refine ev_newarr (q := 22) (t := 0) (N := 8) dX8_init_20 rfl rfl (by decide) rfl ac_int (by decide) (by decide) (by decide) (by decide) (fun f => hI _ f (Nat.le_refl _)) ?_
  refine (show zq_E _ _ _ 16 624 _ _ _ _ (122) _ _ _ from ?_)
  have hI : zIin (122) _ := zIin.s hI
  have hp : zPin (122) ([(119, 7), (119, 8), (119, 9), (119, 10), (119, 11), (119, 12), (119, 13), (119, 14), (119, 20), (119, 21), (119, 22), (119, 23), (119, 24), (119, 26), (119, 27), (119, 29), (119, 32)]) _ := zPin.new [] (zrow_of (by decide +kernel)) hp
  refine ev_putRF (q := 25) (ci := 8) (f := 7) dX8_init_22 rfl (by first | rfl | assumption | exact zf_kd (by assumption) | exact zw_kd (by assumption) | exact zt_kd (by assumption)) (by omega) (by decide) (by decide) lfRX8_17 rfl rfl rfl rfl rfl (fun _ => rfl) (fun _ => rfl) ?_
  have hp : zPin (122) ([(119, 8), (119, 9), (119, 10), (119, 11), (119, 12), (119, 13), (119, 14), (119, 20), (119, 21), (119, 22), (119, 23), (119, 24), (119, 26), (119, 27), (119, 29), (119, 32)]) _ := zPin.put (by omega) rfl (by decide) hp
  refine ev_aload_n (q := 26) dX8_init_25 rfl rfl ?_
  refine ev_bipush (q := 28) (8 : Int32) dX8_init_26 rfl (by decide) ?_
  refine ev_room (kc := 15 + 1) (ks := 616 + 8) (by decide) (by decide) ?_
  refine ev_newarr (q := 30) (t := 0) (N := 8) dX8_init_28 rfl rfl (by decide) rfl ac_int (by decide) (by decide) (by decide) (by decide) (fun f => hI _ f (Nat.le_refl _)) ?_
  refine (show zq_E _ _ _ 15 616 _ _ _ _ (123) _ _ _ from ?_)
  have hI : zIin (123) _ := zIin.s hI
  have hp : zPin (123) ([(119, 8), (119, 9), (119, 10), (119, 11), (119, 12), (119, 13), (119, 14), (119, 20), (119, 21), (119, 22), (119, 23), (119, 24), (119, 26), (119, 27), (119, 29), (119, 32)]) _ := zPin.new [] (zrow_of (by decide +kernel)) hp
  refine ev_putRF (q := 33) (ci := 8) (f := 8) dX8_init_30 rfl (by first | rfl | assumption | exact zf_kd (by assumption) | exact zw_kd (by assumption) | exact zt_kd (by assumption)) (by omega) (by decide) (by decide) lfRX8_20 rfl rfl rfl rfl rfl (fun _ => rfl) (fun _ => rfl) ?_
  have hp : zPin (123) ([(119, 9), (119, 10), (119, 11), (119, 12), (119, 13), (119, 14), (119, 20), (119, 21), (119, 22), (119, 23), (119, 24), (119, 26), (119, 27), (119, 29), (119, 32)]) _ := zPin.put (by omega) rfl (by decide) hp
  refine ev_aload_n (q := 34) dX8_init_33 rfl rfl ?_
  refine ev_bipush (q := 36) (8 : Int32) dX8_init_34 rfl (by decide) ?_
  refine ev_room (kc := 14 + 1) (ks := 608 + 8) (by decide) (by decide) ?_
  refine ev_newarr (q := 38) (t := 0) (N := 8) dX8_init_36 rfl rfl (by decide) rfl ac_int (by decide) (by decide) (by decide) (by decide) (fun f => hI _ f (Nat.le_refl _)) ?_
  refine (show zq_E _ _ _ 14 608 _ _ _ _ (124) _ _ _ from ?_)
  have hI : zIin (124) _ := zIin.s hI
  have hp : zPin (124) ([(119, 9), (119, 10), (119, 11), (119, 12), (119, 13), (119, 14), (119, 20), (119, 21), (119, 22), (119, 23), (119, 24), (119, 26), (119, 27), (119, 29), (119, 32)]) _ := zPin.new [] (zrow_of (by decide +kernel)) hp
  refine ev_putRF (q := 41) (ci := 8) (f := 9) dX8_init_38 rfl (by first | rfl | assumption | exact zf_kd (by assumption) | exact zw_kd (by assumption) | exact zt_kd (by assumption)) (by omega) (by decide) (by decide) lfRX8_23 rfl rfl rfl rfl rfl (fun _ => rfl) (fun _ => rfl) ?_
  have hp : zPin (124) ([(119, 10), (119, 11), (119, 12), (119, 13), (119, 14), (119, 20), (119, 21), (119, 22), (119, 23), (119, 24), (119, 26), (119, 27), (119, 29), (119, 32)]) _ := zPin.put (by omega) rfl (by decide) hp
  refine ev_aload_n (q := 42) dX8_init_41 rfl rfl ?_
  refine ev_bipush (q := 44) (8 : Int32) dX8_init_42 rfl (by decide) ?_
  refine ev_room (kc := 13 + 1) (ks := 600 + 8) (by decide) (by decide) ?_
  refine ev_newarr (q := 46) (t := 0) (N := 8) dX8_init_44 rfl rfl (by decide) rfl ac_int (by decide) (by decide) (by decide) (by decide) (fun f => hI _ f (Nat.le_refl _)) ?_
  refine (show zq_E _ _ _ 13 600 _ _ _ _ (125) _ _ _ from ?_)
  have hI : zIin (125) _ := zIin.s hI
  have hp : zPin (125) ([(119, 10), (119, 11), (119, 12), (119, 13), (119, 14), (119, 20), (119, 21), (119, 22), (119, 23), (119, 24), (119, 26), (119, 27), (119, 29), (119, 32)]) _ := zPin.new [] (zrow_of (by decide +kernel)) hp
  refine ev_putRF (q := 49) (ci := 8) (f := 10) dX8_init_46 rfl (by first | rfl | assumption | exact zf_kd (by assumption) | exact zw_kd (by assumption) | exact zt_kd (by assumption)) (by omega) (by decide) (by decide) lfRX8_26 rfl rfl rfl rfl rfl (fun _ => rfl) (fun _ => rfl) ?_
  have hp : zPin (125) ([(119, 11), (119, 12), (119, 13), (119, 14), (119, 20), (119, 21), (119, 22), (119, 23), (119, 24), (119, 26), (119, 27), (119, 29), (119, 32)]) _ := zPin.put (by omega) rfl (by decide) hp
  refine ev_aload_n (q := 50) dX8_init_49 rfl rfl ?_
  refine ev_bipush (q := 52) (8 : Int32) dX8_init_50 rfl (by decide) ?_
  refine ev_room (kc := 12 + 1) (ks := 592 + 8) (by decide) (by decide) ?_
  refine ev_newarr (q := 54) (t := 0) (N := 8) dX8_init_52 rfl rfl (by decide) rfl ac_int (by decide) (by decide) (by decide) (by decide) (fun f => hI _ f (Nat.le_refl _)) ?_
  refine (show zq_E _ _ _ 12 592 _ _ _ _ (126) _ _ _ from ?_)
  have hI : zIin (126) _ := zIin.s hI
  have hp : zPin (126) ([(119, 11), (119, 12), (119, 13), (119, 14), (119, 20), (119, 21), (119, 22), (119, 23), (119, 24), (119, 26), (119, 27), (119, 29), (119, 32)]) _ := zPin.new [] (zrow_of (by decide +kernel)) hp
  refine ev_putRF (q := 57) (ci := 8) (f := 11) dX8_init_54 rfl (by first | rfl | assumption | exact zf_kd (by assumption) | exact zw_kd (by assumption) | exact zt_kd (by assumption)) (by omega) (by decide) (by decide) lfRX8_29 rfl rfl rfl rfl rfl (fun _ => rfl) (fun _ => rfl) ?_
  have hp : zPin (126) ([(119, 12), (119, 13), (119, 14), (119, 20), (119, 21), (119, 22), (119, 23), (119, 24), (119, 26), (119, 27), (119, 29), (119, 32)]) _ := zPin.put (by omega) rfl (by decide) hp
  refine ev_aload_n (q := 58) dX8_init_57 rfl rfl ?_
  refine ev_bipush (q := 60) (8 : Int32) dX8_init_58 rfl (by decide) ?_
  refine ev_room (kc := 11 + 1) (ks := 584 + 8) (by decide) (by decide) ?_
  refine ev_newarr (q := 62) (t := 0) (N := 8) dX8_init_60 rfl rfl (by decide) rfl ac_int (by decide) (by decide) (by decide) (by decide) (fun f => hI _ f (Nat.le_refl _)) ?_
  refine (show zq_E _ _ _ 11 584 _ _ _ _ (127) _ _ _ from ?_)
  have hI : zIin (127) _ := zIin.s hI
  have hp : zPin (127) ([(119, 12), (119, 13), (119, 14), (119, 20), (119, 21), (119, 22), (119, 23), (119, 24), (119, 26), (119, 27), (119, 29), (119, 32)]) _ := zPin.new [] (zrow_of (by decide +kernel)) hp
  refine ev_putRF (q := 65) (ci := 8) (f := 12) dX8_init_62 rfl (by first | rfl | assumption | exact zf_kd (by assumption) | exact zw_kd (by assumption) | exact zt_kd (by assumption)) (by omega) (by decide) (by decide) lfRX8_32 rfl rfl rfl rfl rfl (fun _ => rfl) (fun _ => rfl) ?_
  have hp : zPin (127) ([(119, 13), (119, 14), (119, 20), (119, 21), (119, 22), (119, 23), (119, 24), (119, 26), (119, 27), (119, 29), (119, 32)]) _ := zPin.put (by omega) rfl (by decide) hp
  refine ev_aload_n (q := 66) dX8_init_65 rfl rfl ?_
  refine ev_bipush (q := 68) (8 : Int32) dX8_init_66 rfl (by decide) ?_
  refine ev_room (kc := 10 + 1) (ks := 576 + 8) (by decide) (by decide) ?_
  refine ev_newarr (q := 70) (t := 0) (N := 8) dX8_init_68 rfl rfl (by decide) rfl ac_int (by decide) (by decide) (by decide) (by decide) (fun f => hI _ f (Nat.le_refl _)) ?_
  refine (show zq_E _ _ _ 10 576 _ _ _ _ (128) _ _ _ from ?_)
  have hI : zIin (128) _ := zIin.s hI
  have hp : zPin (128) ([(119, 13), (119, 14), (119, 20), (119, 21), (119, 22), (119, 23), (119, 24), (119, 26), (119, 27), (119, 29), (119, 32)]) _ := zPin.new [] (zrow_of (by decide +kernel)) hp
  refine ev_putRF (q := 73) (ci := 8) (f := 13) dX8_init_70 rfl (by first | rfl | assumption | exact zf_kd (by assumption) | exact zw_kd (by assumption) | exact zt_kd (by assumption)) (by omega) (by decide) (by decide) lfRX8_35 rfl rfl rfl rfl rfl (fun _ => rfl) (fun _ => rfl) ?_
  have hp : zPin (128) ([(119, 14), (119, 20), (119, 21), (119, 22), (119, 23), (119, 24), (119, 26), (119, 27), (119, 29), (119, 32)]) _ := zPin.put (by omega) rfl (by decide) hp
  refine ev_aload_n (q := 74) dX8_init_73 rfl rfl ?_
  refine ev_iconst (q := 75) (4 : Int32) dX8_init_74 rfl (by decide) ?_
  refine ev_room (kc := 9 + 1) (ks := 572 + 4) (by decide) (by decide) ?_
  refine ev_newarr (q := 77) (t := 0) (N := 4) dX8_init_75 rfl rfl (by decide) rfl ac_int (by decide) (by decide) (by decide) (by decide) (fun f => hI _ f (Nat.le_refl _)) ?_
  refine (show zq_E _ _ _ 9 572 _ _ _ _ (129) _ _ _ from ?_)
  have hI : zIin (129) _ := zIin.s hI
  have hp : zPin (129) ([(119, 14), (119, 20), (119, 21), (119, 22), (119, 23), (119, 24), (119, 26), (119, 27), (119, 29), (119, 32)]) _ := zPin.new [] (zrow_of (by decide +kernel)) hp
  refine ev_putRF (q := 80) (ci := 8) (f := 14) dX8_init_77 rfl (by first | rfl | assumption | exact zf_kd (by assumption) | exact zw_kd (by assumption) | exact zt_kd (by assumption)) (by omega) (by decide) (by decide) lfRX8_38 rfl rfl rfl rfl rfl (fun _ => rfl) (fun _ => rfl) ?_
  have hp : zPin (129) ([(119, 20), (119, 21), (119, 22), (119, 23), (119, 24), (119, 26), (119, 27), (119, 29), (119, 32)]) _ := zPin.put (by omega) rfl (by decide) hp
  refine ev_aload_n (q := 81) dX8_init_80 rfl rfl ?_
  refine ev_bipush (q := 83) (8 : Int32) dX8_init_81 rfl (by decide) ?_
  refine ev_room (kc := 8 + 1) (ks := 564 + 8) (by decide) (by decide) ?_
  refine ev_newarr (q := 85) (t := 0) (N := 8) dX8_init_83 rfl rfl (by decide) rfl ac_int (by decide) (by decide) (by decide) (by decide) (fun f => hI _ f (Nat.le_refl _)) ?_
  refine (show zq_E _ _ _ 8 564 _ _ _ _ (130) _ _ _ from ?_)
  have hI : zIin (130) _ := zIin.s hI
  have hp : zPin (130) ([(119, 20), (119, 21), (119, 22), (119, 23), (119, 24), (119, 26), (119, 27), (119, 29), (119, 32)]) _ := zPin.new [] (zrow_of (by decide +kernel)) hp
  refine ev_putRF (q := 88) (ci := 8) (f := 20) dX8_init_85 rfl (by first | rfl | assumption | exact zf_kd (by assumption) | exact zw_kd (by assumption) | exact zt_kd (by assumption)) (by omega) (by decide) (by decide) lfRX8_41 rfl rfl rfl rfl rfl (fun _ => rfl) (fun _ => rfl) ?_
  have hp : zPin (130) ([(119, 21), (119, 22), (119, 23), (119, 24), (119, 26), (119, 27), (119, 29), (119, 32)]) _ := zPin.put (by omega) rfl (by decide) hp
  refine ev_aload_n (q := 89) dX8_init_88 rfl rfl ?_
  refine ev_bipush (q := 91) (8 : Int32) dX8_init_89 rfl (by decide) ?_
  refine ev_room (kc := 7 + 1) (ks := 556 + 8) (by decide) (by decide) ?_
  refine ev_newarr (q := 93) (t := 0) (N := 8) dX8_init_91 rfl rfl (by decide) rfl ac_int (by decide) (by decide) (by decide) (by decide) (fun f => hI _ f (Nat.le_refl _)) ?_
  refine (show zq_E _ _ _ 7 556 _ _ _ _ (131) _ _ _ from ?_)
  have hI : zIin (131) _ := zIin.s hI
  have hp : zPin (131) ([(119, 21), (119, 22), (119, 23), (119, 24), (119, 26), (119, 27), (119, 29), (119, 32)]) _ := zPin.new [] (zrow_of (by decide +kernel)) hp
  refine ev_putRF (q := 96) (ci := 8) (f := 21) dX8_init_93 rfl (by first | rfl | assumption | exact zf_kd (by assumption) | exact zw_kd (by assumption) | exact zt_kd (by assumption)) (by omega) (by decide) (by decide) lfRX8_44 rfl rfl rfl rfl rfl (fun _ => rfl) (fun _ => rfl) ?_
  have hp : zPin (131) ([(119, 22), (119, 23), (119, 24), (119, 26), (119, 27), (119, 29), (119, 32)]) _ := zPin.put (by omega) rfl (by decide) hp
  refine ev_aload_n (q := 97) dX8_init_96 rfl rfl ?_
  refine ev_bipush (q := 99) (8 : Int32) dX8_init_97 rfl (by decide) ?_
  refine ev_room (kc := 6 + 1) (ks := 548 + 8) (by decide) (by decide) ?_
  refine ev_newarr (q := 101) (t := 0) (N := 8) dX8_init_99 rfl rfl (by decide) rfl ac_int (by decide) (by decide) (by decide) (by decide) (fun f => hI _ f (Nat.le_refl _)) ?_
  refine (show zq_E _ _ _ 6 548 _ _ _ _ (132) _ _ _ from ?_)
  have hI : zIin (132) _ := zIin.s hI
  have hp : zPin (132) ([(119, 22), (119, 23), (119, 24), (119, 26), (119, 27), (119, 29), (119, 32)]) _ := zPin.new [] (zrow_of (by decide +kernel)) hp
  refine ev_putRF (q := 104) (ci := 8) (f := 22) dX8_init_101 rfl (by first | rfl | assumption | exact zf_kd (by assumption) | exact zw_kd (by assumption) | exact zt_kd (by assumption)) (by omega) (by decide) (by decide) lfRX8_47 rfl rfl rfl rfl rfl (fun _ => rfl) (fun _ => rfl) ?_
  have hp : zPin (132) ([(119, 23), (119, 24), (119, 26), (119, 27), (119, 29), (119, 32)]) _ := zPin.put (by omega) rfl (by decide) hp
  refine ev_aload_n (q := 105) dX8_init_104 rfl rfl ?_
  refine ev_bipush (q := 107) (8 : Int32) dX8_init_105 rfl (by decide) ?_
  refine ev_room (kc := 5 + 1) (ks := 540 + 8) (by decide) (by decide) ?_
  refine ev_newarr (q := 109) (t := 0) (N := 8) dX8_init_107 rfl rfl (by decide) rfl ac_int (by decide) (by decide) (by decide) (by decide) (fun f => hI _ f (Nat.le_refl _)) ?_
  refine (show zq_E _ _ _ 5 540 _ _ _ _ (133) _ _ _ from ?_)
  have hI : zIin (133) _ := zIin.s hI
  have hp : zPin (133) ([(119, 23), (119, 24), (119, 26), (119, 27), (119, 29), (119, 32)]) _ := zPin.new [] (zrow_of (by decide +kernel)) hp
  refine ev_putRF (q := 112) (ci := 8) (f := 23) dX8_init_109 rfl (by first | rfl | assumption | exact zf_kd (by assumption) | exact zw_kd (by assumption) | exact zt_kd (by assumption)) (by omega) (by decide) (by decide) lfRX8_50 rfl rfl rfl rfl rfl (fun _ => rfl) (fun _ => rfl) ?_
  have hp : zPin (133) ([(119, 24), (119, 26), (119, 27), (119, 29), (119, 32)]) _ := zPin.put (by omega) rfl (by decide) hp
  refine ev_aload_n (q := 113) dX8_init_112 rfl rfl ?_
  refine ev_sipush (q := 116) (464 : Int32) dX8_init_113 rfl (by decide) ?_
  refine ev_room (kc := 4 + 1) (ks := 76 + 464) (by decide) (by decide) ?_
  refine ev_newarr (q := 118) (t := 0) (N := 464) dX8_init_116 rfl rfl (by decide) rfl ac_int (by decide) (by decide) (by decide) (by decide) (fun f => hI _ f (Nat.le_refl _)) ?_
  refine (show zq_E _ _ _ 4 76 _ _ _ _ (134) _ _ _ from ?_)
  have hI : zIin (134) _ := zIin.s hI
  have hp : zPin (134) ([(119, 24), (119, 26), (119, 27), (119, 29), (119, 32)]) _ := zPin.new [] (zrow_of (by decide +kernel)) hp
  refine ev_putRF (q := 121) (ci := 8) (f := 24) dX8_init_118 rfl (by first | rfl | assumption | exact zf_kd (by assumption) | exact zw_kd (by assumption) | exact zt_kd (by assumption)) (by omega) (by decide) (by decide) lfRX8_53 rfl rfl rfl rfl rfl (fun _ => rfl) (fun _ => rfl) ?_
  have hp : zPin (134) ([(119, 26), (119, 27), (119, 29), (119, 32)]) _ := zPin.put (by omega) rfl (by decide) hp
  refine ev_aload_n (q := 122) dX8_init_121 rfl rfl ?_
  refine ev_bipush (q := 124) (58 : Int32) dX8_init_122 rfl (by decide) ?_
  refine ev_room (kc := 3 + 1) (ks := 18 + 58) (by decide) (by decide) ?_
  refine ev_newarr (q := 126) (t := 0) (N := 58) dX8_init_124 rfl rfl (by decide) rfl ac_int (by decide) (by decide) (by decide) (by decide) (fun f => hI _ f (Nat.le_refl _)) ?_
  refine (show zq_E _ _ _ 3 18 _ _ _ _ (135) _ _ _ from ?_)
  have hI : zIin (135) _ := zIin.s hI
  have hp : zPin (135) ([(119, 26), (119, 27), (119, 29), (119, 32)]) _ := zPin.new [] (zrow_of (by decide +kernel)) hp
  refine ev_putRF (q := 129) (ci := 8) (f := 26) dX8_init_126 rfl (by first | rfl | assumption | exact zf_kd (by assumption) | exact zw_kd (by assumption) | exact zt_kd (by assumption)) (by omega) (by decide) (by decide) lfRX8_56 rfl rfl rfl rfl rfl (fun _ => rfl) (fun _ => rfl) ?_
  have hp : zPin (135) ([(119, 27), (119, 29), (119, 32)]) _ := zPin.put (by omega) rfl (by decide) hp
  refine ev_aload_n (q := 130) dX8_init_129 rfl rfl ?_
  refine ev_iconst (q := 131) (2 : Int32) dX8_init_130 rfl (by decide) ?_
  refine ev_room (kc := 2 + 1) (ks := 16 + 2) (by decide) (by decide) ?_
  refine ev_newarr (q := 133) (t := 2) (N := 2) dX8_init_131 rfl rfl (by decide) rfl ac_boolean (by decide) (by decide) (by decide) (by decide) (fun f => hI _ f (Nat.le_refl _)) ?_
  refine (show zq_E _ _ _ 2 16 _ _ _ _ (136) _ _ _ from ?_)
  have hI : zIin (136) _ := zIin.s hI
  have hp : zPin (136) ([(119, 27), (119, 29), (119, 32)]) _ := zPin.new [] (zrow_of (by decide +kernel)) hp
  refine ev_putRF (q := 136) (ci := 8) (f := 27) dX8_init_133 rfl (by first | rfl | assumption | exact zf_kd (by assumption) | exact zw_kd (by assumption) | exact zt_kd (by assumption)) (by omega) (by decide) (by decide) lfRX8_59 rfl rfl rfl rfl rfl (fun _ => rfl) (fun _ => rfl) ?_
  have hp : zPin (136) ([(119, 29), (119, 32)]) _ := zPin.put (by omega) rfl (by decide) hp
  refine ev_aload_n (q := 137) dX8_init_136 rfl rfl ?_
  refine ev_bipush (q := 139) (8 : Int32) dX8_init_137 rfl (by decide) ?_
  refine ev_room (kc := 1 + 1) (ks := 8 + 8) (by decide) (by decide) ?_
  refine ev_newarr (q := 141) (t := 0) (N := 8) dX8_init_139 rfl rfl (by decide) rfl ac_int (by decide) (by decide) (by decide) (by decide) (fun f => hI _ f (Nat.le_refl _)) ?_
  refine (show zq_E _ _ _ 1 8 _ _ _ _ (137) _ _ _ from ?_)
  have hI : zIin (137) _ := zIin.s hI
  have hp : zPin (137) ([(119, 29), (119, 32)]) _ := zPin.new [] (zrow_of (by decide +kernel)) hp
  refine ev_putRF (q := 144) (ci := 8) (f := 29) dX8_init_141 rfl (by first | rfl | assumption | exact zf_kd (by assumption) | exact zw_kd (by assumption) | exact zt_kd (by assumption)) (by omega) (by decide) (by decide) lfRX8_63 rfl rfl rfl rfl rfl (fun _ => rfl) (fun _ => rfl) ?_
  have hp : zPin (137) ([(119, 32)]) _ := zPin.put (by omega) rfl (by decide) hp
  refine ev_aload_n (q := 145) dX8_init_144 rfl rfl ?_
  refine ev_bipush (q := 147) (8 : Int32) dX8_init_145 rfl (by decide) ?_
  refine ev_room (kc := 0 + 1) (ks := 0 + 8) (by decide) (by decide) ?_
  refine ev_newarr (q := 149) (t := 0) (N := 8) dX8_init_147 rfl rfl (by decide) rfl ac_int (by decide) (by decide) (by decide) (by decide) (fun f => hI _ f (Nat.le_refl _)) ?_
  refine (show zq_E _ _ _ 0 0 _ _ _ _ (138) _ _ _ from ?_)
  have hI : zIin (138) _ := zIin.s hI
  have hp : zPin (138) ([(119, 32)]) _ := zPin.new [] (zrow_of (by decide +kernel)) hp
  refine ev_putRF (q := 152) (ci := 8) (f := 32) dX8_init_149 rfl (by first | rfl | assumption | exact zf_kd (by assumption) | exact zw_kd (by assumption) | exact zt_kd (by assumption)) (by omega) (by decide) (by decide) lfRX8_66 rfl rfl rfl rfl rfl (fun _ => rfl) (fun _ => rfl) ?_
  have hp : zPin (138) ([]) _ := zPin.put (by omega) rfl (by decide) hp
  exact ev_vret dX8_init_152 rfl (⟨rfl, rfl, rfl, hp⟩)
