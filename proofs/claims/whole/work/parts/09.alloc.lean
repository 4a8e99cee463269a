/-! what is made: the next cell's number is how many there are -/
theorem zq_dflt : ∀ ci, ci < 9 → ∀ j, j < (zq_cls ci).2.2 → defaultValue (zq_ty ci j) = if zq_isr ci j = true then Value.null else Value.int 0 := by decide +kernel
theorem zq_RAof {G : zq_G} {s : State} {t : Nat} {cA : ClassId} (hK : va_K G.1 vwCl (zq_tys G) s) (ht : t < 3) (h : s.vm.findClass ("[" ++ (zq_tt t).toString) = some cA) : cA = G.2.1 t := by
  have h1 := (hK.2 t _ (zq_tysat (by omega))).2
  rcases (by omega : t = 0 ∨ t = 1 ∨ t = 2) with rfl | rfl | rfl
  · exact Option.some.inj (h.symm.trans h1)
  · exact Option.some.inj (h.symm.trans h1)
  · exact Option.some.inj (h.symm.trans h1)
section ALLOC
variable {G : zq_G} {M : zq_M} {d kc ks : Nat} {sc : Bool} {pc q z : Nat} {L : List (Option Value)} {st : List Value} {n : Nat} {I : zq_I} {P : zq_P} {R : zq_R}
theorem zq_pushed {H H1 : Heap} {s : State} {locs : List Loc} (hP : zq_H G n I P H) (hS : va_S (zq_A G) s.heap H locs) (hn : n + 1 ≤ 1000) (z1 : H1.size = H.size + 1) (o1 : ∀ q, q < H.size → H1[q]? = H[q]?) (ha : va_at G.1 vwCl (H.size, zq_ent G I P n) H1) : zq_H G (n + 1) I P H1 ∧ va_S (zq_A G) s.heap H1 locs := by
  have had : zq_ad G n = H.size := by
    rw [zq_adlt (show n < n + 1 by omega) hn, hP.1]
  refine ⟨⟨by rw [z1, hP.1]; omega, hn, ?_⟩, ⟨Nat.le_trans hS.1 (by omega), fun x h1 h2 => (o1 x (Nat.lt_of_lt_of_le h1 hS.1)).trans (hS.2.1 x h1 h2), hS.2.2⟩⟩
  rw [zq_ws_push, had]
  refine (hP.2.2.kept (fun k x hx => o1 x.1 ((hP.2.2 k x hx).lt))).app (fun k x hx => ?_)
  have hz : k < 1 := (List.getElem?_eq_some_iff.mp hx).1
  rw [show k = 0 by omega] at hx
  cases hx
  exact ha
theorem ev_new {ci : Nat} (hd : decode M.2.1 pc = .ok (.new z, 3)) (hq : pc + 3 = q) (hk : zq_kd n = some (.inl ci)) (hci : ci < 9) (hcl : Cond.classLink M.1.cls z (zq_cls ci).1 ∈ zq_T) (hinst : Cond.instantiable (zq_cls ci).1 (zq_cls ci).2.2 ∈ zq_T) (hini : Cond.initialized (zq_cls ci).1 ∈ zq_T)
    (hn : n + 1 ≤ 1000) (hI : ∀ f, I n f = 0) (hPn : ∀ f, P n f = none) (k : zq_E G M d kc ks sc q L (.ref n :: st) (n + 1) I P R) : zq_E G M d (kc + 1) (ks + (zq_cls ci).2.2) sc pc L st n I P R := by
  subst hq
  intro p l e Rm s m args below meth c Q H locs cells slots cE sE ls X hr h1 h2 h3 h4 hP hS hl
  have hts := X.2.2.2.2.1
  have hKn := X.2.2.2.2.2.1.1.1 ci _ (zq_clat hci)
  refine W.newcK X.1 X.2.1 X.2.2.2.1 (hts _ hcl) (hts _ hinst) (hts _ hini) rfl hd (by omega) (by omega) hKn.2.1 rfl fun H1 kC hkC e1 z1 o1 => ?_
  obtain ⟨hP1, hS1⟩ := zq_pushed hP hS hn z1 o1 (by
    rw [zq_ent_o hk]
    refine ⟨_, zq_clat hci, (u_born (zq_ty ci) hts (zq_in ci hci) hKn hkC e1 (zq_tyok ci hci)).to (fun j hj => ?_)⟩
    show _ = (zq_fs G I P n ci).getD j .null
    rw [List.getD_eq_getElem?_getD, zq_fs_at hj, zq_dflt ci hci j hj, hI, hPn]
    rfl)
  have had : zq_ad G n = H.size := by rw [zq_adlt (show n < n + 1 by omega) hn, hP.1]
  have hk9 := k p l e Rm s m args below meth c Q H1 locs (cells + 1) (slots + (zq_cls ci).2.2) cE sE ls X hr (by omega) (by omega) h3 h4 hP1 hS1 hl
  simp only [List.map_cons, zq_tv, had] at hk9
  exact hk9
theorem ev_newarr {t N : Nat} {at' : ArrayType} {x : Int32} (hd : decode M.2.1 pc = .ok (.newarray at', 2)) (hq : pc + 2 = q) (hk : zq_kd n = some (.inr (t, N))) (ht : t < 3) (hty : newarray.typeOf at' = zq_tt t) (harr : Cond.arrayClass (zq_tt t) ∈ zq_T) (hx : ¬ x < 0) (hN : x.toNatClampNeg = N) (hN2 : N ≤ 1000)
    (hn : n + 1 ≤ 1000) (hI : ∀ f, I n f = 0) (k : zq_E G M d kc ks sc q L (.ref n :: st) (n + 1) I P R) : zq_E G M d (kc + 1) (ks + N) sc pc L (.int x :: st) n I P R := by
  subst hq
  intro p l e Rm s m args below meth c Q H locs cells slots cE sE ls X hr h1 h2 h3 h4 hP hS hl
  have hts := X.2.2.2.2.1
  have hcb : componentBytes (zq_tt t) ≤ 4 := by rcases (by omega : t = 0 ∨ t = 1 ∨ t = 2) with rfl | rfl | rfl <;> decide
  have hdv : defaultValue (zq_tt t) = .int 0 := by rcases (by omega : t = 0 ∨ t = 1 ∨ t = 2) with rfl | rfl | rfl <;> rfl
  refine va_newaK X.1 X.2.1 (atype := at') (by rw [hty]; exact hts _ harr) rfl hd rfl hx hN (by rw [hty]; exact Nat.le_trans (Nat.mul_le_mul hN2 hcb) (by decide)) (by omega) (by omega) rfl fun H1 cA e1 z1 o1 hAr hNm => ?_
  rw [hty] at hNm e1
  have hcA := zq_RAof X.2.2.2.2.2.1.1 ht hNm
  obtain ⟨hP1, hS1⟩ := zq_pushed hP hS hn z1 o1 (by
    rw [zq_ent_i hk (by omega)]
    show H1[H.size]? = some (vp_cell _ _)
    rw [e1, hcA, vp_cell_i, hdv]
    congr 2
    funext j
    rw [hI])
  have had : zq_ad G n = H.size := by rw [zq_adlt (show n < n + 1 by omega) hn, hP.1]
  have hk9 := k p l e Rm s m args below meth c Q H1 locs (cells + 1) (slots + N) cE sE ls X hr (by omega) (by omega) h3 h4 hP1 hS1 hl
  simp only [List.map_cons, zq_tv, had] at hk9
  exact hk9
theorem ev_anew {N : Nat} {x : Int32} (hd : decode M.2.1 pc = .ok (.anewarray z, 3)) (hq : pc + 3 = q) (hk : zq_kd n = some (.inr (3, N))) (hcl : Cond.classLink M.1.cls z RX6 ∈ zq_T) (hov : Cond.arrayOver (.object RX6) ∈ zq_NW) (hx : ¬ x < 0) (hN : x.toNatClampNeg = N) (hN2 : N ≤ 1000)
    (hn : n + 1 ≤ 1000) (hPn : ∀ f, P n f = none) (k : zq_E G M d kc ks sc q L (.ref n :: st) (n + 1) I P R) : zq_E G M d (kc + 1) (ks + N) sc pc L (.int x :: st) n I P R := by
  subst hq
  subst hN
  intro p l e Rm s m args below meth c Q H locs cells slots cE sE ls X hr h1 h2 h3 h4 hP hS hl
  have hts := X.2.2.2.2.1
  refine W.anew X.1 X.2.1 X.2.2.2.1 (hts _ hcl) (va_AO.use (C := RX6) (X.2.2.2.2.2.1.2 _ hov)) rfl hd rfl hx (Nat.le_trans (Nat.mul_le_mul_right 4 hN2) (by decide)) (by omega) (by omega) fun cA kA comp f1 f2 f3 f4 => ?_
  generalize hH1 : H.push ({ cls := cA, slots := Array.replicate x.toNatClampNeg .null, vm := .none } : Cell) = H1
  have z1 : H1.size = H.size + 1 := by rw [← hH1, Array.size_push]
  have e1 : H1[H.size]? = some (arrV cA x.toNatClampNeg (fun _ => .null)) := by rw [← hH1, Array.getElem?_push_size, ← arrV_new]
  have o1 : ∀ q : Nat, q < H.size → H1[q]? = H[q]? := fun q hq => by rw [← hH1, Array.getElem?_push, if_neg (Nat.ne_of_lt hq)]
  obtain ⟨-, kA', comp', k1, k2, k3, k4⟩ := X.2.2.2.2.2.1.1.2 3 _ (zq_tysat (by decide))
  have hcA : cA = G.2.1 3 := Option.some.inj (f1.symm.trans k4)
  obtain ⟨hP1, hS1⟩ := zq_pushed hP hS hn z1 o1 (by
    rw [zq_ent_q hk]
    show H1[H.size]? = some (vp_cell _ _)
    rw [e1, hcA, vp_cell_q]
    congr 2
    funext j
    rw [hPn]
    rfl)
  have had : zq_ad G n = H.size := by rw [zq_adlt (show n < n + 1 by omega) hn, hP.1]
  have hk9 := k p l e Rm s m args below meth c Q H1 locs (cells + 1) (slots + x.toNatClampNeg) cE sE ls X hr (by omega) (by omega) h3 h4 hP1 hS1 hl
  simp only [List.map_cons, zq_tv, had] at hk9
  exact hk9
end ALLOC
