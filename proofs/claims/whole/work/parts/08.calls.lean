/-! contracts and calls of pure machines -/
def zq_Qc (G : zq_G) (R : zq_R) : Array Value → State → Outcome → State → Prop := fun _ st o t => (∃ (v : Option Value) (n' : Nat) (I' : zq_I) (P' : zq_P), o = .returned (v.map (zq_tv G)) ∧ R v n' I' P' ∧ zq_H G n' I' P' t.heap) ∧ va_F (zq_A G) st t
def zq_wsM (M : zq_M) : List Cond := Cond.code M.1 M.2.1 M.2.2.1 M.2.2.2 :: zq_T
def zq_rm (d mc ms : Nat) : Room := { frames := d, cells := mc, slots := ms, locals := 60 * d }
/-- the contract: with these arguments, from this state, M returns: R of its answer and the state behind it -/
def zq_Met (G : zq_G) (M : zq_M) (d mc ms : Nat) (As : List Value) (n : Nat) (I : zq_I) (P : zq_P) (R : zq_R) : Prop := ∀ l : Launch,
  Met l M.1 (zq_wsM M) (zq_rm d mc ms) (va_Pc (As.map (zq_tv G)) (fun U => zq_U G U ∧ zq_H G n I P U.heap)) (zq_Qc G R) mc ms (zq_A G)
/-- what the tables say of a method -/
def zq_ok (M : zq_M) (na : Nat) : Prop := Cond.code M.1 M.2.1 M.2.2.1 M.2.2.2 ∈ zq_T ∧ Cond.initialized M.1.cls ∈ zq_T ∧ (M.1.cls ≠ "java/lang/invoke/MethodHandle" ∧ M.1.cls ≠ "java/lang/invoke/VarHandle" ∧ (parseMethodDescriptor M.1.desc).map (fun d => d.parameters.length) = some na) ∧ plainName M.1.cls = true ∧ M.2.2.1 ≤ 41
theorem zq_GI {M : zq_M} {na : Nat} (h : zq_ok M na) : GoodIn zq_T (zq_wsM M) := by
  intro w hw
  have h1 : w ∈ zq_T := by
    rcases List.mem_cons.mp hw with rfl | hw
    · exact h.1
    · exact hw
  exact ⟨h1, good_of_word (zq_good h1)⟩
theorem zq_NWmoved {s U : State} (hW : s.WarmedH U.vm) (h : ∀ w ∈ zq_NW, w.before #[] s = true) : ∀ w ∈ zq_NW, w.before #[] U = true := by
  intro w hw
  have h1 := h w hw
  have h2 : zq_isN w = true := (List.mem_filter.mp hw).2
  unfold zq_isN at h2
  split at h2
  · exact va_Nw.warmM hW h1
  · exact va_AO.moved hW.alike h1
  · cases h2
theorem zq_Umoved {G : zq_G} {s U : State} (hW : s.WarmedH U.vm) (h : zq_U G s) : zq_U G U := ⟨va_K.moved hW.alike h.1, zq_NWmoved hW h.2⟩
theorem zq_NWsame {s U : State} (hW : s.vm = U.vm) (h : ∀ w ∈ zq_NW, w.before #[] s = true) : ∀ w ∈ zq_NW, w.before #[] U = true := by
  intro w hw
  have h1 := h w hw
  have h2 : zq_isN w = true := (List.mem_filter.mp hw).2
  unfold zq_isN at h2
  split at h2
  · exact va_Nw.same rfl hW h1
  · exact va_AO.moved (by rw [hW]; exact Vm.Alike.refl _) h1
  · cases h2
theorem zq_blind {G : zq_G} {As : List Value} {n : Nat} {I : zq_I} {P : zq_P} : FrameBlind (va_Pc (As.map (zq_tv G)) (fun U => zq_U G U ∧ zq_H G n I P U.heap)) := by
  intro a U g mk q
  obtain ⟨q0, ⟨q1, q2⟩, q3⟩ := q
  exact ⟨q0, ⟨va_K.moved (u := U) (U := U.calling g mk a) (Vm.Alike.refl U.vm) q1, zq_NWsame (s := U) (U := U.calling g mk a) rfl q2⟩, q3⟩
/-- behind a call -/
theorem zq_callw {G : zq_G} {R' : zq_R} {p : Program} {l : Launch} {e : Env} {Rm : Room} {s : State} {m : MethodId} {args : Array Value} {below : List Frame} {meth : Method} {c : Code} {Q : State → Prop} {H : Heap} {locs : List Loc} {cells slots mc ms pc : Nat} {ls : Array Slot} {st0 rest : List Value} {a : Array Value}
    (hr : va_Run p l e Rm s m args below meth c H locs cells slots mc ms (F0 m pc ls st0) (rest.map (zq_tv G)) (zq_Qc G R' a) (zq_A G)) (hS : va_S (zq_A G) s.heap H locs)
    (kk : ∀ (v : Option Value) (n' : Nat) (I' : zq_I) (P' : zq_P) (H1 : Heap) (locs1 : List Loc), R' v n' I' P' → zq_H G n' I' P' H1 → va_S (zq_A G) s.heap H1 locs1 → W p l e Rm s m args below meth c H1 locs1 (cells + mc) (slots + ms) Q (F0 m (pc + 3) ls ((v.toList ++ rest).map (zq_tv G)))) : W p l e Rm s m args below meth c H locs cells slots Q (F0 m pc ls st0) := by
  intro T hT X
  obtain ⟨v, st₀, t, T', L, h0, X', hL, e1, e2, ⟨⟨v', n', I', P', hv, hR, hP⟩, hz, hk⟩, st⟩ := hr T hT X
  cases hv
  rw [h0] at hz hk
  obtain ⟨t2, a1, b1⟩ := kk v' n' I' P' T'.heap (locs ++ L) hR (by rw [e1]; exact hP)
    ⟨Nat.le_trans hS.1 (by rw [e1]; exact hz), fun q h1 h2 => by rw [e1, hk q (Nat.lt_of_lt_of_le h1 hS.1) h2]; exact hS.2.1 q h1 h2, fun q hq => by
      rcases List.mem_append.mp hq with h | h
      · exact hS.2.2 q h
      · exact hL q h⟩ T' rfl X'
  refine ⟨t2, st t2 ?_, b1⟩
  have e : ((v'.toList ++ rest).map (zq_tv G)) = (v'.map (zq_tv G)).toList ++ rest.map (zq_tv G) := by
    cases v' <;> simp
  rw [e] at a1
  exact a1
theorem zq_cats (G : zq_G) (st : List Value) : ((st.map (zq_tv G)).map fun v => v.category) = st.map fun v => v.category := by
  induction st with
  | nil => rfl
  | cons a t ih => simp [zq_cat]
section CALLS
variable {G : zq_G} {M M' : zq_M} {d d' kc ks mc ms na : Nat} {sc : Bool} {pc q z : Nat} {L : List (Option Value)} {stk rest As : List Value} {n : Nat} {I : zq_I} {P : zq_P} {R R' : zq_R}
theorem zq_CallB {s : State} {args : Array Value} {Rm : Room} {p : Program} {m : MethodId} {meth : Method} {c : Code} (X : zq_X G M d sc p Rm s m args meth c) (hok : zq_ok M' na) (hlk : Cond.methodLink M.1.cls z M'.1 ∈ zq_T) (hd' : d' < d) :
    CallB Rm s args M.1.cls z M'.1 M'.2.1 M'.2.2.1 M'.2.2.2 (zq_wsM M') (zq_rm d' mc ms) mc ms na := by
  have hts := X.2.2.2.2.1
  have h1 := X.2.2.2.2.2.2.2.1
  have h2 := X.2.2.2.2.2.2.2.2.1
  have h3 := hok.2.2.2.2
  refine callB_of na hts (zq_GI hok) rfl rfl rfl (hts _ hok.2.1) (hts _ hlk) hok.2.2.1 ⟨?_, ?_⟩
  · show d' + 1 ≤ _; omega
  · show 8 + (_ + 11) + 60 * d' ≤ _; omega
theorem zq_sum (h : (rest.map fun v => v.category).sum ≤ 8) : ((rest.map (zq_tv G)).map fun v => v.category).sum ≤ 8 := by rw [zq_cats]; exact h
/-- a virtual call -/
theorem ev_callV {b ci : Nat} (hd : decode M.2.1 pc = .ok (.invokevirtual z, 3)) (hq : pc + 3 = q) (hok : zq_ok M' na) (hlk : Cond.methodLink M.1.cls z M'.1 ∈ zq_T) (hin : Cond.instanceMethod M'.1 ∈ zq_T) (hsel : Cond.selects M'.1.cls M'.1 M'.1 ∈ zq_T)
    (hk : zq_kd b = some (.inl ci)) (hbn : b < n) (hci : ci < 9) (hcl : (zq_cls ci).1 = M'.1.cls) (hM : zq_Met G M' d' mc ms (.ref b :: As) n I P R') (hd' : d' < d) (hlen : As.length = na) (hst : stk = As.reverse ++ .ref b :: rest) (hsm : (rest.map fun v => v.category).sum ≤ 8)
    (kk : ∀ (v : Option Value) (n' : Nat) (I' : zq_I) (P' : zq_P), R' v n' I' P' → zq_E G M d kc ks sc q L (v.toList ++ rest) n' I' P' R) : zq_E G M d (kc + mc) (ks + ms) sc pc L stk n I P R := by
  subst hq
  intro p l e Rm s m args below meth c Q H locs cells slots cE sE ls X hr h1 h2 h3 h4 hP hS hl
  have hts := X.2.2.2.2.1
  have hws := zq_ws_at (G := G) (I := I) (P := P) hbn
  rw [zq_ent_o hk] at hws
  refine zq_callw (rest := rest) (va_runV (As := As.map (zq_tv G)) (C := M'.1.cls) ⟨X.1, X.2.1, X.2.2.1, X.2.2.2.1, hts⟩ (hM l) ⟨zq_CallB X hok hlk hd', hts _ hin, hts _ hsel⟩
    ⟨zq_blind, by rw [← hcl]; exact va_recv X.2.2.2.2.2.1.1 hP.2.2 (zq_clat hci) hws, fun U hU hW => ⟨rfl, zq_Umoved hW X.2.2.2.2.2.1, by rw [hU]; exact hP⟩⟩ rfl (by rw [List.length_map]; exact hlen) hl.1 (by rw [hst]; simp [zq_tv]) (lv_room (zq_sum hsm)) hd ⟨by omega, by omega⟩) hS
    (fun v n' I' P' H1 locs1 hR hP1 hS1 => kk v n' I' P' hR p l e Rm s m args below meth c Q H1 locs1 _ _ cE sE ls X hr (by omega) (by omega) h3 h4 hP1 hS1 hl)
/-- a static call -/
theorem ev_callS (hd : decode M.2.1 pc = .ok (.invokestatic z, 3)) (hq : pc + 3 = q) (hok : zq_ok M' na) (hlk : Cond.methodLink M.1.cls z M'.1 ∈ zq_T) (hstat : Cond.static M'.1 ∈ zq_T)
    (hM : zq_Met G M' d' mc ms As n I P R') (hd' : d' < d) (hlen : As.length = na) (hst : stk = As.reverse ++ rest) (hsm : (rest.map fun v => v.category).sum ≤ 8)
    (kk : ∀ (v : Option Value) (n' : Nat) (I' : zq_I) (P' : zq_P), R' v n' I' P' → zq_E G M d kc ks sc q L (v.toList ++ rest) n' I' P' R) : zq_E G M d (kc + mc) (ks + ms) sc pc L stk n I P R := by
  subst hq
  intro p l e Rm s m args below meth c Q H locs cells slots cE sE ls X hr h1 h2 h3 h4 hP hS hl
  have hts := X.2.2.2.2.1
  refine zq_callw (rest := rest) (va_runS (As := As.map (zq_tv G)) ⟨X.1, X.2.1, X.2.2.1, X.2.2.2.1, hts⟩ (hM l) ⟨zq_CallB X hok hlk hd', hts _ hstat⟩
    ⟨zq_blind, fun U hU hW => ⟨rfl, zq_Umoved hW X.2.2.2.2.2.1, by rw [hU]; exact hP⟩⟩ rfl (by rw [List.length_map]; exact hlen) hl.1 (by rw [hst]; simp) (lv_room (zq_sum hsm)) hd ⟨by omega, by omega⟩) hS
    (fun v n' I' P' H1 locs1 hR hP1 hS1 => kk v n' I' P' hR p l e Rm s m args below meth c Q H1 locs1 _ _ cE sE ls X hr (by omega) (by omega) h3 h4 hP1 hS1 hl)
/-- a constructor's call -/
theorem ev_callI {b : Nat} (hd : decode M.2.1 pc = .ok (.invokespecial z, 3)) (hq : pc + 3 = q) (hok : zq_ok M' na) (hlk : Cond.methodLink M.1.cls z M'.1 ∈ zq_T) (hin : Cond.instanceMethod M'.1 ∈ zq_T) (hnm : M'.1.name = "<init>") (hrt : M'.2.2.2 = none)
    (hM : zq_Met G M' d' mc ms (.ref b :: As) n I P R') (hd' : d' < d) (hlen : As.length = na) (hst : stk = As.reverse ++ .ref b :: rest) (hsm : (rest.map fun v => v.category).sum ≤ 8)
    (kk : ∀ (v : Option Value) (n' : Nat) (I' : zq_I) (P' : zq_P), R' v n' I' P' → zq_E G M d kc ks sc q L (v.toList ++ rest) n' I' P' R) : zq_E G M d (kc + mc) (ks + ms) sc pc L stk n I P R := by
  subst hq
  intro p l e Rm s m args below meth c Q H locs cells slots cE sE ls X hr h1 h2 h3 h4 hP hS hl
  have hts := X.2.2.2.2.1
  have hB := zq_CallB (mc := mc) (ms := ms) X hok hlk hd'
  rw [hrt] at hB
  refine zq_callw (rest := rest) (va_runI (As := As.map (zq_tv G)) (b := zq_ad G b) ⟨X.1, X.2.1, X.2.2.1, X.2.2.2.1, hts⟩ (hM l) ⟨hB, hnm, hts _ hin⟩
    ⟨zq_blind, fun U hU hW => ⟨rfl, zq_Umoved hW X.2.2.2.2.2.1, by rw [hU]; exact hP⟩⟩ rfl (by rw [List.length_map]; exact hlen) hl.1 (by rw [hst]; simp [zq_tv]) (lv_room (zq_sum hsm)) hd ⟨by omega, by omega⟩) hS
    (fun v n' I' P' H1 locs1 hR hP1 hS1 => kk v n' I' P' hR p l e Rm s m args below meth c Q H1 locs1 _ _ cE sE ls X hr (by omega) (by omega) h3 h4 hP1 hS1 hl)
theorem zq_CallN {host : String} {s : State} {args : Array Value} {Rm : Room} {p : Program} {m : MethodId} {meth : Method} {c : Code} (X : zq_X G M d sc p Rm s m args meth c) (hok : zq_ok M' na) (hlk : Cond.methodLinkNest M.1.cls z M'.1 host ∈ zq_NW) (hd' : d' < d) :
    va_CN Rm s args M.1.cls z M'.1 host M'.2.1 M'.2.2.1 M'.2.2.2 (zq_wsM M') (zq_rm d' mc ms) mc ms na := by
  have hts := X.2.2.2.2.1
  have h1 := X.2.2.2.2.2.2.2.1
  have h2 := X.2.2.2.2.2.2.2.2.1
  have h3 := hok.2.2.2.2
  refine va_cnB na hts (zq_GI hok) rfl rfl rfl (X.2.2.2.2.2.1.2 _ hlk) (hts _ hok.2.1) hok.2.2.1 ⟨?_, ?_⟩
  · show d' + 1 ≤ _; omega
  · show 8 + (_ + 11) + 60 * d' ≤ _; omega
/-- a nest mate's static method -/
theorem ev_callSN {host : String} (hd : decode M.2.1 pc = .ok (.invokestatic z, 3)) (hq : pc + 3 = q) (hok : zq_ok M' na) (hlk : Cond.methodLinkNest M.1.cls z M'.1 host ∈ zq_NW) (hstat : Cond.static M'.1 ∈ zq_T)
    (hM : zq_Met G M' d' mc ms As n I P R') (hd' : d' < d) (hlen : As.length = na) (hst : stk = As.reverse ++ rest) (hsm : (rest.map fun v => v.category).sum ≤ 8)
    (kk : ∀ (v : Option Value) (n' : Nat) (I' : zq_I) (P' : zq_P), R' v n' I' P' → zq_E G M d kc ks sc q L (v.toList ++ rest) n' I' P' R) : zq_E G M d (kc + mc) (ks + ms) sc pc L stk n I P R := by
  subst hq
  intro p l e Rm s m args below meth c Q H locs cells slots cE sE ls X hr h1 h2 h3 h4 hP hS hl
  have hts := X.2.2.2.2.1
  refine zq_callw (rest := rest) (va_runSN (As := As.map (zq_tv G)) ⟨X.1, X.2.1, X.2.2.1, X.2.2.2.1, hts⟩ (hM l) ⟨zq_CallN X hok hlk hd', hts _ hstat, trivial⟩
    ⟨zq_blind, fun U hU hW => ⟨rfl, zq_Umoved hW X.2.2.2.2.2.1, by rw [hU]; exact hP⟩⟩ rfl (by rw [List.length_map]; exact hlen) hl.1 (by rw [hst]; simp) (lv_room (zq_sum hsm)) hd ⟨by omega, by omega⟩) hS
    (fun v n' I' P' H1 locs1 hR hP1 hS1 => kk v n' I' P' hR p l e Rm s m args below meth c Q H1 locs1 _ _ cE sE ls X hr (by omega) (by omega) h3 h4 hP1 hS1 hl)
/-- a nest mate's constructor -/
theorem ev_callIN {host : String} {b : Nat} (hd : decode M.2.1 pc = .ok (.invokespecial z, 3)) (hq : pc + 3 = q) (hok : zq_ok M' na) (hlk : Cond.methodLinkNest M.1.cls z M'.1 host ∈ zq_NW) (hin : Cond.instanceMethod M'.1 ∈ zq_T) (hnm : M'.1.name = "<init>") (hrt : M'.2.2.2 = none)
    (hM : zq_Met G M' d' mc ms (.ref b :: As) n I P R') (hd' : d' < d) (hlen : As.length = na) (hst : stk = As.reverse ++ .ref b :: rest) (hsm : (rest.map fun v => v.category).sum ≤ 8)
    (kk : ∀ (v : Option Value) (n' : Nat) (I' : zq_I) (P' : zq_P), R' v n' I' P' → zq_E G M d kc ks sc q L (v.toList ++ rest) n' I' P' R) : zq_E G M d (kc + mc) (ks + ms) sc pc L stk n I P R := by
  subst hq
  intro p l e Rm s m args below meth c Q H locs cells slots cE sE ls X hr h1 h2 h3 h4 hP hS hl
  have hts := X.2.2.2.2.1
  have hB := zq_CallN (mc := mc) (ms := ms) X hok hlk hd'
  rw [hrt] at hB
  refine zq_callw (rest := rest) (va_runIN (As := As.map (zq_tv G)) (b := zq_ad G b) ⟨X.1, X.2.1, X.2.2.1, X.2.2.2.1, hts⟩ (hM l) ⟨hB, hnm, hts _ hin⟩
    ⟨zq_blind, fun U hU hW => ⟨rfl, zq_Umoved hW X.2.2.2.2.2.1, by rw [hU]; exact hP⟩⟩ rfl (by rw [List.length_map]; exact hlen) hl.1 (by rw [hst]; simp [zq_tv]) (lv_room (zq_sum hsm)) hd ⟨by omega, by omega⟩) hS
    (fun v n' I' P' H1 locs1 hR hP1 hS1 => kk v n' I' P' hR p l e Rm s m args below meth c Q H1 locs1 _ _ cE sE ls X hr (by omega) (by omega) h3 h4 hP1 hS1 hl)
/-- Object's constructor -/
theorem ev_objInit {b : Nat} {st : List Value} (hd : decode M.2.1 pc = .ok (.invokespecial z, 3)) (hq : pc + 3 = q) (hlk : Cond.methodLink M.1.cls z objectInit ∈ zq_T) (hin : Cond.instanceMethod objectInit ∈ zq_T) (hcd : Cond.code objectInit ⟨#[0xb1]⟩ 1 none ∈ zq_T) (hd' : 0 < d) (hsm : (st.map fun v => v.category).sum ≤ 8)
    (k : zq_E G M d kc ks sc q L st n I P R) : zq_E G M d kc ks sc pc L (.ref b :: st) n I P R := by
  subst hq
  intro p l e Rm s m args below meth c Q H locs cells slots cE sE ls X hr h1 h2 h3 h4 hP hS hl
  have hts := X.2.2.2.2.1
  have g1 := X.2.2.2.2.2.2.2.1
  have g2 := X.2.2.2.2.2.2.2.2.1
  have g3 := zq_sum (G := G) hsm
  exact W.objInit X.1 X.2.1 X.2.2.2.1 (hts _ hlk) (hts _ hin) (hts _ hcd) rfl (by rw [X.2.2.1]; exact hl.1) rfl hd (by omega) (by show 2 * 0 + _ + 12 ≤ _; omega) (k p l e Rm s m args below meth c Q H locs cells slots cE sE ls X hr h1 h2 h3 h4 hP hS hl)
/-- Math's max, min, abs -/
theorem ev_maxI {x y : Int32} {st : List Value} (hd : decode M.2.1 pc = .ok (.invokestatic z, 3)) (hq : pc + 3 = q) (hlk : Cond.methodLink M.1.cls z Lib.Math.max.name ∈ zq_T) (hs : Cond.static Lib.Math.max.name ∈ zq_T) (hi : Cond.initialized "java/lang/Math" ∈ zq_T) (hcd : Cond.code Lib.Math.max.name Lib.Math.max.code 2 (some .int) ∈ zq_T) (hd' : 0 < d) (hsm : (st.map fun v => v.category).sum ≤ 8)
    (k : zq_E G M d kc ks sc q L (.int (if x < y then y else x) :: st) n I P R) : zq_E G M d kc ks sc pc L (.int y :: .int x :: st) n I P R := by
  subst hq
  intro p l e Rm s m args below meth c Q H locs cells slots cE sE ls X hr h1 h2 h3 h4 hP hS hl
  have hts := X.2.2.2.2.1
  have g1 := X.2.2.2.2.2.2.2.1
  have g2 := X.2.2.2.2.2.2.2.2.1
  have g3 := zq_sum (G := G) hsm
  exact va_mmax X.1 X.2.1 (by rw [X.2.2.1]; exact hl.1.symm) X.2.2.2.1 (hts _ hlk) (hts _ hs) (hts _ hi) (hts _ hcd) (by omega) (by omega) (by omega) (by omega) hd (k p l e Rm s m args below meth c Q H locs cells slots cE sE ls X hr h1 h2 h3 h4 hP hS hl)
theorem ev_minI {x y : Int32} {st : List Value} (hd : decode M.2.1 pc = .ok (.invokestatic z, 3)) (hq : pc + 3 = q) (hlk : Cond.methodLink M.1.cls z Lib.Math.min.name ∈ zq_T) (hs : Cond.static Lib.Math.min.name ∈ zq_T) (hi : Cond.initialized "java/lang/Math" ∈ zq_T) (hcd : Cond.code Lib.Math.min.name Lib.Math.min.code 2 (some .int) ∈ zq_T) (hd' : 0 < d) (hsm : (st.map fun v => v.category).sum ≤ 8)
    (k : zq_E G M d kc ks sc q L (.int (if y < x then y else x) :: st) n I P R) : zq_E G M d kc ks sc pc L (.int y :: .int x :: st) n I P R := by
  subst hq
  intro p l e Rm s m args below meth c Q H locs cells slots cE sE ls X hr h1 h2 h3 h4 hP hS hl
  have hts := X.2.2.2.2.1
  have g1 := X.2.2.2.2.2.2.2.1
  have g2 := X.2.2.2.2.2.2.2.2.1
  have g3 := zq_sum (G := G) hsm
  exact va_mmin X.1 X.2.1 (by rw [X.2.2.1]; exact hl.1.symm) X.2.2.2.1 (hts _ hlk) (hts _ hs) (hts _ hi) (hts _ hcd) (by omega) (by omega) (by omega) (by omega) hd (k p l e Rm s m args below meth c Q H locs cells slots cE sE ls X hr h1 h2 h3 h4 hP hS hl)
theorem ev_absI {x : Int32} {st : List Value} (hd : decode M.2.1 pc = .ok (.invokestatic z, 3)) (hq : pc + 3 = q) (hlk : Cond.methodLink M.1.cls z Lib.Math.abs.name ∈ zq_T) (hs : Cond.static Lib.Math.abs.name ∈ zq_T) (hi : Cond.initialized "java/lang/Math" ∈ zq_T) (hcd : Cond.code Lib.Math.abs.name Lib.Math.abs.code 1 (some .int) ∈ zq_T) (hd' : 0 < d) (hsm : (st.map fun v => v.category).sum ≤ 8)
    (k : zq_E G M d kc ks sc q L (.int (if 0 ≤ x then x else 0 - x) :: st) n I P R) : zq_E G M d kc ks sc pc L (.int x :: st) n I P R := by
  subst hq
  intro p l e Rm s m args below meth c Q H locs cells slots cE sE ls X hr h1 h2 h3 h4 hP hS hl
  have hts := X.2.2.2.2.1
  have g1 := X.2.2.2.2.2.2.2.1
  have g2 := X.2.2.2.2.2.2.2.2.1
  have g3 := zq_sum (G := G) hsm
  exact va_mabs X.1 X.2.1 (by rw [X.2.2.1]; exact hl.1.symm) X.2.2.2.1 (hts _ hlk) (hts _ hs) (hts _ hi) (hts _ hcd) (by omega) (by omega) (by omega) (by omega) hd (k p l e Rm s m args below meth c Q H locs cells slots cE sE ls X hr h1 h2 h3 h4 hP hS hl)
theorem ev_maxL {x y : Int64} {st : List Value} (hd : decode M.2.1 pc = .ok (.invokestatic z, 3)) (hq : pc + 3 = q) (hlk : Cond.methodLink M.1.cls z Lib.MathLoose.max_long.x ∈ zq_T) (hs : Cond.static Lib.MathLoose.max_long.x ∈ zq_T) (hi : Cond.initialized "java/lang/Math" ∈ zq_T) (hcd : Cond.code Lib.MathLoose.max_long.x Lib.MathLoose.max_long.code 4 (some .long) ∈ zq_T) (hd' : 0 < d) (hsm : (st.map fun v => v.category).sum ≤ 8)
    (k : zq_E G M d kc ks sc q L (.long (if y < x then x else y) :: st) n I P R) : zq_E G M d kc ks sc pc L (.long y :: .long x :: st) n I P R := by
  subst hq
  intro p l e Rm s m args below meth c Q H locs cells slots cE sE ls X hr h1 h2 h3 h4 hP hS hl
  have hts := X.2.2.2.2.1
  have g1 := X.2.2.2.2.2.2.2.1
  have g2 := X.2.2.2.2.2.2.2.2.1
  have g3 := zq_sum (G := G) hsm
  exact va_mmax_long X.1 X.2.1 (by rw [X.2.2.1]; exact hl.1.symm) X.2.2.2.1 (hts _ hlk) (hts _ hs) (hts _ hi) (hts _ hcd) (by omega) (by omega) (by omega) (by omega) hd (k p l e Rm s m args below meth c Q H locs cells slots cE sE ls X hr h1 h2 h3 h4 hP hS hl)
end CALLS
/-! a contract out of a walk -/
def zq_L0 (nL : Nat) (As : List Value) : List (Option Value) := (As.flatMap fun v => if v.category = 2 then [some v, none] else [some v]) ++ List.replicate (nL - (As.flatMap fun v => if v.category = 2 then [some v, none] else [some v]).length) none
theorem zq_as_app (G : zq_G) : ∀ (a b : List (Option Value)) (k : Nat), zq_as G k (a ++ b) = zq_as G k a ++ zq_as G (k + a.length) b := by
  intro a
  induction a with
  | nil => intro b k; simp [zq_as]
  | cons x t ih =>
    intro b k
    cases x with
    | none => simp only [List.cons_append, zq_as, ih]; congr 2; simp; omega
    | some v => simp only [List.cons_append, zq_as, ih]; congr 3; simp; omega
theorem zq_as_none (G : zq_G) : ∀ (j k : Nat), zq_as G k (List.replicate j none) = [] := by
  intro j
  induction j with
  | zero => intro k; rfl
  | succ j ih => intro k; simp only [List.replicate_succ, zq_as]; exact ih _
theorem zq_as_args (G : zq_G) : ∀ (As : List Value) (k : Nat), zq_as G k (As.flatMap fun v => if v.category = 2 then [some v, none] else [some v]) = lv_args k (As.map (zq_tv G)) := by
  intro As
  induction As with
  | nil => intro k; rfl
  | cons v t ih =>
    intro k
    rw [List.flatMap_cons, zq_as_app, ih, List.map_cons]
    by_cases h : v.category = 2
    · simp [h, zq_as, lv_args, zq_cat]
    · simp [h, zq_as, lv_args, zq_cat]
theorem zq_slen (G : zq_G) (As : List Value) : (lg_sl (As.map (zq_tv G))).length = (As.flatMap fun v => if v.category = 2 then [some v, none] else [some v]).length := by
  induction As with
  | nil => rfl
  | cons v t ih =>
    rw [List.map_cons, List.flatMap_cons, List.length_append, ← ih]
    by_cases h : v.category = 2
    · simp [lg_sl, h, zq_cat]; omega
    · simp [lg_sl, h, zq_cat]; omega
theorem zq_Met.of {G : zq_G} {M : zq_M} {d mc ms na : Nat} {As : List Value} {n : Nat} {I : zq_I} {P : zq_P} {R : zq_R} (hok : zq_ok M na) (hlen : (As.flatMap fun v => if v.category = 2 then [some v, none] else [some v]).length ≤ M.2.2.1)
    (body : zq_E G M d mc ms false 0 (zq_L0 M.2.2.1 As) [] n I P R) : zq_Met G M d mc ms As n I P R := by
  intro l
  refine Met.ofW (cc := M.2.1) (maxL := M.2.2.1) (ret := M.2.2.2) hok.2.2.2.1 rfl ?_
  intro p e s m args below meth c s₁ B hml hv
  obtain ⟨rfl, hU, hH⟩ := hv
  have hts0 := atoms_spec (ws := zq_wsM M) B.pre
  have hts : ∀ w ∈ zq_T, w.before (As.map (zq_tv G)).toArray s = true := fun w h => hts0 w (List.mem_cons_of_mem _ h)
  have hl := lv_entry (As.map (zq_tv G)) (n := M.2.2.1) (by rw [zq_slen]; exact hlen)
  rw [lg_entry_eq]
  generalize (lg_sl (As.map (zq_tv G)) ++ List.replicate (M.2.2.1 - (lg_sl (As.map (zq_tv G))).length) Slot.unset).toArray = ls at hl ⊢
  have hl2 : lv_has ls M.2.2.1 (zq_as G 0 (zq_L0 M.2.2.1 As)) := by
    unfold zq_L0
    rw [zq_as_app, zq_as_none, zq_as_args, List.append_nil]
    exact hl
  have hin : meth.name = M.1.name := (name_of_methodNamed B.named B.method).1
  refine body p l e _ s m _ below meth c _ s.heap [] 0 0 mc ms ls ⟨B.exec, B.bytes, hml, findClass_of_methodNamed B.named, hts, hU, by rw [hH.1]; omega, Nat.le_refl _, Nat.le_refl _, fun h => by (cases h), fun _ => hin⟩ ?_ (by omega) (by omega) (Nat.le_refl _) (Nat.le_refl _) hH va_S.rf hl2
  intro v n' I' P' H' locs' ls' pc' hR hP' hS' hrt
  have hlocks := B.notSynchronized
  have hq : ∀ t : State, t.heap = H' → zq_Qc G R (As.map (zq_tv G)).toArray s (.returned (v.map (zq_tv G))) t := fun t ht => ⟨⟨v, n', I', P', rfl, hR, by rw [ht]; exact hP'⟩, hS'.F ht⟩
  cases v with
  | none => exact W.vret B.exec B.bytes (by rw [B.returns]; exact hrt.2) (fun t ht _ => hq t ht) hS'.2.2 hrt.1 hlocks
  | some v =>
    cases v with
    | int x =>
      obtain ⟨h1, ty, h2, h3⟩ := hrt
      exact W.zret (ty := ty) B.exec B.bytes (by rw [B.returns]; exact h2) h3 (fun t ht _ => hq t ht) hS'.2.2 h1 hlocks
    | long x => exact W.lret B.exec B.bytes (by rw [B.returns]; exact hrt.2) (fun t ht _ => hq t ht) hS'.2.2 hrt.1 hlocks
    | _ => exact False.elim hrt
/-- locals may be forgotten, answers may be said more weakly -/
def zq_le : List (Option Value) → List (Option Value) → Prop
  | [], _ => True
  | none :: a, _ :: b => zq_le a b
  | none :: a, [] => zq_le a []
  | some v :: a, w :: b => w = some v ∧ zq_le a b
  | some _ :: _, [] => False
theorem zq_le_at : ∀ (A B : List (Option Value)) (i : Nat) (v : Value), zq_le A B → A[i]? = some (some v) → B[i]? = some (some v) := by
  intro A
  induction A with
  | nil => intro B i v _ h; simp at h
  | cons a t ih =>
    intro B i v h hi
    cases a with
    | none =>
      cases i with
      | zero => simp at hi
      | succ i =>
        cases B with
        | nil =>
          have h0 : t[i]? = some (some v) := by simpa using hi
          have := ih [] i v h h0
          simp at this
        | cons b bs => simpa using ih bs i v h (by simpa using hi)
    | some w =>
      cases B with
      | nil => exact False.elim h
      | cons b bs =>
        obtain ⟨h1, h2⟩ := h
        cases i with
        | zero => simp at hi ⊢; rw [h1, hi]
        | succ i => simpa using ih bs i v h2 (by simpa using hi)
theorem ev_wk {G : zq_G} {M : zq_M} {d kc ks : Nat} {sc : Bool} {pc : Nat} {L L' : List (Option Value)} {st : List Value} {n : Nat} {I : zq_I} {P : zq_P} {R : zq_R} (h : zq_le L' L) (k : zq_E G M d kc ks sc pc L' st n I P R) : zq_E G M d kc ks sc pc L st n I P R := by
  intro p l e Rm s m args below meth c Q H locs cells slots cE sE ls X hr h1 h2 h3 h4 hP hS hl
  refine k p l e Rm s m args below meth c Q H locs cells slots cE sE ls X hr h1 h2 h3 h4 hP hS (zq_less hl ?_)
  intro q hq
  obtain ⟨i, v, g1, g2⟩ := (zq_as_mem G L' 0 q).mp hq
  exact (zq_as_mem G L 0 q).mpr ⟨i, v, zq_le_at L' L i v h g1, g2⟩
theorem ev_post {G : zq_G} {M : zq_M} {d kc ks : Nat} {sc : Bool} {pc : Nat} {L : List (Option Value)} {st : List Value} {n : Nat} {I : zq_I} {P : zq_P} {R R' : zq_R} (h : ∀ v n' I' P', R' v n' I' P' → R v n' I' P') (k : zq_E G M d kc ks sc pc L st n I P R') : zq_E G M d kc ks sc pc L st n I P R := by
  intro p l e Rm s m args below meth c Q H locs cells slots cE sE ls X hr h1 h2 h3 h4 hP hS hl
  exact k p l e Rm s m args below meth c Q H locs cells slots cE sE ls X (fun v n' I' P' H' locs' ls' pc' hR => hr v n' I' P' H' locs' ls' pc' (h _ _ _ _ hR)) h1 h2 h3 h4 hP hS hl
theorem ev_room {G : zq_G} {M : zq_M} {d kc ks kc' ks' : Nat} {sc : Bool} {pc : Nat} {L : List (Option Value)} {st : List Value} {n : Nat} {I : zq_I} {P : zq_P} {R : zq_R} (h1 : kc ≤ kc') (h2 : ks ≤ ks') (k : zq_E G M d kc ks sc pc L st n I P R) : zq_E G M d kc' ks' sc pc L st n I P R := by
  intro p l e Rm s m args below meth c Q H locs cells slots cE sE ls X hr g1 g2 h3 h4 hP hS hl
  exact k p l e Rm s m args below meth c Q H locs cells slots cE sE ls X hr (by omega) (by omega) h3 h4 hP hS hl
