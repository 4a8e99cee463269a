/-! THE CLAIM OUT OF ONE WALK OF THE LAW'S BODY. Your part is whole_start (and what it stands on); all else here is the same for every law, but numbers. -/
def R_law : String := "CountedMissingLaw"
def lw_P (b : Addr) (xs : List Int32) (args : Array Value) (s : State) : Prop := args = #[.ref b] ∧ s.IntsAt b xs ∧ xs.length ≤ 2560 ∧ (Jvm.Cond.and given_1 narrow_1).before args s = true
def lw_Q (_ : Array Value) (s : State) (o : Outcome) (t : State) : Prop := o = .returned (some (.int 1)) ∧ Framed s o t [] 600000 7302250
def lw_Z (below : List Frame) (a : Array Value) (s : State) : State → Prop := fun t => ∃ o, t.status = .running ∧ Ended t below o ∧ lw_Q a s o t
/-- the law's own end, with 1 on the stack, nothing written that was there before, its room as the claim has it -/
theorem lw_ret {p : Program} {l : Launch} {e : Env} {s : State} {m : MethodId} {below : List Frame} {meth : Method} {c : Code} {b : Nat} (hx : p.tables.exec = Jvm.exec) (hb : c.code = code) (hr : meth.sig.returnType = ret) (hlocks : meth.locks = false) {pc : Nat} {H : Heap} {ls : Array Slot} (hdg : decode code pc = .ok (.ireturn, 1)) : W p l e room_1 s m #[Value.ref b] below meth c H [] 600000 7302250 (lw_Z below #[Value.ref b] s) (F0 m pc ls [.int 1]) := by
  intro T hT X
  obtain ⟨fs, hret, hrun, hended, hW, hframe⟩ := X.leave (v := some (.int 1)) (hlocks := hlocks) (fun h => by rw [hr] at h; cases h)
  have hmeth' : T.vm.method? m = some meth := X.method'
  refine ⟨T.setFrames fs, ?_, .returned (some (.int 1)), hrun, hended, rfl, ⟨_, rfl⟩, hW, hframe⟩
  jvm_step X.here [X.here.top, hx, hb, hdg, hmeth', hr, ret, narrow_b1]
  (try refine ⟨rfl, ?_⟩); (try refine ⟨rfl, ?_⟩)
  first | (intro acts; rw [hret _ acts rfl rfl rfl]) | rw [hret _ _ rfl rfl rfl]
  exact Steps.refl _
/-- what holds at the law's entry: the machine, the code, the tables' words (any of lw_tbl by 'hts w (by decide +kernel)'), the script of L ints xs at the cell b, what the Statement gives of the start (any of its parts by flat_of_before) -/
def lw_At (p : Program) (s : State) (m : MethodId) (meth : Method) (c : Code) (b L : Nat) (xs : Nat → Int32) : Prop :=
  p.tables.exec = Jvm.exec ∧ c.code = code ∧ meth.sig.returnType = ret ∧ c.maxLocals = 4 ∧ s.vm.findClass R_law = some m.cls ∧ (∀ w ∈ lw_tbl, w.before #[Value.ref b] s = true) ∧ va_X b L xs s s.heap ∧ b < s.heap.size ∧ meth.locks = false ∧ (Jvm.Cond.and given_1 narrow_1).before #[Value.ref b] s = true
/-- the kit's skeleton in zq_E's words: the law's body out of a walk of the pure machine -/
theorem zq_ArrOf {s : State} {args : Array Value} {ty : FieldType} (h : (Cond.arrayClass ty).before args s = true) : ∃ cA : ClassId, s.vm.findClass ("[" ++ ty.toString) = some cA ∧ ArrOfT s cA ty := by
  obtain ⟨c, k, comp, h1, h2, h3⟩ := Cond.arrayClass_spec h
  exact ⟨c, h1, fun n z => ⟨fun k h => (by cases h), k, h2, comp, h3⟩⟩
theorem zq_ArrOfQ {s : State} {args : Array Value} (h : (Cond.arrayOver (.object RX6)).before args s = true) : ∃ cA : ClassId, ArrOfT s cA (.object RX6) ∧ va_RA s cA (.object RX6) := by
  obtain ⟨comp, c, k, h1, h2, h3, h4, h5⟩ := Cond.arrayOver_spec h
  exact ⟨c, fun n z => ⟨fun k h => (by cases h), k, h3, comp, h4⟩, k, comp, h3, h4, h1, h5⟩
set_option maxHeartbeats 4000000 in
set_option maxRecDepth 100000 in
theorem zq_start {p : Program} {e : Env} {s : State} {m : MethodId} {below : List Frame} {meth : Method} {c : Code} (l : Launch) {b L : Nat} {xs : Nat → Int32} {Q : State → Prop}
    (hE : ∀ G : zq_G, G.2.2.2.2.1 = L → zq_E G (yL_law, cL_law, 4, some .boolean) 30 138 2000 true 0 [some (.ref zq_sc), none, none, none] [] 0 (fun _ _ => 0) (fun _ _ => none) (fun v _ _ _ => v = some (.int 1)))
    (hx : p.tables.exec = Jvm.exec) (hb : c.code = code) (hr : meth.sig.returnType = ret) (hml : c.maxLocals = 4) (hown : s.vm.findClass R_law = some m.cls) (hts : ∀ w ∈ lw_tbl, w.before #[Value.ref b] s = true) (hX : va_X b L xs s s.heap) (hbl : b < s.heap.size) (hlocks : meth.locks = false)
    (hend : ∀ (pc : Nat) (H : Heap) (ls : Array Slot), decode code pc = .ok (.ireturn, 1) → W p l e room_1 s m #[Value.ref b] below meth c H [] 600000 7302250 Q (F0 m pc ls [.int 1])) : W p l e room_1 s m #[Value.ref b] below meth c s.heap [] 0 0 Q (entryFrame m ([Value.ref b] : List Value).toArray 4) := by
  obtain ⟨c0, s0, k0⟩ := u_known (C := RX0) (T := TX0) (N := 8) hts (fun w h => (List.mem_filter.mp (zq_in 0 (by decide) w h)).1) (hts _ (List.mem_filter.mp itRX0).1)
  obtain ⟨c1, s1, k1⟩ := u_known (C := RX1) (T := TX1) (N := 3) hts (fun w h => (List.mem_filter.mp (zq_in 1 (by decide) w h)).1) (hts _ (List.mem_filter.mp itRX1).1)
  obtain ⟨c2, s2, k2⟩ := u_known (C := RX2) (T := TX2) (N := 2) hts (fun w h => (List.mem_filter.mp (zq_in 2 (by decide) w h)).1) (hts _ (List.mem_filter.mp itRX2).1)
  obtain ⟨c3, s3, k3⟩ := u_known (C := RX3) (T := TX3) (N := 6) hts (fun w h => (List.mem_filter.mp (zq_in 3 (by decide) w h)).1) (hts _ (List.mem_filter.mp itRX3).1)
  obtain ⟨c4, s4, k4⟩ := u_known (C := RX4) (T := TX4) (N := 2) hts (fun w h => (List.mem_filter.mp (zq_in 4 (by decide) w h)).1) (hts _ (List.mem_filter.mp itRX4).1)
  obtain ⟨c5, s5, k5⟩ := u_known (C := RX5) (T := TX5) (N := 2) hts (fun w h => (List.mem_filter.mp (zq_in 5 (by decide) w h)).1) (hts _ (List.mem_filter.mp itRX5).1)
  obtain ⟨c6, s6, k6⟩ := u_known (C := RX6) (T := TX6) (N := 5) hts (fun w h => (List.mem_filter.mp (zq_in 6 (by decide) w h)).1) (hts _ (List.mem_filter.mp itRX6).1)
  obtain ⟨c7, s7, k7⟩ := u_known (C := RX7) (T := TX7) (N := 11) hts (fun w h => (List.mem_filter.mp (zq_in 7 (by decide) w h)).1) (hts _ (List.mem_filter.mp itRX7).1)
  obtain ⟨c8, s8, k8⟩ := u_known (C := RX8) (T := TX8) (N := 33) hts (fun w h => (List.mem_filter.mp (zq_in 8 (by decide) w h)).1) (hts _ (List.mem_filter.mp itRX8).1)
  obtain ⟨dC, dI, hKc⟩ : ∃ (dC : Nat → ClassId) (dI : Nat → Nat → Nat), ∀ (k : Nat) (q : vw_C), vwCl[k]? = some q → u_Kn s q.1 q.2.1 q.2.2 (dC k) (dI k) := by
    refine ⟨fun k => match k with | 0 => c0 | 1 => c1 | 2 => c2 | 3 => c3 | 4 => c4 | 5 => c5 | 6 => c6 | 7 => c7 | _ => c8, fun k => match k with | 0 => s0 | 1 => s1 | 2 => s2 | 3 => s3 | 4 => s4 | 5 => s5 | 6 => s6 | 7 => s7 | _ => s8, ?_⟩
    intro k q hq
    match k, hq with
    | 0, hq => cases hq; exact k0
    | 1, hq => cases hq; exact k1
    | 2, hq => cases hq; exact k2
    | 3, hq => cases hq; exact k3
    | 4, hq => cases hq; exact k4
    | 5, hq => cases hq; exact k5
    | 6, hq => cases hq; exact k6
    | 7, hq => cases hq; exact k7
    | 8, hq => cases hq; exact k8
    | k + 9, hq => simp [vwCl] at hq
  obtain ⟨aI, nI', eI⟩ := zq_ArrOf (hts _ (List.mem_filter.mp ac_int).1)
  obtain ⟨aB, nB, eB⟩ := zq_ArrOf (hts _ (List.mem_filter.mp ac_byte).1)
  obtain ⟨aZ, nZ, eZ⟩ := zq_ArrOf (hts _ (List.mem_filter.mp ac_boolean).1)
  obtain ⟨aQ, eQ, rQ⟩ := zq_ArrOfQ (hts _ (List.mem_filter.mp ao_World).1)
  obtain ⟨G, hG⟩ : ∃ G : zq_G, G = ((dC, dI), (fun t => if t = 0 then aI else if t = 1 then aB else if t = 2 then aZ else aQ), s.heap.size, b, L, xs) := ⟨_, rfl⟩
  have hU : zq_U G s := by
    rw [hG]
    refine ⟨⟨hKc, fun k q hq => ?_⟩, fun w hw => ?_⟩
    · match k, hq with
      | 0, hq => cases hq; exact ⟨eI, nI'⟩
      | 1, hq => cases hq; exact ⟨eB, nB⟩
      | 2, hq => cases hq; exact ⟨eZ, nZ⟩
      | 3, hq => cases hq; exact ⟨eQ, rQ⟩
      | k + 4, hq => simp [zq_tys] at hq
    · have h1 := hts w (List.mem_filter.mp hw).1
      have h2 : zq_isN w = true := (List.mem_filter.mp hw).2
      unfold zq_isN at h2
      split at h2
      · exact va_Nw.of rfl h1
      · exact va_AO.of h1
      · cases h2
  have hXX : zq_X G (yL_law, cL_law, 4, some .boolean) 30 true p room_1 s m #[Value.ref b] meth c := by
    refine ⟨hx, hb, hml, hown, fun w hw => hts w (List.mem_filter.mp hw).1, hU, by rw [hG]; exact Nat.le_refl _, Nat.le_of_ble_eq_true rfl, Nat.le_of_ble_eq_true rfl, fun _ => ?_, fun h => by cases h⟩
    rw [hG]
    exact ⟨hX, hbl, hbl⟩
  have hH : zq_H G 0 (fun _ _ => 0) (fun _ _ => none) s.heap := by
    rw [hG]
    refine ⟨rfl, by omega, fun k q hk => ?_⟩
    simp [zq_ws] at hk
  have hl := lv_entry ([Value.ref b]) (n := 4) (Nat.le_of_ble_eq_true rfl)
  rw [lg_entry_eq]
  generalize (lg_sl ([Value.ref b]) ++ List.replicate (4 - (lg_sl ([Value.ref b])).length) Slot.unset).toArray = ls at hl ⊢
  have hsc : zq_ad G zq_sc = b := by rw [hG]; rfl
  have hl2 : lv_has ls 4 (zq_as G 0 [some (.ref zq_sc), none, none, none]) := by
    simp only [zq_as, zq_tv, hsc]
    exact hl
  have hk := hE G (by rw [hG]) p l e room_1 s m #[Value.ref b] below meth c Q s.heap [] 0 0 600000 7302250 ls hXX ?_ (by decide) (by decide) (Nat.le_refl _) (Nat.le_refl _) hH va_S.rf hl2
  · exact hk
  · intro v n' I' P' H' locs' ls' pc' hR hP' hS' hrt
    subst hR
    refine va_forget (fun q hq => ?_) (hend pc' H' ls' hrt.1)
    have h3 := hS'.2.2 q hq
    rw [hG] at h3
    exact h3
theorem whole_start {p : Program} {e : Env} {s : State} {m : MethodId} {below : List Frame} {meth : Method} {c : Code} (l : Launch) (hflags : l.flags = flags0) {b L : Nat} {xs : Nat → Int32} (hL : L ≤ 2560) (C0 : lw_At p s m meth c b L xs) : W p l e room_1 s m #[Value.ref b] below meth c s.heap [] 0 0 (lw_Z below #[Value.ref b] s) (entryFrame m ([Value.ref b] : List Value).toArray 4) := by
  obtain ⟨hx, hb, hr, hml, hown, hts, hX, hbl, hlocks, hgv⟩ := C0
  exact zq_start l (fun G hG => law_all G (by rw [hG]; exact hL)) hx hb hr hml hown hts hX hbl hlocks (fun pc H ls hdg => lw_ret hx hb hr hlocks hdg)
