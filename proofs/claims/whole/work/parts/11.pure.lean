/-! pure answers; calls that change nothing; the references, once all is made -/
def zb (b : Bool) : Int32 := if b = true then 1 else 0
theorem zb_nar (b : Bool) : narrow .boolean (.int (zb b)) = .int (zb b) := by cases b <;> rfl
theorem zb_0 (b : Bool) : zb b = 0 ↔ b = false := by cases b <;> simp [zb]
theorem zb_t : zb true = 1 := rfl
theorem zb_f : zb false = 0 := rfl
/-- the answer v, nothing changed -/
def zq_pu (v : Option Value) (n : Nat) (I : zq_I) (P : zq_P) : zq_R := fun v' n' I' P' => v' = v ∧ n' = n ∧ I' = I ∧ P' = P
theorem zq_pu_mk {v : Option Value} {n : Nat} {I : zq_I} {P : zq_P} : zq_pu v n I P v n I P := ⟨rfl, rfl, rfl, rfl⟩
section PCALLS
variable {G : zq_G} {M M' : zq_M} {d d' kc ks na : Nat} {sc : Bool} {pc q z : Nat} {L : List (Option Value)} {stk rest As : List Value} {n : Nat} {I : zq_I} {P : zq_P} {R R' : zq_R} {x : Value}
theorem ev_pV {b ci : Nat} (hd : decode M.2.1 pc = .ok (.invokevirtual z, 3)) (hq : pc + 3 = q) (hok : zq_ok M' na) (hlk : Cond.methodLink M.1.cls z M'.1 ∈ zq_T) (hin : Cond.instanceMethod M'.1 ∈ zq_T) (hsel : Cond.selects M'.1.cls M'.1 M'.1 ∈ zq_T)
    (hk : zq_kd b = some (.inl ci)) (hbn : b < n) (hci : ci < 9) (hcl : (zq_cls ci).1 = M'.1.cls) (hM : zq_Met G M' d' 0 0 (.ref b :: As) n I P (zq_pu (some x) n I P)) (hd' : d' < d) (hlen : As.length = na) (hst : stk = As.reverse ++ .ref b :: rest) (hsm : (rest.map fun v => v.category).sum ≤ 8)
    (kk : zq_E G M d kc ks sc q L (x :: rest) n I P R) : zq_E G M d kc ks sc pc L stk n I P R :=
  ev_callV (mc := 0) (ms := 0) hd hq hok hlk hin hsel hk hbn hci hcl hM hd' hlen hst hsm (fun v n' I' P' h => by obtain ⟨rfl, rfl, rfl, rfl⟩ := h; exact kk)
theorem ev_pS (hd : decode M.2.1 pc = .ok (.invokestatic z, 3)) (hq : pc + 3 = q) (hok : zq_ok M' na) (hlk : Cond.methodLink M.1.cls z M'.1 ∈ zq_T) (hstat : Cond.static M'.1 ∈ zq_T)
    (hM : zq_Met G M' d' 0 0 As n I P (zq_pu (some x) n I P)) (hd' : d' < d) (hlen : As.length = na) (hst : stk = As.reverse ++ rest) (hsm : (rest.map fun v => v.category).sum ≤ 8)
    (kk : zq_E G M d kc ks sc q L (x :: rest) n I P R) : zq_E G M d kc ks sc pc L stk n I P R :=
  ev_callS (mc := 0) (ms := 0) hd hq hok hlk hstat hM hd' hlen hst hsm (fun v n' I' P' h => by obtain ⟨rfl, rfl, rfl, rfl⟩ := h; exact kk)
theorem ev_pSN {host : String} (hd : decode M.2.1 pc = .ok (.invokestatic z, 3)) (hq : pc + 3 = q) (hok : zq_ok M' na) (hlk : Cond.methodLinkNest M.1.cls z M'.1 host ∈ zq_NW) (hstat : Cond.static M'.1 ∈ zq_T)
    (hM : zq_Met G M' d' 0 0 As n I P (zq_pu (some x) n I P)) (hd' : d' < d) (hlen : As.length = na) (hst : stk = As.reverse ++ rest) (hsm : (rest.map fun v => v.category).sum ≤ 8)
    (kk : zq_E G M d kc ks sc q L (x :: rest) n I P R) : zq_E G M d kc ks sc pc L stk n I P R :=
  ev_callSN (mc := 0) (ms := 0) hd hq hok hlk hstat hM hd' hlen hst hsm (fun v n' I' P' h => by obtain ⟨rfl, rfl, rfl, rfl⟩ := h; exact kk)
/-- calls that make nothing -/
theorem ev_cV {b ci : Nat} (hd : decode M.2.1 pc = .ok (.invokevirtual z, 3)) (hq : pc + 3 = q) (hok : zq_ok M' na) (hlk : Cond.methodLink M.1.cls z M'.1 ∈ zq_T) (hin : Cond.instanceMethod M'.1 ∈ zq_T) (hsel : Cond.selects M'.1.cls M'.1 M'.1 ∈ zq_T)
    (hk : zq_kd b = some (.inl ci)) (hbn : b < n) (hci : ci < 9) (hcl : (zq_cls ci).1 = M'.1.cls) (hM : zq_Met G M' d' 0 0 (.ref b :: As) n I P R') (hd' : d' < d) (hlen : As.length = na) (hst : stk = As.reverse ++ .ref b :: rest) (hsm : (rest.map fun v => v.category).sum ≤ 8)
    (kk : ∀ (v : Option Value) (n' : Nat) (I' : zq_I) (P' : zq_P), R' v n' I' P' → zq_E G M d kc ks sc q L (v.toList ++ rest) n' I' P' R) : zq_E G M d kc ks sc pc L stk n I P R :=
  ev_callV (mc := 0) (ms := 0) hd hq hok hlk hin hsel hk hbn hci hcl hM hd' hlen hst hsm kk
theorem ev_cS (hd : decode M.2.1 pc = .ok (.invokestatic z, 3)) (hq : pc + 3 = q) (hok : zq_ok M' na) (hlk : Cond.methodLink M.1.cls z M'.1 ∈ zq_T) (hstat : Cond.static M'.1 ∈ zq_T)
    (hM : zq_Met G M' d' 0 0 As n I P R') (hd' : d' < d) (hlen : As.length = na) (hst : stk = As.reverse ++ rest) (hsm : (rest.map fun v => v.category).sum ≤ 8)
    (kk : ∀ (v : Option Value) (n' : Nat) (I' : zq_I) (P' : zq_P), R' v n' I' P' → zq_E G M d kc ks sc q L (v.toList ++ rest) n' I' P' R) : zq_E G M d kc ks sc pc L stk n I P R :=
  ev_callS (mc := 0) (ms := 0) hd hq hok hlk hstat hM hd' hlen hst hsm kk
end PCALLS
theorem zq_Met.deeper {G : zq_G} {M : zq_M} {d d' mc ms : Nat} {As : List Value} {n : Nat} {I : zq_I} {P : zq_P} {R R' : zq_R} (hr : ∀ v n' I' P', R v n' I' P' → R' v n' I' P') (h : zq_Met G M d mc ms As n I P R) : zq_Met G M d mc ms As n I P R' := by
  intro l p e ha hc hk s m args below hf happ hP hK
  obtain ⟨k, o, h1, h2, h3, ⟨⟨⟨v, n', I', P', g1, g2, g3⟩, g4⟩, g5⟩⟩ := h l p e ha hc hk s m args below hf happ hP hK
  exact ⟨k, o, h1, h2, h3, ⟨⟨⟨v, n', I', P', g1, hr _ _ _ _ g2, g3⟩, g4⟩, g5⟩⟩
/-! how many cells there are, once all is made; what refers to what: fo says which of the two Folk is in use -/
def zq_pl : List (List (Option Nat)) :=
  let w := fun (b : Nat) => [[none, some (b + 1), some (b + 2), some (b + 3), some (b + 4)], [], [], [], []]
  [[some 1, some 3, some 4, some 5, some 9, some 91, some 96, some 107, some 108], [some 2], [], [], [], [some 6, some 7, some 8], [], [], [], [some 10],
   [some 11, some 16, some 21, some 26, some 31, some 36, some 41, some 46, some 51, some 56, some 61, some 66, some 71, some 76, some 81, some 86]] ++
  w 11 ++ w 16 ++ w 21 ++ w 26 ++ w 31 ++ w 36 ++ w 41 ++ w 46 ++ w 51 ++ w 56 ++ w 61 ++ w 66 ++ w 71 ++ w 76 ++ w 81 ++ w 86 ++ w 91 ++ [[some 97, some 102]] ++ w 97 ++ w 102 ++
  [[], [], [none, none, none, none, some 110, some 111, some 112, some 113], [], [], [], [], [none, none, none, none, some 115, some 116, some 117, some 118], [], [], [], [],
   [none, some 120, none, none, none, none, none, some 121, some 122, some 123, some 124, some 125, some 126, some 127, some 128, none, none, none, none, none, some 129, some 130, some 131, some 132, some 133, none, some 134, some 135, none, some 136, none, none, some 137]]
def zq_P0 : zq_P := fun c k => (zq_pl.getD c []).getD k none
def zF (fo : Bool) : Nat := if fo = true then 114 else 109
def zD (fo : Bool) : Nat := if fo = true then 109 else 114
def zPs (fo : Bool) : zq_P := fun c k => if c = 0 ∧ k = 9 then some (zF fo) else if c = 0 ∧ k = 10 then some (zD fo) else zq_P0 c k
