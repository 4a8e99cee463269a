/-! The judgement of pure machines: cells by number, ints and references of a cell by place; a state is (how many cells, ints, references) -/
/-- the words that stay, whatever the arguments are -/
def zq_T : List Cond := lw_tbl.filter goodWord
theorem zq_mem {w : Cond} (h : w ∈ lw_tbl) (hg : goodWord w = true) : w ∈ zq_T := List.mem_filter.mpr ⟨h, hg⟩
theorem zq_good {w : Cond} (h : w ∈ zq_T) : goodWord w = true := (List.mem_filter.mp h).2
def zq_isN : Cond → Bool
  | .methodLinkNest .. => true
  | .arrayOver (.object _) => true
  | _ => false
/-- the words on nest mates and arrays of objects -/
def zq_NW : List Cond := lw_tbl.filter zq_isN
abbrev zq_M : Type := MethodName × ByteArray × Nat × Option FieldType
/-- names, the class ids of arrays, the first own address, the script: its address, its length, its ints -/
abbrev zq_G : Type := va_G × (Nat → ClassId) × Nat × Nat × Nat × (Nat → Int32)
abbrev zq_I : Type := Nat → Nat → Int32
abbrev zq_P : Type := Nat → Nat → Option Nat
def zq_cls (ci : Nat) : vw_C := vwCl.getD ci (RX0, TX0, 8)
def zq_ty : Nat → Nat → FieldType
  | 0 => tyX0
  | 1 => tyX1
  | 2 => tyX2
  | 3 => tyX3
  | 4 => tyX4
  | 5 => tyX5
  | 6 => tyX6
  | 7 => tyX7
  | _ => tyX8
def zq_isr (ci k : Nat) : Bool := match zq_ty ci k with
  | .object _ => true
  | .array _ => true
  | _ => false
/-- the kinds of the cells, in the order in which they are made: an object of a class, or an array: 0 int, 1 byte, 2 boolean, 3 Worlds; its length -/
def zq_wk : List (Nat ⊕ Nat × Nat) := [.inl 6, .inr (0, 8), .inr (0, 8), .inr (0, 8), .inr (0, 4)]
def zq_kl : List (Nat ⊕ Nat × Nat) :=
  [.inl 7, .inl 4, .inr (1, 80), .inl 2, .inl 5, .inl 3, .inr (0, 3), .inr (0, 3), .inl 5, .inl 1, .inr (3, 16)] ++ zq_wk ++ zq_wk ++ zq_wk ++ zq_wk ++ zq_wk ++ zq_wk ++ zq_wk ++ zq_wk ++ zq_wk ++ zq_wk ++ zq_wk ++ zq_wk ++ zq_wk ++ zq_wk ++ zq_wk ++ zq_wk ++ zq_wk ++
  [.inr (3, 2)] ++ zq_wk ++ zq_wk ++ [.inr (2, 2), .inr (0, 8), .inl 0, .inr (0, 8), .inr (0, 8), .inr (0, 8), .inr (0, 8), .inl 0, .inr (0, 8), .inr (0, 8), .inr (0, 8), .inr (0, 8),
   .inl 8, .inr (0, 80), .inr (0, 8), .inr (0, 8), .inr (0, 8), .inr (0, 8), .inr (0, 8), .inr (0, 8), .inr (0, 8), .inr (0, 4), .inr (0, 8), .inr (0, 8), .inr (0, 8), .inr (0, 8), .inr (0, 464), .inr (0, 58), .inr (2, 2), .inr (0, 8), .inr (0, 8)]
def zq_kd (c : Nat) : Option (Nat ⊕ Nat × Nat) := zq_kl[c]?
def zq_sc : Nat := 100000
def zq_ad (G : zq_G) (c : Nat) : Nat := if c < zq_sc then G.2.2.1 + c else G.2.2.2.1
def zq_tv (G : zq_G) : Value → Value
  | .ref c => .ref (zq_ad G c)
  | v => v
def zq_fs (G : zq_G) (I : zq_I) (P : zq_P) (c ci : Nat) : List Value := (List.range (zq_cls ci).2.2).map (fun k => if zq_isr ci k = true then va_rf ((P c k).map (zq_ad G)) else .int (I c k))
def zq_ent (G : zq_G) (I : zq_I) (P : zq_P) (c : Nat) : va_E := match zq_kd c with
  | some (.inl ci) => .inr (ci, zq_fs G I P c ci)
  | some (.inr (t, n)) => .inl (G.2.1 t, n, if t = 3 then .inr (.inr (.inr (.inr (fun j => (P c j).map (zq_ad G))))) else .inl (I c))
  | none => .inl (0, 0, .inl (I c))
def zq_ws (G : zq_G) (n : Nat) (I : zq_I) (P : zq_P) : va_W := (List.range n).map (fun c => (zq_ad G c, zq_ent G I P c))
def zq_tt (t : Nat) : FieldType := if t = 0 then .int else if t = 1 then .byte else if t = 2 then .boolean else .object RX6
def zq_tys (G : zq_G) : List (ClassId × FieldType) := [(G.2.1 0, .int), (G.2.1 1, .byte), (G.2.1 2, .boolean), (G.2.1 3, .object RX6)]
/-- what the tables say at a method's start -/
def zq_U (G : zq_G) (U : State) : Prop := va_K G.1 vwCl (zq_tys G) U ∧ ∀ w ∈ zq_NW, w.before #[] U = true
/-- the heap holds the state -/
def zq_H (G : zq_G) (n : Nat) (I : zq_I) (P : zq_P) (H : Heap) : Prop := H.size = G.2.2.1 + n ∧ n ≤ 1000 ∧ va_P G.1 vwCl (zq_ws G n I P) H
abbrev zq_A (G : zq_G) : Nat → Prop := fun q => G.2.2.1 ≤ q
def zq_as (G : zq_G) : Nat → List (Option Value) → List (Nat × Value)
  | _, [] => []
  | k, none :: t => zq_as G (k + 1) t
  | k, some v :: t => (k, zq_tv G v) :: zq_as G (k + 1) t
def zq_X (G : zq_G) (M : zq_M) (d : Nat) (sc : Bool) (p : Program) (Rm : Room) (s : State) (m : MethodId) (args : Array Value) (meth : Method) (c : Code) : Prop :=
  p.tables.exec = Jvm.exec ∧ c.code = M.2.1 ∧ c.maxLocals = M.2.2.1 ∧ s.vm.findClass M.1.cls = some m.cls ∧ (∀ w ∈ zq_T, w.before args s = true) ∧ zq_U G s ∧ G.2.2.1 ≤ s.heap.size ∧ d ≤ Rm.frames ∧ 60 * d ≤ Rm.locals ∧
  (sc = true → va_X G.2.2.2.1 G.2.2.2.2.1 G.2.2.2.2.2 s s.heap ∧ G.2.2.2.1 < s.heap.size ∧ G.2.2.2.1 < G.2.2.1) ∧ (sc = false → meth.name = M.1.name)
def zq_rt (M : zq_M) (pc : Nat) : Option Value → Prop
  | none => decode M.2.1 pc = .ok (.return_, 1) ∧ M.2.2.2 = none
  | some (.int x) => decode M.2.1 pc = .ok (.ireturn, 1) ∧ ∃ ty, M.2.2.2 = some ty ∧ narrow ty (.int x) = .int x
  | some (.long _) => decode M.2.1 pc = .ok (.lreturn, 1) ∧ M.2.2.2 = some .long
  | some _ => False
abbrev zq_R : Type := Option Value → Nat → zq_I → zq_P → Prop
/-- the method M, from pc on, with these locals, this stack, in this state, with room for d frames, comes to its end: R of its answer and the state then; kc new cells, ks new slots at most -/
def zq_E (G : zq_G) (M : zq_M) (d kc ks : Nat) (sc : Bool) (pc : Nat) (L : List (Option Value)) (st : List Value) (n : Nat) (I : zq_I) (P : zq_P) (R : zq_R) : Prop :=
  ∀ (p : Program) (l : Launch) (e : Env) (Rm : Room) (s : State) (m : MethodId) (args : Array Value) (below : List Frame) (meth : Method) (c : Code) (Q : State → Prop) (H : Heap) (locs : List Loc) (cells slots cE sE : Nat) (ls : Array Slot),
    zq_X G M d sc p Rm s m args meth c →
    (∀ (v : Option Value) (n' : Nat) (I' : zq_I) (P' : zq_P) (H' : Heap) (locs' : List Loc) (ls' : Array Slot) (pc' : Nat), R v n' I' P' → zq_H G n' I' P' H' → va_S (zq_A G) s.heap H' locs' → zq_rt M pc' v → W p l e Rm s m args below meth c H' locs' cE sE Q (F0 m pc' ls' v.toList)) →
    cells + kc ≤ cE → slots + ks ≤ sE → cE ≤ Rm.cells → sE ≤ Rm.slots →
    zq_H G n I P H → va_S (zq_A G) s.heap H locs → lv_has ls M.2.2.1 (zq_as G 0 L) →
    W p l e Rm s m args below meth c H locs cells slots Q (F0 m pc ls (st.map (zq_tv G)))
/-! locals -/
theorem zq_cat (G : zq_G) (v : Value) : (zq_tv G v).category = v.category := by cases v <;> rfl
theorem zq_as_mem (G : zq_G) : ∀ (L : List (Option Value)) (k : Nat) (q : Nat × Value), q ∈ zq_as G k L ↔ ∃ i v, L[i]? = some (some v) ∧ q = (k + i, zq_tv G v) := by
  intro L
  induction L with
  | nil => intro k q; simp [zq_as]
  | cons a t ih =>
    intro k q
    constructor
    · intro h
      cases a with
      | none =>
        obtain ⟨i, v, h1, h2⟩ := (ih (k + 1) q).mp h
        exact ⟨i + 1, v, by simpa using h1, by rw [h2]; congr 1; omega⟩
      | some w =>
        rcases List.mem_cons.mp h with h | h
        · exact ⟨0, w, by simp, h⟩
        · obtain ⟨i, v, h1, h2⟩ := (ih (k + 1) q).mp h
          exact ⟨i + 1, v, by simpa using h1, by rw [h2]; congr 1; omega⟩
    · rintro ⟨i, v, h1, h2⟩
      cases i with
      | zero =>
        have h3 : a = some v := by simpa using h1
        subst h3
        exact List.mem_cons.mpr (Or.inl h2)
      | succ i =>
        have h3 : q ∈ zq_as G (k + 1) t := (ih (k + 1) q).mpr ⟨i, v, by simpa using h1, by rw [h2]; congr 1; omega⟩
        cases a with
        | none => exact h3
        | some w => exact List.mem_cons_of_mem _ h3
theorem zq_get {G : zq_G} {ls : Array Slot} {nL : Nat} {L : List (Option Value)} (h : lv_has ls nL (zq_as G 0 L)) {i : Nat} {v : Value} (hi : L[i]? = some (some v)) : ls[i]? = some (.val (zq_tv G v)) :=
  h.2.2 (i, zq_tv G v) ((zq_as_mem G L 0 _).mpr ⟨i, v, hi, by simp⟩)
theorem zq_less {G : zq_G} {ls : Array Slot} {nL : Nat} {L : List (Option Value)} {l : List (Nat × Value)} (h : lv_has ls nL l) (hs : ∀ q ∈ zq_as G 0 L, q ∈ l) : lv_has ls nL (zq_as G 0 L) := ⟨h.1, h.2.1, fun q hq => h.2.2 q (hs q hq)⟩
def zq_clr (L : List (Option Value)) : Nat → List (Option Value)
  | 0 => L
  | j + 1 => match L[j]? with
    | some (some w) => if w.category = 2 then L.set j none else L
    | _ => L
def zq_s1 (L : List (Option Value)) (i : Nat) (v : Value) : List (Option Value) := (zq_clr L i).set i (some v)
def zq_s2 (L : List (Option Value)) (i : Nat) (v : Value) : List (Option Value) := ((zq_clr L i).set i (some v)).set (i + 1) none
theorem zq_clr_at {L : List (Option Value)} {i j : Nat} {w : Value} (h : (zq_clr L i)[j]? = some (some w)) : L[j]? = some (some w) ∧ ¬ (j + 1 = i ∧ w.category = 2) := by
  cases i with
  | zero => exact ⟨h, by omega⟩
  | succ k =>
    have h' : (match L[k]? with
      | some (some w) => if w.category = 2 then L.set k none else L
      | _ => L)[j]? = some (some w) := h
    clear h
    by_cases hjk : j = k
    · subst hjk
      split at h'
      · rename_i w' hw
        split at h'
        · rw [List.getElem?_set] at h'
          simp only [if_true] at h'
          split at h' <;> cases h'
        · rename_i hc
          rw [hw] at h'
          cases h'
          exact ⟨hw, fun q => hc q.2⟩
      · rename_i hn
        exact absurd h' (hn w)
    · split at h'
      · split at h'
        · rw [List.getElem?_set_ne (by omega)] at h'
          exact ⟨h', by omega⟩
        · exact ⟨h', by omega⟩
      · exact ⟨h', by omega⟩
theorem zq_st1 {G : zq_G} {L : List (Option Value)} {i : Nat} {v : Value} : ∀ q ∈ zq_as G 0 (zq_s1 L i v), q ∈ (i, zq_tv G v) :: (zq_as G 0 L).filter (fun q => !(q.1 == i) && !(q.1 + 1 == i && q.2.category == 2)) := by
  intro q hq
  obtain ⟨j, w, h1, h2⟩ := (zq_as_mem G _ 0 q).mp hq
  rw [Nat.zero_add] at h2
  subst h2
  unfold zq_s1 at h1
  by_cases hj : j = i
  · subst hj
    rw [List.getElem?_set] at h1
    simp only [if_true] at h1
    split at h1
    · cases h1; exact List.mem_cons_self
    · cases h1
  · rw [List.getElem?_set_ne (by omega)] at h1
    obtain ⟨h3, h4⟩ := zq_clr_at h1
    refine List.mem_cons_of_mem _ (List.mem_filter.mpr ⟨(zq_as_mem G L 0 _).mpr ⟨j, w, h3, by simp⟩, ?_⟩)
    simp only [zq_cat]
    by_cases h5 : j + 1 = i
    · have h6 : ¬ w.category = 2 := fun q => h4 ⟨h5, q⟩
      simp [hj, h6]
    · simp [hj, h5]
theorem zq_st2 {G : zq_G} {L : List (Option Value)} {i : Nat} {v : Value} : ∀ q ∈ zq_as G 0 (zq_s2 L i v), q ∈ (i, zq_tv G v) :: (zq_as G 0 L).filter (fun q => !(q.1 == i) && (!(q.1 == i + 1) && !(q.1 + 1 == i && q.2.category == 2))) := by
  intro q hq
  obtain ⟨j, w, h1, h2⟩ := (zq_as_mem G _ 0 q).mp hq
  rw [Nat.zero_add] at h2
  subst h2
  unfold zq_s2 at h1
  by_cases hk : j = i + 1
  · subst hk
    rw [List.getElem?_set] at h1
    simp only [if_true] at h1
    split at h1 <;> cases h1
  · rw [List.getElem?_set_ne (by omega)] at h1
    by_cases hj : j = i
    · subst hj
      rw [List.getElem?_set] at h1
      simp only [if_true] at h1
      split at h1
      · cases h1; exact List.mem_cons_self
      · cases h1
    · rw [List.getElem?_set_ne (by omega)] at h1
      obtain ⟨h3, h4⟩ := zq_clr_at h1
      refine List.mem_cons_of_mem _ (List.mem_filter.mpr ⟨(zq_as_mem G L 0 _).mpr ⟨j, w, h3, by simp⟩, ?_⟩)
      simp only [zq_cat]
      by_cases h5 : j + 1 = i
      · have h6 : ¬ w.category = 2 := fun q => h4 ⟨h5, q⟩
        simp [hj, hk, h6]
      · simp [hj, hk, h5]
/-! the classes -/
theorem zq_in : ∀ ci, ci < 9 → ∀ w ∈ u_ws (zq_cls ci).1 (zq_cls ci).2.1 (zq_cls ci).2.2, w ∈ zq_T := by decide +kernel
theorem zq_nm : ∀ ci, ci < 9 → ∀ a, a < (zq_cls ci).2.2 → ∀ b, b < (zq_cls ci).2.2 → a ≠ b → ((zq_cls ci).2.1 a).2.1 ≠ ((zq_cls ci).2.1 b).2.1 := by decide +kernel
theorem zq_tyok : ∀ ci, ci < 9 → ∀ k, k < (zq_cls ci).2.2 → parseFieldDescriptor ((zq_cls ci).2.1 k).2.2.1 = some (zq_ty ci k) := by decide +kernel
theorem zq_clat {ci : Nat} (h : ci < 9) : vwCl[ci]? = some ((zq_cls ci).1, (zq_cls ci).2.1, (zq_cls ci).2.2) := by
  have h1 : ∀ ci, ci < 9 → vwCl[ci]? = some ((zq_cls ci).1, (zq_cls ci).2.1, (zq_cls ci).2.2) := by
    intro k hk
    rcases (by omega : k = 0 ∨ k = 1 ∨ k = 2 ∨ k = 3 ∨ k = 4 ∨ k = 5 ∨ k = 6 ∨ k = 7 ∨ k = 8) with rfl | rfl | rfl | rfl | rfl | rfl | rfl | rfl | rfl <;> rfl
  exact h1 ci h
/-! the world as a list of cells -/
theorem zq_ws_at {G : zq_G} {n : Nat} {I : zq_I} {P : zq_P} {c : Nat} (h : c < n) : (zq_ws G n I P)[c]? = some (zq_ad G c, zq_ent G I P c) := by
  simp [zq_ws, List.getElem?_map, List.getElem?_range h]
theorem zq_ws_inv {G : zq_G} {n : Nat} {I : zq_I} {P : zq_P} {c : Nat} {q : Nat × va_E} (h : (zq_ws G n I P)[c]? = some q) : c < n ∧ q = (zq_ad G c, zq_ent G I P c) := by
  have hl : c < (zq_ws G n I P).length := (List.getElem?_eq_some_iff.mp h).1
  have hn : c < n := by simpa [zq_ws] using hl
  rw [zq_ws_at hn] at h
  exact ⟨hn, (Option.some.inj h).symm⟩
theorem zq_adlt {G : zq_G} {c n : Nat} (h : c < n) (hn : n ≤ 1000) : zq_ad G c = G.2.2.1 + c := by
  unfold zq_ad
  rw [if_pos]
  have : zq_sc = 100000 := rfl
  omega
theorem zq_D (G : zq_G) {n : Nat} (I : zq_I) (P : zq_P) (hn : n ≤ 1000) : va_D (zq_A G) (zq_ws G n I P) := by
  refine ⟨fun i j p q hp hq h => ?_, fun k q hk => ?_⟩
  · obtain ⟨h1, rfl⟩ := zq_ws_inv hp
    obtain ⟨h2, rfl⟩ := zq_ws_inv hq
    simp only [zq_adlt h1 hn, zq_adlt h2 hn] at h
    omega
  · obtain ⟨h1, rfl⟩ := zq_ws_inv hk
    show G.2.2.1 ≤ zq_ad G k
    rw [zq_adlt h1 hn]
    omega
theorem zq_ws_set {G : zq_G} {n : Nat} {I I' : zq_I} {P P' : zq_P} {c : Nat} {e : va_E} (he : zq_ent G I' P' c = e) (ho : ∀ b, b ≠ c → zq_ent G I' P' b = zq_ent G I P b) : (zq_ws G n I P).set c (zq_ad G c, e) = zq_ws G n I' P' := by
  apply List.ext_getElem?
  intro k
  rw [List.getElem?_set]
  by_cases hk : k < n
  · by_cases hc : c = k
    · subst hc
      rw [zq_ws_at (I := I') (P := P') hk, he]
      have : c < (zq_ws G n I P).length := by simpa [zq_ws] using hk
      simp [this]
    · rw [if_neg hc, zq_ws_at hk, zq_ws_at hk, ho k (fun q => hc q.symm)]
  · have h1 : ∀ (I : zq_I) (P : zq_P), (zq_ws G n I P)[k]? = none := fun I P => by simp [zq_ws]; omega
    by_cases hc : c = k
    · subst hc
      have : ¬ c < (zq_ws G n I P).length := by simpa [zq_ws] using hk
      rw [if_pos rfl, if_neg this, h1 I' P']
    · rw [if_neg hc, h1, h1]
theorem zq_ws_push (G : zq_G) (n : Nat) (I : zq_I) (P : zq_P) : zq_ws G (n + 1) I P = zq_ws G n I P ++ [(zq_ad G n, zq_ent G I P n)] := by
  simp [zq_ws, List.range_succ]
def zu (I : zq_I) (c k : Nat) (v : Int32) : zq_I := fun c' k' => if c' = c ∧ k' = k then v else I c' k'
def zp (P : zq_P) (c k : Nat) (v : Option Nat) : zq_P := fun c' k' => if c' = c ∧ k' = k then v else P c' k'
theorem zq_ent_o {G : zq_G} {I : zq_I} {P : zq_P} {c ci : Nat} (h : zq_kd c = some (.inl ci)) : zq_ent G I P c = .inr (ci, zq_fs G I P c ci) := by
  unfold zq_ent; rw [h]
theorem zq_ent_i {G : zq_G} {I : zq_I} {P : zq_P} {c t n : Nat} (h : zq_kd c = some (.inr (t, n))) (ht : t ≠ 3) : zq_ent G I P c = .inl (G.2.1 t, n, .inl (I c)) := by
  unfold zq_ent; rw [h]; simp [ht]
theorem zq_ent_q {G : zq_G} {I : zq_I} {P : zq_P} {c n : Nat} (h : zq_kd c = some (.inr (3, n))) : zq_ent G I P c = .inl (G.2.1 3, n, .inr (.inr (.inr (.inr (fun j => (P c j).map (zq_ad G)))))) := by
  unfold zq_ent; rw [h]; simp
theorem zq_ent_other {G : zq_G} {I I' : zq_I} {P P' : zq_P} {b : Nat} (h1 : I' b = I b) (h2 : P' b = P b) : zq_ent G I' P' b = zq_ent G I P b := by
  unfold zq_ent zq_fs
  rw [h1, h2]
theorem zu_other {I : zq_I} {c k : Nat} {v : Int32} {b : Nat} (h : b ≠ c) : zu I c k v b = I b := by
  funext j; simp [zu, h]
theorem zp_other {P : zq_P} {c k : Nat} {v : Option Nat} {b : Nat} (h : b ≠ c) : zp P c k v b = P b := by
  funext j; simp [zp, h]
theorem zu_self {I : zq_I} {c k : Nat} {v : Int32} : zu I c k v c = upd (I c) k v := by
  funext j; simp [zu, upd]
theorem zq_fs_at {G : zq_G} {I : zq_I} {P : zq_P} {c ci k : Nat} (h : k < (zq_cls ci).2.2) : (zq_fs G I P c ci)[k]? = some (if zq_isr ci k = true then va_rf ((P c k).map (zq_ad G)) else .int (I c k)) := by
  simp [zq_fs, List.getElem?_map, List.getElem?_range h]
theorem zq_fs_len {G : zq_G} {I : zq_I} {P : zq_P} {c ci : Nat} : (zq_fs G I P c ci).length = (zq_cls ci).2.2 := by simp [zq_fs]
theorem zq_fs_set {G : zq_G} {I I' : zq_I} {P P' : zq_P} {c ci k : Nat} {v : Value} (hk : k < (zq_cls ci).2.2) (hv : (if zq_isr ci k = true then va_rf ((P' c k).map (zq_ad G)) else .int (I' c k)) = v)
    (ho : ∀ j, j ≠ k → I' c j = I c j ∧ P' c j = P c j) : (zq_fs G I P c ci).set k v = zq_fs G I' P' c ci := by
  apply List.ext_getElem?
  intro j
  rw [List.getElem?_set]
  by_cases hj : j < (zq_cls ci).2.2
  · by_cases hc : k = j
    · subst hc
      rw [zq_fs_at (I := I') (P := P') hj, hv]
      simp [zq_fs_len, hj]
    · rw [if_neg hc, zq_fs_at hj, zq_fs_at hj]
      obtain ⟨h1, h2⟩ := ho j (fun q => hc q.symm)
      rw [h1, h2]
  · have h1 : ∀ (I : zq_I) (P : zq_P), (zq_fs G I P c ci)[j]? = none := fun I P => by simp [zq_fs]; omega
    have h2 : ¬ k = j := by omega
    rw [if_neg h2, h1, h1]
