/-! the parts of a set, from the least on -/
def zsubR (h : Nat) : List Nat := (List.range 256).filter (fun g => g &&& h == g)
theorem zsub_ex : ∃ f : Nat → List Nat, f = zsubR := ⟨_, rfl⟩
/-- not to be unfolded: zsub_eq -/
noncomputable def zsub : Nat → List Nat := Classical.choose zsub_ex
theorem zsub_eq : zsub = zsubR := Classical.choose_spec zsub_ex
def zpl (w : Int32) : Nat → Int32 → List Int32
  | 0, _ => []
  | n + 1, p => p :: zpl w n ((p - w) &&& w)
def zpq (w : Int32) : Nat → Int32
  | 0 => 0
  | k + 1 => (zpq w k - w) &&& w
theorem zpl_at (w : Int32) : ∀ (n k j : Nat), k < n → (zpl w n (zpq w j))[k]? = some (zpq w (j + k)) := by
  intro n
  induction n with
  | zero => intro k j h; omega
  | succ n ih =>
    intro k j h
    cases k with
    | zero => simp [zpl]
    | succ k =>
      have h1 := ih k (j + 1) (by omega)
      simp only [zpl, List.getElem?_cons_succ]
      rw [show j + (k + 1) = j + 1 + k by omega]
      exact h1
set_option maxRecDepth 100000 in
theorem zsub_decR : ∀ h, h < 256 → zpl (nI h) (zsubR h).length 0 = (zsubR h).map nI ∧ (zsubR h).length ≤ 256 ∧ (1 : Int32) <<< (zpop (nI h) &&& 31) = nI (zsubR h).length := by decide +kernel
theorem zsub_dec : ∀ h, h < 256 → zpl (nI h) (zsub h).length 0 = (zsub h).map nI ∧ (zsub h).length ≤ 256 ∧ (1 : Int32) <<< (zpop (nI h) &&& 31) = nI (zsub h).length := by rw [zsub_eq]; exact zsub_decR
theorem zsub_at {h k g : Nat} (hh : h < 256) (hk : (zsub h)[k]? = some g) : zpq (nI h) k = nI g := by
  have hl : k < (zsub h).length := (List.getElem?_eq_some_iff.mp hk).1
  have h1 := zpl_at (nI h) (zsub h).length k 0 hl
  rw [show zpq (nI h) 0 = 0 from rfl, (zsub_dec h hh).1, List.getElem?_map, hk, Nat.zero_add] at h1
  simpa using h1.symm
theorem zsub_mem {h g : Nat} (hg : g ∈ zsub h) : g < 256 ∧ g &&& h = g := by
  rw [zsub_eq] at hg
  have h1 := List.mem_filter.mp hg
  exact ⟨List.mem_range.mp h1.1, by simpa using h1.2⟩
set_option maxRecDepth 100000 in
theorem zsub_N0 : ∀ N, N < 9 → ∀ h, h < 2 ^ N → zsubR h = (List.range (2 ^ N)).filter (fun g => g &&& h == g) := by decide +kernel
theorem zsub_N {N h : Nat} (hN : N ≤ 8) (hh : h < 2 ^ N) : zsub h = (List.range (2 ^ N)).filter (fun g => g &&& h == g) := by rw [zsub_eq]; exact zsub_N0 N (by omega) h hh
/-- a set's parts without i are its parts that i is not in -/
theorem zsub_less {h i : Nat} (hi : i < 8) (hh : h < 256) : zsub (h &&& (h ^^^ (h &&& 2 ^ i))) = (zsub h).filter (fun g => !g.testBit i) := by
  rw [zsub_eq]
  unfold zsubR
  rw [List.filter_filter]
  apply List.filter_congr
  intro g hg
  have e : ∀ a b : Nat, (a &&& b == a) = true ↔ ∀ k, a.testBit k = true → b.testBit k = true := by
    intro a b
    simp only [beq_iff_eq]
    constructor
    · intro h1 k hk
      rw [← h1, Nat.testBit_and, Bool.and_eq_true] at hk
      exact hk.2
    · intro h1
      apply Nat.eq_of_testBit_eq
      intro k
      rw [Nat.testBit_and]
      cases hk : a.testBit k
      · rfl
      · rw [h1 k hk]; rfl
  rw [Bool.eq_iff_iff, Bool.and_eq_true, e, e]
  simp only [Bool.and_eq_true, Bool.not_eq_true', Nat.testBit_and, Nat.testBit_xor, Nat.testBit_two_pow]
  constructor
  · intro h1
    refine ⟨?_, fun k hk => (h1 k hk).1⟩
    cases hgi : g.testBit i
    · rfl
    · have h2 := h1 i hgi
      simp at h2
  · rintro ⟨h1, h2⟩ k hk
    have h3 := h2 k hk
    refine ⟨h3, ?_⟩
    have hki : ¬ i = k := fun e => by subst e; rw [h1] at hk; cases hk
    simp [h3, hki]
theorem take_s {α : Type} {l : List α} {k : Nat} {x : α} (h : l[k]? = some x) : l.take (k + 1) = l.take k ++ [x] := by
  rw [List.take_succ, h]; rfl
