/-! who left when: the class's ways and the model's rows are the same ways -/
abbrev zM2 : Type := Int32 × Int32
def z2o (a b : zM2) : zM2 := (a.1 + b.1, a.2 &&& b.2)
def z2u : zM2 := (0, -1)
theorem i32_and_assoc (a b c : Int32) : a &&& b &&& c = a &&& (b &&& c) := by
  apply Int32.toBitVec_inj.mp
  simp [BitVec.and_assoc]
theorem i32_and_comm (a b : Int32) : a &&& b = b &&& a := by
  apply Int32.toBitVec_inj.mp
  simp [BitVec.and_comm]
theorem i32_and_m1 (a : Int32) : a &&& (-1) = a := by
  apply Int32.toBitVec_inj.mp
  apply BitVec.eq_of_getLsbD_eq
  intro i hi
  simp [Int32.toBitVec_and, Int32.toBitVec_neg, hi]
theorem i32_and_self (a : Int32) : a &&& a = a := by
  apply Int32.toBitVec_inj.mp
  simp
theorem z2o_a (a b c : zM2) : z2o (z2o a b) c = z2o a (z2o b c) := by
  unfold z2o; rw [Int32.add_assoc, i32_and_assoc]
theorem z2o_c (a b : zM2) : z2o a b = z2o b a := by
  unfold z2o; rw [Int32.add_comm, i32_and_comm]
theorem z2o_u (a : zM2) : z2o a z2u = a := by
  unfold z2o z2u; simp only [Int32.add_zero, i32_and_m1]
theorem z2u_o (a : zM2) : z2o z2u a = a := by rw [z2o_c, z2o_u]
theorem z2o_lc (a b c : zM2) : z2o a (z2o b c) = z2o b (z2o a c) := by rw [← z2o_a, z2o_c a b, z2o_a]
def zms {α : Type} (F : α → zM2) : List α → zM2
  | [] => z2u
  | x :: t => z2o (F x) (zms F t)
section MSUM
variable {α β : Type}
theorem zms_app (F : α → zM2) (a b : List α) : zms F (a ++ b) = z2o (zms F a) (zms F b) := by
  induction a with
  | nil => exact (z2u_o _).symm
  | cons x t ih => rw [List.cons_append, zms, zms, ih, z2o_a]
theorem zms_un (L : List α) : zms (fun _ => z2u) L = z2u := by
  induction L with
  | nil => rfl
  | cons x t ih => rw [zms, ih]; exact z2o_u _
theorem zms_add (F G : α → zM2) (L : List α) : zms (fun x => z2o (F x) (G x)) L = z2o (zms F L) (zms G L) := by
  induction L with
  | nil => exact (z2o_u _).symm
  | cons x t ih => rw [zms, zms, zms, ih, z2o_a, z2o_a, z2o_lc (G x)]
theorem zms_congr {F G : α → zM2} {L : List α} (h : ∀ x ∈ L, F x = G x) : zms F L = zms G L := by
  induction L with
  | nil => rfl
  | cons x t ih => rw [zms, zms, h x List.mem_cons_self, ih (fun y hy => h y (List.mem_cons_of_mem _ hy))]
theorem zms_map (F : β → zM2) (f : α → β) (L : List α) : zms F (L.map f) = zms (fun x => F (f x)) L := by
  induction L with
  | nil => rfl
  | cons x t ih => rw [List.map_cons, zms, zms, ih]
theorem zms_flat (F : β → zM2) (f : α → List β) (L : List α) : zms F (L.flatMap f) = zms (fun x => zms F (f x)) L := by
  induction L with
  | nil => rfl
  | cons x t ih => rw [List.flatMap_cons, zms_app, zms, ih]
theorem zms_sw (F : α → β → zM2) (L : List α) (K : List β) : zms (fun x => zms (F x) K) L = zms (fun y => zms (fun x => F x y) L) K := by
  induction K with
  | nil => exact zms_un L
  | cons y t ih => simp only [zms]; rw [zms_add, ih]
theorem zms_fold (H : α → zM2) (L : List α) : ∀ ws, L.foldl (fun ws g => z2o ws (H g)) ws = z2o ws (zms H L) := by
  induction L with
  | nil => intro ws; exact (z2o_u ws).symm
  | cons x t ih => intro ws; rw [List.foldl_cons, ih, zms, z2o_a]
theorem zms_hom {e : zM2} (he : z2o e e = e) {F G : α → zM2} {L : List α} (h : ∀ x ∈ L, z2o e (F x) = z2o e (G x)) : z2o e (zms F L) = z2o e (zms G L) := by
  have h2 : ∀ a b, z2o e (z2o a b) = z2o (z2o e a) (z2o e b) := by
    intro a b
    rw [z2o_a, z2o_lc a e b, ← z2o_a e e, he]
  induction L with
  | nil => rfl
  | cons x t ih => rw [zms, zms, h2, h2, h x List.mem_cons_self, ih (fun y hy => h y (List.mem_cons_of_mem _ hy))]
end MSUM
theorem zms_range_mul (F : Nat → zM2) (m : Nat) : ∀ b, zms F (List.range (b * m)) = zms (fun d => zms (fun lo => F (d * m + lo)) (List.range m)) (List.range b) := by
  intro b
  induction b with
  | zero => rw [Nat.zero_mul]; rfl
  | succ b ih =>
    rw [Nat.succ_mul, List.range_add, zms_app, ih, List.range_succ, zms_app, zms_map]
    congr 1
    exact (z2o_u _).symm
/-! the ways as lists of sets -/
noncomputable def zcfg : Nat → Nat → List (List Nat)
  | 0, _ => [[]]
  | k + 1, th => (zsub th).flatMap (fun g => (zcfg k (zwg th g)).map (fun c => g :: c))
theorem zsub_pR : ∀ P, P < 8 → ∀ h, h < 2 ^ P → zsubR (h + 2 ^ P) = zsubR h ++ (zsubR h).map (fun g => g + 2 ^ P) := by decide +kernel
theorem zsub_p {P h : Nat} (hP : P < 8) (hh : h < 2 ^ P) : zsub (h + 2 ^ P) = zsub h ++ (zsub h).map (fun g => g + 2 ^ P) := by rw [zsub_eq]; exact zsub_pR P hP h hh
theorem zwg_pR : ∀ P, P < 8 → ∀ h, h < 2 ^ P → ∀ g ∈ zsubR h, zwg (h + 2 ^ P) g = zwg h g + 2 ^ P ∧ zwg (h + 2 ^ P) (g + 2 ^ P) = zwg h g := by decide +kernel
theorem zwg_p {P h g : Nat} (hP : P < 8) (hh : h < 2 ^ P) (hg : g ∈ zsub h) : zwg (h + 2 ^ P) g = zwg h g + 2 ^ P ∧ zwg (h + 2 ^ P) (g + 2 ^ P) = zwg h g := by rw [zsub_eq] at hg; exact zwg_pR P hP h hh g hg
theorem zwg_le (h g : Nat) : zwg h g ≤ h := Nat.and_le_left
def zadd (b : Nat) : Nat → List Nat → List Nat
  | 0, c => c
  | _ + 1, [] => []
  | 1, g :: c => (g + b) :: c
  | d + 2, g :: c => g :: zadd b (d + 1) c
theorem zadd_2 (b d g : Nat) (c : List Nat) : zadd b (d + 2) (g :: c) = g :: zadd b (d + 1) c := rfl
theorem zms_range_s (F : Nat → zM2) (n : Nat) : zms F (List.range (n + 1)) = z2o (F 0) (zms (fun d => F (d + 1)) (List.range n)) := by
  rw [List.range_succ_eq_map, zms, zms_map]
theorem zcfg_s (F : List Nat → zM2) (k th : Nat) : zms F (zcfg (k + 1) th) = zms (fun g => zms (fun c => F (g :: c)) (zcfg k (zwg th g))) (zsub th) := by
  rw [zcfg, zms_flat]
  exact zms_congr (fun g _ => zms_map F _ _)
theorem zcfg_p {P : Nat} (hP : P < 8) : ∀ (k h : Nat) (F : List Nat → zM2), h < 2 ^ P → zms F (zcfg k (h + 2 ^ P)) = zms (fun d => zms (fun c => F (zadd (2 ^ P) d c)) (zcfg k h)) (List.range (k + 1)) := by
  intro k
  induction k with
  | zero =>
    intro h F hh
    show z2o (F []) z2u = z2o (z2o (F []) z2u) z2u
    rw [z2o_u, z2o_u]
  | succ k ih =>
    intro h F hh
    rw [zcfg_s, zsub_p hP hh, zms_app, zms_map]
    have e1 : zms (fun g => zms (fun c => F (g :: c)) (zcfg k (zwg (h + 2 ^ P) g))) (zsub h) = zms (fun d => zms (fun g => zms (fun c => F (g :: zadd (2 ^ P) d c)) (zcfg k (zwg h g))) (zsub h)) (List.range (k + 1)) := by
      rw [← zms_sw]
      refine zms_congr (fun g hg => ?_)
      rw [(zwg_p hP hh hg).1]
      exact ih (zwg h g) (fun c => F (g :: c)) (Nat.lt_of_le_of_lt (zwg_le h g) hh)
    have e2 : zms (fun g => zms (fun c => F ((g + 2 ^ P) :: c)) (zcfg k (zwg (h + 2 ^ P) (g + 2 ^ P)))) (zsub h) = zms (fun c => F (zadd (2 ^ P) 1 c)) (zcfg (k + 1) h) := by
      rw [zcfg_s]
      refine zms_congr (fun g hg => ?_)
      rw [(zwg_p hP hh hg).2]
      rfl
    rw [e1, e2, zms_range_s, zms_range_s (fun d => zms (fun c => F (zadd (2 ^ P) d c)) (zcfg (k + 1) h)) (k + 1), zms_range_s (fun d => zms (fun c => F (zadd (2 ^ P) (d + 1) c)) (zcfg (k + 1) h)) k]
    have e3 : zms (fun c => F (zadd (2 ^ P) 0 c)) (zcfg (k + 1) h) = zms (fun g => zms (fun c => F (g :: zadd (2 ^ P) 0 c)) (zcfg k (zwg h g))) (zsub h) := by rw [zcfg_s]; rfl
    have e4 : zms (fun d => zms (fun c => F (zadd (2 ^ P) (d + 1 + 1) c)) (zcfg (k + 1) h)) (List.range k) = zms (fun d => zms (fun g => zms (fun c => F (g :: zadd (2 ^ P) (d + 1) c)) (zcfg k (zwg h g))) (zsub h)) (List.range k) := by
      refine zms_congr (fun d _ => ?_)
      rw [zcfg_s]
      rfl
    rw [e3, e4, z2o_a, z2o_c (zms _ (List.range k))]
/-! the ways as who went when -/
def zgl : List Nat → Nat → Nat
  | [], _ => 0
  | g :: c, p => if g.testBit p = true then 1 else if zgl c p = 0 then 0 else zgl c p + 1
def zup (f : Nat → Nat) (p v : Nat) : Nat → Nat := fun q => if q = p then v else f q
theorem zbit_add {P g : Nat} (hg : g < 2 ^ P) (q : Nat) : (g + 2 ^ P).testBit q = if q = P then true else g.testBit q := by
  have e : g + 2 ^ P = g ||| 2 ^ P := by
    have h1 := Nat.two_pow_add_eq_or_of_lt hg 1
    rw [Nat.mul_one] at h1
    rw [Nat.add_comm, h1, Nat.or_comm]
  rw [e, Nat.testBit_or, Nat.testBit_two_pow]
  by_cases hq : q = P
  · subst hq; simp
  · rw [if_neg hq, decide_eq_false (fun q2 => hq q2.symm), Bool.or_false]
theorem zgl_out {P : Nat} : ∀ c : List Nat, (∀ g ∈ c, g < 2 ^ P) → zgl c P = 0 := by
  intro c
  induction c with
  | nil => intro _; rfl
  | cons g t ih =>
    intro h
    rw [zgl, Nat.testBit_lt_two_pow (h g List.mem_cons_self), ih (fun x hx => h x (List.mem_cons_of_mem _ hx))]
    rfl
theorem zup_0 {f : Nat → Nat} {P : Nat} (h : f P = 0) : zup f P 0 = f := by
  funext q
  unfold zup
  by_cases hq : q = P
  · subst hq; rw [if_pos rfl, h]
  · rw [if_neg hq]
theorem zgl_add {P : Nat} : ∀ (d : Nat) (c : List Nat), (∀ g ∈ c, g < 2 ^ P) → d ≤ c.length → zgl (zadd (2 ^ P) d c) = zup (zgl c) P d := by
  intro d
  induction d with
  | zero => intro c hc _; exact (zup_0 (zgl_out c hc)).symm
  | succ d ih =>
    intro c hc hd
    match c, hc, hd with
    | [], _, hd => simp at hd
    | g :: t, hc, hd =>
      have hg := hc g List.mem_cons_self
      have ht : ∀ x ∈ t, x < 2 ^ P := fun x hx => hc x (List.mem_cons_of_mem _ hx)
      have hP0 := Nat.testBit_lt_two_pow hg
      match d, ih, hd with
      | 0, _, _ =>
        funext q
        show (if (g + 2 ^ P).testBit q = true then 1 else if zgl t q = 0 then 0 else zgl t q + 1) = if q = P then 1 else zgl (g :: t) q
        rw [zbit_add hg]
        by_cases hq : q = P
        · rw [if_pos hq, if_pos hq, if_pos rfl]
        · rw [if_neg hq, if_neg hq]; rfl
      | d + 1, ih, hd =>
        have h1 := ih t ht (by simpa using hd)
        funext q
        rw [zadd_2]
        show (if g.testBit q = true then 1 else if zgl (zadd (2 ^ P) (d + 1) t) q = 0 then 0 else zgl (zadd (2 ^ P) (d + 1) t) q + 1) = if q = P then d + 1 + 1 else zgl (g :: t) q
        rw [h1]
        unfold zup
        by_cases hq : q = P
        · subst hq
          rw [if_pos rfl, if_pos rfl, hP0, if_neg (by decide), if_neg (by omega)]
        · rw [if_neg hq, if_neg hq]; rfl
theorem zcfg_lt {P : Nat} : ∀ (k h : Nat) (c : List Nat), c ∈ zcfg k h → h < 2 ^ P → c.length = k ∧ ∀ g ∈ c, g < 2 ^ P := by
  intro k
  induction k with
  | zero =>
    intro h c hc _
    rw [zcfg, List.mem_singleton] at hc
    subst hc
    exact ⟨rfl, fun g hg => absurd hg (by simp)⟩
  | succ k ih =>
    intro h c hc hh
    rw [zcfg, List.mem_flatMap] at hc
    obtain ⟨g, hg, hc⟩ := hc
    rw [List.mem_map] at hc
    obtain ⟨c', hc', rfl⟩ := hc
    obtain ⟨h1, h2⟩ := ih _ _ hc' (Nat.lt_of_le_of_lt (zwg_le h g) hh)
    have h3 := (zsub_mem hg).2
    have h4 : g ≤ h := by rw [← h3]; exact Nat.and_le_right
    refine ⟨by rw [List.length_cons, h1], fun x hx => ?_⟩
    rcases List.mem_cons.mp hx with rfl | hx
    · exact Nat.lt_of_le_of_lt h4 hh
    · exact h2 x hx
/-! the model's rows as who went when -/
def zrk (h : Nat) : Nat → Nat
  | 0 => 0
  | p + 1 => if h.testBit p = true then zrk h p + 1 else zrk h p
theorem zrk_dec : ∀ P, P < 9 → ∀ h, h < 2 ^ P → zrk h P = zpc h := by decide +kernel
theorem zpc_p : ∀ P, P < 8 → ∀ h, h < 2 ^ P → zpc (h + 2 ^ P) = zpc h + 1 := by decide +kernel
theorem zlf_pow (b h row : Nat) : ∀ p, zlf b h row p = row / b ^ zrk h p := by
  intro p
  induction p with
  | zero => rw [zlf, zrk, Nat.pow_zero, Nat.div_one]
  | succ p ih =>
    rw [zlf, zrk, ih]
    split
    · rw [Nat.pow_succ, Nat.div_div_eq_div_mul]
    · rfl
theorem zrk_mono (h : Nat) : ∀ p q, p ≤ q → zrk h p ≤ zrk h q := by
  intro p q hpq
  induction q with
  | zero => rw [show p = 0 by omega]; exact Nat.le_refl _
  | succ q ih =>
    by_cases hq : p = q + 1
    · rw [hq]; exact Nat.le_refl _
    · refine Nat.le_trans (ih (by omega)) ?_
      rw [zrk]
      split <;> omega
theorem zrk_congr {h h' : Nat} : ∀ p, (∀ q, q < p → h.testBit q = h'.testBit q) → zrk h p = zrk h' p := by
  intro p
  induction p with
  | zero => intro _; rfl
  | succ p ih => intro hq; rw [zrk, zrk, ih (fun q h => hq q (by omega)), hq p (by omega)]
theorem zdig_lo {b r j d lo : Nat} (hb : 0 < b) (hj : j < r) : (d * b ^ r + lo) / b ^ j % b = lo / b ^ j % b := by
  have e : d * b ^ r = b ^ j * (d * b ^ (r - j - 1) * b) := by
    have h1 : b ^ r = b ^ j * (b ^ (r - j - 1) * b) := by
      rw [← Nat.pow_succ, ← Nat.pow_add]
      congr 1
      omega
    rw [h1, Nat.mul_left_comm, Nat.mul_assoc d]
  rw [e, Nat.mul_add_div (Nat.pow_pos hb), Nat.mul_comm _ b, Nat.mul_add_mod]
theorem zgo_p {P h b d lo : Nat} (hP : P < 8) (hh : h < 2 ^ P) (hb : 0 < b) (hd : d < b) (hlo : lo < b ^ zpc h) : zgo b (h + 2 ^ P) (d * b ^ zpc h + lo) = zup (zgo b h lo) P d := by
  funext p
  have hr := zrk_dec P (by omega) h hh
  have hbt := fun q => zbit_add hh q
  have hrk : ∀ q, q ≤ P → zrk (h + 2 ^ P) q = zrk h q := fun q hq => zrk_congr q (fun j hj => by rw [hbt, if_neg (by omega)])
  show (if (h + 2 ^ P).testBit p = true then zlf b (h + 2 ^ P) (d * b ^ zpc h + lo) p % b else 0) = if p = P then d else if h.testBit p = true then zlf b h lo p % b else 0
  rw [hbt, zlf_pow, zlf_pow]
  by_cases hp : p = P
  · subst hp
    rw [if_pos rfl, if_pos rfl, if_pos rfl, hrk _ (Nat.le_refl _), hr, Nat.mul_comm d, Nat.mul_add_div (Nat.pow_pos hb), Nat.div_eq_of_lt hlo, Nat.add_zero, Nat.mod_eq_of_lt hd]
  · rw [if_neg hp, if_neg hp]
    by_cases hbp : h.testBit p = true
    · rw [if_pos hbp, if_pos hbp]
      have hlt : p < P := by
        rcases Nat.lt_or_ge p P with q | q
        · exact q
        · have h1 : 2 ^ P ≤ 2 ^ p := Nat.pow_le_pow_right (by omega) q
          rw [Nat.testBit_lt_two_pow (by omega)] at hbp
          cases hbp
      have h1 : zrk h (p + 1) = zrk h p + 1 := by rw [zrk, if_pos hbp]
      have h2 := zrk_mono h (p + 1) P hlt
      rw [hrk p (by omega)]
      exact zdig_lo hb (by omega)
    · rw [if_neg hbp, if_neg hbp]
theorem zcfg_0 : ∀ k, zcfg k 0 = [List.replicate k 0] := by
  intro k
  induction k with
  | zero => rfl
  | succ k ih =>
    have h1 : zsub 0 = [0] := by rw [zsub_eq]; decide +kernel
    rw [zcfg, h1, List.flatMap_cons, show zwg 0 0 = 0 from rfl, ih]
    rfl
theorem zgl_0 : ∀ k, zgl (List.replicate k 0) = fun _ => 0 := by
  intro k
  induction k with
  | zero => rfl
  | succ k ih =>
    funext p
    rw [List.replicate_succ, zgl, ih, Nat.zero_testBit]
    rfl
theorem zway (k : Nat) : ∀ P, P ≤ 8 → ∀ (h : Nat) (F : (Nat → Nat) → zM2), h < 2 ^ P → zms (fun c => F (zgl c)) (zcfg k h) = zms (fun row => F (zgo (k + 1) h row)) (List.range ((k + 1) ^ zpc h)) := by
  intro P
  induction P with
  | zero =>
    intro _ h F hh
    obtain rfl : h = 0 := by omega
    rw [zcfg_0]
    show z2o (F (zgl (List.replicate k 0))) z2u = z2o (F (zgo (k + 1) 0 0)) z2u
    rw [zgl_0, show zgo (k + 1) 0 0 = fun _ => 0 from by funext p; unfold zgo; rw [Nat.zero_testBit]; rfl]
  | succ P ih =>
    intro hP h F hh
    by_cases hlt : h < 2 ^ P
    · exact ih (by omega) h F hlt
    · have hp2 : 2 ^ (P + 1) = 2 * 2 ^ P := by rw [Nat.pow_succ, Nat.mul_comm]
      obtain ⟨h', rfl⟩ : ∃ h', h = h' + 2 ^ P := ⟨h - 2 ^ P, by omega⟩
      have hh' : h' < 2 ^ P := by omega
      rw [zcfg_p (by omega) k h' (fun c => F (zgl c)) hh', zpc_p P (by omega) h' hh', Nat.pow_succ, Nat.mul_comm, zms_range_mul]
      refine zms_congr (fun d hd => ?_)
      have hd' : d < k + 1 := List.mem_range.mp hd
      have e1 : zms (fun c => F (zgl (zadd (2 ^ P) d c))) (zcfg k h') = zms (fun c => F (zup (zgl c) P d)) (zcfg k h') := by
        refine zms_congr (fun c hc => ?_)
        obtain ⟨h1, h2⟩ := zcfg_lt k h' c hc hh'
        rw [zgl_add d c h2 (by omega)]
      rw [e1, ih (by omega) h' (fun go => F (zup go P d)) hh']
      refine zms_congr (fun lo hlo => ?_)
      rw [zgo_p (by omega) hh' (by omega) hd' (List.mem_range.mp hlo)]
/-! the class's walk over the ways -/
noncomputable def zgd2 (l : Int32) (V : zq_V) (N : Nat) (ct : Nat → Int32) : Nat → Nat → (Nat → Int32) → List Nat → zM2
  | _, th, _, [] => (1, nI th ^^^ (-1))
  | yr, th, lf, g :: c => if zCI l V N (upd lf yr (nI g)) yr (nI (zwg th g)) = ct yr then zgd2 l V N ct (yr + 1) (zwg th g) (upd lf yr (nI g)) c else z2u
theorem zTF_ms (l : Int32) (V : zq_V) (N : Nat) (ct : Nat → Int32) : ∀ (k yr th : Nat) (lf : Nat → Int32) (ws : zM2), zTF l V N ct k yr th lf ws = z2o ws (zms (zgd2 l V N ct yr th lf) (zcfg k th)) := by
  intro k
  induction k with
  | zero =>
    intro yr th lf ws
    show (ws.1 + 1, ws.2 &&& (nI th ^^^ (-1))) = z2o ws (z2o (1, nI th ^^^ (-1)) z2u)
    rw [z2o_u]
    rfl
  | succ k ih =>
    intro yr th lf ws
    rw [zcfg_s, ← zms_fold, zTF]
    congr 1
    funext ws g
    split
    · rename_i h1
      rw [ih]
      congr 1
      refine zms_congr (fun c _ => ?_)
      rw [zgd2, if_pos h1]
    · rename_i h1
      rw [show (fun c => zgd2 l V N ct yr th lf (g :: c)) = fun _ => z2u from by funext c; rw [zgd2, if_neg h1], zms_un, z2o_u]
/-- who is left behind these -/
def zth (h : Nat) (c : List Nat) : Nat := c.foldl zwg h
theorem zth_s (h : Nat) (c : List Nat) (g : Nat) : zth h (c ++ [g]) = zwg (zth h c) g := by unfold zth; rw [List.foldl_append]; rfl
def zlc (c : List Nat) : Nat → Int32 := fun y => nI (c.getD y 0)
theorem zCI_congr {l : Int32} {V : zq_V} {N yr : Nat} {lf lf' : Nat → Int32} {a : Int32} (h : ∀ y, y < yr + 1 → lf y = lf' y) : zCI l V N lf yr a = zCI l V N lf' yr a := by
  unfold zCI
  exact zCnt_congr (fun _ _ => rfl) (fun i _ _ => by rw [zLS_congr h])
def zQ (l : Int32) (V : zq_V) (N : Nat) (ct : Nat → Int32) (h : Nat) (full : List Nat) (y : Nat) : Prop := zCI l V N (zlc full) y (nI (zth h (full.take (y + 1)))) = ct y
theorem zgd_step {l : Int32} {V : zq_V} {N : Nat} {ct : Nat → Int32} {h g th : Nat} {full pre c : List Nat} {lf : Nat → Int32} (hf : full = pre ++ g :: c) (hth : th = zth h pre) (hlf : ∀ y, y < pre.length → lf y = zlc full y) :
    zwg th g = zth h (pre ++ [g]) ∧ (∀ y, y < (pre ++ [g]).length → upd lf pre.length (nI g) y = zlc full y) ∧ (zCI l V N (upd lf pre.length (nI g)) pre.length (nI (zwg th g)) = ct pre.length ↔ zQ l V N ct h full pre.length) := by
  have e1 : zwg th g = zth h (pre ++ [g]) := by rw [zth_s, hth]
  have e2 : ∀ y, y < (pre ++ [g]).length → upd lf pre.length (nI g) y = zlc full y := by
    intro y hy
    rw [List.length_append, List.length_singleton] at hy
    unfold upd
    by_cases hyp : y = pre.length
    · rw [if_pos hyp, hyp, hf]
      unfold zlc
      rw [List.getD_eq_getElem?_getD, List.getElem?_append_right (Nat.le_refl _), Nat.sub_self]
      rfl
    · rw [if_neg hyp]; exact hlf y (by omega)
  refine ⟨e1, e2, ?_⟩
  have e3 : full.take (pre.length + 1) = pre ++ [g] := by
    rw [hf, show pre ++ g :: c = (pre ++ [g]) ++ c by simp, show pre.length + 1 = (pre ++ [g]).length by simp, List.take_left]
  unfold zQ
  rw [e3, e1, zCI_congr (fun y hy => e2 y (by simpa using hy))]
theorem zgd2_t {l : Int32} {V : zq_V} {N : Nat} {ct : Nat → Int32} {h : Nat} {full : List Nat} : ∀ (c pre : List Nat) (lf : Nat → Int32) (th : Nat), full = pre ++ c → th = zth h pre → (∀ y, y < pre.length → lf y = zlc full y) → (∀ y, pre.length ≤ y → y < full.length → zQ l V N ct h full y) → zgd2 l V N ct pre.length th lf c = (1, nI (zth h full) ^^^ (-1)) := by
  intro c
  induction c with
  | nil =>
    intro pre lf th hf hth hlf hQ
    rw [zgd2, hf, List.append_nil, hth]
  | cons g c ih =>
    intro pre lf th hf hth hlf hQ
    obtain ⟨e1, e2, e3⟩ := zgd_step (l := l) (V := V) (N := N) (ct := ct) hf hth hlf
    have hl : full.length = pre.length + (c.length + 1) := by rw [hf]; simp
    rw [zgd2, if_pos (e3.mpr (hQ _ (Nat.le_refl _) (by omega)))]
    have h1 := ih (pre ++ [g]) (upd lf pre.length (nI g)) (zwg th g) (by rw [hf]; simp) e1 e2 (fun y q1 q2 => hQ y (by rw [List.length_append, List.length_singleton] at q1; omega) q2)
    rw [List.length_append, List.length_singleton] at h1
    exact h1
theorem zgd2_f {l : Int32} {V : zq_V} {N : Nat} {ct : Nat → Int32} {h : Nat} {full : List Nat} : ∀ (c pre : List Nat) (lf : Nat → Int32) (th : Nat), full = pre ++ c → th = zth h pre → (∀ y, y < pre.length → lf y = zlc full y) → (∃ y, pre.length ≤ y ∧ y < full.length ∧ ¬ zQ l V N ct h full y) → zgd2 l V N ct pre.length th lf c = z2u := by
  intro c
  induction c with
  | nil =>
    intro pre lf th hf hth hlf hQ
    obtain ⟨y, q1, q2, -⟩ := hQ
    rw [hf, List.append_nil] at q2
    omega
  | cons g c ih =>
    intro pre lf th hf hth hlf hQ
    obtain ⟨e1, e2, e3⟩ := zgd_step (l := l) (V := V) (N := N) (ct := ct) hf hth hlf
    rw [zgd2]
    split
    · rename_i h0
      have hq0 := e3.mp h0
      obtain ⟨y, q1, q2, q3⟩ := hQ
      have h1 := ih (pre ++ [g]) (upd lf pre.length (nI g)) (zwg th g) (by rw [hf]; simp) e1 e2 ⟨y, by
        rw [List.length_append, List.length_singleton]
        rcases Nat.lt_or_ge pre.length y with q | q
        · exact q
        · exact absurd ((show y = pre.length by omega) ▸ hq0) q3, q2, q3⟩
      rw [List.length_append, List.length_singleton] at h1
      exact h1
    · rfl
