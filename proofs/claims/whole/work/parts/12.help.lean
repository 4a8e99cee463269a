/-! cells of the Folks and of the Worlds; rows read and written at a natural number's place -/
def zq_isF (f : Nat) : Prop := f = 109 ∨ f = 114
theorem zF_is (fo : Bool) : zq_isF (zF fo) := by cases fo <;> simp [zF, zq_isF]
theorem zD_is (fo : Bool) : zq_isF (zD fo) := by cases fo <;> simp [zD, zq_isF]
def zq_wl : List Nat := [11, 16, 21, 26, 31, 36, 41, 46, 51, 56, 61, 66, 71, 76, 81, 86, 91, 97, 102]
def zq_isW (w : Nat) : Prop := w ∈ zq_wl
theorem zW_now : zq_isW 91 := by unfold zq_isW; decide
theorem zf_kd {f : Nat} (h : zq_isF f) : zq_kd f = some (.inl 0) := by rcases h with rfl | rfl <;> rfl
theorem zw_kd {w : Nat} (h : zq_isW w) : zq_kd w = some (.inl 6) := (by decide +kernel : ∀ w ∈ zq_wl, zq_kd w = some (.inl 6)) w h
theorem zf_lt {f : Nat} (h : zq_isF f) : f < 138 := by rcases h with rfl | rfl <;> decide
theorem zw_lt {w : Nat} (h : zq_isW w) : w < 138 := (by decide +kernel : ∀ w ∈ zq_wl, w < 138) w h
theorem zf_kd1 {f : Nat} (h : zq_isF f) : zq_kd (f + 1) = some (.inr (0, 8)) := by rcases h with rfl | rfl <;> rfl
theorem zw_kd1 {w : Nat} (h : zq_isW w) : zq_kd (w + 1) = some (.inr (0, 8)) := (by decide +kernel : ∀ w ∈ zq_wl, zq_kd (w + 1) = some (.inr (0, 8))) w h
theorem zf_lt1 {f : Nat} (h : zq_isF f) : f + 1 < 138 := by rcases h with rfl | rfl <;> decide
theorem zw_lt1 {w : Nat} (h : zq_isW w) : w + 1 < 138 := (by decide +kernel : ∀ w ∈ zq_wl, w + 1 < 138) w h
theorem zf_p4 (fo : Bool) {f : Nat} (h : zq_isF f) : zPs fo f 4 = some (f + 1) := by rcases h with rfl | rfl <;> cases fo <;> rfl
theorem zw_p1 (fo : Bool) {w : Nat} (h : zq_isW w) : zPs fo w 1 = some (w + 1) := (by decide +kernel : ∀ fo, ∀ w ∈ zq_wl, zPs fo w 1 = some (w + 1)) fo w h
theorem zf_kd2 {f : Nat} (h : zq_isF f) : zq_kd (f + 2) = some (.inr (0, 8)) := by rcases h with rfl | rfl <;> rfl
theorem zw_kd2 {w : Nat} (h : zq_isW w) : zq_kd (w + 2) = some (.inr (0, 8)) := (by decide +kernel : ∀ w ∈ zq_wl, zq_kd (w + 2) = some (.inr (0, 8))) w h
theorem zf_lt2 {f : Nat} (h : zq_isF f) : f + 2 < 138 := by rcases h with rfl | rfl <;> decide
theorem zw_lt2 {w : Nat} (h : zq_isW w) : w + 2 < 138 := (by decide +kernel : ∀ w ∈ zq_wl, w + 2 < 138) w h
theorem zf_p5 (fo : Bool) {f : Nat} (h : zq_isF f) : zPs fo f 5 = some (f + 2) := by rcases h with rfl | rfl <;> cases fo <;> rfl
theorem zw_p2 (fo : Bool) {w : Nat} (h : zq_isW w) : zPs fo w 2 = some (w + 2) := (by decide +kernel : ∀ fo, ∀ w ∈ zq_wl, zPs fo w 2 = some (w + 2)) fo w h
theorem zf_kd3 {f : Nat} (h : zq_isF f) : zq_kd (f + 3) = some (.inr (0, 8)) := by rcases h with rfl | rfl <;> rfl
theorem zw_kd3 {w : Nat} (h : zq_isW w) : zq_kd (w + 3) = some (.inr (0, 8)) := (by decide +kernel : ∀ w ∈ zq_wl, zq_kd (w + 3) = some (.inr (0, 8))) w h
theorem zf_lt3 {f : Nat} (h : zq_isF f) : f + 3 < 138 := by rcases h with rfl | rfl <;> decide
theorem zw_lt3 {w : Nat} (h : zq_isW w) : w + 3 < 138 := (by decide +kernel : ∀ w ∈ zq_wl, w + 3 < 138) w h
theorem zf_p6 (fo : Bool) {f : Nat} (h : zq_isF f) : zPs fo f 6 = some (f + 3) := by rcases h with rfl | rfl <;> cases fo <;> rfl
theorem zw_p3 (fo : Bool) {w : Nat} (h : zq_isW w) : zPs fo w 3 = some (w + 3) := (by decide +kernel : ∀ fo, ∀ w ∈ zq_wl, zPs fo w 3 = some (w + 3)) fo w h
theorem zf_kd4 {f : Nat} (h : zq_isF f) : zq_kd (f + 4) = some (.inr (0, 8)) := by rcases h with rfl | rfl <;> rfl
theorem zw_kd4 {w : Nat} (h : zq_isW w) : zq_kd (w + 4) = some (.inr (0, 4)) := (by decide +kernel : ∀ w ∈ zq_wl, zq_kd (w + 4) = some (.inr (0, 4))) w h
theorem zf_lt4 {f : Nat} (h : zq_isF f) : f + 4 < 138 := by rcases h with rfl | rfl <;> decide
theorem zw_lt4 {w : Nat} (h : zq_isW w) : w + 4 < 138 := (by decide +kernel : ∀ w ∈ zq_wl, w + 4 < 138) w h
theorem zf_p7 (fo : Bool) {f : Nat} (h : zq_isF f) : zPs fo f 7 = some (f + 4) := by rcases h with rfl | rfl <;> cases fo <;> rfl
theorem zw_p4 (fo : Bool) {w : Nat} (h : zq_isW w) : zPs fo w 4 = some (w + 4) := (by decide +kernel : ∀ fo, ∀ w ∈ zq_wl, zPs fo w 4 = some (w + 4)) fo w h
theorem zq_kdN {b t N : Nat} (h : zq_kd b = some (.inr (t, N))) : N ≤ 1000 := by
  have h1 : ∀ x ∈ zq_kl, (match x with | .inr (_, N) => decide (N ≤ 1000) | _ => true) = true := by decide +kernel
  have h2 := h1 _ (List.mem_of_getElem? (show zq_kl[b]? = _ from h))
  simpa using h2
theorem zv_in {j N : Nat} (h : j < N) (hN : N ≤ 1000) : vp_in (nI j) N := vp_in_nI h (by omega)
section NROWS
variable {G : zq_G} {M : zq_M} {d kc ks : Nat} {sc : Bool} {pc q : Nat} {L : List (Option Value)} {st : List Value} {n : Nat} {I : zq_I} {P : zq_P} {R : zq_R} {b N j : Nat}
theorem ev_ialdN (hd : decode M.2.1 pc = .ok (.iaload, 1)) (hq : pc + 1 = q) (hk : zq_kd b = some (.inr (0, N))) (hbn : b < n) (hj : j < N) (k : zq_E G M d kc ks sc q L (.int (I b j) :: st) n I P R) : zq_E G M d kc ks sc pc L (.int (nI j) :: .ref b :: st) n I P R := by
  have hN := zq_kdN hk
  have hc := nI_clamp (n := j) (by omega)
  refine ev_iald hd hq hk hbn (zv_in hj hN) ?_
  rw [hc]
  exact k
theorem ev_baldN (hd : decode M.2.1 pc = .ok (.baload, 1)) (hq : pc + 1 = q) (hk : zq_kd b = some (.inr (1, N))) (hbn : b < n) (hj : j < N) (k : zq_E G M d kc ks sc q L (.int (I b j) :: st) n I P R) : zq_E G M d kc ks sc pc L (.int (nI j) :: .ref b :: st) n I P R := by
  have hN := zq_kdN hk
  have hc := nI_clamp (n := j) (by omega)
  refine ev_bald hd hq hk hbn (zv_in hj hN) ?_
  rw [hc]
  exact k
theorem ev_zaldN (hd : decode M.2.1 pc = .ok (.baload, 1)) (hq : pc + 1 = q) (hk : zq_kd b = some (.inr (2, N))) (hbn : b < n) (hj : j < N) (k : zq_E G M d kc ks sc q L (.int (I b j) :: st) n I P R) : zq_E G M d kc ks sc pc L (.int (nI j) :: .ref b :: st) n I P R := by
  have hN := zq_kdN hk
  have hc := nI_clamp (n := j) (by omega)
  refine ev_zald hd hq hk hbn (zv_in hj hN) ?_
  rw [hc]
  exact k
theorem ev_iastN {x : Int32} (hd : decode M.2.1 pc = .ok (.iastore, 1)) (hq : pc + 1 = q) (hk : zq_kd b = some (.inr (0, N))) (hbn : b < n) (hj : j < N) (k : zq_E G M d kc ks sc q L (st) n (zu I b j x) P R) : zq_E G M d kc ks sc pc L (.int x :: .int (nI j) :: .ref b :: st) n I P R := by
  have hN := zq_kdN hk
  have hc := nI_clamp (n := j) (by omega)
  refine ev_iast hd hq hk hbn (zv_in hj hN) ?_
  rw [hc]
  exact k
theorem ev_bastN {x : Int32} (hd : decode M.2.1 pc = .ok (.bastore, 1)) (hq : pc + 1 = q) (hk : zq_kd b = some (.inr (1, N))) (hbn : b < n) (hj : j < N) (k : zq_E G M d kc ks sc q L (st) n (zu I b j x.toInt8.toInt32) P R) : zq_E G M d kc ks sc pc L (.int x :: .int (nI j) :: .ref b :: st) n I P R := by
  have hN := zq_kdN hk
  have hc := nI_clamp (n := j) (by omega)
  refine ev_bast hd hq hk hbn (zv_in hj hN) ?_
  rw [hc]
  exact k
theorem ev_zastN {x : Int32} (hd : decode M.2.1 pc = .ok (.bastore, 1)) (hq : pc + 1 = q) (hk : zq_kd b = some (.inr (2, N))) (hbn : b < n) (hj : j < N) (k : zq_E G M d kc ks sc q L (st) n (zu I b j (x &&& 1)) P R) : zq_E G M d kc ks sc pc L (.int x :: .int (nI j) :: .ref b :: st) n I P R := by
  have hN := zq_kdN hk
  have hc := nI_clamp (n := j) (by omega)
  refine ev_zast hd hq hk hbn (zv_in hj hN) ?_
  rw [hc]
  exact k
theorem ev_aaldN {a : Nat} (hd : decode M.2.1 pc = .ok (.aaload, 1)) (hq : pc + 1 = q) (hk : zq_kd b = some (.inr (3, N))) (hbn : b < n) (hj : j < N) (ha : P b j = some a) (k : zq_E G M d kc ks sc q L (.ref a :: st) n I P R) : zq_E G M d kc ks sc pc L (.int (nI j) :: .ref b :: st) n I P R := by
  have hN := zq_kdN hk
  have hc := nI_clamp (n := j) (by omega)
  exact ev_aald hd hq hk hbn (zv_in hj hN) (by rw [hc]; exact ha) k
theorem ev_aastN {a : Nat} (hd : decode M.2.1 pc = .ok (.aastore, 1)) (hq : pc + 1 = q) (hk : zq_kd b = some (.inr (3, N))) (hbn : b < n) (hj : j < N) (hka : zq_kd a = some (.inl 6)) (han : a < n) (k : zq_E G M d kc ks sc q L st n I (zp P b j (some a)) R) : zq_E G M d kc ks sc pc L (.ref a :: .int (nI j) :: .ref b :: st) n I P R := by
  have hN := zq_kdN hk
  have hc := nI_clamp (n := j) (by omega)
  refine ev_aast (ci := 0) hd hq hk hbn (zv_in hj hN) hka han ?_
  rw [hc]
  exact k
end NROWS

