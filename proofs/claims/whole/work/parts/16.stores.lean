/-! stores that leave the locals a written list -/
section STORES
variable {G : zq_G} {M : zq_M} {d kc ks : Nat} {sc : Bool} {pc q : Nat} {L L9 : List (Option Value)} {st : List Value} {n : Nat} {I : zq_I} {P : zq_P} {R : zq_R}
theorem ev_istore_nL {z : Fin 4} {x : Int32} (hd : decode M.2.1 pc = .ok (.istore_n z, 1)) (hq : pc + 1 = q) (hn : (z : Nat) < M.2.2.1) (hp : zq_clr L (z : Nat) = L) (hL : L.set (z : Nat) (some (.int x)) = L9) (k : zq_E G M d kc ks sc q L9 st n I P R) : zq_E G M d kc ks sc pc L (.int x :: st) n I P R := by
  subst hL
  exact ev_istore_n hd hq hn (by unfold zq_s1; rw [hp]; exact k)
theorem ev_istoreL {z : Nat} {x : Int32} (hd : decode M.2.1 pc = .ok (.istore z, 2)) (hq : pc + 2 = q) (hn : z < M.2.2.1) (hp : zq_clr L z = L) (hL : L.set z (some (.int x)) = L9) (k : zq_E G M d kc ks sc q L9 st n I P R) : zq_E G M d kc ks sc pc L (.int x :: st) n I P R := by
  subst hL
  exact ev_istore hd hq hn (by unfold zq_s1; rw [hp]; exact k)
theorem ev_astore_nL {z : Fin 4} {x : Nat} (hd : decode M.2.1 pc = .ok (.astore_n z, 1)) (hq : pc + 1 = q) (hn : (z : Nat) < M.2.2.1) (hp : zq_clr L (z : Nat) = L) (hL : L.set (z : Nat) (some (.ref x)) = L9) (k : zq_E G M d kc ks sc q L9 st n I P R) : zq_E G M d kc ks sc pc L (.ref x :: st) n I P R := by
  subst hL
  exact ev_astore_n hd hq hn (by unfold zq_s1; rw [hp]; exact k)
theorem ev_astoreL {z : Nat} {x : Nat} (hd : decode M.2.1 pc = .ok (.astore z, 2)) (hq : pc + 2 = q) (hn : z < M.2.2.1) (hp : zq_clr L z = L) (hL : L.set z (some (.ref x)) = L9) (k : zq_E G M d kc ks sc q L9 st n I P R) : zq_E G M d kc ks sc pc L (.ref x :: st) n I P R := by
  subst hL
  exact ev_astore hd hq hn (by unfold zq_s1; rw [hp]; exact k)
theorem ev_lstore_nL {z : Fin 4} {x : Int64} (hd : decode M.2.1 pc = .ok (.lstore_n z, 1)) (hq : pc + 1 = q) (hn : (z : Nat) + 1 < M.2.2.1) (hp : zq_clr L (z : Nat) = L) (hL : (L.set (z : Nat) (some (.long x))).set ((z : Nat) + 1) none = L9) (k : zq_E G M d kc ks sc q L9 st n I P R) : zq_E G M d kc ks sc pc L (.long x :: st) n I P R := by
  subst hL
  exact ev_lstore_n hd hq hn (by unfold zq_s2; rw [hp]; exact k)
theorem ev_lstoreL {z : Nat} {x : Int64} (hd : decode M.2.1 pc = .ok (.lstore z, 2)) (hq : pc + 2 = q) (hn : z + 1 < M.2.2.1) (hp : zq_clr L z = L) (hL : (L.set z (some (.long x))).set (z + 1) none = L9) (k : zq_E G M d kc ks sc q L9 st n I P R) : zq_E G M d kc ks sc pc L (.long x :: st) n I P R := by
  subst hL
  exact ev_lstore hd hq hn (by unfold zq_s2; rw [hp]; exact k)
theorem ev_iincL {z : Nat} {y : Int} {x : Int32} (v : Int32) (hd : decode M.2.1 pc = .ok (.iinc z y, 3)) (hq : pc + 3 = q) (hx : L[z]? = some (some (.int x))) (hv : Int32.ofInt y = v) (hn : z < M.2.2.1) (hp : zq_clr L z = L) (hL : L.set z (some (.int (x + v))) = L9) (k : zq_E G M d kc ks sc q L9 st n I P R) : zq_E G M d kc ks sc pc L st n I P R := by
  subst hL
  exact ev_iinc v hd hq hx hv hn (by unfold zq_s1; rw [hp]; exact k)
end STORES
