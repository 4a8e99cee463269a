section ROWS
variable {G : zq_G} {M : zq_M} {d kc ks : Nat} {sc : Bool} {pc q : Nat} {L : List (Option Value)} {st : List Value} {n : Nat} {I : zq_I} {P : zq_P} {R : zq_R}
theorem ev_iconst {z : Int} (v : Int32) (hd : decode M.2.1 pc = .ok (.iconst z, 1)) (hq : pc + 1 = q) (hv : Int32.ofInt z = v) (k : zq_E G M d kc ks sc q L (.int v :: st) n I P R) : zq_E G M d kc ks sc pc L st n I P R := by
  subst hq
  intro p l e Rm s m args below meth c Q H locs cells slots cE sE ls X hr h1 h2 h3 h4 hP hS hl
  exact lv_iconst X.1 X.2.1 hd hv (k p l e Rm s m args below meth c Q H locs cells slots cE sE ls X hr h1 h2 h3 h4 hP hS hl)
theorem ev_bipush {z : Int} (v : Int32) (hd : decode M.2.1 pc = .ok (.bipush z, 2)) (hq : pc + 2 = q) (hv : (Int8.ofInt z).toInt32 = v) (k : zq_E G M d kc ks sc q L (.int v :: st) n I P R) : zq_E G M d kc ks sc pc L st n I P R := by
  subst hq
  intro p l e Rm s m args below meth c Q H locs cells slots cE sE ls X hr h1 h2 h3 h4 hP hS hl
  exact lv_bipush X.1 X.2.1 hd hv (k p l e Rm s m args below meth c Q H locs cells slots cE sE ls X hr h1 h2 h3 h4 hP hS hl)
theorem ev_sipush {z : Int} (v : Int32) (hd : decode M.2.1 pc = .ok (.sipush z, 3)) (hq : pc + 3 = q) (hv : (Int16.ofInt z).toInt32 = v) (k : zq_E G M d kc ks sc q L (.int v :: st) n I P R) : zq_E G M d kc ks sc pc L st n I P R := by
  subst hq
  intro p l e Rm s m args below meth c Q H locs cells slots cE sE ls X hr h1 h2 h3 h4 hP hS hl
  exact lv_sipush X.1 X.2.1 hd hv (k p l e Rm s m args below meth c Q H locs cells slots cE sE ls X hr h1 h2 h3 h4 hP hS hl)
theorem ev_lconst {z : Fin 2} (v : Int64) (hd : decode M.2.1 pc = .ok (.lconst z, 1)) (hq : pc + 1 = q) (hv : Int64.ofNat (z : Nat) = v) (k : zq_E G M d kc ks sc q L (.long v :: st) n I P R) : zq_E G M d kc ks sc pc L st n I P R := by
  subst hq
  intro p l e Rm s m args below meth c Q H locs cells slots cE sE ls X hr h1 h2 h3 h4 hP hS hl
  exact lv_lconst X.1 X.2.1 hd hv (k p l e Rm s m args below meth c Q H locs cells slots cE sE ls X hr h1 h2 h3 h4 hP hS hl)
theorem ev_ldcw {z : Nat} {v : Int32} (hd : decode M.2.1 pc = .ok (.ldc_w z, 3)) (hq : pc + 3 = q) (hw : Cond.constant M.1.cls z v ∈ zq_T) (k : zq_E G M d kc ks sc q L (.int v :: st) n I P R) : zq_E G M d kc ks sc pc L st n I P R := by
  subst hq
  intro p l e Rm s m args below meth c Q H locs cells slots cE sE ls X hr h1 h2 h3 h4 hP hS hl
  exact lv_ldcw X.1 X.2.1 X.2.2.2.1 (X.2.2.2.2.1 _ hw) hd (k p l e Rm s m args below meth c Q H locs cells slots cE sE ls X hr h1 h2 h3 h4 hP hS hl)
theorem ev_ldc2 {z : Nat} {v : Int64} (hd : decode M.2.1 pc = .ok (.ldc2_w z, 3)) (hq : pc + 3 = q) (hw : Cond.constantLong M.1.cls z v ∈ zq_T) (k : zq_E G M d kc ks sc q L (.long v :: st) n I P R) : zq_E G M d kc ks sc pc L st n I P R := by
  subst hq
  intro p l e Rm s m args below meth c Q H locs cells slots cE sE ls X hr h1 h2 h3 h4 hP hS hl
  exact lv_ldc2 X.1 X.2.1 X.2.2.2.1 (X.2.2.2.2.1 _ hw) hd (k p l e Rm s m args below meth c Q H locs cells slots cE sE ls X hr h1 h2 h3 h4 hP hS hl)
theorem ev_iload_n {z : Fin 4} {x : Int32} (hd : decode M.2.1 pc = .ok (.iload_n z, 1)) (hq : pc + 1 = q) (hx : L[(z : Nat)]? = some (some (.int x))) (k : zq_E G M d kc ks sc q L (.int x :: st) n I P R) : zq_E G M d kc ks sc pc L st n I P R := by
  subst hq
  intro p l e Rm s m args below meth c Q H locs cells slots cE sE ls X hr h1 h2 h3 h4 hP hS hl
  exact lv_iload_n X.1 X.2.1 hd rfl (zq_get hl hx) (k p l e Rm s m args below meth c Q H locs cells slots cE sE ls X hr h1 h2 h3 h4 hP hS hl)
theorem ev_iload {z : Nat} {x : Int32} (hd : decode M.2.1 pc = .ok (.iload z, 2)) (hq : pc + 2 = q) (hx : L[z]? = some (some (.int x))) (k : zq_E G M d kc ks sc q L (.int x :: st) n I P R) : zq_E G M d kc ks sc pc L st n I P R := by
  subst hq
  intro p l e Rm s m args below meth c Q H locs cells slots cE sE ls X hr h1 h2 h3 h4 hP hS hl
  exact lv_iload X.1 X.2.1 hd (zq_get hl hx) (k p l e Rm s m args below meth c Q H locs cells slots cE sE ls X hr h1 h2 h3 h4 hP hS hl)
theorem ev_lload_n {z : Fin 4} {x : Int64} (hd : decode M.2.1 pc = .ok (.lload_n z, 1)) (hq : pc + 1 = q) (hx : L[(z : Nat)]? = some (some (.long x))) (k : zq_E G M d kc ks sc q L (.long x :: st) n I P R) : zq_E G M d kc ks sc pc L st n I P R := by
  subst hq
  intro p l e Rm s m args below meth c Q H locs cells slots cE sE ls X hr h1 h2 h3 h4 hP hS hl
  exact lv_lload_n X.1 X.2.1 hd rfl (zq_get hl hx) (k p l e Rm s m args below meth c Q H locs cells slots cE sE ls X hr h1 h2 h3 h4 hP hS hl)
theorem ev_lload {z : Nat} {x : Int64} (hd : decode M.2.1 pc = .ok (.lload z, 2)) (hq : pc + 2 = q) (hx : L[z]? = some (some (.long x))) (k : zq_E G M d kc ks sc q L (.long x :: st) n I P R) : zq_E G M d kc ks sc pc L st n I P R := by
  subst hq
  intro p l e Rm s m args below meth c Q H locs cells slots cE sE ls X hr h1 h2 h3 h4 hP hS hl
  exact lv_lload X.1 X.2.1 hd (zq_get hl hx) (k p l e Rm s m args below meth c Q H locs cells slots cE sE ls X hr h1 h2 h3 h4 hP hS hl)
theorem ev_aload_n {z : Fin 4} {x : Nat} (hd : decode M.2.1 pc = .ok (.aload_n z, 1)) (hq : pc + 1 = q) (hx : L[(z : Nat)]? = some (some (.ref x))) (k : zq_E G M d kc ks sc q L (.ref x :: st) n I P R) : zq_E G M d kc ks sc pc L st n I P R := by
  subst hq
  intro p l e Rm s m args below meth c Q H locs cells slots cE sE ls X hr h1 h2 h3 h4 hP hS hl
  exact lv_aload_n X.1 X.2.1 hd rfl (zq_get hl hx) (k p l e Rm s m args below meth c Q H locs cells slots cE sE ls X hr h1 h2 h3 h4 hP hS hl)
theorem ev_aload {z : Nat} {x : Nat} (hd : decode M.2.1 pc = .ok (.aload z, 2)) (hq : pc + 2 = q) (hx : L[z]? = some (some (.ref x))) (k : zq_E G M d kc ks sc q L (.ref x :: st) n I P R) : zq_E G M d kc ks sc pc L st n I P R := by
  subst hq
  intro p l e Rm s m args below meth c Q H locs cells slots cE sE ls X hr h1 h2 h3 h4 hP hS hl
  exact lv_aload X.1 X.2.1 hd (zq_get hl hx) (k p l e Rm s m args below meth c Q H locs cells slots cE sE ls X hr h1 h2 h3 h4 hP hS hl)
theorem ev_istore_n {z : Fin 4} {x : Int32} (hd : decode M.2.1 pc = .ok (.istore_n z, 1)) (hq : pc + 1 = q) (hn : (z : Nat) < M.2.2.1) (k : zq_E G M d kc ks sc q (zq_s1 L (z : Nat) (.int x)) st n I P R) : zq_E G M d kc ks sc pc L (.int x :: st) n I P R := by
  subst hq
  intro p l e Rm s m args below meth c Q H locs cells slots cE sE ls X hr h1 h2 h3 h4 hP hS hl
  exact lv_istore_n X.1 X.2.1 hd rfl hl hn rfl (fun ls9 hl9 => k p l e Rm s m args below meth c Q H locs cells slots cE sE ls9 X hr h1 h2 h3 h4 hP hS (zq_less hl9 zq_st1))
theorem ev_istore {z : Nat} {x : Int32} (hd : decode M.2.1 pc = .ok (.istore z, 2)) (hq : pc + 2 = q) (hn : z < M.2.2.1) (k : zq_E G M d kc ks sc q (zq_s1 L z (.int x)) st n I P R) : zq_E G M d kc ks sc pc L (.int x :: st) n I P R := by
  subst hq
  intro p l e Rm s m args below meth c Q H locs cells slots cE sE ls X hr h1 h2 h3 h4 hP hS hl
  exact lv_istore X.1 X.2.1 hd hl hn rfl (fun ls9 hl9 => k p l e Rm s m args below meth c Q H locs cells slots cE sE ls9 X hr h1 h2 h3 h4 hP hS (zq_less hl9 zq_st1))
theorem ev_astore_n {z : Fin 4} {x : Nat} (hd : decode M.2.1 pc = .ok (.astore_n z, 1)) (hq : pc + 1 = q) (hn : (z : Nat) < M.2.2.1) (k : zq_E G M d kc ks sc q (zq_s1 L (z : Nat) (.ref x)) st n I P R) : zq_E G M d kc ks sc pc L (.ref x :: st) n I P R := by
  subst hq
  intro p l e Rm s m args below meth c Q H locs cells slots cE sE ls X hr h1 h2 h3 h4 hP hS hl
  exact lv_astore_n X.1 X.2.1 hd rfl hl hn rfl (fun ls9 hl9 => k p l e Rm s m args below meth c Q H locs cells slots cE sE ls9 X hr h1 h2 h3 h4 hP hS (zq_less hl9 zq_st1))
theorem ev_astore {z : Nat} {x : Nat} (hd : decode M.2.1 pc = .ok (.astore z, 2)) (hq : pc + 2 = q) (hn : z < M.2.2.1) (k : zq_E G M d kc ks sc q (zq_s1 L z (.ref x)) st n I P R) : zq_E G M d kc ks sc pc L (.ref x :: st) n I P R := by
  subst hq
  intro p l e Rm s m args below meth c Q H locs cells slots cE sE ls X hr h1 h2 h3 h4 hP hS hl
  exact lv_astore X.1 X.2.1 hd hl hn rfl (fun ls9 hl9 => k p l e Rm s m args below meth c Q H locs cells slots cE sE ls9 X hr h1 h2 h3 h4 hP hS (zq_less hl9 zq_st1))
theorem ev_lstore_n {z : Fin 4} {x : Int64} (hd : decode M.2.1 pc = .ok (.lstore_n z, 1)) (hq : pc + 1 = q) (hn : (z : Nat) + 1 < M.2.2.1) (k : zq_E G M d kc ks sc q (zq_s2 L (z : Nat) (.long x)) st n I P R) : zq_E G M d kc ks sc pc L (.long x :: st) n I P R := by
  subst hq
  intro p l e Rm s m args below meth c Q H locs cells slots cE sE ls X hr h1 h2 h3 h4 hP hS hl
  exact lv_lstore_n X.1 X.2.1 hd rfl hl hn rfl (fun ls9 hl9 => k p l e Rm s m args below meth c Q H locs cells slots cE sE ls9 X hr h1 h2 h3 h4 hP hS (zq_less hl9 zq_st2))
theorem ev_lstore {z : Nat} {x : Int64} (hd : decode M.2.1 pc = .ok (.lstore z, 2)) (hq : pc + 2 = q) (hn : z + 1 < M.2.2.1) (k : zq_E G M d kc ks sc q (zq_s2 L z (.long x)) st n I P R) : zq_E G M d kc ks sc pc L (.long x :: st) n I P R := by
  subst hq
  intro p l e Rm s m args below meth c Q H locs cells slots cE sE ls X hr h1 h2 h3 h4 hP hS hl
  exact lv_lstore X.1 X.2.1 hd hl hn rfl (fun ls9 hl9 => k p l e Rm s m args below meth c Q H locs cells slots cE sE ls9 X hr h1 h2 h3 h4 hP hS (zq_less hl9 zq_st2))
theorem ev_iinc {z : Nat} {y : Int} {x : Int32} (v : Int32) (hd : decode M.2.1 pc = .ok (.iinc z y, 3)) (hq : pc + 3 = q) (hx : L[z]? = some (some (.int x))) (hv : Int32.ofInt y = v) (hn : z < M.2.2.1) (k : zq_E G M d kc ks sc q (zq_s1 L z (.int (x + v))) st n I P R) : zq_E G M d kc ks sc pc L st n I P R := by
  subst hq
  intro p l e Rm s m args below meth c Q H locs cells slots cE sE ls X hr h1 h2 h3 h4 hP hS hl
  obtain ⟨j, hj⟩ := List.getElem?_of_mem ((zq_as_mem G L 0 (z, .int x)).mpr ⟨z, .int x, hx, by rw [Nat.zero_add]; rfl⟩)
  exact lv_iinc (v := x + v) X.1 X.2.1 hd hl hj (by rw [hv]) hn rfl (fun ls9 hl9 => k p l e Rm s m args below meth c Q H locs cells slots cE sE ls9 X hr h1 h2 h3 h4 hP hS (zq_less hl9 zq_st1))
theorem ev_iadd {x y : Int32} (hd : decode M.2.1 pc = .ok (.iadd, 1)) (hq : pc + 1 = q) (k : zq_E G M d kc ks sc q L (.int (x + y) :: st) n I P R) : zq_E G M d kc ks sc pc L (.int y :: .int x :: st) n I P R := by
  subst hq
  intro p l e Rm s m args below meth c Q H locs cells slots cE sE ls X hr h1 h2 h3 h4 hP hS hl
  exact lv_iadd X.1 X.2.1 hd (k p l e Rm s m args below meth c Q H locs cells slots cE sE ls X hr h1 h2 h3 h4 hP hS hl)
theorem ev_isub {x y : Int32} (hd : decode M.2.1 pc = .ok (.isub, 1)) (hq : pc + 1 = q) (k : zq_E G M d kc ks sc q L (.int (x - y) :: st) n I P R) : zq_E G M d kc ks sc pc L (.int y :: .int x :: st) n I P R := by
  subst hq
  intro p l e Rm s m args below meth c Q H locs cells slots cE sE ls X hr h1 h2 h3 h4 hP hS hl
  exact lv_isub X.1 X.2.1 hd (k p l e Rm s m args below meth c Q H locs cells slots cE sE ls X hr h1 h2 h3 h4 hP hS hl)
theorem ev_imul {x y : Int32} (hd : decode M.2.1 pc = .ok (.imul, 1)) (hq : pc + 1 = q) (k : zq_E G M d kc ks sc q L (.int (x * y) :: st) n I P R) : zq_E G M d kc ks sc pc L (.int y :: .int x :: st) n I P R := by
  subst hq
  intro p l e Rm s m args below meth c Q H locs cells slots cE sE ls X hr h1 h2 h3 h4 hP hS hl
  exact lv_imul X.1 X.2.1 hd (k p l e Rm s m args below meth c Q H locs cells slots cE sE ls X hr h1 h2 h3 h4 hP hS hl)
theorem ev_iand {x y : Int32} (hd : decode M.2.1 pc = .ok (.iand, 1)) (hq : pc + 1 = q) (k : zq_E G M d kc ks sc q L (.int (x &&& y) :: st) n I P R) : zq_E G M d kc ks sc pc L (.int y :: .int x :: st) n I P R := by
  subst hq
  intro p l e Rm s m args below meth c Q H locs cells slots cE sE ls X hr h1 h2 h3 h4 hP hS hl
  exact lv_iand X.1 X.2.1 hd (k p l e Rm s m args below meth c Q H locs cells slots cE sE ls X hr h1 h2 h3 h4 hP hS hl)
theorem ev_ior {x y : Int32} (hd : decode M.2.1 pc = .ok (.ior, 1)) (hq : pc + 1 = q) (k : zq_E G M d kc ks sc q L (.int (x ||| y) :: st) n I P R) : zq_E G M d kc ks sc pc L (.int y :: .int x :: st) n I P R := by
  subst hq
  intro p l e Rm s m args below meth c Q H locs cells slots cE sE ls X hr h1 h2 h3 h4 hP hS hl
  exact lv_ior X.1 X.2.1 hd (k p l e Rm s m args below meth c Q H locs cells slots cE sE ls X hr h1 h2 h3 h4 hP hS hl)
theorem ev_ixor {x y : Int32} (hd : decode M.2.1 pc = .ok (.ixor, 1)) (hq : pc + 1 = q) (k : zq_E G M d kc ks sc q L (.int (x ^^^ y) :: st) n I P R) : zq_E G M d kc ks sc pc L (.int y :: .int x :: st) n I P R := by
  subst hq
  intro p l e Rm s m args below meth c Q H locs cells slots cE sE ls X hr h1 h2 h3 h4 hP hS hl
  exact lv_ixor X.1 X.2.1 hd (k p l e Rm s m args below meth c Q H locs cells slots cE sE ls X hr h1 h2 h3 h4 hP hS hl)
theorem ev_ishl {x y : Int32} (hd : decode M.2.1 pc = .ok (.ishl, 1)) (hq : pc + 1 = q) (k : zq_E G M d kc ks sc q L (.int (x <<< (y &&& 31)) :: st) n I P R) : zq_E G M d kc ks sc pc L (.int y :: .int x :: st) n I P R := by
  subst hq
  intro p l e Rm s m args below meth c Q H locs cells slots cE sE ls X hr h1 h2 h3 h4 hP hS hl
  exact lv_ishl X.1 X.2.1 hd (k p l e Rm s m args below meth c Q H locs cells slots cE sE ls X hr h1 h2 h3 h4 hP hS hl)
theorem ev_ishr {x y : Int32} (hd : decode M.2.1 pc = .ok (.ishr, 1)) (hq : pc + 1 = q) (k : zq_E G M d kc ks sc q L (.int (x >>> (y &&& 31)) :: st) n I P R) : zq_E G M d kc ks sc pc L (.int y :: .int x :: st) n I P R := by
  subst hq
  intro p l e Rm s m args below meth c Q H locs cells slots cE sE ls X hr h1 h2 h3 h4 hP hS hl
  exact lv_ishr X.1 X.2.1 hd (k p l e Rm s m args below meth c Q H locs cells slots cE sE ls X hr h1 h2 h3 h4 hP hS hl)
theorem ev_iushr {x y : Int32} (hd : decode M.2.1 pc = .ok (.iushr, 1)) (hq : pc + 1 = q) (k : zq_E G M d kc ks sc q L (.int ((x.toUInt32 >>> (y.toUInt32 &&& Int32.toUInt32 31)).toInt32) :: st) n I P R) : zq_E G M d kc ks sc pc L (.int y :: .int x :: st) n I P R := by
  subst hq
  intro p l e Rm s m args below meth c Q H locs cells slots cE sE ls X hr h1 h2 h3 h4 hP hS hl
  exact lv_iushr X.1 X.2.1 hd rfl (k p l e Rm s m args below meth c Q H locs cells slots cE sE ls X hr h1 h2 h3 h4 hP hS hl)
theorem ev_idiv {x y : Int32} (hd : decode M.2.1 pc = .ok (.idiv, 1)) (hq : pc + 1 = q) (hne : ¬ y = 0) (k : zq_E G M d kc ks sc q L (.int (x / y) :: st) n I P R) : zq_E G M d kc ks sc pc L (.int y :: .int x :: st) n I P R := by
  subst hq
  intro p l e Rm s m args below meth c Q H locs cells slots cE sE ls X hr h1 h2 h3 h4 hP hS hl
  exact lv_idiv X.1 X.2.1 hd hne (k p l e Rm s m args below meth c Q H locs cells slots cE sE ls X hr h1 h2 h3 h4 hP hS hl)
theorem ev_irem {x y : Int32} (hd : decode M.2.1 pc = .ok (.irem, 1)) (hq : pc + 1 = q) (hne : ¬ y = 0) (k : zq_E G M d kc ks sc q L (.int (x - x / y * y) :: st) n I P R) : zq_E G M d kc ks sc pc L (.int y :: .int x :: st) n I P R := by
  subst hq
  intro p l e Rm s m args below meth c Q H locs cells slots cE sE ls X hr h1 h2 h3 h4 hP hS hl
  exact lv_irem X.1 X.2.1 hd hne (k p l e Rm s m args below meth c Q H locs cells slots cE sE ls X hr h1 h2 h3 h4 hP hS hl)
theorem ev_ladd {x y : Int64} (hd : decode M.2.1 pc = .ok (.ladd, 1)) (hq : pc + 1 = q) (k : zq_E G M d kc ks sc q L (.long (x + y) :: st) n I P R) : zq_E G M d kc ks sc pc L (.long y :: .long x :: st) n I P R := by
  subst hq
  intro p l e Rm s m args below meth c Q H locs cells slots cE sE ls X hr h1 h2 h3 h4 hP hS hl
  exact lv_ladd X.1 X.2.1 hd (k p l e Rm s m args below meth c Q H locs cells slots cE sE ls X hr h1 h2 h3 h4 hP hS hl)
theorem ev_lsub {x y : Int64} (hd : decode M.2.1 pc = .ok (.lsub, 1)) (hq : pc + 1 = q) (k : zq_E G M d kc ks sc q L (.long (x - y) :: st) n I P R) : zq_E G M d kc ks sc pc L (.long y :: .long x :: st) n I P R := by
  subst hq
  intro p l e Rm s m args below meth c Q H locs cells slots cE sE ls X hr h1 h2 h3 h4 hP hS hl
  exact lv_lsub X.1 X.2.1 hd (k p l e Rm s m args below meth c Q H locs cells slots cE sE ls X hr h1 h2 h3 h4 hP hS hl)
theorem ev_lmul {x y : Int64} (hd : decode M.2.1 pc = .ok (.lmul, 1)) (hq : pc + 1 = q) (k : zq_E G M d kc ks sc q L (.long (x * y) :: st) n I P R) : zq_E G M d kc ks sc pc L (.long y :: .long x :: st) n I P R := by
  subst hq
  intro p l e Rm s m args below meth c Q H locs cells slots cE sE ls X hr h1 h2 h3 h4 hP hS hl
  exact lv_lmul X.1 X.2.1 hd (k p l e Rm s m args below meth c Q H locs cells slots cE sE ls X hr h1 h2 h3 h4 hP hS hl)
theorem ev_land {x y : Int64} (hd : decode M.2.1 pc = .ok (.land, 1)) (hq : pc + 1 = q) (k : zq_E G M d kc ks sc q L (.long (x &&& y) :: st) n I P R) : zq_E G M d kc ks sc pc L (.long y :: .long x :: st) n I P R := by
  subst hq
  intro p l e Rm s m args below meth c Q H locs cells slots cE sE ls X hr h1 h2 h3 h4 hP hS hl
  exact lv_land X.1 X.2.1 hd (k p l e Rm s m args below meth c Q H locs cells slots cE sE ls X hr h1 h2 h3 h4 hP hS hl)
theorem ev_lor {x y : Int64} (hd : decode M.2.1 pc = .ok (.lor, 1)) (hq : pc + 1 = q) (k : zq_E G M d kc ks sc q L (.long (x ||| y) :: st) n I P R) : zq_E G M d kc ks sc pc L (.long y :: .long x :: st) n I P R := by
  subst hq
  intro p l e Rm s m args below meth c Q H locs cells slots cE sE ls X hr h1 h2 h3 h4 hP hS hl
  exact lv_lor X.1 X.2.1 hd (k p l e Rm s m args below meth c Q H locs cells slots cE sE ls X hr h1 h2 h3 h4 hP hS hl)
theorem ev_ldiv {x y : Int64} (hd : decode M.2.1 pc = .ok (.ldiv, 1)) (hq : pc + 1 = q) (hne : ¬ y = 0) (k : zq_E G M d kc ks sc q L (.long (x / y) :: st) n I P R) : zq_E G M d kc ks sc pc L (.long y :: .long x :: st) n I P R := by
  subst hq
  intro p l e Rm s m args below meth c Q H locs cells slots cE sE ls X hr h1 h2 h3 h4 hP hS hl
  exact lv_ldiv X.1 X.2.1 hd hne (k p l e Rm s m args below meth c Q H locs cells slots cE sE ls X hr h1 h2 h3 h4 hP hS hl)
theorem ev_lrem {x y : Int64} (hd : decode M.2.1 pc = .ok (.lrem, 1)) (hq : pc + 1 = q) (hne : ¬ y = 0) (k : zq_E G M d kc ks sc q L (.long (x - x / y * y) :: st) n I P R) : zq_E G M d kc ks sc pc L (.long y :: .long x :: st) n I P R := by
  subst hq
  intro p l e Rm s m args below meth c Q H locs cells slots cE sE ls X hr h1 h2 h3 h4 hP hS hl
  exact lv_lrem X.1 X.2.1 hd hne (k p l e Rm s m args below meth c Q H locs cells slots cE sE ls X hr h1 h2 h3 h4 hP hS hl)
theorem ev_lshl {x : Int64} {y : Int32} (hd : decode M.2.1 pc = .ok (.lshl, 1)) (hq : pc + 1 = q) (k : zq_E G M d kc ks sc q L (.long (x <<< (y.toInt64 &&& 63)) :: st) n I P R) : zq_E G M d kc ks sc pc L (.int y :: .long x :: st) n I P R := by
  subst hq
  intro p l e Rm s m args below meth c Q H locs cells slots cE sE ls X hr h1 h2 h3 h4 hP hS hl
  exact lv_lshl X.1 X.2.1 hd rfl (k p l e Rm s m args below meth c Q H locs cells slots cE sE ls X hr h1 h2 h3 h4 hP hS hl)
theorem ev_lshr {x : Int64} {y : Int32} (hd : decode M.2.1 pc = .ok (.lshr, 1)) (hq : pc + 1 = q) (k : zq_E G M d kc ks sc q L (.long (x >>> (y.toInt64 &&& 63)) :: st) n I P R) : zq_E G M d kc ks sc pc L (.int y :: .long x :: st) n I P R := by
  subst hq
  intro p l e Rm s m args below meth c Q H locs cells slots cE sE ls X hr h1 h2 h3 h4 hP hS hl
  exact lv_lshr X.1 X.2.1 hd rfl (k p l e Rm s m args below meth c Q H locs cells slots cE sE ls X hr h1 h2 h3 h4 hP hS hl)
theorem ev_i2l {x : Int32} (hd : decode M.2.1 pc = .ok (.i2l, 1)) (hq : pc + 1 = q) (k : zq_E G M d kc ks sc q L (.long x.toInt64 :: st) n I P R) : zq_E G M d kc ks sc pc L (.int x :: st) n I P R := by
  subst hq
  intro p l e Rm s m args below meth c Q H locs cells slots cE sE ls X hr h1 h2 h3 h4 hP hS hl
  exact lv_i2l X.1 X.2.1 hd rfl (k p l e Rm s m args below meth c Q H locs cells slots cE sE ls X hr h1 h2 h3 h4 hP hS hl)
theorem ev_l2i {x : Int64} (hd : decode M.2.1 pc = .ok (.l2i, 1)) (hq : pc + 1 = q) (k : zq_E G M d kc ks sc q L (.int x.toInt32 :: st) n I P R) : zq_E G M d kc ks sc pc L (.long x :: st) n I P R := by
  subst hq
  intro p l e Rm s m args below meth c Q H locs cells slots cE sE ls X hr h1 h2 h3 h4 hP hS hl
  exact lv_l2i X.1 X.2.1 hd rfl (k p l e Rm s m args below meth c Q H locs cells slots cE sE ls X hr h1 h2 h3 h4 hP hS hl)
theorem ev_i2b {x : Int32} (hd : decode M.2.1 pc = .ok (.i2b, 1)) (hq : pc + 1 = q) (k : zq_E G M d kc ks sc q L (.int x.toInt8.toInt32 :: st) n I P R) : zq_E G M d kc ks sc pc L (.int x :: st) n I P R := by
  subst hq
  intro p l e Rm s m args below meth c Q H locs cells slots cE sE ls X hr h1 h2 h3 h4 hP hS hl
  exact lv_i2b X.1 X.2.1 hd rfl (k p l e Rm s m args below meth c Q H locs cells slots cE sE ls X hr h1 h2 h3 h4 hP hS hl)
theorem ev_lcmp {x y : Int64} (hd : decode M.2.1 pc = .ok (.lcmp, 1)) (hq : pc + 1 = q) (k : zq_E G M d kc ks sc q L (.int (lg_cmp x y) :: st) n I P R) : zq_E G M d kc ks sc pc L (.long y :: .long x :: st) n I P R := by
  subst hq
  intro p l e Rm s m args below meth c Q H locs cells slots cE sE ls X hr h1 h2 h3 h4 hP hS hl
  exact W.lcmp X.1 X.2.1 hd (k p l e Rm s m args below meth c Q H locs cells slots cE sE ls X hr h1 h2 h3 h4 hP hS hl)
theorem ev_dup {x : Value} (hd : decode M.2.1 pc = .ok (.dup, 1)) (hq : pc + 1 = q) (hx : x.category = 1) (k : zq_E G M d kc ks sc q L (x :: x :: st) n I P R) : zq_E G M d kc ks sc pc L (x :: st) n I P R := by
  subst hq
  intro p l e Rm s m args below meth c Q H locs cells slots cE sE ls X hr h1 h2 h3 h4 hP hS hl
  exact lv_dup X.1 X.2.1 hd ((zq_cat G x).trans hx) (k p l e Rm s m args below meth c Q H locs cells slots cE sE ls X hr h1 h2 h3 h4 hP hS hl)
theorem ev_dup2 {x y : Value} (hd : decode M.2.1 pc = .ok (.dup2, 1)) (hq : pc + 1 = q) (hx : x.category = 1) (hy : y.category = 1) (k : zq_E G M d kc ks sc q L (x :: y :: x :: y :: st) n I P R) : zq_E G M d kc ks sc pc L (x :: y :: st) n I P R := by
  subst hq
  intro p l e Rm s m args below meth c Q H locs cells slots cE sE ls X hr h1 h2 h3 h4 hP hS hl
  exact lv_dup2_11 X.1 X.2.1 hd ((zq_cat G x).trans hx) ((zq_cat G y).trans hy) (k p l e Rm s m args below meth c Q H locs cells slots cE sE ls X hr h1 h2 h3 h4 hP hS hl)
theorem ev_if_eq {x : Int32} {z : Int} {t : Nat} (hd : decode M.2.1 pc = .ok (.ifCond .eq z, 3)) (hq : pc + 3 = q) (ht : (pc : Int) + z = (t : Int)) (kt : x = 0 → zq_E G M d kc ks sc t L st n I P R) (kf : ¬ x = 0 → zq_E G M d kc ks sc q L st n I P R) : zq_E G M d kc ks sc pc L (.int x :: st) n I P R := by
  subst hq
  intro p l e Rm s m args below meth c Q H locs cells slots cE sE ls X hr h1 h2 h3 h4 hP hS hl
  exact lv_if_eq X.1 X.2.1 hd ht (fun h => kt h p l e Rm s m args below meth c Q H locs cells slots cE sE ls X hr h1 h2 h3 h4 hP hS hl) (fun h => kf h p l e Rm s m args below meth c Q H locs cells slots cE sE ls X hr h1 h2 h3 h4 hP hS hl)
theorem ev_icmp_eq {x y : Int32} {z : Int} {t : Nat} (hd : decode M.2.1 pc = .ok (.if_icmp .eq z, 3)) (hq : pc + 3 = q) (ht : (pc : Int) + z = (t : Int)) (kt : x = y → zq_E G M d kc ks sc t L st n I P R) (kf : ¬ x = y → zq_E G M d kc ks sc q L st n I P R) : zq_E G M d kc ks sc pc L (.int y :: .int x :: st) n I P R := by
  subst hq
  intro p l e Rm s m args below meth c Q H locs cells slots cE sE ls X hr h1 h2 h3 h4 hP hS hl
  exact lv_icmp_eq X.1 X.2.1 hd ht (fun h => kt h p l e Rm s m args below meth c Q H locs cells slots cE sE ls X hr h1 h2 h3 h4 hP hS hl) (fun h => kf h p l e Rm s m args below meth c Q H locs cells slots cE sE ls X hr h1 h2 h3 h4 hP hS hl)
theorem ev_if_ne {x : Int32} {z : Int} {t : Nat} (hd : decode M.2.1 pc = .ok (.ifCond .ne z, 3)) (hq : pc + 3 = q) (ht : (pc : Int) + z = (t : Int)) (kt : ¬ x = 0 → zq_E G M d kc ks sc t L st n I P R) (kf : x = 0 → zq_E G M d kc ks sc q L st n I P R) : zq_E G M d kc ks sc pc L (.int x :: st) n I P R := by
  subst hq
  intro p l e Rm s m args below meth c Q H locs cells slots cE sE ls X hr h1 h2 h3 h4 hP hS hl
  exact lv_if_ne X.1 X.2.1 hd ht (fun h => kt h p l e Rm s m args below meth c Q H locs cells slots cE sE ls X hr h1 h2 h3 h4 hP hS hl) (fun h => kf h p l e Rm s m args below meth c Q H locs cells slots cE sE ls X hr h1 h2 h3 h4 hP hS hl)
theorem ev_icmp_ne {x y : Int32} {z : Int} {t : Nat} (hd : decode M.2.1 pc = .ok (.if_icmp .ne z, 3)) (hq : pc + 3 = q) (ht : (pc : Int) + z = (t : Int)) (kt : ¬ x = y → zq_E G M d kc ks sc t L st n I P R) (kf : x = y → zq_E G M d kc ks sc q L st n I P R) : zq_E G M d kc ks sc pc L (.int y :: .int x :: st) n I P R := by
  subst hq
  intro p l e Rm s m args below meth c Q H locs cells slots cE sE ls X hr h1 h2 h3 h4 hP hS hl
  exact lv_icmp_ne X.1 X.2.1 hd ht (fun h => kt h p l e Rm s m args below meth c Q H locs cells slots cE sE ls X hr h1 h2 h3 h4 hP hS hl) (fun h => kf h p l e Rm s m args below meth c Q H locs cells slots cE sE ls X hr h1 h2 h3 h4 hP hS hl)
theorem ev_if_lt {x : Int32} {z : Int} {t : Nat} (hd : decode M.2.1 pc = .ok (.ifCond .lt z, 3)) (hq : pc + 3 = q) (ht : (pc : Int) + z = (t : Int)) (kt : x < 0 → zq_E G M d kc ks sc t L st n I P R) (kf : ¬ x < 0 → zq_E G M d kc ks sc q L st n I P R) : zq_E G M d kc ks sc pc L (.int x :: st) n I P R := by
  subst hq
  intro p l e Rm s m args below meth c Q H locs cells slots cE sE ls X hr h1 h2 h3 h4 hP hS hl
  exact lv_if_lt X.1 X.2.1 hd ht (fun h => kt h p l e Rm s m args below meth c Q H locs cells slots cE sE ls X hr h1 h2 h3 h4 hP hS hl) (fun h => kf h p l e Rm s m args below meth c Q H locs cells slots cE sE ls X hr h1 h2 h3 h4 hP hS hl)
theorem ev_icmp_lt {x y : Int32} {z : Int} {t : Nat} (hd : decode M.2.1 pc = .ok (.if_icmp .lt z, 3)) (hq : pc + 3 = q) (ht : (pc : Int) + z = (t : Int)) (kt : x < y → zq_E G M d kc ks sc t L st n I P R) (kf : ¬ x < y → zq_E G M d kc ks sc q L st n I P R) : zq_E G M d kc ks sc pc L (.int y :: .int x :: st) n I P R := by
  subst hq
  intro p l e Rm s m args below meth c Q H locs cells slots cE sE ls X hr h1 h2 h3 h4 hP hS hl
  exact lv_icmp_lt X.1 X.2.1 hd ht (fun h => kt h p l e Rm s m args below meth c Q H locs cells slots cE sE ls X hr h1 h2 h3 h4 hP hS hl) (fun h => kf h p l e Rm s m args below meth c Q H locs cells slots cE sE ls X hr h1 h2 h3 h4 hP hS hl)
theorem ev_if_ge {x : Int32} {z : Int} {t : Nat} (hd : decode M.2.1 pc = .ok (.ifCond .ge z, 3)) (hq : pc + 3 = q) (ht : (pc : Int) + z = (t : Int)) (kt : 0 ≤ x → zq_E G M d kc ks sc t L st n I P R) (kf : ¬ 0 ≤ x → zq_E G M d kc ks sc q L st n I P R) : zq_E G M d kc ks sc pc L (.int x :: st) n I P R := by
  subst hq
  intro p l e Rm s m args below meth c Q H locs cells slots cE sE ls X hr h1 h2 h3 h4 hP hS hl
  exact lv_if_ge X.1 X.2.1 hd ht (fun h => kt h p l e Rm s m args below meth c Q H locs cells slots cE sE ls X hr h1 h2 h3 h4 hP hS hl) (fun h => kf h p l e Rm s m args below meth c Q H locs cells slots cE sE ls X hr h1 h2 h3 h4 hP hS hl)
theorem ev_icmp_ge {x y : Int32} {z : Int} {t : Nat} (hd : decode M.2.1 pc = .ok (.if_icmp .ge z, 3)) (hq : pc + 3 = q) (ht : (pc : Int) + z = (t : Int)) (kt : y ≤ x → zq_E G M d kc ks sc t L st n I P R) (kf : ¬ y ≤ x → zq_E G M d kc ks sc q L st n I P R) : zq_E G M d kc ks sc pc L (.int y :: .int x :: st) n I P R := by
  subst hq
  intro p l e Rm s m args below meth c Q H locs cells slots cE sE ls X hr h1 h2 h3 h4 hP hS hl
  exact lv_icmp_ge X.1 X.2.1 hd ht (fun h => kt h p l e Rm s m args below meth c Q H locs cells slots cE sE ls X hr h1 h2 h3 h4 hP hS hl) (fun h => kf h p l e Rm s m args below meth c Q H locs cells slots cE sE ls X hr h1 h2 h3 h4 hP hS hl)
theorem ev_if_gt {x : Int32} {z : Int} {t : Nat} (hd : decode M.2.1 pc = .ok (.ifCond .gt z, 3)) (hq : pc + 3 = q) (ht : (pc : Int) + z = (t : Int)) (kt : 0 < x → zq_E G M d kc ks sc t L st n I P R) (kf : ¬ 0 < x → zq_E G M d kc ks sc q L st n I P R) : zq_E G M d kc ks sc pc L (.int x :: st) n I P R := by
  subst hq
  intro p l e Rm s m args below meth c Q H locs cells slots cE sE ls X hr h1 h2 h3 h4 hP hS hl
  exact lv_if_gt X.1 X.2.1 hd ht (fun h => kt h p l e Rm s m args below meth c Q H locs cells slots cE sE ls X hr h1 h2 h3 h4 hP hS hl) (fun h => kf h p l e Rm s m args below meth c Q H locs cells slots cE sE ls X hr h1 h2 h3 h4 hP hS hl)
theorem ev_icmp_gt {x y : Int32} {z : Int} {t : Nat} (hd : decode M.2.1 pc = .ok (.if_icmp .gt z, 3)) (hq : pc + 3 = q) (ht : (pc : Int) + z = (t : Int)) (kt : y < x → zq_E G M d kc ks sc t L st n I P R) (kf : ¬ y < x → zq_E G M d kc ks sc q L st n I P R) : zq_E G M d kc ks sc pc L (.int y :: .int x :: st) n I P R := by
  subst hq
  intro p l e Rm s m args below meth c Q H locs cells slots cE sE ls X hr h1 h2 h3 h4 hP hS hl
  exact lv_icmp_gt X.1 X.2.1 hd ht (fun h => kt h p l e Rm s m args below meth c Q H locs cells slots cE sE ls X hr h1 h2 h3 h4 hP hS hl) (fun h => kf h p l e Rm s m args below meth c Q H locs cells slots cE sE ls X hr h1 h2 h3 h4 hP hS hl)
theorem ev_if_le {x : Int32} {z : Int} {t : Nat} (hd : decode M.2.1 pc = .ok (.ifCond .le z, 3)) (hq : pc + 3 = q) (ht : (pc : Int) + z = (t : Int)) (kt : x ≤ 0 → zq_E G M d kc ks sc t L st n I P R) (kf : ¬ x ≤ 0 → zq_E G M d kc ks sc q L st n I P R) : zq_E G M d kc ks sc pc L (.int x :: st) n I P R := by
  subst hq
  intro p l e Rm s m args below meth c Q H locs cells slots cE sE ls X hr h1 h2 h3 h4 hP hS hl
  exact lv_if_le X.1 X.2.1 hd ht (fun h => kt h p l e Rm s m args below meth c Q H locs cells slots cE sE ls X hr h1 h2 h3 h4 hP hS hl) (fun h => kf h p l e Rm s m args below meth c Q H locs cells slots cE sE ls X hr h1 h2 h3 h4 hP hS hl)
theorem ev_icmp_le {x y : Int32} {z : Int} {t : Nat} (hd : decode M.2.1 pc = .ok (.if_icmp .le z, 3)) (hq : pc + 3 = q) (ht : (pc : Int) + z = (t : Int)) (kt : x ≤ y → zq_E G M d kc ks sc t L st n I P R) (kf : ¬ x ≤ y → zq_E G M d kc ks sc q L st n I P R) : zq_E G M d kc ks sc pc L (.int y :: .int x :: st) n I P R := by
  subst hq
  intro p l e Rm s m args below meth c Q H locs cells slots cE sE ls X hr h1 h2 h3 h4 hP hS hl
  exact lv_icmp_le X.1 X.2.1 hd ht (fun h => kt h p l e Rm s m args below meth c Q H locs cells slots cE sE ls X hr h1 h2 h3 h4 hP hS hl) (fun h => kf h p l e Rm s m args below meth c Q H locs cells slots cE sE ls X hr h1 h2 h3 h4 hP hS hl)
theorem ev_goto {z : Int} {t : Nat} (hd : decode M.2.1 pc = .ok (.goto z, 3)) (ht : (pc : Int) + z = (t : Int)) (k : zq_E G M d kc ks sc t L st n I P R) : zq_E G M d kc ks sc pc L st n I P R := by
  intro p l e Rm s m args below meth c Q H locs cells slots cE sE ls X hr h1 h2 h3 h4 hP hS hl
  exact lv_goto X.1 X.2.1 hd ht (k p l e Rm s m args below meth c Q H locs cells slots cE sE ls X hr h1 h2 h3 h4 hP hS hl)
theorem ev_swOut {dflt lo hi : Int} {offs : Array Int} {len : Nat} {x : Int32} {t : Nat} (hd : decode M.2.1 pc = .ok (.tableswitch dflt lo hi offs, len)) (h : x.toInt < lo ∨ hi < x.toInt) (ht : (pc : Int) + dflt = (t : Int)) (k : zq_E G M d kc ks sc t L st n I P R) : zq_E G M d kc ks sc pc L (.int x :: st) n I P R := by
  intro p l e Rm s m args below meth c Q H locs cells slots cE sE ls X hr h1 h2 h3 h4 hP hS hl
  exact lv_tableOut X.1 X.2.1 hd h ht (k p l e Rm s m args below meth c Q H locs cells slots cE sE ls X hr h1 h2 h3 h4 hP hS hl)
theorem ev_swIn {dflt lo hi : Int} {offs : Array Int} {len : Nat} {x : Int32} {off : Int} {t : Nat} (hd : decode M.2.1 pc = .ok (.tableswitch dflt lo hi offs, len)) (hx1 : ¬ x.toInt < lo) (hx2 : ¬ hi < x.toInt) (ho : offs[(x.toInt - lo).toNat]? = some off) (ht : (pc : Int) + off = (t : Int)) (k : zq_E G M d kc ks sc t L st n I P R) : zq_E G M d kc ks sc pc L (.int x :: st) n I P R := by
  intro p l e Rm s m args below meth c Q H locs cells slots cE sE ls X hr h1 h2 h3 h4 hP hS hl
  exact lv_tableIn X.1 X.2.1 hd hx1 hx2 ho ht (k p l e Rm s m args below meth c Q H locs cells slots cE sE ls X hr h1 h2 h3 h4 hP hS hl)
theorem ev_getI {z b ci f : Nat} (hd : decode M.2.1 pc = .ok (.getfield z, 3)) (hq : pc + 3 = q) (hk : zq_kd b = some (.inl ci)) (hbn : b < n) (hci : ci < 9) (hf : f < (zq_cls ci).2.2) (hlk : Cond.fieldLink M.1.cls z ((zq_cls ci).2.1 f).1 ((zq_cls ci).2.1 f).2.1 ((zq_cls ci).2.1 f).2.2.1 ∈ zq_T) (hr0 : zq_isr ci f = false) (k : zq_E G M d kc ks sc q L (.int (I b f) :: st) n I P R) : zq_E G M d kc ks sc pc L (.ref b :: st) n I P R := by
  subst hq
  intro p l e Rm s m args below meth c Q H locs cells slots cE sE ls X hr h1 h2 h3 h4 hP hS hl
  have hws := zq_ws_at (G := G) (I := I) (P := P) hbn
  rw [zq_ent_o hk] at hws
  exact va_get X.1 X.2.1 X.2.2.2.2.1 (zq_in ci hci) X.2.2.2.1 X.2.2.2.2.2.1.1 hP.2.2 b hws (zq_clat hci) f hf (X.2.2.2.2.1 _ hlk) (fun _ h9 => h9) (v := .int (I b f)) (by rw [zq_fs_at hf, hr0]; rfl) hd (k p l e Rm s m args below meth c Q H locs cells slots cE sE ls X hr h1 h2 h3 h4 hP hS hl)
theorem ev_getR {z b ci f a : Nat} (hd : decode M.2.1 pc = .ok (.getfield z, 3)) (hq : pc + 3 = q) (hk : zq_kd b = some (.inl ci)) (hbn : b < n) (hci : ci < 9) (hf : f < (zq_cls ci).2.2) (hlk : Cond.fieldLink M.1.cls z ((zq_cls ci).2.1 f).1 ((zq_cls ci).2.1 f).2.1 ((zq_cls ci).2.1 f).2.2.1 ∈ zq_T) (hr0 : zq_isr ci f = true) (ha : P b f = some a) (k : zq_E G M d kc ks sc q L (.ref a :: st) n I P R) : zq_E G M d kc ks sc pc L (.ref b :: st) n I P R := by
  subst hq
  intro p l e Rm s m args below meth c Q H locs cells slots cE sE ls X hr h1 h2 h3 h4 hP hS hl
  have hws := zq_ws_at (G := G) (I := I) (P := P) hbn
  rw [zq_ent_o hk] at hws
  exact va_get X.1 X.2.1 X.2.2.2.2.1 (zq_in ci hci) X.2.2.2.1 X.2.2.2.2.2.1.1 hP.2.2 b hws (zq_clat hci) f hf (X.2.2.2.2.1 _ hlk) (fun _ h9 => h9) (v := .ref (zq_ad G a)) (by rw [zq_fs_at hf, hr0, ha]; rfl) hd (k p l e Rm s m args below meth c Q H locs cells slots cE sE ls X hr h1 h2 h3 h4 hP hS hl)
end ROWS
section PUTS
variable {G : zq_G} {M : zq_M} {d : Nat} {sc : Bool} {p : Program} {l : Launch} {e : Env} {Rm : Room} {s : State} {m : MethodId} {args : Array Value} {below : List Frame} {meth : Method} {c : Code} {Q : State → Prop} {H : Heap} {locs : List Loc} {cells slots : Nat} {ls : Array Slot} {n pc : Nat} {I I' : zq_I} {P P' : zq_P} {rest : List Value}
/-- a field's new value, at the machine: the heap's size stays -/
theorem zq_Wput {z b ci f : Nat} {v : Value} (X : zq_X G M d sc p Rm s m args meth c) (hP : zq_H G n I P H) (hS : va_S (zq_A G) s.heap H locs) (hk : zq_kd b = some (.inl ci)) (hbn : b < n) (hci : ci < 9) (hf : f < (zq_cls ci).2.2)
    (hlk : Cond.fieldLink M.1.cls z ((zq_cls ci).2.1 f).1 ((zq_cls ci).2.1 f).2.1 ((zq_cls ci).2.1 f).2.2.1 ∈ zq_T)
    (hfin : ((zq_cls ci).2.1 f).2.2.2 = false ∨ (((zq_cls ci).2.1 f).2.2.2 = true ∧ sc = false ∧ M.1.name = "<init>" ∧ ((zq_cls ci).2.1 f).1 = M.1.cls)) (hn : narrow (zq_ty ci f) v = v) (hfit : fits (zq_ty ci f) v = true)
    (he : (zq_fs G I P b ci).set f v = zq_fs G I' P' b ci) (ho : ∀ b', b' ≠ b → I' b' = I b' ∧ P' b' = P b') (hd : decode M.2.1 pc = .ok (.putfield z, 3))
    (kk : ∀ (H1 : Heap) (locs1 : List Loc), zq_H G n I' P' H1 → va_S (zq_A G) s.heap H1 locs1 → W p l e Rm s m args below meth c H1 locs1 cells slots Q (F0 m (pc + 3) ls rest)) : W p l e Rm s m args below meth c H locs cells slots Q (F0 m pc ls (v :: .ref (zq_ad G b) :: rest)) := by
  have hws := zq_ws_at (G := G) (I := I) (P := P) hbn
  rw [zq_ent_o hk] at hws
  have hts := X.2.2.2.2.1
  have hK := X.2.2.2.2.2.1.1
  have hown := X.2.2.2.1
  have hD := zq_D G I P hP.2.1
  have hap := va_apart (own := M.1.cls) hts (zq_in ci hci) (zq_ty ci) (zq_tyok ci hci) (zq_nm ci hci) hK (zq_clat hci)
  obtain ⟨r, g1, cell, q1, q2, q3, q4⟩ := hP.2.2 b _ hws
  have hr : r = ((zq_cls ci).1, (zq_cls ci).2.1, (zq_cls ci).2.2) := Option.some.inj (g1.symm.trans (zq_clat hci))
  subst hr
  obtain ⟨hSl, hfc, kC, hkC, hkind⟩ := hK.1 ci _ (zq_clat hci)
  obtain ⟨cf, kf, fi, fd, hi, hsl⟩ := hSl f hf
  have hlay := hts _ (zq_in ci hci _ (u_in_lay hf))
  unfold u_lay at hlay
  have hst := (u_facts hfc hkC (u_lays hts (zq_in ci hci) hf) hi).1
  have fin : ∀ H' : Heap, H'[zq_ad G b]? = some (cell.setSlot fd.slot v) → H'.size = H.size → (∀ q, q ≠ zq_ad G b → H'[q]? = H[q]?) → W p l e Rm s m args below meth c H' (locs ++ [⟨zq_ad G b, fd.slot⟩]) cells slots Q (F0 m (pc + 3) ls rest) := by
    intro H' e1 e2 e3
    rw [hsl] at e1 ⊢
    have hnew := hP.2.2.set hD hws (e := .inr (ci, (zq_fs G I P b ci).set f v)) ⟨_, zq_clat hci, t_OB.to (V := updV (vp_V (zq_fs G I P b ci)) f v) ⟨_, e1, q2, q3, t_set q4 hap hf v⟩ (fun j _ => vp_updV_set (by rw [zq_fs_len]; exact hf) v j)⟩ e3
    rw [he] at hnew
    rw [zq_ws_set (I' := I') (P' := P') (zq_ent_o hk) (fun b' hb' => zq_ent_other (ho b' hb').1 (ho b' hb').2)] at hnew
    exact kk H' _ ⟨by rw [e2]; exact hP.1, hP.2.1, hnew⟩ (hS.put e2 e3 (hD.2 b _ hws))
  rcases hfin with hfin | ⟨hfin, hsc, hini, hdecl⟩
  · rw [if_neg (by rw [hfin]; decide)] at hlay
    have h6 := u_store hfc hkC hkind hlay hi (zq_tyok ci hci f hf) hn hfit
    exact W.putK X.1 X.2.1 (f := fd) ⟨hown, hts _ hlk, ⟨_, _, _, hi⟩, hst⟩ (by rw [q2]; exact h6) q1 q3 (by rw [hsl]; exact k2_hasslot (q4 f hf)) rfl rfl hd fun H' e1 e2 e3 => fin H' e1 e2 e3
  · rw [if_pos hfin] at hlay
    have hcf : m.cls = cf := by
      obtain ⟨_, _, c', _, _, _, -, -, hf', -, -, -, hown2, -⟩ := Cond.laysFinal_spec hlay
      have e1 : c' = cf := by have := hi.symm.trans hf'; simp at this; exact this.1.symm
      rw [hdecl] at hown2
      rw [← e1]; exact Option.some.inj (hown.symm.trans hown2)
    have h6 := u_fits hfc hkC hkind (Or.inr hlay) hi (zq_tyok ci hci f hf) hn hfit
    exact W.putFinK X.1 X.2.1 hown (hts _ hlk) hi hst hcf ((X.2.2.2.2.2.2.2.2.2.2 hsc).trans hini) (by rw [q2]; exact h6) q1 q3 (by rw [hsl]; exact k2_hasslot (q4 f hf)) rfl rfl hd fun H' e1 e2 e3 => fin H' e1 e2 e3
/-- what a store into a row of ints, bytes or booleans does -/
theorem zq_Wst {b t N k : Nat} {x : Int32} {H' : Heap} (hP : zq_H G n I P H) (hS : va_S (zq_A G) s.heap H locs) (hk : zq_kd b = some (.inr (t, N))) (ht : t ≠ 3) (hbn : b < n)
    (e : H'[zq_ad G b]? = some ((vp_cell (G.2.1 t) (N, .inl (I b))).setSlot k (.int x))) (z : H'.size = H.size) (oq : ∀ q, q ≠ zq_ad G b → H'[q]? = H[q]?) : zq_H G n (zu I b k x) P H' ∧ va_S (zq_A G) s.heap H' (locs ++ [⟨zq_ad G b, k⟩]) := by
  have hws := zq_ws_at (G := G) (I := I) (P := P) hbn
  rw [zq_ent_i hk ht] at hws
  have hD := zq_D G I P hP.2.1
  have h1 := hP.2.2.set hD hws (e := .inl (G.2.1 t, N, .inl (zu I b k x b))) (by
    show H'[zq_ad G b]? = some (vp_cell _ _)
    rw [e, vp_cell_i, vp_cell_i, arrV_store]
    congr 2
    funext q
    by_cases hq : q = k
    · subst hq; simp [updV, zu]
    · simp [updV, zu, hq]) oq
  rw [zq_ws_set (I' := zu I b k x) (P' := P) (zq_ent_i hk ht) (fun b' hb' => zq_ent_other (zu_other hb') rfl)] at h1
  exact ⟨⟨by rw [z]; exact hP.1, hP.2.1, h1⟩, hS.put z oq (hD.2 b _ hws)⟩
theorem zq_tysat {t : Nat} (ht : t < 4) : (zq_tys G)[t]? = some (G.2.1 t, zq_tt t) := by
  rcases (by omega : t = 0 ∨ t = 1 ∨ t = 2 ∨ t = 3) with rfl | rfl | rfl | rfl <;> rfl
end PUTS
section ROWS2
variable {G : zq_G} {M : zq_M} {d kc ks : Nat} {sc : Bool} {pc q : Nat} {L : List (Option Value)} {st : List Value} {n : Nat} {I : zq_I} {P : zq_P} {R : zq_R}
theorem ev_putI {z b ci f : Nat} {x : Int32} (hd : decode M.2.1 pc = .ok (.putfield z, 3)) (hq : pc + 3 = q) (hk : zq_kd b = some (.inl ci)) (hbn : b < n) (hci : ci < 9) (hf : f < (zq_cls ci).2.2) (hlk : Cond.fieldLink M.1.cls z ((zq_cls ci).2.1 f).1 ((zq_cls ci).2.1 f).2.1 ((zq_cls ci).2.1 f).2.2.1 ∈ zq_T) (hfin : ((zq_cls ci).2.1 f).2.2.2 = false) (hr0 : zq_isr ci f = false) (hnar : narrow (zq_ty ci f) (.int x) = .int x) (hfit : fits (zq_ty ci f) (.int x) = true) (k : zq_E G M d kc ks sc q L st n (zu I b f x) P R) : zq_E G M d kc ks sc pc L (.int x :: .ref b :: st) n I P R := by
  subst hq
  intro p l e Rm s m args below meth c Q H locs cells slots cE sE ls X hr h1 h2 h3 h4 hP hS hl
  exact zq_Wput (I' := (zu I b f x)) (P' := P) (v := .int x) X hP hS hk hbn hci hf hlk (Or.inl hfin) hnar hfit (zq_fs_set hf (by rw [hr0]; simp [zu]) (fun j hj => ⟨by simp [zu, hj], rfl⟩)) (fun b' hb' => ⟨zu_other hb', rfl⟩) hd (fun H1 locs1 hP1 hS1 => k p l e Rm s m args below meth c Q H1 locs1 cells slots cE sE ls X hr h1 h2 h3 h4 hP1 hS1 hl)
theorem ev_putR {z b ci f : Nat} {x : Nat} (hd : decode M.2.1 pc = .ok (.putfield z, 3)) (hq : pc + 3 = q) (hk : zq_kd b = some (.inl ci)) (hbn : b < n) (hci : ci < 9) (hf : f < (zq_cls ci).2.2) (hlk : Cond.fieldLink M.1.cls z ((zq_cls ci).2.1 f).1 ((zq_cls ci).2.1 f).2.1 ((zq_cls ci).2.1 f).2.2.1 ∈ zq_T) (hfin : ((zq_cls ci).2.1 f).2.2.2 = false) (hr0 : zq_isr ci f = true) (hnar : ∀ a : Nat, narrow (zq_ty ci f) (.ref a) = .ref a) (hfit : ∀ a : Nat, fits (zq_ty ci f) (.ref a) = true) (k : zq_E G M d kc ks sc q L st n I (zp P b f (some x)) R) : zq_E G M d kc ks sc pc L (.ref x :: .ref b :: st) n I P R := by
  subst hq
  intro p l e Rm s m args below meth c Q H locs cells slots cE sE ls X hr h1 h2 h3 h4 hP hS hl
  exact zq_Wput (I' := I) (P' := (zp P b f (some x))) (v := .ref (zq_ad G x)) X hP hS hk hbn hci hf hlk (Or.inl hfin) (hnar _) (hfit _) (zq_fs_set hf (by rw [hr0]; simp [zp]; rfl) (fun j hj => ⟨rfl, by simp [zp, hj]⟩)) (fun b' hb' => ⟨rfl, zp_other hb'⟩) hd (fun H1 locs1 hP1 hS1 => k p l e Rm s m args below meth c Q H1 locs1 cells slots cE sE ls X hr h1 h2 h3 h4 hP1 hS1 hl)
theorem ev_putIF {z b ci f : Nat} {x : Int32} (hd : decode M.2.1 pc = .ok (.putfield z, 3)) (hq : pc + 3 = q) (hk : zq_kd b = some (.inl ci)) (hbn : b < n) (hci : ci < 9) (hf : f < (zq_cls ci).2.2) (hlk : Cond.fieldLink M.1.cls z ((zq_cls ci).2.1 f).1 ((zq_cls ci).2.1 f).2.1 ((zq_cls ci).2.1 f).2.2.1 ∈ zq_T) (hfin : ((zq_cls ci).2.1 f).2.2.2 = true) (hsc : sc = false) (hini : M.1.name = "<init>") (hdecl : ((zq_cls ci).2.1 f).1 = M.1.cls) (hr0 : zq_isr ci f = false) (hnar : narrow (zq_ty ci f) (.int x) = .int x) (hfit : fits (zq_ty ci f) (.int x) = true) (k : zq_E G M d kc ks sc q L st n (zu I b f x) P R) : zq_E G M d kc ks sc pc L (.int x :: .ref b :: st) n I P R := by
  subst hq
  intro p l e Rm s m args below meth c Q H locs cells slots cE sE ls X hr h1 h2 h3 h4 hP hS hl
  exact zq_Wput (I' := (zu I b f x)) (P' := P) (v := .int x) X hP hS hk hbn hci hf hlk (Or.inr ⟨hfin, hsc, hini, hdecl⟩) hnar hfit (zq_fs_set hf (by rw [hr0]; simp [zu]) (fun j hj => ⟨by simp [zu, hj], rfl⟩)) (fun b' hb' => ⟨zu_other hb', rfl⟩) hd (fun H1 locs1 hP1 hS1 => k p l e Rm s m args below meth c Q H1 locs1 cells slots cE sE ls X hr h1 h2 h3 h4 hP1 hS1 hl)
theorem ev_putRF {z b ci f : Nat} {x : Nat} (hd : decode M.2.1 pc = .ok (.putfield z, 3)) (hq : pc + 3 = q) (hk : zq_kd b = some (.inl ci)) (hbn : b < n) (hci : ci < 9) (hf : f < (zq_cls ci).2.2) (hlk : Cond.fieldLink M.1.cls z ((zq_cls ci).2.1 f).1 ((zq_cls ci).2.1 f).2.1 ((zq_cls ci).2.1 f).2.2.1 ∈ zq_T) (hfin : ((zq_cls ci).2.1 f).2.2.2 = true) (hsc : sc = false) (hini : M.1.name = "<init>") (hdecl : ((zq_cls ci).2.1 f).1 = M.1.cls) (hr0 : zq_isr ci f = true) (hnar : ∀ a : Nat, narrow (zq_ty ci f) (.ref a) = .ref a) (hfit : ∀ a : Nat, fits (zq_ty ci f) (.ref a) = true) (k : zq_E G M d kc ks sc q L st n I (zp P b f (some x)) R) : zq_E G M d kc ks sc pc L (.ref x :: .ref b :: st) n I P R := by
  subst hq
  intro p l e Rm s m args below meth c Q H locs cells slots cE sE ls X hr h1 h2 h3 h4 hP hS hl
  exact zq_Wput (I' := I) (P' := (zp P b f (some x))) (v := .ref (zq_ad G x)) X hP hS hk hbn hci hf hlk (Or.inr ⟨hfin, hsc, hini, hdecl⟩) (hnar _) (hfit _) (zq_fs_set hf (by rw [hr0]; simp [zp]; rfl) (fun j hj => ⟨rfl, by simp [zp, hj]⟩)) (fun b' hb' => ⟨rfl, zp_other hb'⟩) hd (fun H1 locs1 hP1 hS1 => k p l e Rm s m args below meth c Q H1 locs1 cells slots cE sE ls X hr h1 h2 h3 h4 hP1 hS1 hl)
theorem ev_iald {b N : Nat} {i : Int32} (hd : decode M.2.1 pc = .ok (.iaload, 1)) (hq : pc + 1 = q) (hk : zq_kd b = some (.inr (0, N))) (hbn : b < n) (hi : vp_in i N) (k : zq_E G M d kc ks sc q L (.int (I b i.toNatClampNeg) :: st) n I P R) : zq_E G M d kc ks sc pc L (.int i :: .ref b :: st) n I P R := by
  subst hq
  intro p l e Rm s m args below meth c Q H locs cells slots cE sE ls X hr h1 h2 h3 h4 hP hS hl
  have hws := zq_ws_at (G := G) (I := I) (P := P) hbn
  rw [zq_ent_i hk (by decide)] at hws
  exact va_iald X.1 X.2.1 X.2.2.2.2.2.1.1 hP.2.2 b 0 hws (zq_tysat (by decide)) hi hd (k p l e Rm s m args below meth c Q H locs cells slots cE sE ls X hr h1 h2 h3 h4 hP hS hl)
theorem ev_bald {b N : Nat} {i : Int32} (hd : decode M.2.1 pc = .ok (.baload, 1)) (hq : pc + 1 = q) (hk : zq_kd b = some (.inr (1, N))) (hbn : b < n) (hi : vp_in i N) (k : zq_E G M d kc ks sc q L (.int (I b i.toNatClampNeg) :: st) n I P R) : zq_E G M d kc ks sc pc L (.int i :: .ref b :: st) n I P R := by
  subst hq
  intro p l e Rm s m args below meth c Q H locs cells slots cE sE ls X hr h1 h2 h3 h4 hP hS hl
  have hws := zq_ws_at (G := G) (I := I) (P := P) hbn
  rw [zq_ent_i hk (by decide)] at hws
  exact va_bald X.1 X.2.1 X.2.2.2.2.2.1.1 hP.2.2 b 1 hws (zq_tysat (by decide)) hi hd (k p l e Rm s m args below meth c Q H locs cells slots cE sE ls X hr h1 h2 h3 h4 hP hS hl)
theorem ev_zald {b N : Nat} {i : Int32} (hd : decode M.2.1 pc = .ok (.baload, 1)) (hq : pc + 1 = q) (hk : zq_kd b = some (.inr (2, N))) (hbn : b < n) (hi : vp_in i N) (k : zq_E G M d kc ks sc q L (.int (I b i.toNatClampNeg) :: st) n I P R) : zq_E G M d kc ks sc pc L (.int i :: .ref b :: st) n I P R := by
  subst hq
  intro p l e Rm s m args below meth c Q H locs cells slots cE sE ls X hr h1 h2 h3 h4 hP hS hl
  have hws := zq_ws_at (G := G) (I := I) (P := P) hbn
  rw [zq_ent_i hk (by decide)] at hws
  exact va_zald X.1 X.2.1 X.2.2.2.2.2.1.1 hP.2.2 b 2 hws (zq_tysat (by decide)) hi hd (k p l e Rm s m args below meth c Q H locs cells slots cE sE ls X hr h1 h2 h3 h4 hP hS hl)
theorem ev_iast {b N : Nat} {i x : Int32} (hd : decode M.2.1 pc = .ok (.iastore, 1)) (hq : pc + 1 = q) (hk : zq_kd b = some (.inr (0, N))) (hbn : b < n) (hi : vp_in i N) (k : zq_E G M d kc ks sc q L st n (zu I b i.toNatClampNeg x) P R) : zq_E G M d kc ks sc pc L (.int x :: .int i :: .ref b :: st) n I P R := by
  subst hq
  intro p l e Rm s m args below meth c Q H locs cells slots cE sE ls X hr h1 h2 h3 h4 hP hS hl
  have hws := zq_ws_at (G := G) (I := I) (P := P) hbn
  rw [zq_ent_i hk (by decide)] at hws
  refine W.iast X.1 X.2.1 (hP.2.2 b _ hws) ((X.2.2.2.2.2.1.1.2 0 _ (zq_tysat (by decide))).1 N (fun j => .int (I b j))) (fun q => by cases q) (by show ¬ (i < 0 ∨ (arrV _ _ _).slots.size ≤ _); rw [arrV_size]; exact hi) rfl rfl hd fun H1 e1 z1 oq => ?_
  obtain ⟨hP1, hS1⟩ := zq_Wst (x := x) hP hS hk (by decide) hbn e1 z1 oq
  exact k p l e Rm s m args below meth c Q H1 _ cells slots cE sE ls X hr h1 h2 h3 h4 hP1 hS1 hl
theorem ev_bast {b N : Nat} {i x : Int32} (hd : decode M.2.1 pc = .ok (.bastore, 1)) (hq : pc + 1 = q) (hk : zq_kd b = some (.inr (1, N))) (hbn : b < n) (hi : vp_in i N) (k : zq_E G M d kc ks sc q L st n (zu I b i.toNatClampNeg x.toInt8.toInt32) P R) : zq_E G M d kc ks sc pc L (.int x :: .int i :: .ref b :: st) n I P R := by
  subst hq
  intro p l e Rm s m args below meth c Q H locs cells slots cE sE ls X hr h1 h2 h3 h4 hP hS hl
  have hws := zq_ws_at (G := G) (I := I) (P := P) hbn
  rw [zq_ent_i hk (by decide)] at hws
  refine W.bast X.1 X.2.1 (hP.2.2 b _ hws) ((X.2.2.2.2.2.1.1.2 1 _ (zq_tysat (by decide))).1 N (fun j => .int (I b j))) (fun q => by cases q) (by show ¬ (i < 0 ∨ (arrV _ _ _).slots.size ≤ _); rw [arrV_size]; exact hi) rfl rfl hd fun H1 e1 z1 oq => ?_
  obtain ⟨hP1, hS1⟩ := zq_Wst (x := x.toInt8.toInt32) hP hS hk (by decide) hbn e1 z1 oq
  exact k p l e Rm s m args below meth c Q H1 _ cells slots cE sE ls X hr h1 h2 h3 h4 hP1 hS1 hl
theorem ev_zast {b N : Nat} {i x : Int32} (hd : decode M.2.1 pc = .ok (.bastore, 1)) (hq : pc + 1 = q) (hk : zq_kd b = some (.inr (2, N))) (hbn : b < n) (hi : vp_in i N) (k : zq_E G M d kc ks sc q L st n (zu I b i.toNatClampNeg (x &&& 1)) P R) : zq_E G M d kc ks sc pc L (.int x :: .int i :: .ref b :: st) n I P R := by
  subst hq
  intro p l e Rm s m args below meth c Q H locs cells slots cE sE ls X hr h1 h2 h3 h4 hP hS hl
  have hws := zq_ws_at (G := G) (I := I) (P := P) hbn
  rw [zq_ent_i hk (by decide)] at hws
  refine W.zast X.1 X.2.1 (hP.2.2 b _ hws) ((X.2.2.2.2.2.1.1.2 2 _ (zq_tysat (by decide))).1 N (fun j => .int (I b j))) (fun q => by cases q) (by show ¬ (i < 0 ∨ (arrV _ _ _).slots.size ≤ _); rw [arrV_size]; exact hi) rfl rfl hd fun H1 e1 z1 oq => ?_
  obtain ⟨hP1, hS1⟩ := zq_Wst (x := (x &&& 1)) hP hS hk (by decide) hbn e1 z1 oq
  exact k p l e Rm s m args below meth c Q H1 _ cells slots cE sE ls X hr h1 h2 h3 h4 hP1 hS1 hl
theorem ev_aald {b N a : Nat} {i : Int32} (hd : decode M.2.1 pc = .ok (.aaload, 1)) (hq : pc + 1 = q) (hk : zq_kd b = some (.inr (3, N))) (hbn : b < n) (hi : vp_in i N) (ha : P b i.toNatClampNeg = some a) (k : zq_E G M d kc ks sc q L (.ref a :: st) n I P R) : zq_E G M d kc ks sc pc L (.int i :: .ref b :: st) n I P R := by
  subst hq
  intro p l e Rm s m args below meth c Q H locs cells slots cE sE ls X hr h1 h2 h3 h4 hP hS hl
  have hws := zq_ws_at (G := G) (I := I) (P := P) hbn
  rw [zq_ent_q hk] at hws
  refine va_aldq (C := RX6) X.1 X.2.1 X.2.2.2.2.2.1.1 hP.2.2 b 3 hws (zq_tysat (by decide)) hi hd ?_
  rw [ha]
  exact k p l e Rm s m args below meth c Q H locs cells slots cE sE ls X hr h1 h2 h3 h4 hP hS hl
theorem ev_aast {b N a ci : Nat} {i : Int32} (hd : decode M.2.1 pc = .ok (.aastore, 1)) (hq : pc + 1 = q) (hk : zq_kd b = some (.inr (3, N))) (hbn : b < n) (hi : vp_in i N) (hka : zq_kd a = some (.inl 6)) (han : a < n) (k : zq_E G M d kc ks sc q L st n I (zp P b i.toNatClampNeg (some a)) R) : zq_E G M d kc ks sc pc L (.ref a :: .int i :: .ref b :: st) n I P R := by
  subst hq
  intro p l e Rm s m args below meth c Q H locs cells slots cE sE ls X hr h1 h2 h3 h4 hP hS hl
  have hws := zq_ws_at (G := G) (I := I) (P := P) hbn
  rw [zq_ent_q hk] at hws
  have hwa := zq_ws_at (G := G) (I := I) (P := P) han
  rw [zq_ent_o hka] at hwa
  have hlt : i.toNatClampNeg < N := Nat.not_le.mp fun q => hi (Or.inr q)
  have h0 : ¬ i < 0 := fun q => hi (Or.inl q)
  obtain ⟨r', hr', cellV, g1, g2, g3, -⟩ := hP.2.2 a _ hwa
  have hcls := (X.2.2.2.2.2.1.1.1 6 _ (zq_clat (by decide))).2
  obtain ⟨kA, comp, k1, k2, k3, -⟩ := (X.2.2.2.2.2.1.1.2 3 _ (zq_tysat (by decide))).2
  have hcomp : comp = G.1.1 6 := Option.some.inj (k3.symm.trans hcls.1)
  subst hcomp
  obtain ⟨kC, hkC, -⟩ := hcls.2
  refine W.aast X.1 X.2.1 (hP.2.2 b _ hws) (fun q h => by cases h) (fun h => by cases h) k1 k2 rfl hkC ⟨h0, by show _ < (arrV _ _ _).slots.size; rw [arrV_size]; exact hlt⟩ g1 (fun q h => by rw [g3] at h; cases h) (by rw [g2]; exact hkC) (by rw [g2]; exact va_assign hcls) rfl rfl hd fun H1 e1 z1 oq => ?_
  have hD := zq_D G I P hP.2.1
  have hnew := hP.2.2.set hD hws (e := .inl (G.2.1 3, N, .inr (.inr (.inr (.inr (fun j => (zp P b i.toNatClampNeg (some a) b j).map (zq_ad G))))))) (by
    show H1[zq_ad G b]? = some (vp_cell _ _)
    rw [e1, vp_cell_q, vp_cell_q, arrV_store]
    congr 2
    funext q
    by_cases hq : q = i.toNatClampNeg
    · subst hq; simp [updV, zp, va_rf, zq_tv]
    · simp [updV, zp, hq]) oq
  rw [zq_ws_set (I' := I) (P' := zp P b i.toNatClampNeg (some a)) (zq_ent_q hk) (fun b' hb' => zq_ent_other rfl (zp_other hb'))] at hnew
  exact k p l e Rm s m args below meth c Q H1 _ cells slots cE sE ls X hr h1 h2 h3 h4 ⟨by rw [z1]; exact hP.1, hP.2.1, hnew⟩ (hS.put z1 oq (hD.2 b _ hws)) hl
theorem ev_slen (hd : decode M.2.1 pc = .ok (.arraylength, 1)) (hq : pc + 1 = q) (hsc : sc = true) (k : zq_E G M d kc ks sc q L (.int (Int32.ofNat G.2.2.2.2.1) :: st) n I P R) : zq_E G M d kc ks sc pc L (.ref zq_sc :: st) n I P R := by
  subst hq
  intro p l e Rm s m args below meth c Q H locs cells slots cE sE ls X hr h1 h2 h3 h4 hP hS hl
  obtain ⟨x1, x2, x3⟩ := X.2.2.2.2.2.2.2.2.2.1 hsc
  exact va_slen X.1 X.2.1 x1 x2 (A := zq_A G) (fun h => by have h' : G.2.2.1 ≤ G.2.2.2.1 := h; omega) hS hd (k p l e Rm s m args below meth c Q H locs cells slots cE sE ls X hr h1 h2 h3 h4 hP hS hl)
theorem ev_sald {i : Int32} (hd : decode M.2.1 pc = .ok (.iaload, 1)) (hq : pc + 1 = q) (hsc : sc = true) (hi : vp_in i G.2.2.2.2.1) (k : zq_E G M d kc ks sc q L (.int (G.2.2.2.2.2 i.toNatClampNeg) :: st) n I P R) : zq_E G M d kc ks sc pc L (.int i :: .ref zq_sc :: st) n I P R := by
  subst hq
  intro p l e Rm s m args below meth c Q H locs cells slots cE sE ls X hr h1 h2 h3 h4 hP hS hl
  obtain ⟨x1, x2, x3⟩ := X.2.2.2.2.2.2.2.2.2.1 hsc
  exact va_sld X.1 X.2.1 x1 x2 (A := zq_A G) (fun h => by have h' : G.2.2.1 ≤ G.2.2.2.1 := h; omega) hS hi hd (k p l e Rm s m args below meth c Q H locs cells slots cE sE ls X hr h1 h2 h3 h4 hP hS hl)
theorem ev_iret {x : Int32} {ty : FieldType} (hd : decode M.2.1 pc = .ok (.ireturn, 1)) (hty : M.2.2.2 = some ty) (hnar : narrow ty (.int x) = .int x) (hR : R (some (.int x)) n I P) : zq_E G M d kc ks sc pc L [.int x] n I P R := by
  intro p l e Rm s m args below meth c Q H locs cells slots cE sE ls X hr h1 h2 h3 h4 hP hS hl
  exact W.widen (Nat.le_trans (Nat.le_add_right _ _) h1) (Nat.le_trans (Nat.le_add_right _ _) h2) (hr _ n I P H locs ls pc hR hP hS ⟨hd, ty, hty, hnar⟩)
theorem ev_lret {x : Int64} (hd : decode M.2.1 pc = .ok (.lreturn, 1)) (hty : M.2.2.2 = some .long) (hR : R (some (.long x)) n I P) : zq_E G M d kc ks sc pc L [.long x] n I P R := by
  intro p l e Rm s m args below meth c Q H locs cells slots cE sE ls X hr h1 h2 h3 h4 hP hS hl
  exact W.widen (Nat.le_trans (Nat.le_add_right _ _) h1) (Nat.le_trans (Nat.le_add_right _ _) h2) (hr _ n I P H locs ls pc hR hP hS ⟨hd, hty⟩)
theorem ev_vret (hd : decode M.2.1 pc = .ok (.return_, 1)) (hty : M.2.2.2 = none) (hR : R none n I P) : zq_E G M d kc ks sc pc L [] n I P R := by
  intro p l e Rm s m args below meth c Q H locs cells slots cE sE ls X hr h1 h2 h3 h4 hP hS hl
  exact W.widen (Nat.le_trans (Nat.le_add_right _ _) h1) (Nat.le_trans (Nat.le_add_right _ _) h2) (hr _ n I P H locs ls pc hR hP hS ⟨hd, hty⟩)
end ROWS2
