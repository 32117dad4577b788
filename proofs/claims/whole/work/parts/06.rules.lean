section GOR
variable {G : gG} {M : gM} {R : Room} {K : gK} {n : Nat} {ex : Bool} {h : gH} {k sl pc : Nat} {ls : List (Nat × Value)} {st : List Value}
theorem g_iconst {z : Int} {v : Int32} (hd : decode M.2.1 pc = .ok (.iconst z, 1)) (hv : Int32.ofInt z = v) (kk : g_W G M R K n ex h k sl (pc + 1) ls (.int v :: st)) : g_W G M R K n ex h k sl pc ls st := by
  intro p l e s m args below meth c H locs Ls C hR hS hl
  exact lv_iconst C.1 C.2.2.1 hd hv (kk p l e s m args below meth c H locs Ls C hR hS hl)
theorem g_bipush {z : Int} {v : Int32} (hd : decode M.2.1 pc = .ok (.bipush z, 2)) (hv : (Int8.ofInt z).toInt32 = v) (kk : g_W G M R K n ex h k sl (pc + 2) ls (.int v :: st)) : g_W G M R K n ex h k sl pc ls st := by
  intro p l e s m args below meth c H locs Ls C hR hS hl
  exact lv_bipush C.1 C.2.2.1 hd hv (kk p l e s m args below meth c H locs Ls C hR hS hl)
theorem g_sipush {z : Int} {v : Int32} (hd : decode M.2.1 pc = .ok (.sipush z, 3)) (hv : (Int16.ofInt z).toInt32 = v) (kk : g_W G M R K n ex h k sl (pc + 3) ls (.int v :: st)) : g_W G M R K n ex h k sl pc ls st := by
  intro p l e s m args below meth c H locs Ls C hR hS hl
  exact lv_sipush C.1 C.2.2.1 hd hv (kk p l e s m args below meth c H locs Ls C hR hS hl)
theorem g_lconst {z : Fin 2} {v : Int64} (hd : decode M.2.1 pc = .ok (.lconst z, 1)) (hv : Int64.ofNat (z : Nat) = v) (kk : g_W G M R K n ex h k sl (pc + 1) ls (.long v :: st)) : g_W G M R K n ex h k sl pc ls st := by
  intro p l e s m args below meth c H locs Ls C hR hS hl
  exact lv_lconst C.1 C.2.2.1 hd hv (kk p l e s m args below meth c H locs Ls C hR hS hl)
theorem g_iload_n {z : Fin 4} {i : Nat} {x : Int32} (hd : decode M.2.1 pc = .ok (.iload_n z, 1)) (hi : (z : Nat) = i) (hg : g_get ls i = some (.int x)) (kk : g_W G M R K n ex h k sl (pc + 1) ls (.int x :: st)) : g_W G M R K n ex h k sl pc ls st := by
  intro p l e s m args below meth c H locs Ls C hR hS hl
  exact lv_iload_n C.1 C.2.2.1 hd hi (g_at hl hg) (kk p l e s m args below meth c H locs Ls C hR hS hl)
theorem g_iload {i : Nat} {x : Int32} (hd : decode M.2.1 pc = .ok (.iload i, 2)) (hg : g_get ls i = some (.int x)) (kk : g_W G M R K n ex h k sl (pc + 2) ls (.int x :: st)) : g_W G M R K n ex h k sl pc ls st := by
  intro p l e s m args below meth c H locs Ls C hR hS hl
  exact lv_iload C.1 C.2.2.1 hd (g_at hl hg) (kk p l e s m args below meth c H locs Ls C hR hS hl)
theorem g_lload_n {z : Fin 4} {i : Nat} {x : Int64} (hd : decode M.2.1 pc = .ok (.lload_n z, 1)) (hi : (z : Nat) = i) (hg : g_get ls i = some (.long x)) (kk : g_W G M R K n ex h k sl (pc + 1) ls (.long x :: st)) : g_W G M R K n ex h k sl pc ls st := by
  intro p l e s m args below meth c H locs Ls C hR hS hl
  exact lv_lload_n C.1 C.2.2.1 hd hi (g_at hl hg) (kk p l e s m args below meth c H locs Ls C hR hS hl)
theorem g_lload {i : Nat} {x : Int64} (hd : decode M.2.1 pc = .ok (.lload i, 2)) (hg : g_get ls i = some (.long x)) (kk : g_W G M R K n ex h k sl (pc + 2) ls (.long x :: st)) : g_W G M R K n ex h k sl pc ls st := by
  intro p l e s m args below meth c H locs Ls C hR hS hl
  exact lv_lload C.1 C.2.2.1 hd (g_at hl hg) (kk p l e s m args below meth c H locs Ls C hR hS hl)
theorem g_aload_n {z : Fin 4} {i : Nat} {x : Nat} (hd : decode M.2.1 pc = .ok (.aload_n z, 1)) (hi : (z : Nat) = i) (hg : g_get ls i = some (.ref x)) (kk : g_W G M R K n ex h k sl (pc + 1) ls (.ref x :: st)) : g_W G M R K n ex h k sl pc ls st := by
  intro p l e s m args below meth c H locs Ls C hR hS hl
  exact lv_aload_n C.1 C.2.2.1 hd hi (g_at hl hg) (kk p l e s m args below meth c H locs Ls C hR hS hl)
theorem g_aload {i : Nat} {x : Nat} (hd : decode M.2.1 pc = .ok (.aload i, 2)) (hg : g_get ls i = some (.ref x)) (kk : g_W G M R K n ex h k sl (pc + 2) ls (.ref x :: st)) : g_W G M R K n ex h k sl pc ls st := by
  intro p l e s m args below meth c H locs Ls C hR hS hl
  exact lv_aload C.1 C.2.2.1 hd (g_at hl hg) (kk p l e s m args below meth c H locs Ls C hR hS hl)
theorem g_aload_nS {z : Fin 4} {i : Nat} {x : UInt32} (hd : decode M.2.1 pc = .ok (.aload_n z, 1)) (hi : (z : Nat) = i) (hg : g_get ls i = some (.float x)) (kk : g_W G M R K n ex h k sl (pc + 1) ls (.float x :: st)) : g_W G M R K n ex h k sl pc ls st := by
  intro p l e s m args below meth c H locs Ls C hR hS hl
  exact lv_aload_n C.1 C.2.2.1 hd hi (g_at hl hg) (kk p l e s m args below meth c H locs Ls C hR hS hl)
theorem g_aloadS {i : Nat} {x : UInt32} (hd : decode M.2.1 pc = .ok (.aload i, 2)) (hg : g_get ls i = some (.float x)) (kk : g_W G M R K n ex h k sl (pc + 2) ls (.float x :: st)) : g_W G M R K n ex h k sl pc ls st := by
  intro p l e s m args below meth c H locs Ls C hR hS hl
  exact lv_aload C.1 C.2.2.1 hd (g_at hl hg) (kk p l e s m args below meth c H locs Ls C hR hS hl)
theorem g_istore_n {z : Fin 4} {i : Nat} {x : Int32} {ls' : List (Nat × Value)} (hd : decode M.2.1 pc = .ok (.istore_n z, 1)) (hi : (z : Nat) = i) (hn : i < M.2.2.1) (hq : g_s1 ls i (.int x) = ls') (kk : g_W G M R K n ex h k sl (pc + 1) ls' st) : g_W G M R K n ex h k sl pc ls (.int x :: st) := by
  intro p l e s m args below meth c H locs Ls C hR hS hl
  subst hq
  exact lv_istore_n C.1 C.2.2.1 hd hi hl hn (g_ls1 (v := .int x)) (fun Ls hl => kk p l e s m args below meth c H locs Ls C hR hS hl)
theorem g_istore {i : Nat} {x : Int32} {ls' : List (Nat × Value)} (hd : decode M.2.1 pc = .ok (.istore i, 2)) (hn : i < M.2.2.1) (hq : g_s1 ls i (.int x) = ls') (kk : g_W G M R K n ex h k sl (pc + 2) ls' st) : g_W G M R K n ex h k sl pc ls (.int x :: st) := by
  intro p l e s m args below meth c H locs Ls C hR hS hl
  subst hq
  exact lv_istore C.1 C.2.2.1 hd hl hn (g_ls1 (v := .int x)) (fun Ls hl => kk p l e s m args below meth c H locs Ls C hR hS hl)
theorem g_lstore_n {z : Fin 4} {i : Nat} {x : Int64} {ls' : List (Nat × Value)} (hd : decode M.2.1 pc = .ok (.lstore_n z, 1)) (hi : (z : Nat) = i) (hn : i + 1 < M.2.2.1) (hq : g_s2 ls i (.long x) = ls') (kk : g_W G M R K n ex h k sl (pc + 1) ls' st) : g_W G M R K n ex h k sl pc ls (.long x :: st) := by
  intro p l e s m args below meth c H locs Ls C hR hS hl
  subst hq
  exact lv_lstore_n C.1 C.2.2.1 hd hi hl hn (g_ls2 (v := .long x)) (fun Ls hl => kk p l e s m args below meth c H locs Ls C hR hS hl)
theorem g_lstore {i : Nat} {x : Int64} {ls' : List (Nat × Value)} (hd : decode M.2.1 pc = .ok (.lstore i, 2)) (hn : i + 1 < M.2.2.1) (hq : g_s2 ls i (.long x) = ls') (kk : g_W G M R K n ex h k sl (pc + 2) ls' st) : g_W G M R K n ex h k sl pc ls (.long x :: st) := by
  intro p l e s m args below meth c H locs Ls C hR hS hl
  subst hq
  exact lv_lstore C.1 C.2.2.1 hd hl hn (g_ls2 (v := .long x)) (fun Ls hl => kk p l e s m args below meth c H locs Ls C hR hS hl)
theorem g_astore_n {z : Fin 4} {i : Nat} {x : Nat} {ls' : List (Nat × Value)} (hd : decode M.2.1 pc = .ok (.astore_n z, 1)) (hi : (z : Nat) = i) (hn : i < M.2.2.1) (hq : g_s1 ls i (.ref x) = ls') (kk : g_W G M R K n ex h k sl (pc + 1) ls' st) : g_W G M R K n ex h k sl pc ls (.ref x :: st) := by
  intro p l e s m args below meth c H locs Ls C hR hS hl
  subst hq
  exact lv_astore_n C.1 C.2.2.1 hd hi hl hn (g_ls1 (v := .ref x)) (fun Ls hl => kk p l e s m args below meth c H locs Ls C hR hS hl)
theorem g_astore {i : Nat} {x : Nat} {ls' : List (Nat × Value)} (hd : decode M.2.1 pc = .ok (.astore i, 2)) (hn : i < M.2.2.1) (hq : g_s1 ls i (.ref x) = ls') (kk : g_W G M R K n ex h k sl (pc + 2) ls' st) : g_W G M R K n ex h k sl pc ls (.ref x :: st) := by
  intro p l e s m args below meth c H locs Ls C hR hS hl
  subst hq
  exact lv_astore C.1 C.2.2.1 hd hl hn (g_ls1 (v := .ref x)) (fun Ls hl => kk p l e s m args below meth c H locs Ls C hR hS hl)
theorem g_iinc {i : Nat} {z : Int} {x v : Int32} {ls' : List (Nat × Value)} (hd : decode M.2.1 pc = .ok (.iinc i z, 3)) (hg : g_get ls i = some (.int x)) (hv : x + Int32.ofInt z = v) (hn : i < M.2.2.1) (hq : g_s1 ls i (.int v) = ls') (kk : g_W G M R K n ex h k sl (pc + 3) ls' st) : g_W G M R K n ex h k sl pc ls st := by
  intro p l e s m args below meth c H locs Ls C hR hS hl
  subst hq
  obtain ⟨j, hj⟩ := List.getElem?_of_mem (g_get_mem hg)
  exact lv_iinc C.1 C.2.2.1 hd hl (k := j) (by show (g_ls G ls)[j]? = some (i, g_v G (.int x)); unfold g_ls; rw [List.getElem?_map, hj]; rfl) hv hn (g_ls1 (v := .int v)) (fun Ls hl => kk p l e s m args below meth c H locs Ls C hR hS hl)
theorem g_iadd {x y : Int32} (hd : decode M.2.1 pc = .ok (.iadd, 1)) (kk : g_W G M R K n ex h k sl (pc + 1) ls (.int (x + y) :: st)) : g_W G M R K n ex h k sl pc ls (.int y :: .int x :: st) := by
  intro p l e s m args below meth c H locs Ls C hR hS hl
  exact lv_iadd C.1 C.2.2.1 hd (kk p l e s m args below meth c H locs Ls C hR hS hl)
theorem g_isub {x y : Int32} (hd : decode M.2.1 pc = .ok (.isub, 1)) (kk : g_W G M R K n ex h k sl (pc + 1) ls (.int (x - y) :: st)) : g_W G M R K n ex h k sl pc ls (.int y :: .int x :: st) := by
  intro p l e s m args below meth c H locs Ls C hR hS hl
  exact lv_isub C.1 C.2.2.1 hd (kk p l e s m args below meth c H locs Ls C hR hS hl)
theorem g_imul {x y : Int32} (hd : decode M.2.1 pc = .ok (.imul, 1)) (kk : g_W G M R K n ex h k sl (pc + 1) ls (.int (x * y) :: st)) : g_W G M R K n ex h k sl pc ls (.int y :: .int x :: st) := by
  intro p l e s m args below meth c H locs Ls C hR hS hl
  exact lv_imul C.1 C.2.2.1 hd (kk p l e s m args below meth c H locs Ls C hR hS hl)
theorem g_iand {x y : Int32} (hd : decode M.2.1 pc = .ok (.iand, 1)) (kk : g_W G M R K n ex h k sl (pc + 1) ls (.int (x &&& y) :: st)) : g_W G M R K n ex h k sl pc ls (.int y :: .int x :: st) := by
  intro p l e s m args below meth c H locs Ls C hR hS hl
  exact lv_iand C.1 C.2.2.1 hd (kk p l e s m args below meth c H locs Ls C hR hS hl)
theorem g_ior {x y : Int32} (hd : decode M.2.1 pc = .ok (.ior, 1)) (kk : g_W G M R K n ex h k sl (pc + 1) ls (.int (x ||| y) :: st)) : g_W G M R K n ex h k sl pc ls (.int y :: .int x :: st) := by
  intro p l e s m args below meth c H locs Ls C hR hS hl
  exact lv_ior C.1 C.2.2.1 hd (kk p l e s m args below meth c H locs Ls C hR hS hl)
theorem g_ixor {x y : Int32} (hd : decode M.2.1 pc = .ok (.ixor, 1)) (kk : g_W G M R K n ex h k sl (pc + 1) ls (.int (x ^^^ y) :: st)) : g_W G M R K n ex h k sl pc ls (.int y :: .int x :: st) := by
  intro p l e s m args below meth c H locs Ls C hR hS hl
  exact lv_ixor C.1 C.2.2.1 hd (kk p l e s m args below meth c H locs Ls C hR hS hl)
theorem g_ishl {x y : Int32} (hd : decode M.2.1 pc = .ok (.ishl, 1)) (kk : g_W G M R K n ex h k sl (pc + 1) ls (.int (x <<< (y &&& 31)) :: st)) : g_W G M R K n ex h k sl pc ls (.int y :: .int x :: st) := by
  intro p l e s m args below meth c H locs Ls C hR hS hl
  exact lv_ishl C.1 C.2.2.1 hd (kk p l e s m args below meth c H locs Ls C hR hS hl)
theorem g_ishr {x y : Int32} (hd : decode M.2.1 pc = .ok (.ishr, 1)) (kk : g_W G M R K n ex h k sl (pc + 1) ls (.int (x >>> (y &&& 31)) :: st)) : g_W G M R K n ex h k sl pc ls (.int y :: .int x :: st) := by
  intro p l e s m args below meth c H locs Ls C hR hS hl
  exact lv_ishr C.1 C.2.2.1 hd (kk p l e s m args below meth c H locs Ls C hR hS hl)
theorem g_idiv {x y : Int32} (hd : decode M.2.1 pc = .ok (.idiv, 1)) (hne : ¬ y = 0) (kk : g_W G M R K n ex h k sl (pc + 1) ls (.int (x / y) :: st)) : g_W G M R K n ex h k sl pc ls (.int y :: .int x :: st) := by
  intro p l e s m args below meth c H locs Ls C hR hS hl
  exact lv_idiv C.1 C.2.2.1 hd hne (kk p l e s m args below meth c H locs Ls C hR hS hl)
theorem g_irem {x y : Int32} (hd : decode M.2.1 pc = .ok (.irem, 1)) (hne : ¬ y = 0) (kk : g_W G M R K n ex h k sl (pc + 1) ls (.int (x - x / y * y) :: st)) : g_W G M R K n ex h k sl pc ls (.int y :: .int x :: st) := by
  intro p l e s m args below meth c H locs Ls C hR hS hl
  exact lv_irem C.1 C.2.2.1 hd hne (kk p l e s m args below meth c H locs Ls C hR hS hl)
theorem g_iushr {x y : Int32} (hd : decode M.2.1 pc = .ok (.iushr, 1)) (kk : g_W G M R K n ex h k sl (pc + 1) ls (.int ((x.toUInt32 >>> (y.toUInt32 &&& Int32.toUInt32 31)).toInt32) :: st)) : g_W G M R K n ex h k sl pc ls (.int y :: .int x :: st) := by
  intro p l e s m args below meth c H locs Ls C hR hS hl
  exact lv_iushr C.1 C.2.2.1 hd rfl (kk p l e s m args below meth c H locs Ls C hR hS hl)
theorem g_ladd {x y : Int64} (hd : decode M.2.1 pc = .ok (.ladd, 1)) (kk : g_W G M R K n ex h k sl (pc + 1) ls (.long (x + y) :: st)) : g_W G M R K n ex h k sl pc ls (.long y :: .long x :: st) := by
  intro p l e s m args below meth c H locs Ls C hR hS hl
  exact lv_ladd C.1 C.2.2.1 hd (kk p l e s m args below meth c H locs Ls C hR hS hl)
theorem g_lsub {x y : Int64} (hd : decode M.2.1 pc = .ok (.lsub, 1)) (kk : g_W G M R K n ex h k sl (pc + 1) ls (.long (x - y) :: st)) : g_W G M R K n ex h k sl pc ls (.long y :: .long x :: st) := by
  intro p l e s m args below meth c H locs Ls C hR hS hl
  exact lv_lsub C.1 C.2.2.1 hd (kk p l e s m args below meth c H locs Ls C hR hS hl)
theorem g_lmul {x y : Int64} (hd : decode M.2.1 pc = .ok (.lmul, 1)) (kk : g_W G M R K n ex h k sl (pc + 1) ls (.long (x * y) :: st)) : g_W G M R K n ex h k sl pc ls (.long y :: .long x :: st) := by
  intro p l e s m args below meth c H locs Ls C hR hS hl
  exact lv_lmul C.1 C.2.2.1 hd (kk p l e s m args below meth c H locs Ls C hR hS hl)
theorem g_land {x y : Int64} (hd : decode M.2.1 pc = .ok (.land, 1)) (kk : g_W G M R K n ex h k sl (pc + 1) ls (.long (x &&& y) :: st)) : g_W G M R K n ex h k sl pc ls (.long y :: .long x :: st) := by
  intro p l e s m args below meth c H locs Ls C hR hS hl
  exact lv_land C.1 C.2.2.1 hd (kk p l e s m args below meth c H locs Ls C hR hS hl)
theorem g_lor {x y : Int64} (hd : decode M.2.1 pc = .ok (.lor, 1)) (kk : g_W G M R K n ex h k sl (pc + 1) ls (.long (x ||| y) :: st)) : g_W G M R K n ex h k sl pc ls (.long y :: .long x :: st) := by
  intro p l e s m args below meth c H locs Ls C hR hS hl
  exact lv_lor C.1 C.2.2.1 hd (kk p l e s m args below meth c H locs Ls C hR hS hl)
theorem g_lxor {x y : Int64} (hd : decode M.2.1 pc = .ok (.lxor, 1)) (kk : g_W G M R K n ex h k sl (pc + 1) ls (.long (x ^^^ y) :: st)) : g_W G M R K n ex h k sl pc ls (.long y :: .long x :: st) := by
  intro p l e s m args below meth c H locs Ls C hR hS hl
  exact lv_lxor C.1 C.2.2.1 hd (kk p l e s m args below meth c H locs Ls C hR hS hl)
theorem g_ldiv {x y : Int64} (hd : decode M.2.1 pc = .ok (.ldiv, 1)) (hne : ¬ y = 0) (kk : g_W G M R K n ex h k sl (pc + 1) ls (.long (x / y) :: st)) : g_W G M R K n ex h k sl pc ls (.long y :: .long x :: st) := by
  intro p l e s m args below meth c H locs Ls C hR hS hl
  exact lv_ldiv C.1 C.2.2.1 hd hne (kk p l e s m args below meth c H locs Ls C hR hS hl)
theorem g_lrem {x y : Int64} (hd : decode M.2.1 pc = .ok (.lrem, 1)) (hne : ¬ y = 0) (kk : g_W G M R K n ex h k sl (pc + 1) ls (.long (x - x / y * y) :: st)) : g_W G M R K n ex h k sl pc ls (.long y :: .long x :: st) := by
  intro p l e s m args below meth c H locs Ls C hR hS hl
  exact lv_lrem C.1 C.2.2.1 hd hne (kk p l e s m args below meth c H locs Ls C hR hS hl)
theorem g_lushr {x : Int64} {y : Int32} (hd : decode M.2.1 pc = .ok (.lushr, 1)) (kk : g_W G M R K n ex h k sl (pc + 1) ls (.long ((x.toUInt64 >>> (y.toInt64.toUInt64 &&& Int64.toUInt64 63)).toInt64) :: st)) : g_W G M R K n ex h k sl pc ls (.int y :: .long x :: st) := by
  intro p l e s m args below meth c H locs Ls C hR hS hl
  exact lv_lushr C.1 C.2.2.1 hd rfl (kk p l e s m args below meth c H locs Ls C hR hS hl)
theorem g_lshl {x : Int64} {y : Int32} (hd : decode M.2.1 pc = .ok (.lshl, 1)) (kk : g_W G M R K n ex h k sl (pc + 1) ls (.long (x <<< (y.toInt64 &&& 63)) :: st)) : g_W G M R K n ex h k sl pc ls (.int y :: .long x :: st) := by
  intro p l e s m args below meth c H locs Ls C hR hS hl
  exact lv_lshl C.1 C.2.2.1 hd rfl (kk p l e s m args below meth c H locs Ls C hR hS hl)
theorem g_lshr {x : Int64} {y : Int32} (hd : decode M.2.1 pc = .ok (.lshr, 1)) (kk : g_W G M R K n ex h k sl (pc + 1) ls (.long (x >>> (y.toInt64 &&& 63)) :: st)) : g_W G M R K n ex h k sl pc ls (.int y :: .long x :: st) := by
  intro p l e s m args below meth c H locs Ls C hR hS hl
  exact lv_lshr C.1 C.2.2.1 hd rfl (kk p l e s m args below meth c H locs Ls C hR hS hl)
theorem g_ineg {x : Int32} (hd : decode M.2.1 pc = .ok (.ineg, 1)) (kk : g_W G M R K n ex h k sl (pc + 1) ls (.int (-x) :: st)) : g_W G M R K n ex h k sl pc ls (.int x :: st) := by
  intro p l e s m args below meth c H locs Ls C hR hS hl
  exact lv_ineg C.1 C.2.2.1 hd (kk p l e s m args below meth c H locs Ls C hR hS hl)
theorem g_lneg {x : Int64} (hd : decode M.2.1 pc = .ok (.lneg, 1)) (kk : g_W G M R K n ex h k sl (pc + 1) ls (.long (-x) :: st)) : g_W G M R K n ex h k sl pc ls (.long x :: st) := by
  intro p l e s m args below meth c H locs Ls C hR hS hl
  exact lv_lneg C.1 C.2.2.1 hd (kk p l e s m args below meth c H locs Ls C hR hS hl)
theorem g_i2l {x : Int32} (hd : decode M.2.1 pc = .ok (.i2l, 1)) (kk : g_W G M R K n ex h k sl (pc + 1) ls (.long x.toInt64 :: st)) : g_W G M R K n ex h k sl pc ls (.int x :: st) := by
  intro p l e s m args below meth c H locs Ls C hR hS hl
  exact lv_i2l C.1 C.2.2.1 hd rfl (kk p l e s m args below meth c H locs Ls C hR hS hl)
theorem g_l2i {x : Int64} (hd : decode M.2.1 pc = .ok (.l2i, 1)) (kk : g_W G M R K n ex h k sl (pc + 1) ls (.int x.toInt32 :: st)) : g_W G M R K n ex h k sl pc ls (.long x :: st) := by
  intro p l e s m args below meth c H locs Ls C hR hS hl
  exact lv_l2i C.1 C.2.2.1 hd rfl (kk p l e s m args below meth c H locs Ls C hR hS hl)
theorem g_i2b {x : Int32} (hd : decode M.2.1 pc = .ok (.i2b, 1)) (kk : g_W G M R K n ex h k sl (pc + 1) ls (.int x.toInt8.toInt32 :: st)) : g_W G M R K n ex h k sl pc ls (.int x :: st) := by
  intro p l e s m args below meth c H locs Ls C hR hS hl
  exact lv_i2b C.1 C.2.2.1 hd rfl (kk p l e s m args below meth c H locs Ls C hR hS hl)
theorem g_lcmp {x y : Int64} (hd : decode M.2.1 pc = .ok (.lcmp, 1)) (kk : g_W G M R K n ex h k sl (pc + 1) ls (.int (lg_cmp x y) :: st)) : g_W G M R K n ex h k sl pc ls (.long y :: .long x :: st) := by
  intro p l e s m args below meth c H locs Ls C hR hS hl
  exact W.lcmp C.1 C.2.2.1 hd (kk p l e s m args below meth c H locs Ls C hR hS hl)
theorem g_dup {v : Value} (hd : decode M.2.1 pc = .ok (.dup, 1)) (hv : v.category = 1) (kk : g_W G M R K n ex h k sl (pc + 1) ls (v :: v :: st)) : g_W G M R K n ex h k sl pc ls (v :: st) := by
  intro p l e s m args below meth c H locs Ls C hR hS hl
  exact lv_dup C.1 C.2.2.1 hd (by rw [g_cat]; exact hv) (kk p l e s m args below meth c H locs Ls C hR hS hl)
theorem g_pop {v : Value} (hd : decode M.2.1 pc = .ok (.pop, 1)) (hv : v.category = 1) (kk : g_W G M R K n ex h k sl (pc + 1) ls st) : g_W G M R K n ex h k sl pc ls (v :: st) := by
  intro p l e s m args below meth c H locs Ls C hR hS hl
  exact lv_pop C.1 C.2.2.1 hd (by rw [g_cat]; exact hv) (kk p l e s m args below meth c H locs Ls C hR hS hl)
theorem g_dup_x1 {v u : Value} (hd : decode M.2.1 pc = .ok (.dup_x1, 1)) (hv : v.category = 1) (hu : u.category = 1) (kk : g_W G M R K n ex h k sl (pc + 1) ls (v :: u :: v :: st)) : g_W G M R K n ex h k sl pc ls (v :: u :: st) := by
  intro p l e s m args below meth c H locs Ls C hR hS hl
  exact lv_dup_x1 C.1 C.2.2.1 hd (by rw [g_cat]; exact hv) (by rw [g_cat]; exact hu) (kk p l e s m args below meth c H locs Ls C hR hS hl)
theorem g_dup2_11 {v u : Value} (hd : decode M.2.1 pc = .ok (.dup2, 1)) (hv : v.category = 1) (hu : u.category = 1) (kk : g_W G M R K n ex h k sl (pc + 1) ls (v :: u :: v :: u :: st)) : g_W G M R K n ex h k sl pc ls (v :: u :: st) := by
  intro p l e s m args below meth c H locs Ls C hR hS hl
  exact lv_dup2_11 C.1 C.2.2.1 hd (by rw [g_cat]; exact hv) (by rw [g_cat]; exact hu) (kk p l e s m args below meth c H locs Ls C hR hS hl)
theorem g_dup2_2 {v : Value} (hd : decode M.2.1 pc = .ok (.dup2, 1)) (hv : v.category = 2) (kk : g_W G M R K n ex h k sl (pc + 1) ls (v :: v :: st)) : g_W G M R K n ex h k sl pc ls (v :: st) := by
  intro p l e s m args below meth c H locs Ls C hR hS hl
  exact lv_dup2_2 C.1 C.2.2.1 hd (by rw [g_cat]; exact hv) (kk p l e s m args below meth c H locs Ls C hR hS hl)
theorem g_if_eq {x : Int32} {off : Int} {tgt : Nat} (hd : decode M.2.1 pc = .ok (.ifCond .eq off, 3)) (ht : (pc : Int) + off = (tgt : Int)) (kt : (x = 0) → g_W G M R K n ex h k sl tgt ls st) (kf : ¬ (x = 0) → g_W G M R K n ex h k sl (pc + 3) ls st) : g_W G M R K n ex h k sl pc ls (.int x :: st) := by
  intro p l e s m args below meth c H locs Ls C hR hS hl
  exact lv_if_eq C.1 C.2.2.1 hd ht (fun z => kt z p l e s m args below meth c H locs Ls C hR hS hl) (fun z => kf z p l e s m args below meth c H locs Ls C hR hS hl)
theorem g_icmp_eq {x y : Int32} {off : Int} {tgt : Nat} (hd : decode M.2.1 pc = .ok (.if_icmp .eq off, 3)) (ht : (pc : Int) + off = (tgt : Int)) (kt : (x = y) → g_W G M R K n ex h k sl tgt ls st) (kf : ¬ (x = y) → g_W G M R K n ex h k sl (pc + 3) ls st) : g_W G M R K n ex h k sl pc ls (.int y :: .int x :: st) := by
  intro p l e s m args below meth c H locs Ls C hR hS hl
  exact lv_icmp_eq C.1 C.2.2.1 hd ht (fun z => kt z p l e s m args below meth c H locs Ls C hR hS hl) (fun z => kf z p l e s m args below meth c H locs Ls C hR hS hl)
theorem g_if_ne {x : Int32} {off : Int} {tgt : Nat} (hd : decode M.2.1 pc = .ok (.ifCond .ne off, 3)) (ht : (pc : Int) + off = (tgt : Int)) (kt : ¬ x = 0 → g_W G M R K n ex h k sl tgt ls st) (kf : x = 0 → g_W G M R K n ex h k sl (pc + 3) ls st) : g_W G M R K n ex h k sl pc ls (.int x :: st) := by
  intro p l e s m args below meth c H locs Ls C hR hS hl
  exact lv_if_ne C.1 C.2.2.1 hd ht (fun z => kt z p l e s m args below meth c H locs Ls C hR hS hl) (fun z => kf z p l e s m args below meth c H locs Ls C hR hS hl)
theorem g_icmp_ne {x y : Int32} {off : Int} {tgt : Nat} (hd : decode M.2.1 pc = .ok (.if_icmp .ne off, 3)) (ht : (pc : Int) + off = (tgt : Int)) (kt : ¬ x = y → g_W G M R K n ex h k sl tgt ls st) (kf : x = y → g_W G M R K n ex h k sl (pc + 3) ls st) : g_W G M R K n ex h k sl pc ls (.int y :: .int x :: st) := by
  intro p l e s m args below meth c H locs Ls C hR hS hl
  exact lv_icmp_ne C.1 C.2.2.1 hd ht (fun z => kt z p l e s m args below meth c H locs Ls C hR hS hl) (fun z => kf z p l e s m args below meth c H locs Ls C hR hS hl)
theorem g_if_lt {x : Int32} {off : Int} {tgt : Nat} (hd : decode M.2.1 pc = .ok (.ifCond .lt off, 3)) (ht : (pc : Int) + off = (tgt : Int)) (kt : (x < 0) → g_W G M R K n ex h k sl tgt ls st) (kf : ¬ (x < 0) → g_W G M R K n ex h k sl (pc + 3) ls st) : g_W G M R K n ex h k sl pc ls (.int x :: st) := by
  intro p l e s m args below meth c H locs Ls C hR hS hl
  exact lv_if_lt C.1 C.2.2.1 hd ht (fun z => kt z p l e s m args below meth c H locs Ls C hR hS hl) (fun z => kf z p l e s m args below meth c H locs Ls C hR hS hl)
theorem g_icmp_lt {x y : Int32} {off : Int} {tgt : Nat} (hd : decode M.2.1 pc = .ok (.if_icmp .lt off, 3)) (ht : (pc : Int) + off = (tgt : Int)) (kt : (x < y) → g_W G M R K n ex h k sl tgt ls st) (kf : ¬ (x < y) → g_W G M R K n ex h k sl (pc + 3) ls st) : g_W G M R K n ex h k sl pc ls (.int y :: .int x :: st) := by
  intro p l e s m args below meth c H locs Ls C hR hS hl
  exact lv_icmp_lt C.1 C.2.2.1 hd ht (fun z => kt z p l e s m args below meth c H locs Ls C hR hS hl) (fun z => kf z p l e s m args below meth c H locs Ls C hR hS hl)
theorem g_if_ge {x : Int32} {off : Int} {tgt : Nat} (hd : decode M.2.1 pc = .ok (.ifCond .ge off, 3)) (ht : (pc : Int) + off = (tgt : Int)) (kt : (0 ≤ x) → g_W G M R K n ex h k sl tgt ls st) (kf : ¬ (0 ≤ x) → g_W G M R K n ex h k sl (pc + 3) ls st) : g_W G M R K n ex h k sl pc ls (.int x :: st) := by
  intro p l e s m args below meth c H locs Ls C hR hS hl
  exact lv_if_ge C.1 C.2.2.1 hd ht (fun z => kt z p l e s m args below meth c H locs Ls C hR hS hl) (fun z => kf z p l e s m args below meth c H locs Ls C hR hS hl)
theorem g_icmp_ge {x y : Int32} {off : Int} {tgt : Nat} (hd : decode M.2.1 pc = .ok (.if_icmp .ge off, 3)) (ht : (pc : Int) + off = (tgt : Int)) (kt : (y ≤ x) → g_W G M R K n ex h k sl tgt ls st) (kf : ¬ (y ≤ x) → g_W G M R K n ex h k sl (pc + 3) ls st) : g_W G M R K n ex h k sl pc ls (.int y :: .int x :: st) := by
  intro p l e s m args below meth c H locs Ls C hR hS hl
  exact lv_icmp_ge C.1 C.2.2.1 hd ht (fun z => kt z p l e s m args below meth c H locs Ls C hR hS hl) (fun z => kf z p l e s m args below meth c H locs Ls C hR hS hl)
theorem g_if_gt {x : Int32} {off : Int} {tgt : Nat} (hd : decode M.2.1 pc = .ok (.ifCond .gt off, 3)) (ht : (pc : Int) + off = (tgt : Int)) (kt : (0 < x) → g_W G M R K n ex h k sl tgt ls st) (kf : ¬ (0 < x) → g_W G M R K n ex h k sl (pc + 3) ls st) : g_W G M R K n ex h k sl pc ls (.int x :: st) := by
  intro p l e s m args below meth c H locs Ls C hR hS hl
  exact lv_if_gt C.1 C.2.2.1 hd ht (fun z => kt z p l e s m args below meth c H locs Ls C hR hS hl) (fun z => kf z p l e s m args below meth c H locs Ls C hR hS hl)
theorem g_icmp_gt {x y : Int32} {off : Int} {tgt : Nat} (hd : decode M.2.1 pc = .ok (.if_icmp .gt off, 3)) (ht : (pc : Int) + off = (tgt : Int)) (kt : (y < x) → g_W G M R K n ex h k sl tgt ls st) (kf : ¬ (y < x) → g_W G M R K n ex h k sl (pc + 3) ls st) : g_W G M R K n ex h k sl pc ls (.int y :: .int x :: st) := by
  intro p l e s m args below meth c H locs Ls C hR hS hl
  exact lv_icmp_gt C.1 C.2.2.1 hd ht (fun z => kt z p l e s m args below meth c H locs Ls C hR hS hl) (fun z => kf z p l e s m args below meth c H locs Ls C hR hS hl)
theorem g_if_le {x : Int32} {off : Int} {tgt : Nat} (hd : decode M.2.1 pc = .ok (.ifCond .le off, 3)) (ht : (pc : Int) + off = (tgt : Int)) (kt : (x ≤ 0) → g_W G M R K n ex h k sl tgt ls st) (kf : ¬ (x ≤ 0) → g_W G M R K n ex h k sl (pc + 3) ls st) : g_W G M R K n ex h k sl pc ls (.int x :: st) := by
  intro p l e s m args below meth c H locs Ls C hR hS hl
  exact lv_if_le C.1 C.2.2.1 hd ht (fun z => kt z p l e s m args below meth c H locs Ls C hR hS hl) (fun z => kf z p l e s m args below meth c H locs Ls C hR hS hl)
theorem g_icmp_le {x y : Int32} {off : Int} {tgt : Nat} (hd : decode M.2.1 pc = .ok (.if_icmp .le off, 3)) (ht : (pc : Int) + off = (tgt : Int)) (kt : (x ≤ y) → g_W G M R K n ex h k sl tgt ls st) (kf : ¬ (x ≤ y) → g_W G M R K n ex h k sl (pc + 3) ls st) : g_W G M R K n ex h k sl pc ls (.int y :: .int x :: st) := by
  intro p l e s m args below meth c H locs Ls C hR hS hl
  exact lv_icmp_le C.1 C.2.2.1 hd ht (fun z => kt z p l e s m args below meth c H locs Ls C hR hS hl) (fun z => kf z p l e s m args below meth c H locs Ls C hR hS hl)
theorem g_goto {off : Int} {tgt : Nat} (hd : decode M.2.1 pc = .ok (.goto off, 3)) (ht : (pc : Int) + off = (tgt : Int)) (kk : g_W G M R K n ex h k sl tgt ls st) : g_W G M R K n ex h k sl pc ls st := by
  intro p l e s m args below meth c H locs Ls C hR hS hl
  exact lv_goto C.1 C.2.2.1 hd ht (kk p l e s m args below meth c H locs Ls C hR hS hl)
theorem g_lookup {dflt : Int} {ps : Array (Int × Int)} {len : Nat} {x : Int32} {off : Int} {tgt : Nat} (hd : decode M.2.1 pc = .ok (.lookupswitch dflt ps, len)) (hp : (ps.toList.zip (ps.toList.drop 1)).all (fun (a, next) => a.1 < next.1) = true) (ho : Op.lookupswitch.offset ps.toList dflt x.toInt = off) (ht : (pc : Int) + off = (tgt : Int)) (kk : g_W G M R K n ex h k sl tgt ls st) : g_W G M R K n ex h k sl pc ls (.int x :: st) := by
  intro p l e s m args below meth c H locs Ls C hR hS hl
  exact lv_lookup C.1 C.2.2.1 hd hp ho ht (kk p l e s m args below meth c H locs Ls C hR hS hl)
theorem g_tableOut {dflt lo hi : Int} {offs : Array Int} {len : Nat} {x : Int32} {tgt : Nat} (hd : decode M.2.1 pc = .ok (.tableswitch dflt lo hi offs, len)) (hx : x.toInt < lo ∨ hi < x.toInt) (ht : (pc : Int) + dflt = (tgt : Int)) (kk : g_W G M R K n ex h k sl tgt ls st) : g_W G M R K n ex h k sl pc ls (.int x :: st) := by
  intro p l e s m args below meth c H locs Ls C hR hS hl
  exact lv_tableOut C.1 C.2.2.1 hd hx ht (kk p l e s m args below meth c H locs Ls C hR hS hl)
theorem g_tableIn {dflt lo hi : Int} {offs : Array Int} {len : Nat} {x : Int32} {off : Int} {tgt : Nat} (hd : decode M.2.1 pc = .ok (.tableswitch dflt lo hi offs, len)) (h1 : ¬ x.toInt < lo) (h2 : ¬ hi < x.toInt) (ho : offs[(x.toInt - lo).toNat]? = some off) (ht : (pc : Int) + off = (tgt : Int)) (kk : g_W G M R K n ex h k sl tgt ls st) : g_W G M R K n ex h k sl pc ls (.int x :: st) := by
  intro p l e s m args below meth c H locs Ls C hR hS hl
  exact lv_tableIn C.1 C.2.2.1 hd h1 h2 ho ht (kk p l e s m args below meth c H locs Ls C hR hS hl)
theorem g_word {s : State} {w : Cond} (hE : g_Env G s) (hw : w ∈ lw_tbl) (hg : g_keep w = true) (a : Array Value) : w.before a s = true := hE.1 w hw hg a
theorem g_ldc {i : Nat} {v : Int32} (hd : decode M.2.1 pc = .ok (.ldc i, 2)) (hw : Cond.constant M.1.cls i v ∈ lw_tbl) (hg : g_keep (Cond.constant M.1.cls i v) = true) (kk : g_W G M R K n ex h k sl (pc + 2) ls (.int v :: st)) : g_W G M R K n ex h k sl pc ls st := by
  intro p l e s m args below meth c H locs Ls C hR hS hl
  exact lv_ldc C.1 C.2.2.1 C.2.2.2.2.2.2.1 (g_word C.2.2.2.2.2.2.2.2.2 hw hg _) hd (kk p l e s m args below meth c H locs Ls C hR hS hl)
theorem g_ldcw {i : Nat} {v : Int32} (hd : decode M.2.1 pc = .ok (.ldc_w i, 3)) (hw : Cond.constant M.1.cls i v ∈ lw_tbl) (hg : g_keep (Cond.constant M.1.cls i v) = true) (kk : g_W G M R K n ex h k sl (pc + 3) ls (.int v :: st)) : g_W G M R K n ex h k sl pc ls st := by
  intro p l e s m args below meth c H locs Ls C hR hS hl
  exact lv_ldcw C.1 C.2.2.1 C.2.2.2.2.2.2.1 (g_word C.2.2.2.2.2.2.2.2.2 hw hg _) hd (kk p l e s m args below meth c H locs Ls C hR hS hl)
theorem g_ldc2 {i : Nat} {v : Int64} (hd : decode M.2.1 pc = .ok (.ldc2_w i, 3)) (hw : Cond.constantLong M.1.cls i v ∈ lw_tbl) (hg : g_keep (Cond.constantLong M.1.cls i v) = true) (kk : g_W G M R K n ex h k sl (pc + 3) ls (.long v :: st)) : g_W G M R K n ex h k sl pc ls st := by
  intro p l e s m args below meth c H locs Ls C hR hS hl
  exact lv_ldc2 C.1 C.2.2.1 C.2.2.2.2.2.2.1 (g_word C.2.2.2.2.2.2.2.2.2 hw hg _) hd (kk p l e s m args below meth c H locs Ls C hR hS hl)
end GOR
