/-! The law's entry and its end. -/
abbrev mL_law : gM := (yL_law, code, 7, ret, [])
def R_law : String := "PollAuditLaw"
def lw_P (b : Addr) (xs : List Int32) (args : Array Value) (s : State) : Prop := args = #[.ref b] ∧ s.IntsAt b xs ∧ xs.length ≤ 3072 ∧ (Jvm.Cond.and given_1 narrow_1).before args s = true
def lw_Q (_ : Array Value) (s : State) (o : Outcome) (t : State) : Prop := o = .returned (some (.int 1)) ∧ Framed s o t [] 601024 7293034
def lw_Z (below : List Frame) (a : Array Value) (s : State) : State → Prop := fun t => ∃ o, t.status = .running ∧ Ended t below o ∧ lw_Q a s o t
theorem lw_ret {p : Program} {l : Launch} {e : Env} {s : State} {m : MethodId} {args : Array Value} {below : List Frame} {meth : Method} {c : Code} (hx : p.tables.exec = Jvm.exec) (hb : c.code = code) (hr : meth.sig.returnType = ret) (hlocks : meth.locks = false) {pc : Nat} {H : Heap} {ls : Array Slot} (hdg : decode code pc = .ok (.ireturn, 1)) : W p l e room_1 s m args below meth c H [] 601024 7293034 (lw_Z below args s) (F0 m pc ls [.int 1]) := by
  intro T hT X
  obtain ⟨fs, hret, hrun, hended, hW, hframe⟩ := X.leave (v := some (.int 1)) (hlocks := hlocks) (fun h => by rw [hr] at h; cases h)
  have hmeth' : T.vm.method? m = some meth := X.method'
  refine ⟨T.setFrames fs, ?_, .returned (some (.int 1)), hrun, hended, rfl, ⟨_, rfl⟩, hW, hframe⟩
  jvm_step X.here [X.here.top, hx, hb, hdg, hmeth', hr, ret, narrow_b1]
  (try refine ⟨rfl, ?_⟩); (try refine ⟨rfl, ?_⟩)
  first | (intro acts; rw [hret _ acts rfl rfl rfl]) | rw [hret _ _ rfl rfl rfl]
  exact Steps.refl _
def g_KL (G : gG) : gK := fun below args s t => s.heap.size = g_sz G → lw_Z below args s t
/-- the law's end, with 1 on the stack -/
theorem g_lawEnd {G : gG} {n : Nat} {ex : Bool} {h : gH} {k sl pc : Nat} {ls : List (Nat × Value)} (hd : decode code pc = .ok (.ireturn, 1)) (hk : k ≤ 601024) (hs : sl ≤ 7293034) : g_W G mL_law room_1 (g_KL G) n ex h k sl pc ls [.int 1] := by
  intro p l e s m args below meth c H locs Ls C hR hS hl
  by_cases hz : s.heap.size = g_sz G
  · refine va_forget (fun q hq => ?_) (W.widen hk hs ?_)
    · have := hS.2.2 q hq
      unfold g_A at this
      rw [hz]; exact this
    · have := lw_ret (l := l) (e := e) (args := args) (below := below) (H := H) (ls := Ls) (pc := pc) (s := s) (m := m) C.1 C.2.2.1 C.ret C.locks hd
      intro T hT X
      obtain ⟨t, a1, a2⟩ := this T hT X
      exact ⟨t, a1, fun _ => a2⟩
  · intro T hT X
    exact ⟨_, Steps.refl _, fun q => absurd q hz⟩
theorem lw_arr {s : State} {a : Array Value} {ty : FieldType} (hb : (Cond.arrayClass ty).before a s = true) (hno : ∀ C, ty ≠ .object C) : ∃ c : ClassId, ArrOfT s c ty ∧ va_RA s c ty := by
  obtain ⟨c, k, comp, h1, h2, h3⟩ := Cond.arrayClass_spec hb
  refine ⟨c, fun N z => ⟨(fun k h => by cases h), k, h2, comp, h3⟩, ?_⟩
  cases ty with
  | object C => exact absurd rfl (hno C)
  | _ => exact h1
theorem lw_arrO {s : State} {a : Array Value} {C : String} (hb : (Cond.arrayOver (.object C)).before a s = true) : ∃ c : ClassId, ArrOfT s c (.object C) ∧ va_RA s c (.object C) := by
  obtain ⟨comp, c, k, h1, h2, h3, h4, h5⟩ := Cond.arrayOver_spec hb
  exact ⟨c, fun N z => ⟨(fun k h => by cases h), k, h3, comp, h4⟩, k, comp, h3, h4, h1, h5⟩
def lw_At (p : Program) (s : State) (m : MethodId) (meth : Method) (c : Code) (b L : Nat) (xs : Nat → Int32) : Prop :=
  p.tables.exec = Jvm.exec ∧ c.code = code ∧ meth.sig.returnType = ret ∧ c.maxLocals = 7 ∧ s.vm.findClass R_law = some m.cls ∧ (∀ w ∈ lw_tbl, w.before #[Value.ref b] s = true) ∧ va_X b L xs s s.heap ∧ b < s.heap.size ∧ meth.locks = false ∧ (Jvm.Cond.and given_1 narrow_1).before #[Value.ref b] s = true
theorem lw_kn {s : State} {a : Array Value} {ci : Nat} {C : String} {T : u_T} {N k : Nat} {ty : Nat → FieldType} (hts : ∀ w ∈ lw_tbl, w.before a s = true) (hc : g_cls ci C T N ty) (hi : (Cond.instantiable C k) ∈ lw_tbl) : ∃ r : ClassId × (Nat → Nat), ∀ q, vwCl[ci]? = some q → u_Kn s q.1 q.2.1 q.2.2 r.1 r.2 := by
  obtain ⟨cC, iS, h⟩ := u_known hts (fun w hw => (hc.2.1 w hw).1) (hts _ hi)
  refine ⟨(cC, iS), fun q hq => ?_⟩
  have : q = (C, T, N) := Option.some.inj (hq.symm.trans hc.1)
  subst this
  exact h
set_option maxRecDepth 100000 in
theorem lw_D {s : State} {a : Array Value} (hts : ∀ w ∈ lw_tbl, w.before a s = true) : ∃ D : va_G, ∀ (c : Nat) (q : vw_C), vwCl[c]? = some q → u_Kn s q.1 q.2.1 q.2.2 (D.1 c) (D.2 c) := by
  have key : ∀ c : Nat, ∃ r : ClassId × (Nat → Nat), ∀ q, vwCl[c]? = some q → u_Kn s q.1 q.2.1 q.2.2 r.1 r.2 := by
    intro c
    match c with
    | 0 => exact lw_kn (k := 3) hts clX0 (List.mem_of_getElem? (i := 148) (by decide +kernel))
    | 1 => exact lw_kn (k := 7) hts clX1 (List.mem_of_getElem? (i := 185) (by decide +kernel))
    | 2 => exact lw_kn (k := 2) hts clX2 (List.mem_of_getElem? (i := 225) (by decide +kernel))
    | 3 => exact lw_kn (k := 4) hts clX3 (List.mem_of_getElem? (i := 319) (by decide +kernel))
    | 4 => exact lw_kn (k := 6) hts clX4 (List.mem_of_getElem? (i := 341) (by decide +kernel))
    | 5 => exact lw_kn (k := 6) hts clX5 (List.mem_of_getElem? (i := 262) (by decide +kernel))
    | 6 => exact lw_kn (k := 4) hts clX6 (List.mem_of_getElem? (i := 165) (by decide +kernel))
    | 7 => exact lw_kn (k := 13) hts clX7 (List.mem_of_getElem? (i := 78) (by decide +kernel))
    | 8 => exact lw_kn (k := 5) hts clX8 (List.mem_of_getElem? (i := 217) (by decide +kernel))
    | 9 => exact lw_kn (k := 2) hts clX9 (List.mem_of_getElem? (i := 231) (by decide +kernel))
    | 10 => exact lw_kn (k := 11) hts clX10 (List.mem_of_getElem? (i := 70) (by decide +kernel))
    | 11 => exact lw_kn (k := 45) hts clX11 (List.mem_of_getElem? (i := 1001) (by decide +kernel))
    | k + 12 => exact ⟨(0, fun _ => 0), fun q hq => by cases hq⟩
  exact ⟨(fun c => (Classical.choose (key c)).1, fun c => (Classical.choose (key c)).2), fun c q hq => Classical.choose_spec (key c) q hq⟩
theorem lw_A {s : State} {a : Array Value} (hts : ∀ w ∈ lw_tbl, w.before a s = true) : ∃ dA : Nat → ClassId, ∀ t, t < 5 → ArrOfT s (dA t) (g_ty t) ∧ va_RA s (dA t) (g_ty t) := by
  have key : ∀ t : Nat, ∃ c : ClassId, t < 5 → ArrOfT s c (g_ty t) ∧ va_RA s c (g_ty t) := by
    intro t
    match t with
    | 0 => obtain ⟨c, h⟩ := lw_arr (hts (Cond.arrayClass .int) (List.mem_of_getElem? (i := 144) (by decide +kernel))) (fun C q => by cases q); exact ⟨c, fun _ => h⟩
    | 1 => obtain ⟨c, h⟩ := lw_arr (hts (Cond.arrayClass .byte) (List.mem_of_getElem? (i := 146) (by decide +kernel))) (fun C q => by cases q); exact ⟨c, fun _ => h⟩
    | 2 => obtain ⟨c, h⟩ := lw_arr (hts (Cond.arrayClass .boolean) (List.mem_of_getElem? (i := 145) (by decide +kernel))) (fun C q => by cases q); exact ⟨c, fun _ => h⟩
    | 3 => obtain ⟨c, h⟩ := lw_arr (hts (Cond.arrayClass .long) (List.mem_of_getElem? (i := 1428) (by decide +kernel))) (fun C q => by cases q); exact ⟨c, fun _ => h⟩
    | 4 => obtain ⟨c, h⟩ := lw_arrO (hts (Cond.arrayOver (.object "PollAudit$Pair")) (List.mem_of_getElem? (i := 223) (by decide +kernel))); exact ⟨c, fun _ => h⟩
    | k + 5 => exact ⟨0, fun q => absurd q (by omega)⟩
  exact ⟨fun c => Classical.choose (key c), fun c hc => Classical.choose_spec (key c) hc⟩
theorem lw_str {s : State} {a : Array Value} {k : Nat} {tx : String} (hts : ∀ w ∈ lw_tbl, w.before a s = true) (hn : ∀ c ∈ flatC (Jvm.Cond.and given_1 narrow_1), c.before a s = true) (hi : Cond.stringRef RX10 k tx ∈ lw_tbl) (hx : Cond.exactly (.string RX10 k) "java/lang/String" ∈ flatC (Jvm.Cond.and given_1 narrow_1)) : ∃ sa, vk_R RX10 k tx sa s := by
  obtain ⟨r, cB, cellB, kB, hb, hh⟩ := Cond.exactly_spec (hn _ hx)
  exact ⟨r, vk_R.of (hts _ hi) hb⟩
theorem lw_strs {s : State} {a : Array Value} (hts : ∀ w ∈ lw_tbl, w.before a s = true) (hn : ∀ c ∈ flatC (Jvm.Cond.and given_1 narrow_1), c.before a s = true) : ∀ q ∈ g_strs, ∃ sa, vk_R RX10 q.1 q.2 sa s := by
  intro q hq
  refine lw_str hts hn ?_ ?_
  · revert q; decide +kernel
  · revert q; decide +kernel
theorem lw_ncs {s : State} {a : Array Value} (hn : ∀ c ∈ flatC (Jvm.Cond.and given_1 narrow_1), c.before a s = true) : ∀ x ∈ g_exs, ∀ y ∈ g_exs, x ≠ y → va_Nc x y s := by
  intro x hx y hy hxy
  refine va_Nc.of (hn _ ?_)
  revert x y
  decide +kernel
theorem lw_sha0 : ∀ j, j < 8 → Cond.eq (.elem (.static RX10 "SHA_START" "[I") (.int (Int32.ofNat j))) (.int (g_sha0.getD j 0)) ∈ flatC (Jvm.Cond.and given_1 narrow_1) := by decide +kernel
theorem lw_sha1 : ∀ j, j < 64 → Cond.eq (.elem (.static RX10 "SHA_ROUNDS" "[I") (.int (Int32.ofNat j))) (.int (g_sha1.getD j 0)) ∈ flatC (Jvm.Cond.and given_1 narrow_1) := by decide +kernel
theorem lw_env {s : State} {b L : Nat} {xs : Nat → Int32} (hts : ∀ w ∈ lw_tbl, w.before #[Value.ref b] s = true) (hX : va_X b L xs s s.heap) (hbl : b < s.heap.size) (hgv : (Jvm.Cond.and given_1 narrow_1).before #[Value.ref b] s = true) : ∃ G : gG, g_sz G = s.heap.size ∧ g_L G = L ∧ g_st G 0 = b ∧ g_xs G = xs ∧ g_Env G s := by
  have hn := flat_of_before _ hgv
  obtain ⟨D, hD⟩ := lw_D hts
  obtain ⟨dA, hdA⟩ := lw_A hts
  have hA : ∀ a : Nat, a < s.heap.size → ¬ s.heap.size ≤ a := fun a ha => Nat.not_le.mpr ha
  obtain ⟨t1, h1, hT1⟩ := va_Tof (f := fun j => .int (g_sha0.getD j 0)) (A := fun q => s.heap.size ≤ q) (N := 8) (by decide) (hn (Cond.arrayOf (.static RX10 "SHA_START" "[I") .int) (by decide +kernel)) (va_eqt (hn (Cond.eq (.length (.static RX10 "SHA_START" "[I")) (.int (Int32.ofNat 8))) (by decide +kernel))) (fun j hj => va_eqt (hn _ (lw_sha0 j hj))) hA
  obtain ⟨t2, h2, hT2⟩ := va_Tof (f := fun j => .int (g_sha1.getD j 0)) (A := fun q => s.heap.size ≤ q) (N := 64) (by decide) (hn (Cond.arrayOf (.static RX10 "SHA_ROUNDS" "[I") .int) (by decide +kernel)) (va_eqt (hn (Cond.eq (.length (.static RX10 "SHA_ROUNDS" "[I")) (.int (Int32.ofNat 64))) (by decide +kernel))) (fun j hj => va_eqt (hn _ (lw_sha1 j hj))) hA
  refine ⟨(s.heap.size, D, dA, (fun j => if j = 0 then b else if j = 1 then t1 else t2), (L, xs)), rfl, rfl, rfl, rfl, ?_⟩
  refine ⟨fun w hw hg a => g_keep_warm hg (State.WarmedH.refl s) (hts w hw), ⟨hD, ?_⟩, va_AO.of (hts _ (List.mem_of_getElem? (i := 223) (by decide +kernel))), lw_strs hts hn, lw_ncs hn, ?_, ?_, ?_, ?_⟩
  · intro k q hq
    match k, hq with
    | 0, hq => cases hq; exact hdA 0 (by decide)
    | 1, hq => cases hq; exact hdA 1 (by decide)
    | 2, hq => cases hq; exact hdA 2 (by decide)
    | 3, hq => cases hq; exact hdA 3 (by decide)
    | 4, hq => cases hq; exact hdA 4 (by decide)
    | k + 5, hq => cases hq
  · intro j hj
    match j, hj with
    | 0, _ =>
      obtain ⟨scr, x1, x2, x3, x4, x5⟩ := hX
      exact ⟨scr, x1, x2, x3, Nat.le_of_eq x4.symm, by rw [x4]; rfl, x5, hA b hbl⟩
    | 1, _ => exact hT1
    | 2, _ => exact hT2
    | k + 3, hk => exact absurd hk (by omega)
  · intro j j1 j3
    match j, j1, j3 with
    | 1, _, _ => exact va_Zof (hts (Cond.laysStatic RX10 "SHA_START" "[I") (List.mem_of_getElem? (i := 732) (by decide +kernel))) (hts (Cond.initialized RX10) (List.mem_of_getElem? (i := 49) (by decide +kernel))) h1 hA
    | 2, _, _ => exact va_Zof (hts (Cond.laysStatic RX10 "SHA_ROUNDS" "[I") (List.mem_of_getElem? (i := 734) (by decide +kernel))) (hts (Cond.initialized RX10) (List.mem_of_getElem? (i := 49) (by decide +kernel))) h2 hA
    | k + 3, _, hk => exact absurd hk (by omega)
  · exact vx_Zqof (hts _ (List.mem_of_getElem? (i := 467) (by decide +kernel))) (hts _ (List.mem_of_getElem? (i := 61) (by decide +kernel))) (hn _ (by decide +kernel)) hA
  · exact vx_Zqof (hts _ (List.mem_of_getElem? (i := 469) (by decide +kernel))) (hts _ (List.mem_of_getElem? (i := 61) (by decide +kernel))) (hn _ (by decide +kernel)) hA
/-- the claim's start out of the law's body -/
theorem whole_of {p : Program} {e : Env} {s : State} {m : MethodId} {below : List Frame} {meth : Method} {c : Code} (l : Launch) {b L : Nat} {xs : Nat → Int32} (hL : L ≤ 3072) (C0 : lw_At p s m meth c b L xs) (hst : l.stackTraces = false) (hnm : meth.name = "law") (hex : c.exceptionTable.toList = []) (body : ∀ G : gG, g_L G ≤ 3072 → g_W G mL_law room_1 (g_KL G) 0 true (fun _ => none) 0 0 0 [(0, .float 0)] []) : W p l e room_1 s m #[Value.ref b] below meth c s.heap [] 0 0 (lw_Z below #[Value.ref b] s) (entryFrame m ([Value.ref b] : List Value).toArray 7) := by
  obtain ⟨c1, c2, c3, c4, c5, hts, hX, hbl, c6, hgv⟩ := C0
  obtain ⟨G, g1, g2, g3, g4, hE⟩ := lw_env hts hX hbl hgv
  have hen := lv_entry ([Value.ref b]) (n := 7) (Nat.le_of_ble_eq_true rfl)
  have hb := body G (by rw [g2]; exact hL) p l e s m #[Value.ref b] below meth c s.heap [] _ ⟨c1, hst, c2, c4, c3, c6, c5, hnm, hex, hE⟩ ⟨fun k c hk => (by cases hk), (by rw [g1]; exact Nat.le_refl _), fun _ => g1.symm⟩ va_S.rf (by
    show lv_has _ 7 [(0, Value.ref (g_st G 0))]
    rw [g3]
    exact hen)
  rw [lg_entry_eq]
  intro T hT X
  obtain ⟨t, a1, a2⟩ := hb T hT X
  exact ⟨t, a1, a2 g1.symm⟩

def g_body : Prop := ∀ G : gG, g_L G ≤ 3072 → g_W G mL_law room_1 (g_KL G) 0 true (fun _ => none) 0 0 0 [(0, .float 0)] []
set_option maxHeartbeats 4000000 in
theorem lw_walk (body : g_body) (l : Launch) (hst : l.stackTraces = false) (b : Addr) (xs : List Int32) : MetFree l x (headSpec (Jvm.Cond.code x code maxLocals ret :: tables_1) room_1) (lw_P b xs) (fun _ _ _ _ _ => True) lw_Q := by
  refine MetFree.of_bodyS (code := code) (maxLocals := maxLocals) (ret := ret) (by decide) ?_ ?_
  · intro args s m h hn
    obtain ⟨meth, c, h1, h2, h3, h4, h5, h6, -, -⟩ := Cond.code_spec hn (atoms_spec (ws := Jvm.Cond.code x code maxLocals ret :: tables_1) h _ List.mem_cons_self)
    exact ⟨meth, c, h1, h2, h3, h4, h5, h6⟩
  · intro p e s m args below meth c s₁ B hml0 hP _
    obtain ⟨rfl, hx, hbd, hgv⟩ := hP
    obtain ⟨scr, harrAt, hlist, hof, hsmall⟩ := hx
    obtain ⟨hcb, hkn, -, -⟩ := State.arrayAt?_spec harrAt
    have hown : s.vm.findClass R_law = some m.cls := findClass_of_methodNamed B.named
    have hts0 : ∀ c ∈ (Jvm.Cond.code x code maxLocals ret :: tables_1), c.before #[Value.ref b] s = true := atoms_spec (ws := Jvm.Cond.code x code maxLocals ret :: tables_1) B.pre
    have hts : ∀ w ∈ lw_tbl, w.before #[Value.ref b] s = true := k2_hts_sels lw_privs (fun w hw => hts0 w (List.mem_cons_of_mem _ hw)) lw_privs_ok
    have hml : c.maxLocals = 7 := B.maxLocals_eq (hts0 _ List.mem_cons_self)
    have X₀ : Stand p l e room_1 s m #[Value.ref b] below meth c s₁ [] 0 0 := Stand.of_body B
    have hh0 : s₁.heap = s.heap := by rw [B.state]; rfl
    have hsz : scr.slots.size = xs.length := by rw [← Array.length_toList, hlist, List.length_map]
    have hval : ∀ j : Nat, j < xs.length → scr.slots[j]? = some (.int (xs.getD j 0)) := fun j hj => by
      rw [← Array.getElem?_toList, hlist]
      simp [hj]
    have hbl : b < s.heap.size := (Array.getElem?_eq_some_iff.mp hcb).1
    have hX : va_X b xs.length (fun j => xs.getD j 0) s s.heap := ⟨scr, hcb, hof, hkn, hsz, hval⟩
    have K : W p l e room_1 s m #[Value.ref b] below meth c s₁.heap [] 0 0 (lw_Z below #[Value.ref b] s) (entryFrame m ([Value.ref b] : List Value).toArray 7) := by
      rw [hh0]
      refine whole_of l hbd ⟨B.exec, B.bytes, B.returns, hml, hown, hts, hX, hbl, B.notSynchronized, hgv⟩ hst (name_of_methodNamed B.named B.method).1 ?_ body
      obtain ⟨meth9, c9, h1, h2, -, -, -, -, h7, -⟩ := Cond.code_spec B.named (hts0 _ List.mem_cons_self)
      cases Option.some.inj (h1.symm.trans B.method)
      cases Option.some.inj (h2.symm.trans (Stand.of_body B).code)
      rw [Array.isEmpty_iff.mp h7]
    obtain ⟨t, a1, o, b1, b2, b3⟩ := K s₁ rfl X₀
    exact ⟨t, o, a1, b1, b2, b3⟩
theorem lw_pre_spec {args : Array Value} {s : State} (h : (Jvm.Cond.and given_1 narrow_1).before args s = true) (hr : rest_1_c.before args s = true) : ∃ (b : Addr) (xs : List Int32), lw_P b xs args s := by
  have hs := flat_of_before _ h
  have hq := flat_of_before _ hr
  have hc : (Cond.count 1).before args s = true := hs _ (by decide +kernel)
  have harr : (Cond.arrayOf (.arg 0) .int).before args s = true := hs _ (by decide +kernel)
  have hle : (Cond.le (.length (.arg 0)) (.int 3072)).before args s = true := hs _ (by decide +kernel)
  have hlen : (Cond.isInt (.length (.arg 0))).before args s = true := hq _ (by decide +kernel)
  have hall : (Cond.all (.arg 0) (.isInt (.elem (.arg 0) (.index 0)))).before args s = true := hq _ (by decide +kernel)
  obtain ⟨b, xs, hb, hx⟩ := State.ints_of_pre rfl harr hlen hall
  have hsm : xs.length < 2 ^ 31 := hx.choose_spec.2.2.2
  have hev : (Term.length (.arg 0)).eval args s none [] s = some (.int xs.length.toInt32) := hx.length_eval hb
  have hv := Cond.le_ints hev (show (Term.int 3072).eval args s none [] s = some (.int 3072) from rfl)
  have hd : xs.length.toInt32 ≤ 3072 := by
    simpa [Cond.before, Cond.holds, hv] using hle
  have hN : xs.length ≤ 3072 := (Int32.ofNat_le_ofNat hsm (by decide)).mp (show Int32.ofNat xs.length ≤ Int32.ofNat 3072 from hd)
  exact ⟨b, xs, Cond.one_arg hc (show args[0]? = some (.ref b) from hb), hx, hN, h⟩
theorem lw_comes (body : g_body) (l : Launch) (hst : l.stackTraces = false) : Comes l x (Jvm.Cond.code x code maxLocals ret :: tables_1) room_1 (fun tb e args s => Calls_1 tb e args s ∧ rest_1 tb e args s ∧ Pre_1 tb e args s)
    (fun _ _ args s o t => lw_Q args s o t) := by
  intro p e ha hc hk s m args below hf hfit hheap happ hpre
  obtain ⟨b, xs, hP⟩ := lw_pre_spec hpre.2.2 hpre.2.1
  obtain ⟨k, o, h1, h2, h3, hQ⟩ := lw_walk body l hst b xs p e ha hc hk s m args below hf ((Spec.applies_iff_loose hf).mp happ).1 hP trivial
  exact ⟨k, o, h1, h2, h3, hQ⟩
theorem lw_frame {s t : State} {o : Outcome} {args : Array Value} (h : Framed s o t [] 601024 7293034) :
    Framed s o t (fieldLocs frame_1_writes args s ++ arrayLocs frame_1_arrays args s ++ staticLocs frame_1_statics s) 601024 7293034 := h
theorem lw_limb (body : g_body) (L : Cond) (hL : ∀ (args : Array Value) (s t : State), L.after args s (.returned (some (.int 1))) t = true) :
    ArmFor flags0 classFile x code maxLocals ret World_1 tables_1 room_1 Calls_1 rest_1 Pre_1
      (fun tb e a s o t => postC L tb e a s o t ∧ Framed s o t (fieldLocs frame_1_writes a s ++ arrayLocs frame_1_arrays a s ++ staticLocs frame_1_statics s) 601024 7293034) := by
  intro l hfl _ _ p e ha hc hk s m args below hf hfit hheap happ hpre
  obtain ⟨k, o, h1, h2, h3, rfl, hF⟩ := lw_comes body l (by unfold Launch.stackTraces; rw [hfl]; decide) p e ha hc hk s m args below hf hfit hheap happ hpre
  exact ⟨k, _, h1, h2, h3, hL args s _, lw_frame hF⟩
theorem i_of (body : g_body) : Claimed_1_1 ∧ Claimed_1_2 := ⟨lw_limb body limb_1_1 (fun args s t => by simp [limb_1_1, Cond.after, Cond.holds, Cond.value]), lw_limb body limb_1_2 (fun args s t => Cond.after_iff.mpr (by
  first | (rw [show limb_1_2 = Cond.eq .result (.int 1) from rfl, Cond.eq_ints (x := 1) (y := 1) rfl rfl]; simp; done) | (simp [limb_1_2, Cond.value, Term.eval]; done)))⟩

