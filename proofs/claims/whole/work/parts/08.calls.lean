/-! returns, throws, catches, calls over g_W -/
section GOK
variable {G : gG} {M : gM} {R : Room} {K : gK} {Q : gQ} {mc ms n : Nat} {ex : Bool} {h : gH} {k sl pc : Nat} {ls : List (Nat × Value)} {st : List Value}
theorem g_iret {v : Int32} {ty : FieldType} (hd : decode M.2.1 pc = .ok (.ireturn, 1)) (hr : M.2.2.2.1 = some ty) (hn : narrow ty (.int v) = .int v) (hk : k ≤ mc) (hs : sl ≤ ms) (hq : Q (.inl (some (.int v))) n ex h) : g_W G M R (g_K G Q mc ms) n ex h k sl pc ls [.int v] := by
  intro p l e s m args below meth c H locs Ls C hR hS hl
  refine W.widen hk hs ?_
  exact vx_ret (W.zret C.1 C.2.2.1 (C.ret.trans hr) hn (fun t ht hW => ⟨some (.int v), n, ex, h, rfl, hq, by rw [ht]; exact hR, hS.F ht⟩) hS.2.2 hd C.locks)
theorem g_lret {v : Int64} (hd : decode M.2.1 pc = .ok (.lreturn, 1)) (hr : M.2.2.2.1 = some .long) (hk : k ≤ mc) (hs : sl ≤ ms) (hq : Q (.inl (some (.long v))) n ex h) : g_W G M R (g_K G Q mc ms) n ex h k sl pc ls [.long v] := by
  intro p l e s m args below meth c H locs Ls C hR hS hl
  refine W.widen hk hs ?_
  exact vx_ret (W.lret C.1 C.2.2.1 (C.ret.trans hr) (fun t ht hW => ⟨some (.long v), n, ex, h, rfl, hq, by rw [ht]; exact hR, hS.F ht⟩) hS.2.2 hd C.locks)
theorem g_vret (hd : decode M.2.1 pc = .ok (.return_, 1)) (hr : M.2.2.2.1 = none) (hk : k ≤ mc) (hs : sl ≤ ms) (hq : Q (.inl none) n ex h) : g_W G M R (g_K G Q mc ms) n ex h k sl pc ls [] := by
  intro p l e s m args below meth c H locs Ls C hR hS hl
  refine W.widen hk hs ?_
  exact vx_ret (W.vret C.1 C.2.2.1 (C.ret.trans hr) (fun t ht hW => ⟨none, n, ex, h, rfl, hq, by rw [ht]; exact hR, hS.F ht⟩) hS.2.2 hd C.locks)
theorem g_aret {i : Nat} {C9 : String} (hd : decode M.2.1 pc = .ok (.areturn, 1)) (hr : M.2.2.2.1 = some (.object C9)) (hk : k ≤ mc) (hs : sl ≤ ms) (hq : Q (.inl (some (.ref i))) n ex h) : g_W G M R (g_K G Q mc ms) n ex h k sl pc ls [.ref i] := by
  intro p l e s m args below meth c H locs Ls C hR hS hl
  refine W.widen hk hs ?_
  exact vx_ret (W.aret (rt := .object C9) C.1 C.2.2.1 (C.ret.trans hr) (Or.inl ⟨_, rfl⟩) (Or.inr ⟨_, rfl⟩) (fun t ht hW => ⟨some (.ref i), n, ex, h, rfl, hq, by rw [ht]; exact hR, hS.F ht⟩) hS.2.2 hd C.locks)
/-- throw new E("text") -/
theorem g_throw {ik is ic : Nat} {E text : String} {names : List String} (d0 : decode M.2.1 pc = .ok (.new ik, 3)) (d3 : decode M.2.1 (pc + 3) = .ok (.dup, 1)) (d4 : decode M.2.1 (pc + 4) = .ok (.ldc is, 2)) (d6 : decode M.2.1 (pc + 6) = .ok (.invokespecial ic, 3)) (d9 : decode M.2.1 (pc + 9) = .ok (.athrow, 1))
    (hM : M.1.cls = RX10) (hh : M.2.2.2.2 = []) (hE : Bundle.fit E = true) (hnames : ∀ z ∈ names, Bundle.fit z = true) (hw : ∀ w ∈ Cond.classLink RX10 ik E :: Cond.initialized E :: vx_atS RX10 ic E names, w ∈ lw_tbl ∧ g_keep w = true ∧ vx_ot w = true) (hstr : (is, text) ∈ g_strs)
    (hf : names.length + 3 < R.frames) (hlo : (st.map fun v => v.category).sum + (13 * (names.length + 1) + 43) ≤ R.locals) (hc : k + 1 ≤ R.cells) (hs : sl + 6 ≤ R.slots) (hc2 : k + 1 ≤ mc) (hs2 : sl + 6 ≤ ms) (hq : Q (.inr E) n false h) : g_W G M R (g_K G Q mc ms) n ex h k sl pc ls st := by
  intro p l e s m args below meth c H locs Ls C hR hS hl
  have hE9 := C.env
  have hown : s.vm.findClass RX10 = some m.cls := by rw [← hM]; exact C.own
  have hwd : ∀ w ∈ Cond.classLink RX10 ik E :: Cond.initialized E :: vx_atS RX10 ic E names, w.before args s = true := fun w z => g_word hE9 (hw w z).1 (hw w z).2.1 args
  obtain ⟨sa, hsa⟩ := hE9.2.2.2.1 _ hstr
  refine vx_throwS C.1 C.2.2.1 C.2.1 (own := RX10) (cls := E) (text := text) (names := names) hown hE hnames (hwd _ List.mem_cons_self) (hwd _ (List.mem_cons_of_mem _ List.mem_cons_self)) hsa (fun w z => hwd w (List.mem_cons_of_mem _ (List.mem_cons_of_mem _ z))) (fun w z => (hw w z).2.2)
    hE9.2.2.2.2.2.2.2.1 hE9.2.2.2.2.2.2.2.2 hS (by rw [C.2.2.2.1]; exact hl.1) d0 d3 d4 d6 d9 (fun x hx => ?_) hf (by rw [g_cats]; exact hlo) hc hs C.locks (fun t hA hz ho => ?_) hS.2.2 hc2 hs2
  · rw [C.2.2.2.2.2.2.2.2.1, hh] at hx
    cases hx
  · exact ⟨n, false, h, hq, hR.grow hz ho, Nat.le_trans hS.1 hz, fun q h1 h2 => (ho q (Nat.lt_of_lt_of_le h1 hS.1)).trans (hS.2.1 q h1 h2)⟩
/-- an exception leaves the method -/
theorem g_out {E : String} (hh : M.2.2.2.2 = []) (hk : k ≤ mc) (hs : sl ≤ ms) (hq : Q (.inr E) n ex h) : g_X G M R (g_K G Q mc ms) n ex h k sl pc ls E := by
  intro p l e s m args below meth c H locs Ls rest q ce C hR hS hl hcell hv hcl
  refine vx_out (fun x hx => ?_) C.locks hcell hv hcl (fun t ht hA => ⟨n, ex, h, hq, by rw [ht]; exact hR, hS.F ht⟩) hS.2.2 hk hs
  rw [C.2.2.2.2.2.2.2.2.1, hh] at hx
  cases hx
theorem g_drop {Ls : Array Slot} {N : Nat} {q : Nat × Value} {l : List (Nat × Value)} (hl : lv_has Ls N (q :: l)) : lv_has Ls N l := ⟨hl.1, hl.2.1, fun z hz => hl.2.2 z (List.mem_cons_of_mem _ hz)⟩
theorem g_catch {E : String} {pre suf : List ExceptionTableEntry} {x : ExceptionTableEntry} (hsplit : tableOf M.2.2.2.2 = pre ++ x :: suf)
    (hpass : ∀ z ∈ pre, covers z pc = false ∨ (z.catchType ≠ 0 ∧ ∃ nm ∈ g_exs, E ≠ nm ∧ Cond.classLink M.1.cls z.catchType nm ∈ lw_tbl ∧ g_keep (Cond.classLink M.1.cls z.catchType nm) = true)) (hx : covers x pc = true) (h0 : x.catchType ≠ 0) (hE : E ∈ g_exs)
    (hw : Cond.classLink M.1.cls x.catchType E ∈ lw_tbl) (hg : g_keep (Cond.classLink M.1.cls x.catchType E) = true) (hw2 : Cond.castable E E ∈ lw_tbl) {ls' : List (Nat × Value)} {i pc' : Nat} (hn : i < M.2.2.1)
    (hda : (∃ z : Fin 4, (z : Nat) = i ∧ decode M.2.1 x.handlerPc = .ok (.astore_n z, 1) ∧ pc' = x.handlerPc + 1) ∨ (decode M.2.1 x.handlerPc = .ok (.astore i, 2) ∧ pc' = x.handlerPc + 2)) (hq : (g_s1 ls i .null).tail = ls') (kk : g_W G M R K n ex h k sl pc' ls' []) : g_X G M R K n ex h k sl pc ls E := by
  intro p l e s m args below meth c H locs Ls rest q ce C hR hS hl hcell hv hcl
  subst hq
  refine vx_catch C.own pre x suf (C.2.2.2.2.2.2.2.2.1.trans hsplit) (fun z hz => ?_) hx h0 (g_word C.env hw hg args) (g_word C.env hw2 rfl args) hcell hv hcl ?_
  · rcases hpass z hz with h1 | ⟨h1, nm, h2, h3, h4, h5⟩
    · exact Or.inl h1
    · exact Or.inr ⟨h1, nm, g_word C.env h4 h5 args, C.env.2.2.2.2.1 _ hE _ h2 h3⟩
  · have hls : (i, Value.ref q) :: (g_ls G ls).filter (fun q => !(q.1 == i) && !(q.1 + 1 == i && q.2.category == 2)) = (i, Value.ref q) :: g_ls G (g_s1 ls i .null).tail := by
      have := g_filter (G := G) (ls := ls) (fun a b => !(a == i) && !(a + 1 == i && b == 2))
      rw [this]; rfl
    rcases hda with ⟨z, hz, hd, rfl⟩ | ⟨hd, rfl⟩
    · exact lv_astore_n C.1 C.2.2.1 hd hz hl hn hls (fun Ls hl => kk p l e s m args below meth c H locs Ls C hR hS (g_drop hl))
    · exact lv_astore C.1 C.2.2.1 hd hl hn hls (fun Ls hl => kk p l e s m args below meth c H locs Ls C hR hS (g_drop hl))
/-- behind a call -/
theorem g_after {Q' : gQ} {mc' ms' : Nat} {st0 : List Value} {p : Program} {l : Launch} {e : Env} {s : State} {m : MethodId} {args : Array Value} {below : List Frame} {meth : Method} {c : Code} {H : Heap} {locs : List Loc} {Ls : Array Slot} {a : Array Value} (C : g_Cx G M p l s m meth c) (hS : va_S (g_A G) s.heap H locs) (hl : lv_has Ls M.2.2.1 (g_ls G ls))
    (hr : vx_Run p l e R s m args below meth c H locs k sl mc' ms' (F0 m pc Ls (st0.map (g_v G))) (st.map (g_v G)) (g_Qc G Q' a) (g_XC G Q') (g_A G))
    (kr : ∀ v n' ex' h', Q' (.inl v) n' ex' h' → g_W G M R K n' ex' h' (k + mc') (sl + ms') (pc + 3) ls (v.toList ++ st)) (kx : ∀ E n' ex' h', Q' (.inr E) n' ex' h' → g_X G M R K n' ex' h' (k + mc') (sl + ms') pc ls E) : W p l e R s m args below meth c H locs k sl (K below args s) (F0 m pc Ls (st0.map (g_v G))) := by
  intro T hT X
  rcases hr T hT X with ⟨v, st₀, t, T', L, h0, X', hL, e1, e2, ⟨v', n', ex', h', hv, hq, hR', hF⟩, stp⟩ | ⟨q, st₀, t, T', L, E, ce, h0, X', hL, e1, e2, ⟨n', ex', h', hq, hR', hF⟩, hce, hcv, hcl, stp⟩
  · obtain ⟨-, -, k3⟩ := vx_keep (A0 := g_A G) (A1 := g_A G) (free := g_A G) h0 e1 hS (fun _ _ z => z) (fun _ z => z) hL hF
    have hv' : v = v'.map (g_v G) := Outcome.returned.inj hv
    obtain ⟨t2, a1, b1⟩ := kr v' n' ex' h' hq p l e s m args below meth c T'.heap (locs ++ L) Ls C (by rw [e1]; exact hR') k3 hl T' rfl X'
    refine ⟨t2, stp t2 ?_, b1⟩
    have hstk : v.toList ++ st.map (g_v G) = (v'.toList ++ st).map (g_v G) := by rw [hv']; cases v' <;> rfl
    rw [hstk]
    exact a1
  · obtain ⟨-, -, k3⟩ := vx_keep (A0 := g_A G) (A1 := g_A G) (free := g_A G) h0 e1 hS (fun _ _ z => z) (fun _ z => z) hL hF
    obtain ⟨t2, a1, b1⟩ := kx E n' ex' h' hq p l e s m args below meth c T'.heap (locs ++ L) Ls (st.map (g_v G)) q ce C (by rw [e1]; exact hR') k3 hl (by rw [e1]; exact hce) hcv hcl T' rfl X'
    exact ⟨t2, stp.trans a1, b1⟩
/-- what a call site of a method needs of the tables -/
def g_site (M' : gM) (nA : Nat) (ws : List Cond) : Prop := M'.2.2.2.2 = [] ∧ (∀ w ∈ g_cw M' :: ws, w ∈ lw_tbl ∧ goodWord w = true) ∧ (M'.1.cls ≠ "java/lang/invoke/MethodHandle" ∧ M'.1.cls ≠ "java/lang/invoke/VarHandle" ∧ (parseMethodDescriptor M'.1.desc).map (fun d => d.parameters.length) = some nA)
theorem g_keep_of {w : Cond} (hw : goodWord w = true) : g_keep w = true := by unfold g_keep; rw [hw]; rfl
theorem g_pre {M' : gM} {as : List Value} {s : State} {H : Heap} {locs : List Loc} (hE : g_Env G s) (hR : g_R G n ex h H) (hS : va_S (g_A G) s.heap H locs) : ∀ U : State, U.heap = H → s.WarmedH U.vm → va_Pc (as.map (g_v G)) (fun U => g_R G n ex h U.heap ∧ g_Env G U) (as.map (g_v G)).toArray U :=
  fun U hU hW => ⟨rfl, by rw [hU]; exact hR, hE.moved hW (fun a h1 h2 => by rw [hU]; exact hS.2.1 a h1 h2)⟩
theorem g_callB {M' : gM} {d' mc' ms' idx nA : Nat} {ws : List Cond} {s : State} {args : Array Value} (hE : g_Env G s) (hsite : g_site M' nA ws) (hl : Cond.methodLink M.1.cls idx M'.1 ∈ ws) (hi : Cond.initialized M'.1.cls ∈ ws) (hf : d' + 1 ≤ R.frames) (hlo : 8 + (M'.2.2.1 + 11) + 41 * d' ≤ R.locals) :
    CallB R s args M.1.cls idx M'.1 M'.2.1 M'.2.2.1 M'.2.2.2.1 [g_cw M'] (g_rm d' mc' ms') mc' ms' nA := by
  obtain ⟨y, cc, maxL, ret, hh⟩ := M'
  obtain ⟨h1, h2, h3⟩ := hsite
  have h1' : hh = [] := h1
  subst h1'
  have hb : ∀ w ∈ g_cw (y, cc, maxL, ret, []) :: ws, w.before args s = true := fun w hw => g_word hE (h2 w hw).1 (g_keep_of (h2 w hw).2) args
  exact callB_of nA (Ts := [g_cw (y, cc, maxL, ret, [])]) (fun w hw => hb w (by rw [List.mem_singleton.mp hw]; exact List.mem_cons_self)) (fun w hw => ⟨hw, good_of_word (h2 w (by rw [List.mem_singleton.mp hw]; exact List.mem_cons_self)).2⟩) rfl rfl rfl (hb _ (List.mem_cons_of_mem _ hi)) (hb _ (List.mem_cons_of_mem _ hl)) h3 ⟨hf, hlo⟩
theorem g_callV {M' : gM} {Q' : gQ} {d' mc' ms' idx i ci : Nat} {as st0 fs : List Value} (hd : decode M.2.1 pc = .ok (.invokevirtual idx, 3)) (hM : g_M G M' d' mc' ms' (.ref i :: as) n ex h Q') (hsite : g_site M' as.length [Cond.methodLink M.1.cls idx M'.1, Cond.instanceMethod M'.1, Cond.selects M'.1.cls M'.1 M'.1, Cond.initialized M'.1.cls])
    (ho : h i = some (.inr (ci, fs))) (hci : vwCl[ci]?.map (fun q => q.1) = some M'.1.cls) (hst : st0 = as.reverse ++ .ref i :: st) (hf : d' + 1 ≤ R.frames) (hlo : 8 + (M'.2.2.1 + 11) + 41 * d' ≤ R.locals) (hrest : (st.map fun v => v.category).sum ≤ 8) (hc : k + mc' ≤ R.cells ∧ sl + ms' ≤ R.slots)
    (kr : ∀ v n' ex' h', Q' (.inl v) n' ex' h' → g_W G M R K n' ex' h' (k + mc') (sl + ms') (pc + 3) ls (v.toList ++ st)) (kx : ∀ E n' ex' h', Q' (.inr E) n' ex' h' → g_X G M R K n' ex' h' (k + mc') (sl + ms') pc ls E) : g_W G M R K n ex h k sl pc ls st0 := by
  intro p l e s m args below meth c H locs Ls C hR hS hl
  have hE := C.env
  have hb : ∀ w ∈ [Cond.methodLink M.1.cls idx M'.1, Cond.instanceMethod M'.1, Cond.selects M'.1.cls M'.1 M'.1, Cond.initialized M'.1.cls], w.before args s = true := fun w hw => g_word hE (hsite.2.1 w (List.mem_cons_of_mem _ hw)).1 (g_keep_of (hsite.2.1 w (List.mem_cons_of_mem _ hw)).2) args
  have cb : CallB R s args M.1.cls idx M'.1 M'.2.1 M'.2.2.1 M'.2.2.2.1 [g_cw M'] (g_rm d' mc' ms') mc' ms' as.length := g_callB hE hsite (by simp) (by simp) hf hlo
  obtain ⟨r, h1, cell, q1, q2, q3, q4⟩ := (hR.1 i _ ho).2
  have hcl : s.vm.findClass M'.1.cls = some cell.cls := by
    rw [h1] at hci
    have h3 := (hE.2.1.1 ci _ h1).2.1
    rw [q2, ← Option.some.inj hci]
    exact h3
  refine g_after C hS hl (vx_runV (As := as.map (g_v G)) (rest := st.map (g_v G)) (Ts := []) (own := M.1.cls) (C := M'.1.cls) (b := g_sz G + i) ⟨C.1, C.2.2.1, C.2.2.2.1, C.own, fun w hw => by cases hw⟩ (hM l C.2.1) ⟨cb, hb _ (by simp), hb _ (by simp)⟩ ⟨g_blind, ⟨cell, q1, by rw [q3]; rfl, hcl⟩, fun U hU hW => g_pre (M' := M') (as := .ref i :: as) hE hR hS U hU hW⟩ rfl (by rw [List.length_map]) hl.1 ?_ ?_ hd hc) kr kx
  · show st0.map (g_v G) = _
    rw [hst, List.map_append, List.map_reverse]
    rfl
  · show 2 * 0 + _ ≤ 8
    rw [g_cats]
    omega
theorem g_callS {M' : gM} {Q' : gQ} {d' mc' ms' idx : Nat} {as st0 : List Value} (hd : decode M.2.1 pc = .ok (.invokestatic idx, 3)) (hM : g_M G M' d' mc' ms' as n ex h Q') (hsite : g_site M' as.length [Cond.methodLink M.1.cls idx M'.1, Cond.static M'.1, Cond.initialized M'.1.cls])
    (hst : st0 = as.reverse ++ st) (hf : d' + 1 ≤ R.frames) (hlo : 8 + (M'.2.2.1 + 11) + 41 * d' ≤ R.locals) (hrest : (st.map fun v => v.category).sum ≤ 8) (hc : k + mc' ≤ R.cells ∧ sl + ms' ≤ R.slots)
    (kr : ∀ v n' ex' h', Q' (.inl v) n' ex' h' → g_W G M R K n' ex' h' (k + mc') (sl + ms') (pc + 3) ls (v.toList ++ st)) (kx : ∀ E n' ex' h', Q' (.inr E) n' ex' h' → g_X G M R K n' ex' h' (k + mc') (sl + ms') pc ls E) : g_W G M R K n ex h k sl pc ls st0 := by
  intro p l e s m args below meth c H locs Ls C hR hS hl
  have hE := C.env
  have hb : ∀ w ∈ [Cond.methodLink M.1.cls idx M'.1, Cond.static M'.1, Cond.initialized M'.1.cls], w.before args s = true := fun w hw => g_word hE (hsite.2.1 w (List.mem_cons_of_mem _ hw)).1 (g_keep_of (hsite.2.1 w (List.mem_cons_of_mem _ hw)).2) args
  have cb : CallB R s args M.1.cls idx M'.1 M'.2.1 M'.2.2.1 M'.2.2.2.1 [g_cw M'] (g_rm d' mc' ms') mc' ms' as.length := g_callB hE hsite (by simp) (by simp) hf hlo
  refine g_after C hS hl (vx_runS (As := as.map (g_v G)) (rest := st.map (g_v G)) (Ts := []) (own := M.1.cls) ⟨C.1, C.2.2.1, C.2.2.2.1, C.own, fun w hw => by cases hw⟩ (hM l C.2.1) ⟨cb, hb _ (by simp)⟩ ⟨g_blind, fun U hU hW => g_pre (M' := M') (as := as) hE hR hS U hU hW⟩ rfl (by rw [List.length_map]) hl.1 ?_ ?_ hd hc) kr kx
  · show st0.map (g_v G) = _
    rw [hst, List.map_append, List.map_reverse]
  · show 2 * 0 + _ ≤ 8
    rw [g_cats]
    omega
/-- a contract that never throws, in the kit's own form -/
theorem g_M.met {M' : gM} {Q' : gQ} {d' mc' ms' : Nat} {as : List Value} (hM : g_M G M' d' mc' ms' as n ex h Q') (hno : ∀ E n' ex' h', ¬ Q' (.inr E) n' ex' h') (l : Launch) (hl : l.stackTraces = false) : Met l M'.1 [g_cw M'] (g_rm d' mc' ms') (va_Pc (as.map (g_v G)) (fun U => g_R G n ex h U.heap ∧ g_Env G U)) (g_Qc G Q') mc' ms' (g_A G) := by
  intro p e ha hc hk s m args below hf happ hP hK
  obtain ⟨N, o, a1, a2, a3, a4⟩ := hM l hl p e ha hc hk s m args below hf happ hP hK
  refine ⟨N, o, a1, a2, a3, ?_⟩
  rcases a4 with a4 | ⟨q, -, E, ce, L, ⟨n', ex', h', hq, -⟩, -⟩
  · exact a4
  · exact absurd hq (hno E n' ex' h')
theorem g_afterI {Q' : gQ} {mc' ms' : Nat} {st0 : List Value} {p : Program} {l : Launch} {e : Env} {s : State} {m : MethodId} {args : Array Value} {below : List Frame} {meth : Method} {c : Code} {H : Heap} {locs : List Loc} {Ls : Array Slot} {a : Array Value} (C : g_Cx G M p l s m meth c) (hS : va_S (g_A G) s.heap H locs) (hl : lv_has Ls M.2.2.1 (g_ls G ls))
    (hr : va_Run p l e R s m args below meth c H locs k sl mc' ms' (F0 m pc Ls (st0.map (g_v G))) (st.map (g_v G)) (g_Qc G Q' a) (g_A G))
    (kr : ∀ v n' ex' h', Q' (.inl v) n' ex' h' → g_W G M R K n' ex' h' (k + mc') (sl + ms') (pc + 3) ls (v.toList ++ st)) : W p l e R s m args below meth c H locs k sl (K below args s) (F0 m pc Ls (st0.map (g_v G))) := by
  intro T hT X
  obtain ⟨v, st₀, t, T', L, h0, X', hL, e1, e2, ⟨v', n', ex', h', hv, hq, hR', hF⟩, stp⟩ := hr T hT X
  obtain ⟨-, -, k3⟩ := vx_keep (A0 := g_A G) (A1 := g_A G) (free := g_A G) h0 e1 hS (fun _ _ z => z) (fun _ z => z) hL hF
  have hv' : v = v'.map (g_v G) := Outcome.returned.inj hv
  obtain ⟨t2, a1, b1⟩ := kr v' n' ex' h' hq p l e s m args below meth c T'.heap (locs ++ L) Ls C (by rw [e1]; exact hR') k3 hl T' rfl X'
  refine ⟨t2, stp t2 ?_, b1⟩
  have hstk : v.toList ++ st.map (g_v G) = (v'.toList ++ st).map (g_v G) := by rw [hv']; cases v' <;> rfl
  rw [hstk]
  exact a1
theorem g_callI {M' : gM} {Q' : gQ} {d' mc' ms' idx i : Nat} {as st0 : List Value} (hd : decode M.2.1 pc = .ok (.invokespecial idx, 3)) (hM : g_M G M' d' mc' ms' (.ref i :: as) n ex h Q') (hno : ∀ E n' ex' h', ¬ Q' (.inr E) n' ex' h') (hret : M'.2.2.2.1 = none) (hnm : M'.1.name = "<init>") (hsite : g_site M' as.length [Cond.methodLink M.1.cls idx M'.1, Cond.instanceMethod M'.1, Cond.initialized M'.1.cls])
    (hst : st0 = as.reverse ++ .ref i :: st) (hf : d' + 1 ≤ R.frames) (hlo : 8 + (M'.2.2.1 + 11) + 41 * d' ≤ R.locals) (hrest : (st.map fun v => v.category).sum ≤ 8) (hc : k + mc' ≤ R.cells ∧ sl + ms' ≤ R.slots)
    (kr : ∀ v n' ex' h', Q' (.inl v) n' ex' h' → g_W G M R K n' ex' h' (k + mc') (sl + ms') (pc + 3) ls (v.toList ++ st)) : g_W G M R K n ex h k sl pc ls st0 := by
  intro p l e s m args below meth c H locs Ls C hR hS hl
  have hE := C.env
  have hb : ∀ w ∈ [Cond.methodLink M.1.cls idx M'.1, Cond.instanceMethod M'.1, Cond.initialized M'.1.cls], w.before args s = true := fun w hw => g_word hE (hsite.2.1 w (List.mem_cons_of_mem _ hw)).1 (g_keep_of (hsite.2.1 w (List.mem_cons_of_mem _ hw)).2) args
  have cb : CallB R s args M.1.cls idx M'.1 M'.2.1 M'.2.2.1 M'.2.2.2.1 [g_cw M'] (g_rm d' mc' ms') mc' ms' as.length := g_callB hE hsite (by simp) (by simp) hf hlo
  rw [hret] at cb
  refine g_afterI C hS hl (va_runI (As := as.map (g_v G)) (rest := st.map (g_v G)) (Ts := []) (own := M.1.cls) (b := g_sz G + i) ⟨C.1, C.2.2.1, C.2.2.2.1, C.own, fun w hw => by cases hw⟩ (hM.met hno l C.2.1) ⟨cb, hnm, hb _ (by simp)⟩ ⟨g_blind, fun U hU hW => g_pre (M' := M') (as := .ref i :: as) hE hR hS U hU hW⟩ rfl (by rw [List.length_map]) hl.1 ?_ ?_ hd hc) kr
  · show st0.map (g_v G) = _
    rw [hst, List.map_append, List.map_reverse]
    rfl
  · show 2 * 0 + _ ≤ 8
    rw [g_cats]
    omega
/-- the constructor of a nest mate, private -/
theorem g_callIN {M' : gM} {Q' : gQ} {d' mc' ms' idx i : Nat} {as st0 : List Value} {host : String} (hd : decode M.2.1 pc = .ok (.invokespecial idx, 3)) (hM : g_M G M' d' mc' ms' (.ref i :: as) n ex h Q') (hno : ∀ E n' ex' h', ¬ Q' (.inr E) n' ex' h') (hret : M'.2.2.2.1 = none) (hnm : M'.1.name = "<init>") (hsite : g_site M' as.length [Cond.instanceMethod M'.1, Cond.initialized M'.1.cls]) (hlk : Cond.methodLinkNest M.1.cls idx M'.1 host ∈ lw_tbl)
    (hst : st0 = as.reverse ++ .ref i :: st) (hf : d' + 1 ≤ R.frames) (hlo : 8 + (M'.2.2.1 + 11) + 41 * d' ≤ R.locals) (hrest : (st.map fun v => v.category).sum ≤ 8) (hc : k + mc' ≤ R.cells ∧ sl + ms' ≤ R.slots)
    (kr : ∀ v n' ex' h', Q' (.inl v) n' ex' h' → g_W G M R K n' ex' h' (k + mc') (sl + ms') (pc + 3) ls (v.toList ++ st)) : g_W G M R K n ex h k sl pc ls st0 := by
  intro p l e s m args below meth c H locs Ls C hR hS hl
  obtain ⟨y, cc, maxL, ret, hh⟩ := M'
  have h1 : hh = [] := hsite.1
  subst h1
  have h2 : ret = none := hret
  subst h2
  have hE := C.env
  have hb : ∀ w ∈ g_cw (y, cc, maxL, none, []) :: [Cond.instanceMethod y, Cond.initialized y.cls], w.before args s = true := fun w hw => g_word hE (hsite.2.1 w hw).1 (g_keep_of (hsite.2.1 w hw).2) args
  have cn : va_CN R s args M.1.cls idx y host cc maxL none [g_cw (y, cc, maxL, none, [])] (g_rm d' mc' ms') mc' ms' as.length := va_cnB as.length (Ts := [g_cw (y, cc, maxL, none, [])]) (fun w hw => hb w (by rw [List.mem_singleton.mp hw]; exact List.mem_cons_self)) (fun w hw => ⟨hw, good_of_word (hsite.2.1 w (by rw [List.mem_singleton.mp hw]; exact List.mem_cons_self)).2⟩) rfl rfl rfl (va_Nw.of rfl (g_word hE hlk (by unfold g_keep; rw [Bool.or_true]) args)) (hb _ (by simp)) hsite.2.2 ⟨hf, hlo⟩
  refine g_afterI C hS hl (va_runIN (As := as.map (g_v G)) (rest := st.map (g_v G)) (Ts := []) (own := M.1.cls) (b := g_sz G + i) ⟨C.1, C.2.2.1, C.2.2.2.1, C.own, fun w hw => by cases hw⟩ (hM.met hno l C.2.1) ⟨cn, hnm, hb _ (by simp)⟩ ⟨g_blind, fun U hU hW => g_pre (M' := (y, cc, maxL, none, [])) (as := .ref i :: as) hE hR hS U hU hW⟩ rfl (by rw [List.length_map]) hl.1 ?_ ?_ hd hc) kr
  · show st0.map (g_v G) = _
    rw [hst, List.map_append, List.map_reverse]
    rfl
  · show 2 * 0 + _ ≤ 8
    rw [g_cats]
    omega
end GOK
