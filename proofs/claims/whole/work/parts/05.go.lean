/-! A heap by ids, its relation to the machine's heap, and a judgement over it: the kit's walk with everything but pc, locals, stack and heap packed away. -/
section GOD
abbrev gC : Type := (Nat × vp_A) ⊕ (Nat × List Value)
abbrev gH : Type := Nat → Option gC
/-- size at the law's entry; numbers of classes and slots; array classes; addresses of the arrays that were there; the script -/
abbrev gG : Type := Nat × va_G × (Nat → ClassId) × (Nat → Nat) × (Nat × (Nat → Int32))
/-- name, bytes, locals, type of the answer, handlers -/
abbrev gM : Type := MethodName × ByteArray × Nat × Option FieldType × List (Nat × Nat × Nat × Nat)
def g_sz (G : gG) : Nat := G.1
def g_D (G : gG) : va_G := G.2.1
def g_dA (G : gG) : Nat → ClassId := G.2.2.1
def g_st (G : gG) : Nat → Nat := G.2.2.2.1
def g_L (G : gG) : Nat := G.2.2.2.2.1
def g_xs (G : gG) : Nat → Int32 := G.2.2.2.2.2
def g_A (G : gG) : Nat → Prop := fun q => g_sz G ≤ q
def g_ty : Nat → FieldType := fun t => match t with
  | 0 => .int
  | 1 => .byte
  | 2 => .boolean
  | 3 => .long
  | _ => .object "PollAudit$Pair"
def g_tys (G : gG) : List (ClassId × FieldType) := [(g_dA G 0, .int), (g_dA G 1, .byte), (g_dA G 2, .boolean), (g_dA G 3, .long), (g_dA G 4, .object "PollAudit$Pair")]
/-- a value: ids are addresses behind the entry's heap; a float stands for an array that was there before -/
def g_v (G : gG) : Value → Value := fun v => match v with
  | .ref k => .ref (g_sz G + k)
  | .float j => .ref (g_st G j.toNat)
  | v => v
abbrev g_ia (t n : Nat) (f : Nat → Int32) : gC := .inl (t, n, .inl f)
abbrev g_la (n : Nat) (f : Nat → Int64) : gC := .inl (3, n, .inr (.inl f))
abbrev g_qa (n : Nat) (f : Nat → Option Nat) : gC := .inl (4, n, .inr (.inr (.inr (.inr f))))
abbrev g_ob (ci : Nat) (fs : List Value) : gC := .inr (ci, fs)
def g_ar (G : gG) : vp_A → vp_A := fun a => match a with
  | (n, .inr (.inr (.inr (.inr f)))) => (n, .inr (.inr (.inr (.inr (fun j => (f j).map (fun k => g_sz G + k))))))
  | a => a
def g_E (G : gG) : gC → va_E := fun c => match c with
  | .inl (t, a) => .inl (g_dA G t, g_ar G a)
  | .inr (ci, fs) => .inr (ci, fs.map (g_v G))
def g_up (h : gH) (k : Nat) (c : gC) : gH := fun j => if j = k then some c else h j
theorem g_eq {h : gH} {k : Nat} {c : gC} : g_up h k c k = some c := if_pos rfl
theorem g_ne {h : gH} {k j : Nat} {c : gC} {r : Option gC} (hj : j ≠ k) (hr : h j = r) : g_up h k c j = r := (if_neg hj).trans hr
theorem g_uu (h : gH) (k : Nat) (c d : gC) : g_up (g_up h k c) k d = g_up h k d := by
  funext j
  by_cases hj : j = k
  · subst hj; rw [g_eq, g_eq]
  · rw [g_ne hj (g_ne hj rfl), g_ne hj rfl]
theorem g_uc (h : gH) {j k : Nat} (hjk : j ≠ k) (c d : gC) : g_up (g_up h j c) k d = g_up (g_up h k d) j c := by
  funext i
  by_cases h1 : i = j
  · subst h1; rw [g_ne hjk g_eq, g_eq]
  · by_cases h2 : i = k
    · subst h2; rw [g_eq, g_ne h1 g_eq]
    · rw [g_ne h2 (g_ne h1 rfl), g_ne h1 (g_ne h2 rfl)]
theorem g_us {h : gH} {k : Nat} {c : gC} (hk : h k = some c) : g_up h k c = h := by
  funext j
  by_cases hj : j = k
  · subst hj; rw [g_eq, hk]
  · rw [g_ne hj rfl]
/-- two ids whose cells differ -/
theorem g_ap {h : gH} {j k : Nat} {c d : gC} (hj : h j = some c) (hk : h k = some d) (hcd : c ≠ d) : j ≠ k := fun e => hcd (Option.some.inj (by rw [← hj, ← hk, e]))
/-- the machine's heap H holds h: n cells behind the entry's; exact: nothing else was made -/
def g_R (G : gG) (n : Nat) (ex : Bool) (h : gH) (H : Heap) : Prop := (∀ (k : Nat) (c : gC), h k = some c → k < n ∧ va_at (g_D G) vwCl (g_sz G + k, g_E G c) H) ∧ g_sz G + n ≤ H.size ∧ (ex = true → H.size = g_sz G + n)
theorem g_R.set {G : gG} {n : Nat} {ex : Bool} {h : gH} {H H1 : Heap} {k : Nat} {c c' : gC} (hR : g_R G n ex h H) (hk : h k = some c) (hc : va_at (g_D G) vwCl (g_sz G + k, g_E G c') H1) (hz : H1.size = H.size) (ho : ∀ q : Nat, q ≠ g_sz G + k → H1[q]? = H[q]?) : g_R G n ex (g_up h k c') H1 := by
  refine ⟨fun j d hj => ?_, by rw [hz]; exact hR.2.1, fun e => by rw [hz]; exact hR.2.2 e⟩
  by_cases hjk : j = k
  · subst hjk
    rw [g_eq] at hj
    cases hj
    exact ⟨(hR.1 _ _ hk).1, hc⟩
  · rw [g_ne hjk rfl] at hj
    obtain ⟨h1, h2⟩ := hR.1 _ _ hj
    exact ⟨h1, h2.kept (ho _ (by omega))⟩
theorem g_R.new {G : gG} {n : Nat} {h : gH} {H H1 : Heap} {c : gC} (hR : g_R G n true h H) (hc : va_at (g_D G) vwCl (g_sz G + n, g_E G c) H1) (hz : H1.size = g_sz G + n + 1) (ho : ∀ q : Nat, q < g_sz G + n → H1[q]? = H[q]?) : g_R G (n + 1) true (g_up h n c) H1 := by
  refine ⟨fun j d hj => ?_, by omega, fun _ => by omega⟩
  by_cases hjk : j = n
  · subst hjk
    rw [g_eq] at hj
    cases hj
    exact ⟨by omega, hc⟩
  · rw [g_ne hjk rfl] at hj
    obtain ⟨h1, h2⟩ := hR.1 _ _ hj
    exact ⟨by omega, h2.kept (ho _ (by show g_sz G + j < _; omega))⟩
theorem g_R.grow {G : gG} {n : Nat} {ex : Bool} {h : gH} {H H1 : Heap} (hR : g_R G n ex h H) (hz : H.size ≤ H1.size) (ho : ∀ q : Nat, q < H.size → H1[q]? = H[q]?) : g_R G n false h H1 := by
  refine ⟨fun j d hj => ?_, Nat.le_trans hR.2.1 hz, fun e => by cases e⟩
  obtain ⟨h1, h2⟩ := hR.1 _ _ hj
  exact ⟨h1, h2.kept (ho _ (by have := hR.2.1; show g_sz G + j < _; omega))⟩
theorem g_R.weak {G : gG} {n : Nat} {ex : Bool} {h : gH} {H : Heap} (hR : g_R G n ex h H) : g_R G n false h H := ⟨hR.1, hR.2.1, fun e => by cases e⟩
/-- words that stay true in warmer tables -/
def g_keep (w : Cond) : Bool := goodWord w || (match w with
  | .fieldLinkNest .. => true
  | .methodLinkNest .. => true
  | .declares _ => true
  | .castable .. => true
  | _ => false)
theorem g_keep_warm {w : Cond} {a a' : Array Value} {s U : State} (hg : g_keep w = true) (hW : s.WarmedH U.vm) (h : w.before a s = true) : w.before a' U = true := by
  by_cases gw : goodWord w = true
  · exact word_at hW (good_of_word gw) h
  · cases w with
    | fieldLinkNest => exact va_Nw.use rfl (va_Nw.warmF hW (va_Nw.of rfl h))
    | methodLinkNest => exact va_Nw.use rfl (va_Nw.warmM hW (va_Nw.of rfl h))
    | declares => exact va_Nw.use rfl (va_Nw.warmD hW (va_Nw.of rfl h))
    | castable => exact va_Nw.use rfl (va_Nw.warmC hW (va_Nw.of rfl h))
    | _ =>
      unfold g_keep at hg
      rw [Bool.not_eq_true] at gw
      rw [gw] at hg
      exact absurd (show (false : Bool) = true from hg) (by decide)
def g_tn (G : gG) (j : Nat) : Nat := match j with
  | 0 => g_L G
  | 1 => 8
  | _ => 64
def g_sha0 : List Int32 := [1779033703, -1150833019, 1013904242, -1521486534, 1359893119, -1694144372, 528734635, 1541459225]
def g_sha1 : List Int32 := [1116352408, 1899447441, -1245643825, -373957723, 961987163, 1508970993, -1841331548, -1424204075, -670586216, 310598401, 607225278, 1426881987, 1925078388, -2132889090, -1680079193, -1046744716, -459576895, -272742522, 264347078, 604807628, 770255983, 1249150122, 1555081692, 1996064986, -1740746414, -1473132947, -1341970488, -1084653625, -958395405, -710438585, 113926993, 338241895, 666307205, 773529912, 1294757372, 1396182291, 1695183700, 1986661051, -2117940946, -1838011259, -1564481375, -1474664885, -1035236496, -949202525, -778901479, -694614492, -200395387, 275423344, 430227734, 506948616, 659060556, 883997877, 958139571, 1322822218, 1537002063, 1747873779, 1955562222, 2024104815, -2067236844, -1933114872, -1866530822, -1538233109, -1090935817, -965641998]
def g_tf (G : gG) (j : Nat) : Nat → Int32 := match j with
  | 0 => g_xs G
  | 1 => fun i => g_sha0.getD i 0
  | _ => fun i => g_sha1.getD i 0
def g_tx (j : Nat) : String := match j with
  | 1 => "SHA_START"
  | _ => "SHA_ROUNDS"
def g_strs : List (Nat × String) := [(350, "the number is out of its range"), (352, "it is another stage"), (84, "no room for a candidate more"), (99, "no room for a batch more"), (348, "there is no such one"), (116, "the fraction is not on its side of 1"), (133, "no such last ballot"), (145, "no room for a digit more"), (151, "no room for so many coins"), (163, "what is set does not do for an audit"), (281, "draws have numbers from 1 on"), (354, "it is SETTING")]
def g_exs : List String := ["java/lang/IllegalArgumentException", "java/lang/IllegalStateException", "java/lang/IndexOutOfBoundsException", "java/lang/UnsupportedOperationException"]
/-- what holds at the entry of every method of the run -/
def g_Env (G : gG) (U : State) : Prop :=
  (∀ w ∈ lw_tbl, g_keep w = true → ∀ a, w.before a U = true) ∧ va_K (g_D G) vwCl (g_tys G) U ∧ va_AO "PollAudit$Pair" U ∧
  (∀ q ∈ g_strs, ∃ sa, vk_R RX10 q.1 q.2 sa U) ∧ (∀ x ∈ g_exs, ∀ y ∈ g_exs, x ≠ y → va_Nc x y U) ∧
  (∀ j, j < 3 → va_T .int (g_st G j) (g_tn G j) (fun i => .int (g_tf G j i)) (g_A G) U U.heap) ∧
  (∀ j, 1 ≤ j → j < 3 → va_Z RX10 (g_tx j) "[I" (.ref (g_st G j)) (g_A G) U U.heap) ∧
  vx_Zq Bundle.tN "UNASSIGNED_STACK" Bundle.steD (g_A G) U U.heap ∧ vx_Zq Bundle.tN "SUPPRESSED_SENTINEL" Bundle.listD (g_A G) U U.heap
theorem g_Env.moved {G : gG} {s U : State} (h : g_Env G s) (hW : s.WarmedH U.vm) (ho : ∀ a : Nat, a < s.heap.size → ¬ g_A G a → U.heap[a]? = s.heap[a]?) : g_Env G U := by
  obtain ⟨h1, h2, h3, h4, h5, h6, h7, h8, h9⟩ := h
  refine ⟨fun w hw hg a => g_keep_warm hg hW (h1 w hw hg #[]), va_K.moved hW.alike h2, va_AO.moved hW.alike h3, fun q hq => ?_, fun x hx y hy e => va_Nc.moved hW.alike (h5 x hx y hy e), fun j hj => va_T.moved hW.alike ((h6 j hj).kept ho), fun j a b => va_Z.moved hW.alike ((h7 j a b).kept ho), vx_Zq.moved hW.alike (h8.kept ho), vx_Zq.moved hW.alike (h9.kept ho)⟩
  obtain ⟨sa, hs⟩ := h4 q hq
  exact ⟨sa, hs.warm hW⟩
theorem g_Env.same {G : gG} {s U : State} (h : g_Env G s) (hv : s.vm = U.vm) (hh : U.heap = s.heap) : g_Env G U := h.moved (by rw [← hv]; exact State.WarmedH.refl s) (fun a _ _ => by rw [hh])
/-- the context of a walk -/
def g_Cx (G : gG) (M : gM) (p : Program) (l : Launch) (s : State) (m : MethodId) (meth : Method) (c : Code) : Prop :=
  p.tables.exec = Jvm.exec ∧ l.stackTraces = false ∧ c.code = M.2.1 ∧ c.maxLocals = M.2.2.1 ∧ meth.sig.returnType = M.2.2.2.1 ∧ meth.locks = false ∧ s.vm.findClass M.1.cls = some m.cls ∧ meth.name = M.1.name ∧ c.exceptionTable.toList = tableOf M.2.2.2.2 ∧ g_Env G s
abbrev gK : Type := List Frame → Array Value → State → State → Prop
def g_ls (G : gG) (ls : List (Nat × Value)) : List (Nat × Value) := ls.map (fun q => (q.1, g_v G q.2))
/-- the judgement -/
def g_W (G : gG) (M : gM) (R : Room) (K : gK) (n : Nat) (ex : Bool) (h : gH) (k sl pc : Nat) (ls : List (Nat × Value)) (st : List Value) : Prop :=
  ∀ (p : Program) (l : Launch) (e : Env) (s : State) (m : MethodId) (args : Array Value) (below : List Frame) (meth : Method) (c : Code) (H : Heap) (locs : List Loc) (Ls : Array Slot),
    g_Cx G M p l s m meth c → g_R G n ex h H → va_S (g_A G) s.heap H locs → lv_has Ls M.2.2.1 (g_ls G ls) → W p l e R s m args below meth c H locs k sl (K below args s) (F0 m pc Ls (st.map (g_v G)))
/-- an exception of class E is on its way at pc -/
def g_X (G : gG) (M : gM) (R : Room) (K : gK) (n : Nat) (ex : Bool) (h : gH) (k sl pc : Nat) (ls : List (Nat × Value)) (E : String) : Prop :=
  ∀ (p : Program) (l : Launch) (e : Env) (s : State) (m : MethodId) (args : Array Value) (below : List Frame) (meth : Method) (c : Code) (H : Heap) (locs : List Loc) (Ls : Array Slot) (rest : List Value) (q : Nat) (ce : Cell),
    g_Cx G M p l s m meth c → g_R G n ex h H → va_S (g_A G) s.heap H locs → lv_has Ls M.2.2.1 (g_ls G ls) → H[q]? = some ce → ce.vm = .none → s.vm.findClass E = some ce.cls → vx_W p l e R s m args below meth c H locs k sl (K below args s) (F0 m pc Ls rest) q
abbrev gQ : Type := (Option Value ⊕ String) → Nat → Bool → gH → Prop
def g_Qc (G : gG) (Q : gQ) : Array Value → State → Outcome → State → Prop := fun _ st o t => ∃ (v : Option Value) (n : Nat) (ex : Bool) (h : gH), o = .returned (v.map (g_v G)) ∧ Q (.inl v) n ex h ∧ g_R G n ex h t.heap ∧ va_F (g_A G) st t
def g_XC (G : gG) (Q : gQ) : String → State → State → Prop := fun E st t => ∃ (n : Nat) (ex : Bool) (h : gH), Q (.inr E) n ex h ∧ g_R G n ex h t.heap ∧ va_F (g_A G) st t
def g_K (G : gG) (Q : gQ) (mc ms : Nat) : gK := fun below args s => vx_MQ below (g_Qc G Q) (g_XC G Q) args s mc ms (g_A G)
def g_rm (d mc ms : Nat) : Room := { frames := d, cells := mc, slots := ms, locals := 41 * d }
def g_cw (M : gM) : Cond := match M.2.2.2.2 with
  | [] => .code M.1 M.2.1 M.2.2.1 M.2.2.2.1
  | hh => .codeWith M.1 M.2.1 M.2.2.1 M.2.2.2.1 hh
/-- a method's contract: from arguments as and heap h it ends with Q -/
def g_M (G : gG) (M : gM) (d mc ms : Nat) (as : List Value) (n : Nat) (ex : Bool) (h : gH) (Q : gQ) : Prop :=
  ∀ l : Launch, l.stackTraces = false → vx_Met l M.1 [g_cw M] (g_rm d mc ms) (va_Pc (as.map (g_v G)) (fun U => g_R G n ex h U.heap ∧ g_Env G U)) (g_Qc G Q) (g_XC G Q) mc ms (g_A G)
theorem g_cat (G : gG) (v : Value) : (g_v G v).category = v.category := by cases v <;> rfl
theorem g_cats (G : gG) (st : List Value) : ((st.map (g_v G)).map fun v => v.category).sum = (st.map fun v => v.category).sum := by
  rw [List.map_map]
  congr 1
  exact List.map_congr_left (fun v _ => g_cat G v)
theorem g_args (G : gG) : ∀ (as : List Value) (i : Nat), lv_args i (as.map (g_v G)) = g_ls G (lv_args i as)
  | [], _ => rfl
  | v :: vs, i => by
    show (i, g_v G v) :: lv_args (if (g_v G v).category = 2 then i + 2 else i + 1) (vs.map (g_v G)) = (i, g_v G v) :: g_ls G (lv_args (if v.category = 2 then i + 2 else i + 1) vs)
    rw [g_cat, g_args G vs]
theorem g_sll (G : gG) (as : List Value) : (lg_sl (as.map (g_v G))).length = (lg_sl as).length := by
  induction as with
  | nil => rfl
  | cons v vs ih =>
    cases v <;> simp_all [lg_sl, g_v, Value.category]
theorem g_blind {G : gG} {as : List Value} {n : Nat} {ex : Bool} {h : gH} : FrameBlind (va_Pc (as.map (g_v G)) (fun U => g_R G n ex h U.heap ∧ g_Env G U)) := fun a U g mk hq => ⟨hq.1, hq.2.1, hq.2.2.same rfl rfl⟩
/-- a contract from the walk of the body -/
theorem g_enter {G : gG} {M : gM} {d mc ms : Nat} {as : List Value} {n : Nat} {ex : Bool} {h : gH} {Q : gQ} (hy : plainName M.1.cls = true) (hsl : (lg_sl as).length ≤ M.2.2.1)
    (body : g_W G M (g_rm d mc ms) (g_K G Q mc ms) n ex h 0 0 0 (lv_args 0 as) []) : g_M G M d mc ms as n ex h Q := by
  intro l hl
  obtain ⟨y, cc, maxL, ret, hh⟩ := M
  have key : ∀ (p : Program) (e : Env) (s : State) (m : MethodId) (args : Array Value) (below : List Frame) (meth : Method) (c : Code) (s₁ : State), BodyLoose p l y (headSpec [g_cw (y, cc, maxL, ret, hh)] (g_rm d mc ms)) cc maxL ret e s m args below meth c s₁ → c.maxLocals = maxL → c.exceptionTable.toList = tableOf hh →
      va_Pc (as.map (g_v G)) (fun U => g_R G n ex h U.heap ∧ g_Env G U) args s → W p l e (headSpec [g_cw (y, cc, maxL, ret, hh)] (g_rm d mc ms)).room s m args below meth c s.heap [] 0 0 (vx_MQ below (g_Qc G Q) (g_XC G Q) args s mc ms (g_A G)) (entryFrame m args maxL) := by
    intro p e s m args below meth c s₁ B hml ht hv
    obtain ⟨rfl, hR, hE⟩ := hv
    have hown : s.vm.findClass y.cls = some m.cls := findClass_of_methodNamed B.named
    have hen := lv_entry (as.map (g_v G)) (n := maxL) (by rw [g_sll]; exact hsl)
    rw [lg_entry_eq]
    rw [g_args] at hen
    exact body p l e s m _ below meth c s.heap [] _ ⟨B.exec, hl, B.bytes, hml, B.returns, B.notSynchronized, hown, (name_of_methodNamed B.named B.method).1, ht, hE⟩ hR va_S.rf hen
  cases hh with
  | nil => exact vx_ofW (cc := cc) (maxL := maxL) (ret := ret) hy rfl (fun p e s m args below meth c s₁ B hml ht hv => key p e s m args below meth c s₁ B hml (by
      cases hx : c.exceptionTable.toList with
      | nil => rfl
      | cons x xs => exact absurd (by rw [hx]; exact List.mem_cons_self) (ht x)) hv)
  | cons q qs => exact vx_ofWH (cc := cc) (maxL := maxL) (ret := ret) (hh := q :: qs) hy rfl (fun p e s m args below meth c s₁ B hml hv => key p e s m args below meth c s₁ B hml (vx_table (x := y) B (atoms_spec (ws := [g_cw (y, cc, maxL, ret, q :: qs)]) B.pre _ List.mem_cons_self)) hv)
def g_get (ls : List (Nat × Value)) (i : Nat) : Option Value := (ls.find? (fun q => q.1 == i)).map (fun q => q.2)
theorem g_get_mem {ls : List (Nat × Value)} {i : Nat} {v : Value} (h : g_get ls i = some v) : (i, v) ∈ ls := by
  unfold g_get at h
  cases hf : ls.find? (fun q => q.1 == i) with
  | none => rw [hf] at h; cases h
  | some q =>
    rw [hf] at h
    have h1 := List.mem_of_find?_eq_some hf
    have h2 : q.1 = i := by simpa using List.find?_some hf
    cases h
    rw [← h2]
    exact h1
theorem g_at {G : gG} {Ls : Array Slot} {N i : Nat} {ls : List (Nat × Value)} {v : Value} (hl : lv_has Ls N (g_ls G ls)) (h : g_get ls i = some v) : Ls[i]? = some (.val (g_v G v)) := hl.2.2 (i, g_v G v) (List.mem_map.mpr ⟨(i, v), g_get_mem h, rfl⟩)
def g_s1 (ls : List (Nat × Value)) (i : Nat) (v : Value) : List (Nat × Value) := (i, v) :: ls.filter (fun q => !(q.1 == i) && !(q.1 + 1 == i && q.2.category == 2))
def g_s2 (ls : List (Nat × Value)) (i : Nat) (v : Value) : List (Nat × Value) := (i, v) :: ls.filter (fun q => !(q.1 == i) && (!(q.1 == i + 1) && !(q.1 + 1 == i && q.2.category == 2)))
theorem g_filter {G : gG} {ls : List (Nat × Value)} (f : Nat → Nat → Bool) : (g_ls G ls).filter (fun q => f q.1 q.2.category) = g_ls G (ls.filter (fun q => f q.1 q.2.category)) := by
  unfold g_ls
  rw [List.filter_map]
  congr 1
  exact List.filter_congr (fun q _ => by show f q.1 (g_v G q.2).category = _; rw [g_cat])
theorem g_ls1 {G : gG} {ls : List (Nat × Value)} {i : Nat} {v : Value} : (i, g_v G v) :: (g_ls G ls).filter (fun q => !(q.1 == i) && !(q.1 + 1 == i && q.2.category == 2)) = g_ls G (g_s1 ls i v) := by
  have := g_filter (G := G) (ls := ls) (fun a b => !(a == i) && !(a + 1 == i && b == 2))
  rw [this]; rfl
theorem g_ls2 {G : gG} {ls : List (Nat × Value)} {i : Nat} {v : Value} : (i, g_v G v) :: (g_ls G ls).filter (fun q => !(q.1 == i) && (!(q.1 == i + 1) && !(q.1 + 1 == i && q.2.category == 2))) = g_ls G (g_s2 ls i v) := by
  have := g_filter (G := G) (ls := ls) (fun a b => !(a == i) && (!(a == i + 1) && !(a + 1 == i && b == 2)))
  rw [this]; rfl
end GOD
