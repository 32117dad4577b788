section GOH
variable {G : gG} {M : gM} {R : Room} {K : gK} {n : Nat} {ex : Bool} {h : gH} {k sl pc : Nat} {ls : List (Nat × Value)} {st : List Value}
theorem g_Cx.env {p : Program} {l : Launch} {s : State} {m : MethodId} {meth : Method} {c : Code} (C : g_Cx G M p l s m meth c) : g_Env G s := C.2.2.2.2.2.2.2.2.2
theorem g_Cx.own {p : Program} {l : Launch} {s : State} {m : MethodId} {meth : Method} {c : Code} (C : g_Cx G M p l s m meth c) : s.vm.findClass M.1.cls = some m.cls := C.2.2.2.2.2.2.1
theorem g_Cx.locks {p : Program} {l : Launch} {s : State} {m : MethodId} {meth : Method} {c : Code} (C : g_Cx G M p l s m meth c) : meth.locks = false := C.2.2.2.2.2.1
theorem g_Cx.ret {p : Program} {l : Launch} {s : State} {m : MethodId} {meth : Method} {c : Code} (C : g_Cx G M p l s m meth c) : meth.sig.returnType = M.2.2.2.1 := C.2.2.2.2.1
/-- the words of a class of ours -/
def g_cls (ci : Nat) (C : String) (T : u_T) (N : Nat) (ty : Nat → FieldType) : Prop := vwCl[ci]? = some (C, T, N) ∧ (∀ w ∈ u_ws C T N, w ∈ lw_tbl ∧ g_keep w = true) ∧ (∀ k, k < N → parseFieldDescriptor (T k).2.2.1 = some (ty k)) ∧ (∀ a, a < N → ∀ b, b < N → a ≠ b → (T a).2.1 ≠ (T b).2.1)
/-- entry idx of the pool of own: field j of class ci -/
def g_fld (own : String) (idx ci j : Nat) (ty : FieldType) (fin : Bool) : Prop := ∃ (C : String) (T : u_T) (N : Nat) (ty0 : Nat → FieldType), g_cls ci C T N ty0 ∧ j < N ∧ (T j).1 = C ∧ ty0 j = ty ∧ (T j).2.2.2 = fin ∧ (Cond.fieldLink own idx C (T j).2.1 (T j).2.2.1 ∈ lw_tbl ∧ g_keep (Cond.fieldLink own idx C (T j).2.1 (T j).2.2.1) = true)
theorem g_getf {i ci j idx : Nat} {ty : FieldType} {fin : Bool} {fs : List Value} {v : Value} (hd : decode M.2.1 pc = .ok (.getfield idx, 3)) (hF : g_fld M.1.cls idx ci j ty fin) (ho : h i = some (.inr (ci, fs))) (hv : fs[j]? = some v) (kk : g_W G M R K n ex h k sl (pc + 3) ls (v :: st)) : g_W G M R K n ex h k sl pc ls (.ref i :: st) := by
  intro p l e s m args below meth c H locs Ls C hR hS hl
  obtain ⟨CC, T, N, ty0, ⟨hc, hin, hty, hnm⟩, hj, hT, -, -, hw, hg⟩ := hF
  have hE := C.env
  have hts : ∀ w ∈ u_ws CC T N, w.before args s = true := fun w hw => hE.1 w (hin w hw).1 (hin w hw).2 args
  obtain ⟨r, h1, cell, q1, q2, q3, q4⟩ := (hR.1 i _ ho).2
  have hr : r = (CC, T, N) := Option.some.inj (h1.symm.trans hc)
  subst hr
  obtain ⟨hS9, hfc, kC, hkC, hkind⟩ := hE.2.1.1 ci _ hc
  obtain ⟨cf, kf, fi, f, hi, hsl⟩ := hS9 j hj
  refine W.getf C.1 C.2.2.1 C.own (g_word hE hw hg args) (by rw [← hT]; exact hi) (u_facts hfc hkC (u_lays hts (fun _ q => q) hj) hi).1 q1 (by rw [q3]; exact fun q => by cases q) (v := g_v G v) ?_ rfl rfl hd (kk p l e s m args below meth c H locs Ls C hR hS hl)
  rw [hsl, q4 j hj]
  simp [vp_V, hv]
theorem g_putf {i ci j idx : Nat} {ty : FieldType} {fs : List Value} {v : Value} (hd : decode M.2.1 pc = .ok (.putfield idx, 3)) (hF : g_fld M.1.cls idx ci j ty false) (ho : h i = some (.inr (ci, fs))) (hlen : j < fs.length) (hn : narrow ty (g_v G v) = g_v G v) (hf : fits ty (g_v G v) = true)
    (kk : g_W G M R K n ex (g_up h i (.inr (ci, fs.set j v))) k sl (pc + 3) ls st) : g_W G M R K n ex h k sl pc ls (v :: .ref i :: st) := by
  intro p l e s m args below meth c H locs Ls C hR hS hl
  obtain ⟨CC, T, N, ty0, ⟨hc, hin, hty, hnm⟩, hj, hT, hty9, hfin, hw, hg⟩ := hF
  have hE := C.env
  have hts : ∀ w ∈ u_ws CC T N, w.before args s = true := fun w hw => hE.1 w (hin w hw).1 (hin w hw).2 args
  have hap := va_apart (own := M.1.cls) hts (fun _ q => q) ty0 hty hnm hE.2.1 hc
  obtain ⟨r, h1, cell, q1, q2, q3, q4⟩ := (hR.1 i _ ho).2
  have hr : r = (CC, T, N) := Option.some.inj (h1.symm.trans hc)
  subst hr
  obtain ⟨hS9, hfc, kC, hkC, hkind⟩ := hE.2.1.1 ci _ hc
  obtain ⟨cf, kf, fi, f, hi, hsl⟩ := hS9 j hj
  have hlay := hts _ (u_in_lay hj)
  unfold u_lay at hlay
  rw [if_neg (by rw [hfin]; decide)] at hlay
  have hst := (u_facts hfc hkC (u_lays hts (fun _ q => q) hj) hi).1
  have h6 := u_store hfc hkC hkind hlay hi ((hty j hj).trans (by rw [hty9])) hn hf
  refine W.putK C.1 C.2.2.1 (f := f) ⟨C.own, g_word hE hw hg args, ⟨_, _, _, by rw [← hT]; exact hi⟩, hst⟩ (by rw [q2]; exact h6) q1 q3 (by rw [hsl]; exact k2_hasslot (q4 j hj)) rfl rfl hd fun H' e1 e2 e3 => ?_
  rw [hsl] at e1 ⊢
  refine kk p l e s m args below meth c H' _ Ls C (hR.set ho ?_ e2 e3) (hS.put e2 e3 (Nat.le_add_right _ _)) hl
  show va_at _ _ (g_sz G + i, .inr (ci, (fs.set j v).map (g_v G))) H'
  rw [List.map_set]
  exact ⟨_, hc, t_OB.to (V := updV (vp_V (fs.map (g_v G))) j (g_v G v)) ⟨_, e1, q2, q3, t_set q4 hap hj (g_v G v)⟩ (fun a _ => vp_updV_set (by rw [List.length_map]; exact hlen) (g_v G v) a)⟩
theorem g_putF {i ci j idx : Nat} {ty : FieldType} {fs : List Value} {v : Value} (hd : decode M.2.1 pc = .ok (.putfield idx, 3)) (hF : g_fld M.1.cls idx ci j ty true) (hown : vwCl[ci]?.map (fun q => q.1) = some M.1.cls) (hnm9 : M.1.name = "<init>") (ho : h i = some (.inr (ci, fs))) (hlen : j < fs.length) (hn : narrow ty (g_v G v) = g_v G v) (hf : fits ty (g_v G v) = true)
    (kk : g_W G M R K n ex (g_up h i (.inr (ci, fs.set j v))) k sl (pc + 3) ls st) : g_W G M R K n ex h k sl pc ls (v :: .ref i :: st) := by
  intro p l e s m args below meth c H locs Ls C hR hS hl
  obtain ⟨CC, T, N, ty0, ⟨hc, hin, hty, hnm⟩, hj, hT, hty9, hfin, hw, hg⟩ := hF
  have hE := C.env
  have hCC : CC = M.1.cls := by rw [hc] at hown; exact Option.some.inj hown
  have hts : ∀ w ∈ u_ws CC T N, w.before args s = true := fun w hw => hE.1 w (hin w hw).1 (hin w hw).2 args
  have hap := va_apart (own := M.1.cls) hts (fun _ q => q) ty0 hty hnm hE.2.1 hc
  obtain ⟨r, h1, cell, q1, q2, q3, q4⟩ := (hR.1 i _ ho).2
  have hr : r = (CC, T, N) := Option.some.inj (h1.symm.trans hc)
  subst hr
  obtain ⟨hS9, hfc, kC, hkC, hkind⟩ := hE.2.1.1 ci _ hc
  obtain ⟨cf, kf, fi, f, hi, hsl⟩ := hS9 j hj
  have hlay := hts _ (u_in_lay hj)
  unfold u_lay at hlay
  rw [if_pos hfin] at hlay
  have hst := (u_facts hfc hkC (u_lays hts (fun _ q => q) hj) hi).1
  have hcf : m.cls = cf := by
    obtain ⟨_, _, c', _, _, _, -, -, hf', -, -, -, hown2, -⟩ := Cond.laysFinal_spec hlay
    have e1 : c' = cf := by have := hi.symm.trans hf'; simp at this; exact this.1.symm
    rw [hT, hCC] at hown2
    rw [← e1]; exact Option.some.inj (C.own.symm.trans hown2)
  have h6 := u_fits hfc hkC hkind (Or.inr hlay) hi ((hty j hj).trans (by rw [hty9])) hn hf
  refine W.putFinK C.1 C.2.2.1 C.own (g_word hE hw hg args) (by rw [← hT]; exact hi) hst hcf (C.2.2.2.2.2.2.2.1.trans hnm9) (by rw [q2]; exact h6) q1 q3 (by rw [hsl]; exact k2_hasslot (q4 j hj)) rfl rfl hd fun H' e1 e2 e3 => ?_
  rw [hsl] at e1 ⊢
  refine kk p l e s m args below meth c H' _ Ls C (hR.set ho ?_ e2 e3) (hS.put e2 e3 (Nat.le_add_right _ _)) hl
  show va_at _ _ (g_sz G + i, .inr (ci, (fs.set j v).map (g_v G))) H'
  rw [List.map_set]
  exact ⟨_, hc, t_OB.to (V := updV (vp_V (fs.map (g_v G))) j (g_v G v)) ⟨_, e1, q2, q3, t_set q4 hap hj (g_v G v)⟩ (fun a _ => vp_updV_set (by rw [List.length_map]; exact hlen) (g_v G v) a)⟩
theorem g_iald {i N : Nat} {f : Nat → Int32} {j : Int32} (hd : decode M.2.1 pc = .ok (.iaload, 1)) (ho : h i = some (.inl (0, N, .inl f))) (hin : vp_in j N) (kk : g_W G M R K n ex h k sl (pc + 1) ls (.int (f j.toNatClampNeg) :: st)) : g_W G M R K n ex h k sl pc ls (.int j :: .ref i :: st) := by
  intro p l e s m args below meth c H locs Ls C hR hS hl
  have hlt : j.toNatClampNeg < N := Nat.not_le.mp fun q => hin (Or.inr q)
  have hcell : H[g_sz G + i]? = some (arrV (g_dA G 0) N (fun j => .int (f j))) := (hR.1 i _ ho).2
  exact W.iald (v := .int (f j.toNatClampNeg)) C.1 C.2.2.1 hcell ((C.env.2.1.2 0 _ rfl).1 N (fun j => .int (f j))) (fun q => by cases q) (by rw [arrV_size]; exact hin) (arrV_read _ _ hlt) rfl rfl hd (kk p l e s m args below meth c H locs Ls C hR hS hl)
theorem g_bald {i N : Nat} {f : Nat → Int32} {j : Int32} (hd : decode M.2.1 pc = .ok (.baload, 1)) (ho : h i = some (.inl (1, N, .inl f))) (hin : vp_in j N) (kk : g_W G M R K n ex h k sl (pc + 1) ls (.int (f j.toNatClampNeg) :: st)) : g_W G M R K n ex h k sl pc ls (.int j :: .ref i :: st) := by
  intro p l e s m args below meth c H locs Ls C hR hS hl
  have hlt : j.toNatClampNeg < N := Nat.not_le.mp fun q => hin (Or.inr q)
  have hcell : H[g_sz G + i]? = some (arrV (g_dA G 1) N (fun j => .int (f j))) := (hR.1 i _ ho).2
  exact W.bald (v := .int (f j.toNatClampNeg)) C.1 C.2.2.1 hcell ((C.env.2.1.2 1 _ rfl).1 N (fun j => .int (f j))) (fun q => by cases q) (by rw [arrV_size]; exact hin) (arrV_read _ _ hlt) rfl rfl hd (kk p l e s m args below meth c H locs Ls C hR hS hl)
theorem g_zald {i N : Nat} {f : Nat → Int32} {j : Int32} (hd : decode M.2.1 pc = .ok (.baload, 1)) (ho : h i = some (.inl (2, N, .inl f))) (hin : vp_in j N) (kk : g_W G M R K n ex h k sl (pc + 1) ls (.int (f j.toNatClampNeg) :: st)) : g_W G M R K n ex h k sl pc ls (.int j :: .ref i :: st) := by
  intro p l e s m args below meth c H locs Ls C hR hS hl
  have hlt : j.toNatClampNeg < N := Nat.not_le.mp fun q => hin (Or.inr q)
  have hcell : H[g_sz G + i]? = some (arrV (g_dA G 2) N (fun j => .int (f j))) := (hR.1 i _ ho).2
  exact W.zald (v := .int (f j.toNatClampNeg)) C.1 C.2.2.1 hcell ((C.env.2.1.2 2 _ rfl).1 N (fun j => .int (f j))) (fun q => by cases q) (by rw [arrV_size]; exact hin) (arrV_read _ _ hlt) rfl rfl hd (kk p l e s m args below meth c H locs Ls C hR hS hl)
theorem g_lald {i N : Nat} {f : Nat → Int64} {j : Int32} (hd : decode M.2.1 pc = .ok (.laload, 1)) (ho : h i = some (.inl (3, N, .inr (.inl f)))) (hin : vp_in j N) (kk : g_W G M R K n ex h k sl (pc + 1) ls (.long (f j.toNatClampNeg) :: st)) : g_W G M R K n ex h k sl pc ls (.int j :: .ref i :: st) := by
  intro p l e s m args below meth c H locs Ls C hR hS hl
  have hlt : j.toNatClampNeg < N := Nat.not_le.mp fun q => hin (Or.inr q)
  have hcell : H[g_sz G + i]? = some (arrV (g_dA G 3) N (fun j => .long (f j))) := (hR.1 i _ ho).2
  exact W.lald (v := .long (f j.toNatClampNeg)) C.1 C.2.2.1 hcell ((C.env.2.1.2 3 _ rfl).1 N (fun j => .long (f j))) (fun q => by cases q) (by rw [arrV_size]; exact hin) (arrV_read _ _ hlt) rfl rfl hd (kk p l e s m args below meth c H locs Ls C hR hS hl)
theorem g_aald {i N : Nat} {f : Nat → Option Nat} {j : Int32} {r : Nat} (hd : decode M.2.1 pc = .ok (.aaload, 1)) (ho : h i = some (.inl (4, N, .inr (.inr (.inr (.inr f)))))) (hin : vp_in j N) (hf : f j.toNatClampNeg = some r) (kk : g_W G M R K n ex h k sl (pc + 1) ls (.ref r :: st)) : g_W G M R K n ex h k sl pc ls (.int j :: .ref i :: st) := by
  intro p l e s m args below meth c H locs Ls C hR hS hl
  have hlt : j.toNatClampNeg < N := Nat.not_le.mp fun q => hin (Or.inr q)
  have hcell : H[g_sz G + i]? = some (arrV (g_dA G 4) N (fun j => va_rf ((f j).map (fun k => g_sz G + k)))) := (hR.1 i _ ho).2
  exact W.aald (v := .ref (g_sz G + r)) (ty := .object "PollAudit$Pair") C.1 C.2.2.1 hcell ((C.env.2.1.2 4 _ rfl).1 N (fun j => va_rf ((f j).map (fun k => g_sz G + k)))) rfl (fun q => by cases q) (by rw [arrV_size]; exact hin) (by rw [arrV_read _ _ hlt, hf]; rfl) rfl rfl hd (kk p l e s m args below meth c H locs Ls C hR hS hl)
theorem g_sald {i : UInt32} {t : Nat} {j : Int32} (hd : decode M.2.1 pc = .ok (.iaload, 1)) (ht : i.toNat = t) (h3 : t < 3) (hin : vp_in j (g_tn G t)) (kk : g_W G M R K n ex h k sl (pc + 1) ls (.int (g_tf G t j.toNatClampNeg) :: st)) : g_W G M R K n ex h k sl pc ls (.int j :: .float i :: st) := by
  intro p l e s m args below meth c H locs Ls C hR hS hl
  subst ht
  exact va_ti C.1 C.2.2.1 (C.env.2.2.2.2.2.1 i.toNat h3) hS hin rfl hd (kk p l e s m args below meth c H locs Ls C hR hS hl)
theorem g_salen {i : UInt32} {t : Nat} (hd : decode M.2.1 pc = .ok (.arraylength, 1)) (ht : i.toNat = t) (h3 : t < 3) (kk : g_W G M R K n ex h k sl (pc + 1) ls (.int (Int32.ofNat (g_tn G t)) :: st)) : g_W G M R K n ex h k sl pc ls (.float i :: st) := by
  intro p l e s m args below meth c H locs Ls C hR hS hl
  subst ht
  exact va_tlen C.1 C.2.2.1 (C.env.2.2.2.2.2.1 i.toNat h3) hS rfl hd (kk p l e s m args below meth c H locs Ls C hR hS hl)
theorem g_gets {idx t : Nat} {i : UInt32} (hd : decode M.2.1 pc = .ok (.getstatic idx, 3)) (ht : i.toNat = t) (h1 : 1 ≤ t) (h3 : t < 3) (hw : Cond.fieldLink M.1.cls idx RX10 (g_tx t) "[I" ∈ lw_tbl) (hg : g_keep (Cond.fieldLink M.1.cls idx RX10 (g_tx t) "[I") = true) (kk : g_W G M R K n ex h k sl (pc + 3) ls (.float i :: st)) : g_W G M R K n ex h k sl pc ls st := by
  intro p l e s m args below meth c H locs Ls C hR hS hl
  subst ht
  exact va_gets C.1 C.2.2.1 (C.env.2.2.2.2.2.2.1 i.toNat h1 h3) hS C.own (g_word C.env hw hg args) (fun _ q => q) hd (kk p l e s m args below meth c H locs Ls C hR hS hl)
theorem g_getsN {idx t : Nat} {i : UInt32} {host : String} (hd : decode M.2.1 pc = .ok (.getstatic idx, 3)) (ht : i.toNat = t) (h1 : 1 ≤ t) (h3 : t < 3) (hw : Cond.fieldLinkNest M.1.cls idx RX10 (g_tx t) "[I" host ∈ lw_tbl) (kk : g_W G M R K n ex h k sl (pc + 3) ls (.float i :: st)) : g_W G M R K n ex h k sl pc ls st := by
  intro p l e s m args below meth c H locs Ls C hR hS hl
  subst ht
  exact va_getsN C.1 C.2.2.1 (C.env.2.2.2.2.2.2.1 i.toNat h1 h3) hS C.own (g_word C.env hw (by unfold g_keep; rw [Bool.or_true]) args) (fun _ q => q) hd (kk p l e s m args below meth c H locs Ls C hR hS hl)
theorem g_aleni {i N t : Nat} {f : Nat → Int32} (hd : decode M.2.1 pc = .ok (.arraylength, 1)) (ht : t < 5) (ho : h i = some (.inl (t, N, .inl f))) (kk : g_W G M R K n ex h k sl (pc + 1) ls (.int (Int32.ofNat N) :: st)) : g_W G M R K n ex h k sl pc ls (.ref i :: st) := by
  intro p l e s m args below meth c H locs Ls C hR hS hl
  obtain ⟨ty, hty⟩ : ∃ ty, (g_tys G)[t]? = some (g_dA G t, ty) := by
    rcases (show t = 0 ∨ t = 1 ∨ t = 2 ∨ t = 3 ∨ t = 4 by omega) with rfl | rfl | rfl | rfl | rfl <;> exact ⟨_, rfl⟩
  have hcell : H[g_sz G + i]? = some (arrV (g_dA G t) N (fun j => .int (f j))) := (hR.1 i _ ho).2
  exact W.alen (n := Int32.ofNat N) C.1 C.2.2.1 hcell ((C.env.2.1.2 t _ hty).1 N (fun j => .int (f j))) (by rw [arrV_size] <;> rfl) rfl rfl hd (kk p l e s m args below meth c H locs Ls C hR hS hl)
theorem g_alenl {i N t : Nat} {f : Nat → Int64} (hd : decode M.2.1 pc = .ok (.arraylength, 1)) (ht : t < 5) (ho : h i = some (.inl (t, N, .inr (.inl f)))) (kk : g_W G M R K n ex h k sl (pc + 1) ls (.int (Int32.ofNat N) :: st)) : g_W G M R K n ex h k sl pc ls (.ref i :: st) := by
  intro p l e s m args below meth c H locs Ls C hR hS hl
  obtain ⟨ty, hty⟩ : ∃ ty, (g_tys G)[t]? = some (g_dA G t, ty) := by
    rcases (show t = 0 ∨ t = 1 ∨ t = 2 ∨ t = 3 ∨ t = 4 by omega) with rfl | rfl | rfl | rfl | rfl <;> exact ⟨_, rfl⟩
  have hcell : H[g_sz G + i]? = some (arrV (g_dA G t) N (fun j => .long (f j))) := (hR.1 i _ ho).2
  exact W.alen (n := Int32.ofNat N) C.1 C.2.2.1 hcell ((C.env.2.1.2 t _ hty).1 N (fun j => .long (f j))) (by rw [arrV_size] <;> rfl) rfl rfl hd (kk p l e s m args below meth c H locs Ls C hR hS hl)
theorem g_iast {i N : Nat} {f : Nat → Int32} {j : Int32} {x : Int32} (hd : decode M.2.1 pc = .ok (.iastore, 1)) (ho : h i = some (.inl (0, N, .inl f))) (hin : vp_in j N) (kk : g_W G M R K n ex (g_up h i (.inl (0, N, .inl (upd f j.toNatClampNeg x)))) k sl (pc + 1) ls st) : g_W G M R K n ex h k sl pc ls (.int x :: .int j :: .ref i :: st) := by
  intro p l e s m args below meth c H locs Ls C hR hS hl
  have hcell : H[g_sz G + i]? = some (arrV (g_dA G 0) N (fun j => .int (f j))) := (hR.1 i _ ho).2
  refine W.iast C.1 C.2.2.1 hcell ((C.env.2.1.2 0 _ rfl).1 N (fun j => .int (f j))) (fun q => by cases q) (by rw [arrV_size]; exact hin) rfl rfl hd fun H' e1 e2 e3 => ?_
  refine kk p l e s m args below meth c H' _ Ls C (hR.set ho ?_ e2 e3) (hS.put e2 e3 (Nat.le_add_right _ _)) hl
  show H'[g_sz G + i]? = some (arrV (g_dA G 0) N (fun q => .int (upd f j.toNatClampNeg x q)))
  rw [e1, arrV_store]
  congr 2
  funext q
  by_cases hq : q = j.toNatClampNeg
  · subst hq
    simp [updV, upd, vp_nar]
    try rfl
  · simp [updV, upd, hq]
theorem g_bast {i N : Nat} {f : Nat → Int32} {j : Int32} {x : Int32} (hd : decode M.2.1 pc = .ok (.bastore, 1)) (ho : h i = some (.inl (1, N, .inl f))) (hin : vp_in j N) (kk : g_W G M R K n ex (g_up h i (.inl (1, N, .inl (upd f j.toNatClampNeg (vp_nar .byte x))))) k sl (pc + 1) ls st) : g_W G M R K n ex h k sl pc ls (.int x :: .int j :: .ref i :: st) := by
  intro p l e s m args below meth c H locs Ls C hR hS hl
  have hcell : H[g_sz G + i]? = some (arrV (g_dA G 1) N (fun j => .int (f j))) := (hR.1 i _ ho).2
  refine W.bast C.1 C.2.2.1 hcell ((C.env.2.1.2 1 _ rfl).1 N (fun j => .int (f j))) (fun q => by cases q) (by rw [arrV_size]; exact hin) rfl rfl hd fun H' e1 e2 e3 => ?_
  refine kk p l e s m args below meth c H' _ Ls C (hR.set ho ?_ e2 e3) (hS.put e2 e3 (Nat.le_add_right _ _)) hl
  show H'[g_sz G + i]? = some (arrV (g_dA G 1) N (fun q => .int (upd f j.toNatClampNeg (vp_nar .byte x) q)))
  rw [e1, arrV_store]
  congr 2
  funext q
  by_cases hq : q = j.toNatClampNeg
  · subst hq
    simp [updV, upd, vp_nar]
    try rfl
  · simp [updV, upd, hq]
theorem g_zast {i N : Nat} {f : Nat → Int32} {j : Int32} {x : Int32} (hd : decode M.2.1 pc = .ok (.bastore, 1)) (ho : h i = some (.inl (2, N, .inl f))) (hin : vp_in j N) (kk : g_W G M R K n ex (g_up h i (.inl (2, N, .inl (upd f j.toNatClampNeg (vp_nar .boolean x))))) k sl (pc + 1) ls st) : g_W G M R K n ex h k sl pc ls (.int x :: .int j :: .ref i :: st) := by
  intro p l e s m args below meth c H locs Ls C hR hS hl
  have hcell : H[g_sz G + i]? = some (arrV (g_dA G 2) N (fun j => .int (f j))) := (hR.1 i _ ho).2
  refine W.zast C.1 C.2.2.1 hcell ((C.env.2.1.2 2 _ rfl).1 N (fun j => .int (f j))) (fun q => by cases q) (by rw [arrV_size]; exact hin) rfl rfl hd fun H' e1 e2 e3 => ?_
  refine kk p l e s m args below meth c H' _ Ls C (hR.set ho ?_ e2 e3) (hS.put e2 e3 (Nat.le_add_right _ _)) hl
  show H'[g_sz G + i]? = some (arrV (g_dA G 2) N (fun q => .int (upd f j.toNatClampNeg (vp_nar .boolean x) q)))
  rw [e1, arrV_store]
  congr 2
  funext q
  by_cases hq : q = j.toNatClampNeg
  · subst hq
    simp [updV, upd, vp_nar]
    try rfl
  · simp [updV, upd, hq]
theorem g_last {i N : Nat} {f : Nat → Int64} {j : Int32} {x : Int64} (hd : decode M.2.1 pc = .ok (.lastore, 1)) (ho : h i = some (.inl (3, N, .inr (.inl f)))) (hin : vp_in j N) (kk : g_W G M R K n ex (g_up h i (.inl (3, N, .inr (.inl (vp_updL f j.toNatClampNeg x))))) k sl (pc + 1) ls st) : g_W G M R K n ex h k sl pc ls (.long x :: .int j :: .ref i :: st) := by
  intro p l e s m args below meth c H locs Ls C hR hS hl
  have hcell : H[g_sz G + i]? = some (arrV (g_dA G 3) N (fun j => .long (f j))) := (hR.1 i _ ho).2
  refine W.last C.1 C.2.2.1 hcell ((C.env.2.1.2 3 _ rfl).1 N (fun j => .long (f j))) (fun q => by cases q) (by rw [arrV_size]; exact hin) rfl rfl hd fun H' e1 e2 e3 => ?_
  refine kk p l e s m args below meth c H' _ Ls C (hR.set ho ?_ e2 e3) (hS.put e2 e3 (Nat.le_add_right _ _)) hl
  show H'[g_sz G + i]? = some (arrV (g_dA G 3) N (fun q => .long (vp_updL f j.toNatClampNeg x q)))
  rw [e1, arrV_store]
  congr 2
  funext q
  by_cases hq : q = j.toNatClampNeg
  · subst hq
    simp [updV, vp_updL, vp_nar]
    try rfl
  · simp [updV, vp_updL, hq]
theorem g_aast {i N r : Nat} {f : Nat → Option Nat} {j : Int32} {fs : List Value} (hd : decode M.2.1 pc = .ok (.aastore, 1)) (ho : h i = some (.inl (4, N, .inr (.inr (.inr (.inr f)))))) (hr : h r = some (.inr (5, fs))) (hin : vp_in j N) (kk : g_W G M R K n ex (g_up h i (.inl (4, N, .inr (.inr (.inr (.inr (va_up f j.toNatClampNeg (some r)))))))) k sl (pc + 1) ls st) : g_W G M R K n ex h k sl pc ls (.ref r :: .int j :: .ref i :: st) := by
  intro p l e s m args below meth c H locs Ls C hR hS hl
  have hK := C.env.2.1
  have hlt : j.toNatClampNeg < N := Nat.not_le.mp fun q => hin (Or.inr q)
  have h0 : ¬ j < 0 := fun q => hin (Or.inl q)
  obtain ⟨r', hr', cellV, g1, g2, g3, -⟩ := (hR.1 r _ hr).2
  have hc : vwCl[5]? = some (RX5, TX5, 6) := rfl
  have hcls := (hK.1 5 _ hc).2
  obtain ⟨kA, comp, k1, k2, k3, -⟩ := (hK.2 4 _ rfl).2
  have hcomp : comp = (g_D G).1 5 := Option.some.inj (k3.symm.trans hcls.1)
  subst hcomp
  obtain ⟨kC, hkC, -⟩ := hcls.2
  have hcell : H[g_sz G + i]? = some (arrV (g_dA G 4) N (fun j => va_rf ((f j).map (fun k => g_sz G + k)))) := (hR.1 i _ ho).2
  refine W.aast C.1 C.2.2.1 hcell (fun q h => by cases h) (fun h => by cases h) k1 k2 rfl hkC ⟨h0, by rw [arrV_size]; exact hlt⟩ g1 (fun q h => by rw [g3] at h; cases h) (by rw [g2]; exact hkC) (by rw [g2]; exact va_assign hcls) rfl rfl hd fun H' e1 e2 e3 => ?_
  refine kk p l e s m args below meth c H' _ Ls C (hR.set ho ?_ e2 e3) (hS.put e2 e3 (Nat.le_add_right _ _)) hl
  show H'[g_sz G + i]? = some (arrV (g_dA G 4) N (fun q => va_rf ((va_up f j.toNatClampNeg (some r) q).map (fun k => g_sz G + k))))
  rw [e1, arrV_store]
  congr 2
  funext q
  by_cases hq : q = j.toNatClampNeg
  · subst hq
    simp [updV, va_up, va_rf]
  · simp [updV, va_up, hq]
/-- a new object: its id is the next one -/
theorem g_new {ci idx N : Nat} {CC : String} {T : u_T} {ty0 : Nat → FieldType} {fs : List Value} (hd : decode M.2.1 pc = .ok (.new idx, 3)) (hF : g_cls ci CC T N ty0) (hw : ∀ w ∈ [Cond.classLink M.1.cls idx CC, Cond.instantiable CC N, Cond.initialized CC], w ∈ lw_tbl ∧ g_keep w = true) (hfs : ∀ j, j < N → defaultValue (ty0 j) = vp_V (fs.map (g_v G)) j) (hk : k + 1 ≤ R.cells) (hs : sl + N ≤ R.slots)
    (kk : g_W G M R K (n + 1) true (g_up h n (.inr (ci, fs))) (k + 1) (sl + N) (pc + 3) ls (.ref n :: st)) : g_W G M R K n true h k sl pc ls st := by
  intro p l e s m args below meth c H locs Ls C hR hS hl
  obtain ⟨hc, hin, hty, hnm⟩ := hF
  have hE := C.env
  have hts : ∀ w ∈ u_ws CC T N, w.before args s = true := fun w hw => hE.1 w (hin w hw).1 (hin w hw).2 args
  have hKn := hE.2.1.1 ci _ hc
  have w1 := hw _ List.mem_cons_self
  have w2 := hw _ (List.mem_cons_of_mem _ List.mem_cons_self)
  have w3 := hw _ (List.mem_cons_of_mem _ (List.mem_cons_of_mem _ List.mem_cons_self))
  refine W.newcK C.1 C.2.2.1 C.own (g_word hE w1.1 w1.2 args) (g_word hE w2.1 w2.2 args) (g_word hE w3.1 w3.2 args) rfl hd hk hs hKn.2.1 (hR.2.2 rfl) fun H1 kC hkC e1 z1 o1 => ?_
  refine kk p l e s m args below meth c H1 locs Ls C (hR.new ⟨_, hc, (u_born ty0 hts (fun _ q => q) hKn hkC e1 hty).to hfs⟩ z1 o1) ⟨Nat.le_trans hS.1 (by rw [hR.2.2 rfl, z1]; omega), fun q h1 h2 => ?_, hS.2.2⟩ hl
  rw [o1 q (by rw [← hR.2.2 rfl]; exact Nat.lt_of_lt_of_le h1 hS.1)]
  exact hS.2.1 q h1 h2
set_option maxHeartbeats 40000 in
theorem g_newI {N : Nat} {x : Int32} (hd : decode M.2.1 pc = .ok (.newarray .int, 2)) (hw : Cond.arrayClass .int ∈ lw_tbl) (hx : ¬ x < 0) (hN : x.toNatClampNeg = N) (hb : N * 8 ≤ 536870912) (hk : k + 1 ≤ R.cells) (hs : sl + N ≤ R.slots)
    (kk : g_W G M R K (n + 1) true (g_up h n (.inl (0, N, .inl (fun _ => 0)))) (k + 1) (sl + N) (pc + 2) ls (.ref n :: st)) : g_W G M R K n true h k sl pc ls (.int x :: st) := by
  intro p l e s m args below meth c H locs Ls C hR hS hl
  have hb1 : componentBytes (newarray.typeOf .int) ≤ 8 := by decide
  have hb2 : N * componentBytes (newarray.typeOf .int) ≤ 536870912 := Nat.le_trans (Nat.mul_le_mul_left N hb1) hb
  have hsz : H.size = g_sz G + n := hR.2.2 rfl
  have hst : (Value.int x :: st).map (g_v G) = Value.int x :: st.map (g_v G) := rfl
  refine va_newaK (atype := .int) (n := x) (N := N) (rest := st.map (g_v G)) (h := g_sz G + n) C.1 C.2.2.1 (g_word C.env hw rfl args) rfl hd hst hx hN hb2 hk hs hsz fun H1 cA e1 z1 o1 hAr hNm => ?_
  have hcA : cA = g_dA G 0 := Option.some.inj (hNm.symm.trans (C.env.2.1.2 0 _ rfl).2)
  subst hcA
  have e2 : va_at (g_D G) vwCl (g_sz G + n, g_E G (.inl (0, N, .inl (fun _ => 0)))) H1 := e1
  refine kk p l e s m args below meth c H1 locs Ls C (hR.new e2 z1 o1) ⟨Nat.le_trans hS.1 (by rw [hsz, z1]; omega), fun q h1 h2 => ?_, hS.2.2⟩ hl
  rw [o1 q (by rw [← hsz]; exact Nat.lt_of_lt_of_le h1 hS.1)]
  exact hS.2.1 q h1 h2
set_option maxHeartbeats 40000 in
theorem g_newB {N : Nat} {x : Int32} (hd : decode M.2.1 pc = .ok (.newarray .byte, 2)) (hw : Cond.arrayClass .byte ∈ lw_tbl) (hx : ¬ x < 0) (hN : x.toNatClampNeg = N) (hb : N * 8 ≤ 536870912) (hk : k + 1 ≤ R.cells) (hs : sl + N ≤ R.slots)
    (kk : g_W G M R K (n + 1) true (g_up h n (.inl (1, N, .inl (fun _ => 0)))) (k + 1) (sl + N) (pc + 2) ls (.ref n :: st)) : g_W G M R K n true h k sl pc ls (.int x :: st) := by
  intro p l e s m args below meth c H locs Ls C hR hS hl
  have hb1 : componentBytes (newarray.typeOf .byte) ≤ 8 := by decide
  have hb2 : N * componentBytes (newarray.typeOf .byte) ≤ 536870912 := Nat.le_trans (Nat.mul_le_mul_left N hb1) hb
  have hsz : H.size = g_sz G + n := hR.2.2 rfl
  have hst : (Value.int x :: st).map (g_v G) = Value.int x :: st.map (g_v G) := rfl
  refine va_newaK (atype := .byte) (n := x) (N := N) (rest := st.map (g_v G)) (h := g_sz G + n) C.1 C.2.2.1 (g_word C.env hw rfl args) rfl hd hst hx hN hb2 hk hs hsz fun H1 cA e1 z1 o1 hAr hNm => ?_
  have hcA : cA = g_dA G 1 := Option.some.inj (hNm.symm.trans (C.env.2.1.2 1 _ rfl).2)
  subst hcA
  have e2 : va_at (g_D G) vwCl (g_sz G + n, g_E G (.inl (1, N, .inl (fun _ => 0)))) H1 := e1
  refine kk p l e s m args below meth c H1 locs Ls C (hR.new e2 z1 o1) ⟨Nat.le_trans hS.1 (by rw [hsz, z1]; omega), fun q h1 h2 => ?_, hS.2.2⟩ hl
  rw [o1 q (by rw [← hsz]; exact Nat.lt_of_lt_of_le h1 hS.1)]
  exact hS.2.1 q h1 h2
set_option maxHeartbeats 40000 in
theorem g_newZ {N : Nat} {x : Int32} (hd : decode M.2.1 pc = .ok (.newarray .boolean, 2)) (hw : Cond.arrayClass .boolean ∈ lw_tbl) (hx : ¬ x < 0) (hN : x.toNatClampNeg = N) (hb : N * 8 ≤ 536870912) (hk : k + 1 ≤ R.cells) (hs : sl + N ≤ R.slots)
    (kk : g_W G M R K (n + 1) true (g_up h n (.inl (2, N, .inl (fun _ => 0)))) (k + 1) (sl + N) (pc + 2) ls (.ref n :: st)) : g_W G M R K n true h k sl pc ls (.int x :: st) := by
  intro p l e s m args below meth c H locs Ls C hR hS hl
  have hb1 : componentBytes (newarray.typeOf .boolean) ≤ 8 := by decide
  have hb2 : N * componentBytes (newarray.typeOf .boolean) ≤ 536870912 := Nat.le_trans (Nat.mul_le_mul_left N hb1) hb
  have hsz : H.size = g_sz G + n := hR.2.2 rfl
  have hst : (Value.int x :: st).map (g_v G) = Value.int x :: st.map (g_v G) := rfl
  refine va_newaK (atype := .boolean) (n := x) (N := N) (rest := st.map (g_v G)) (h := g_sz G + n) C.1 C.2.2.1 (g_word C.env hw rfl args) rfl hd hst hx hN hb2 hk hs hsz fun H1 cA e1 z1 o1 hAr hNm => ?_
  have hcA : cA = g_dA G 2 := Option.some.inj (hNm.symm.trans (C.env.2.1.2 2 _ rfl).2)
  subst hcA
  have e2 : va_at (g_D G) vwCl (g_sz G + n, g_E G (.inl (2, N, .inl (fun _ => 0)))) H1 := e1
  refine kk p l e s m args below meth c H1 locs Ls C (hR.new e2 z1 o1) ⟨Nat.le_trans hS.1 (by rw [hsz, z1]; omega), fun q h1 h2 => ?_, hS.2.2⟩ hl
  rw [o1 q (by rw [← hsz]; exact Nat.lt_of_lt_of_le h1 hS.1)]
  exact hS.2.1 q h1 h2
set_option maxHeartbeats 40000 in
theorem g_newL {N : Nat} {x : Int32} (hd : decode M.2.1 pc = .ok (.newarray .long, 2)) (hw : Cond.arrayClass .long ∈ lw_tbl) (hx : ¬ x < 0) (hN : x.toNatClampNeg = N) (hb : N * 8 ≤ 536870912) (hk : k + 1 ≤ R.cells) (hs : sl + N ≤ R.slots)
    (kk : g_W G M R K (n + 1) true (g_up h n (.inl (3, N, .inr (.inl (fun _ => 0))))) (k + 1) (sl + N) (pc + 2) ls (.ref n :: st)) : g_W G M R K n true h k sl pc ls (.int x :: st) := by
  intro p l e s m args below meth c H locs Ls C hR hS hl
  have hb1 : componentBytes (newarray.typeOf .long) ≤ 8 := by decide
  have hb2 : N * componentBytes (newarray.typeOf .long) ≤ 536870912 := Nat.le_trans (Nat.mul_le_mul_left N hb1) hb
  have hsz : H.size = g_sz G + n := hR.2.2 rfl
  have hst : (Value.int x :: st).map (g_v G) = Value.int x :: st.map (g_v G) := rfl
  refine va_newaK (atype := .long) (n := x) (N := N) (rest := st.map (g_v G)) (h := g_sz G + n) C.1 C.2.2.1 (g_word C.env hw rfl args) rfl hd hst hx hN hb2 hk hs hsz fun H1 cA e1 z1 o1 hAr hNm => ?_
  have hcA : cA = g_dA G 3 := Option.some.inj (hNm.symm.trans (C.env.2.1.2 3 _ rfl).2)
  subst hcA
  have e2 : va_at (g_D G) vwCl (g_sz G + n, g_E G (.inl (3, N, .inr (.inl (fun _ => 0))))) H1 := e1
  refine kk p l e s m args below meth c H1 locs Ls C (hR.new e2 z1 o1) ⟨Nat.le_trans hS.1 (by rw [hsz, z1]; omega), fun q h1 h2 => ?_, hS.2.2⟩ hl
  rw [o1 q (by rw [← hsz]; exact Nat.lt_of_lt_of_le h1 hS.1)]
  exact hS.2.1 q h1 h2
theorem g_newQ {N idx : Nat} {x : Int32} (hd : decode M.2.1 pc = .ok (.anewarray idx, 3)) (hw : Cond.classLink M.1.cls idx "PollAudit$Pair" ∈ lw_tbl) (hg : g_keep (Cond.classLink M.1.cls idx "PollAudit$Pair") = true) (hx : ¬ x < 0) (hN : x.toNatClampNeg = N) (hb : N * 8 ≤ 536870912) (hk : k + 1 ≤ R.cells) (hs : sl + N ≤ R.slots)
    (kk : g_W G M R K (n + 1) true (g_up h n (.inl (4, N, .inr (.inr (.inr (.inr (fun _ => none))))))) (k + 1) (sl + N) (pc + 3) ls (.ref n :: st)) : g_W G M R K n true h k sl pc ls (.int x :: st) := by
  intro p l e s m args below meth c H locs Ls C hR hS hl
  subst hN
  refine W.anew C.1 C.2.2.1 C.own (g_word C.env hw hg args) (va_AO.use C.env.2.2.1) rfl hd rfl hx (Nat.le_trans (Nat.mul_le_mul_left _ (by decide)) hb) hk hs fun cA kA comp f1 f2 f3 f4 => ?_
  obtain ⟨kA', comp', k1, k2, k3, k4⟩ := (C.env.2.1.2 4 _ rfl).2
  have hcA : cA = g_dA G 4 := Option.some.inj (f1.symm.trans k4)
  subst hcA
  generalize hH1 : H.push ({ cls := g_dA G 4, slots := Array.replicate x.toNatClampNeg .null, vm := .none } : Cell) = H1
  have hsz := hR.2.2 rfl
  have z1 : H1.size = g_sz G + n + 1 := by rw [← hH1, Array.size_push, hsz]
  have e1 : H1[g_sz G + n]? = some (arrV (g_dA G 4) x.toNatClampNeg (fun _ => .null)) := by rw [← hH1, ← hsz, Array.getElem?_push_size, ← arrV_new]
  have o1 : ∀ q : Nat, q < g_sz G + n → H1[q]? = H[q]? := fun q hq => by rw [← hH1, Array.getElem?_push, if_neg (by rw [hsz]; exact Nat.ne_of_lt hq)]
  rw [hsz]
  refine kk p l e s m args below meth c H1 locs Ls C (hR.new e1 z1 o1) ⟨Nat.le_trans hS.1 (by rw [hsz, z1]; omega), fun q h1 h2 => ?_, hS.2.2⟩ hl
  rw [o1 q (by rw [← hsz]; exact Nat.lt_of_lt_of_le h1 hS.1)]
  exact hS.2.1 q h1 h2
theorem g_objInit {i idx : Nat} (hd : decode M.2.1 pc = .ok (.invokespecial idx, 3)) (hw : Cond.methodLink M.1.cls idx objectInit ∈ lw_tbl) (hg : g_keep (Cond.methodLink M.1.cls idx objectInit) = true) (hst : (st.map fun v => v.category).sum ≤ 8) (hf : 1 ≤ R.frames) (hlo : 20 ≤ R.locals)
    (hw2 : Cond.instanceMethod objectInit ∈ lw_tbl) (hw3 : Cond.code objectInit ⟨#[0xb1]⟩ 1 none ∈ lw_tbl) (kk : g_W G M R K n ex h k sl (pc + 3) ls st) : g_W G M R K n ex h k sl pc ls (.ref i :: st) := by
  intro p l e s m args below meth c H locs Ls C hR hS hl
  refine W.objInit C.1 C.2.2.1 C.own (g_word C.env hw hg args) (g_word C.env hw2 rfl args) (g_word C.env hw3 rfl args) rfl (by rw [C.2.2.2.1]; exact hl.1) rfl hd hf ?_ (kk p l e s m args below meth c H locs Ls C hR hS hl)
  have h2 := g_cats G st
  show 2 * 0 + _ + 12 ≤ _
  rw [h2]
  omega
theorem g_widen {k' sl' : Nat} (h1 : k ≤ k') (h2 : sl ≤ sl') (kk : g_W G M R K n ex h k' sl' pc ls st) : g_W G M R K n ex h k sl pc ls st := by
  intro p l e s m args below meth c H locs Ls C hR hS hl
  exact W.widen h1 h2 (kk p l e s m args below meth c H locs Ls C hR hS hl)
end GOH
