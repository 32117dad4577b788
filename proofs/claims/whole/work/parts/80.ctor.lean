section GCT
variable {G : gG} {M : gM} {R : Room} {K : gK} {n : Nat} {h : gH} {k sl pc : Nat} {ls : List (Nat × Value)} {st : List Value}
theorem k_df {fs fs' : List Value} {N : Nat} {ty : Nat → FieldType} (e : fs.map (g_v G) = fs') (q : ∀ j, j < N → defaultValue (ty j) = vp_V fs' j) : ∀ j, j < N → defaultValue (ty j) = vp_V (fs.map (g_v G)) j := by rw [e]; exact q
theorem k_new {ci idx N i0 n1 : Nat} {CC : String} {T : u_T} {ty0 : Nat → FieldType} {fs : List Value} (hd : decode M.2.1 pc = .ok (.new idx, 3)) (hF : g_cls ci CC T N ty0) (w1 : Cond.classLink M.1.cls idx CC ∈ lw_tbl ∧ g_keep (Cond.classLink M.1.cls idx CC) = true) (w2 : Cond.instantiable CC N ∈ lw_tbl ∧ g_keep (Cond.instantiable CC N) = true) (w3 : Cond.initialized CC ∈ lw_tbl ∧ g_keep (Cond.initialized CC) = true) (hfs : ∀ j, j < N → defaultValue (ty0 j) = vp_V (fs.map (g_v G)) j) (hk : k + 1 ≤ R.cells) (hs : sl + N ≤ R.slots) (e1 : n = i0) (e2 : i0 + 1 = n1)
    (kk : g_W G M R K n1 true (g_up h i0 (.inr (ci, fs))) (k + 1) (sl + N) (pc + 3) ls (.ref i0 :: st)) : g_W G M R K n true h k sl pc ls st := by
  subst e1 e2
  exact g_new hd hF (List.forall_mem_cons.mpr ⟨w1, List.forall_mem_cons.mpr ⟨w2, List.forall_mem_cons.mpr ⟨w3, fun _ q => by cases q⟩⟩⟩) hfs hk hs kk
theorem k_neg {N : Nat} (hb : N * 8 ≤ 536870912) : ¬ nI N < 0 := by
  rw [i_lt, nI_toInt (by omega), it0]; omega

theorem k_newI {N i0 n1 : Nat} (hd : decode M.2.1 pc = .ok (.newarray .int, 2)) (hb : N * 8 ≤ 536870912) (hk : k + 1 ≤ R.cells) (hs : sl + N ≤ R.slots) (e1 : n = i0) (e2 : i0 + 1 = n1)
    (kk : g_W G M R K n1 true (g_up h i0 (.inl (0, N, .inl (fun k => nI ((fun _ => 0) k))))) (k + 1) (sl + N) (pc + 2) ls (.ref i0 :: st)) : g_W G M R K n true h k sl pc ls (.int (nI N) :: st) := by
  subst e1 e2
  exact g_newI hd (List.mem_of_getElem? (i := 144) (by decide +kernel)) (k_neg hb) (nI_clamp (by omega)) hb hk hs kk
theorem k_newB {N i0 n1 : Nat} (hd : decode M.2.1 pc = .ok (.newarray .byte, 2)) (hb : N * 8 ≤ 536870912) (hk : k + 1 ≤ R.cells) (hs : sl + N ≤ R.slots) (e1 : n = i0) (e2 : i0 + 1 = n1)
    (kk : g_W G M R K n1 true (g_up h i0 (.inl (1, N, .inl (fun k => nI ((fun _ => 0) k))))) (k + 1) (sl + N) (pc + 2) ls (.ref i0 :: st)) : g_W G M R K n true h k sl pc ls (.int (nI N) :: st) := by
  subst e1 e2
  exact g_newB hd (List.mem_of_getElem? (i := 146) (by decide +kernel)) (k_neg hb) (nI_clamp (by omega)) hb hk hs kk
theorem k_newZ {N i0 n1 : Nat} (hd : decode M.2.1 pc = .ok (.newarray .boolean, 2)) (hb : N * 8 ≤ 536870912) (hk : k + 1 ≤ R.cells) (hs : sl + N ≤ R.slots) (e1 : n = i0) (e2 : i0 + 1 = n1)
    (kk : g_W G M R K n1 true (g_up h i0 (.inl (2, N, .inl (fun k => nI ((fun _ => 0) k))))) (k + 1) (sl + N) (pc + 2) ls (.ref i0 :: st)) : g_W G M R K n true h k sl pc ls (.int (nI N) :: st) := by
  subst e1 e2
  exact g_newZ hd (List.mem_of_getElem? (i := 145) (by decide +kernel)) (k_neg hb) (nI_clamp (by omega)) hb hk hs kk
theorem k_newL {N i0 n1 : Nat} (hd : decode M.2.1 pc = .ok (.newarray .long, 2)) (hb : N * 8 ≤ 536870912) (hk : k + 1 ≤ R.cells) (hs : sl + N ≤ R.slots) (e1 : n = i0) (e2 : i0 + 1 = n1)
    (kk : g_W G M R K n1 true (g_up h i0 (.inl (3, N, .inr (.inl (fun _ => 0))))) (k + 1) (sl + N) (pc + 2) ls (.ref i0 :: st)) : g_W G M R K n true h k sl pc ls (.int (nI N) :: st) := by
  subst e1 e2
  exact g_newL hd (List.mem_of_getElem? (i := 1428) (by decide +kernel)) (k_neg hb) (nI_clamp (by omega)) hb hk hs kk
theorem k_newQ {N i0 n1 idx : Nat} (hd : decode M.2.1 pc = .ok (.anewarray idx, 3)) (hw : Cond.classLink M.1.cls idx "PollAudit$Pair" ∈ lw_tbl) (hg : g_keep (Cond.classLink M.1.cls idx "PollAudit$Pair") = true) (hb : N * 8 ≤ 536870912) (hk : k + 1 ≤ R.cells) (hs : sl + N ≤ R.slots) (e1 : n = i0) (e2 : i0 + 1 = n1)
    (kk : g_W G M R K n1 true (g_up h i0 (.inl (4, N, .inr (.inr (.inr (.inr (fun _ => none))))))) (k + 1) (sl + N) (pc + 3) ls (.ref i0 :: st)) : g_W G M R K n true h k sl pc ls (.int (nI N) :: st) := by
  subst e1 e2
  exact g_newQ hd hw hg (k_neg hb) (nI_clamp (by omega)) hb hk hs kk
theorem k_aast {i N r j : Nat} {f : Nat → Option Nat} {fs : List Value} {ex : Bool} (hd : decode M.2.1 pc = .ok (.aastore, 1)) (ho : h i = some (.inl (4, N, .inr (.inr (.inr (.inr f)))))) (hr : h r = some (.inr (5, fs))) (hj : j < N) (hN : N < 2 ^ 31) (kk : g_W G M R K n ex (g_up h i (.inl (4, N, .inr (.inr (.inr (.inr (va_up f j (some r)))))))) k sl (pc + 1) ls st) : g_W G M R K n ex h k sl pc ls (.ref r :: .int (nI j) :: .ref i :: st) := g_aast hd ho hr (vp_in_nI hj hN) (by rw [nI_clamp (by omega)]; exact kk)
/-- a constructor's contract: n1 is the next id behind it -/
def q_c (n1 : Nat) (S : List Nat) (h : gH) (P : gH → Prop) : gQ := fun o n' ex' h' => o = .inl none ∧ n' = n1 ∧ ex' = true ∧ g_fr S h h' ∧ P h'
theorem e_c {mc ms n1 : Nat} {S : List Nat} {h0 : gH} {P : gH → Prop} (hd : decode M.2.1 pc = .ok (.return_, 1)) (hr : M.2.2.2.1 = none) (e : n = n1) (hf : g_fr S h0 h) (hP : P h) (hk : k ≤ mc) (hs : sl ≤ ms) : g_W G M R (g_K G (q_c n1 S h0 P) mc ms) n true h k sl pc ls [] := g_vret hd hr hk hs ⟨rfl, e, rfl, hf, hP⟩
theorem cI {M' : gM} {d' mc' ms' idx i n1 : Nat} {as st0 : List Value} {S : List Nat} {P : gH → Prop} (hd : decode M.2.1 pc = .ok (.invokespecial idx, 3)) (hM : g_M G M' d' mc' ms' (.ref i :: as) n true h (q_c n1 S h P)) (hret : M'.2.2.2.1 = none) (hnm : M'.1.name = "<init>") (hsite : g_site M' as.length [Cond.methodLink M.1.cls idx M'.1, Cond.instanceMethod M'.1, Cond.initialized M'.1.cls]) (hst : st0 = as.reverse ++ .ref i :: st) (hf : d' + 1 ≤ R.frames) (hlo : 8 + (M'.2.2.1 + 11) + 41 * d' ≤ R.locals) (hrest : (st.map fun v => v.category).sum ≤ 8) (hc : k + mc' ≤ R.cells ∧ sl + ms' ≤ R.slots) (kk : ∀ (h' : gH), g_fr S h h' → P h' → g_W G M R K n1 true h' (k + mc') (sl + ms') (pc + 3) ls st) : g_W G M R K n true h k sl pc ls st0 :=
  g_callI hd hM (fun E n' ex' h' q => by obtain ⟨q, -⟩ := q; cases q) hret hnm hsite hst hf hlo hrest hc (fun v n' ex' h' q => by obtain ⟨q1, rfl, rfl, hf, hp⟩ := q; cases q1; exact kk h' hf hp)
theorem cIN {M' : gM} {d' mc' ms' idx i n1 : Nat} {as st0 : List Value} {S : List Nat} {P : gH → Prop} {host : String} (hd : decode M.2.1 pc = .ok (.invokespecial idx, 3)) (hM : g_M G M' d' mc' ms' (.ref i :: as) n true h (q_c n1 S h P)) (hret : M'.2.2.2.1 = none) (hnm : M'.1.name = "<init>") (hsite : g_site M' as.length [Cond.instanceMethod M'.1, Cond.initialized M'.1.cls]) (hlk : Cond.methodLinkNest M.1.cls idx M'.1 host ∈ lw_tbl) (hst : st0 = as.reverse ++ .ref i :: st) (hf : d' + 1 ≤ R.frames) (hlo : 8 + (M'.2.2.1 + 11) + 41 * d' ≤ R.locals) (hrest : (st.map fun v => v.category).sum ≤ 8) (hc : k + mc' ≤ R.cells ∧ sl + ms' ≤ R.slots) (kk : ∀ (h' : gH), g_fr S h h' → P h' → g_W G M R K n1 true h' (k + mc') (sl + ms') (pc + 3) ls st) : g_W G M R K n true h k sl pc ls st0 :=
  g_callIN hd hM (fun E n' ex' h' q => by obtain ⟨q, -⟩ := q; cases q) hret hnm hsite hlk hst hf hlo hrest hc (fun v n' ex' h' q => by obtain ⟨q1, rfl, rfl, hf, hp⟩ := q; cases q1; exact kk h' hf hp)
end GCT
set_option maxHeartbeats 4000000 in
set_option maxRecDepth 100000 in
theorem c_newWhole (G : gG) (d : Nat) (h : gH) {i N : Nat} (h0 : h i = some (.inr (9, [.null, .int (nI 0)]))) (hN : N ≤ 1000) : g_M G mX9_init (d + 1) 1 N [.ref i, .int (nI N)] (i + 1) true h (q_c (i + 2) ([i, i + 1]) h (fun h' => h' i = some (.inr (9, [.ref (i + 1), .int (nI 0)])) ∧ h' (i + 1) = some (.inl (0, N, .inl (fun k => nI ((fun _ => 0) k)))))) := by
  refine g_enter (by decide) (Nat.le_of_ble_eq_true rfl) ?_
  show g_W G _ _ _ (i + 1) true h 0 0 0 [(0, .ref i), (1, .int (nI N))] []
  refine g_aload_n dX9_init_0 rfl rfl ?_
  refine g_objInit dX9_init_1 (List.mem_of_getElem? (i := 235) (by decide +kernel)) rfl (by decide) (by simp only [g_rm]; omega) (by simp only [g_rm]; omega) w_oi w_oc ?_
  refine g_aload_n dX9_init_4 rfl rfl ?_
  refine g_iload_n dX9_init_5 rfl rfl ?_
  refine k_newI (i0 := i + 1) (n1 := i + 2) dX9_init_6 (by omega) (by simp only [g_rm]; omega) (by simp only [g_rm]; omega) rfl rfl ?_
  refine g_putFin (fs' := [.ref (i + 1), .int (nI 0)]) dX9_init_8 fX9_9 rfl rfl (g_ne (by omega) h0) (Nat.le_of_ble_eq_true rfl) rfl rfl rfl ?_
  exact e_c dX9_init_11 rfl rfl ((g_fr.rf.up (by simp)).up (by simp)) ⟨g_eq, g_ne (by omega) g_eq⟩ (by omega) (by omega)
set_option maxHeartbeats 4000000 in
set_option maxRecDepth 100000 in
theorem c_newFraction (G : gG) (d : Nat) (h : gH) {i N : Nat} (h0 : h i = some (.inr (2, [.null, .null]))) (hN : N ≤ 1000) (hN1 : 1 ≤ N) : g_M G mX2_init (d + 2) 4 (2 * N + 4) [.ref i, .int (nI N)] (i + 1) true h (q_c (i + 5) ([i, i + 1, i + 2, i + 3, i + 4]) h (fun h' => Fr h' i N 0 1)) := by
  refine g_enter (by decide) (Nat.le_of_ble_eq_true rfl) ?_
  show g_W G _ _ _ (i + 1) true h 0 0 0 [(0, .ref i), (1, .int (nI N))] []
  refine g_aload_n dX2_init_0 rfl rfl ?_
  refine g_objInit dX2_init_1 (List.mem_of_getElem? (i := 229) (by decide +kernel)) rfl (by decide) (by simp only [g_rm]; omega) (by simp only [g_rm]; omega) w_oi w_oc ?_
  refine g_aload_n dX2_init_4 rfl rfl ?_
  refine k_new (i0 := i + 1) (n1 := i + 2) (fs := [.null, .int (nI 0)]) dX2_init_5 clX9 ⟨List.mem_of_getElem? (i := 230) (by decide +kernel), rfl⟩ ⟨List.mem_of_getElem? (i := 231) (by decide +kernel), rfl⟩ ⟨List.mem_of_getElem? (i := 56) (by decide +kernel), rfl⟩ (k_df (fs' := [.null, .int (nI 0)]) rfl (by decide)) (by simp only [g_rm]; omega) (by simp only [g_rm]; omega) rfl rfl ?_
  refine g_dup dX2_init_8 rfl ?_
  refine g_iload_n dX2_init_9 rfl rfl ?_
  refine cI (st := [.ref (i + 1), .ref i]) dX2_init_10 (c_newWhole G d _ (i := i + 1) (N := N) g_eq hN) rfl rfl sX2_9 rfl (by simp only [g_rm]; omega) (by simp only [g_rm]; (try show _ + 41 * _ ≤ _); omega) (Nat.le_of_ble_eq_true rfl) ⟨(by simp only [g_rm]; omega), (by simp only [g_rm]; omega)⟩ (fun h1 fr2 p3 => ?_)
  refine g_putFin (fs' := [.ref (i + 1), .null]) dX2_init_13 fX2_12 rfl rfl (fr2.at (by simp only [List.mem_cons, List.not_mem_nil, or_false]; omega) (g_ne (by omega) h0)) (Nat.le_of_ble_eq_true rfl) rfl rfl rfl ?_
  refine g_aload_n dX2_init_16 rfl rfl ?_
  refine k_new (i0 := i + 3) (n1 := i + 4) (fs := [.null, .int (nI 0)]) dX2_init_17 clX9 ⟨List.mem_of_getElem? (i := 230) (by decide +kernel), rfl⟩ ⟨List.mem_of_getElem? (i := 231) (by decide +kernel), rfl⟩ ⟨List.mem_of_getElem? (i := 56) (by decide +kernel), rfl⟩ (k_df (fs' := [.null, .int (nI 0)]) rfl (by decide)) (by simp only [g_rm]; omega) (by simp only [g_rm]; omega) rfl rfl ?_
  refine g_dup dX2_init_20 rfl ?_
  refine g_iload_n dX2_init_21 rfl rfl ?_
  refine cI (st := [.ref (i + 3), .ref i]) dX2_init_22 (c_newWhole G d _ (i := i + 3) (N := N) g_eq hN) rfl rfl sX2_9 rfl (by simp only [g_rm]; omega) (by simp only [g_rm]; (try show _ + 41 * _ ≤ _); omega) (Nat.le_of_ble_eq_true rfl) ⟨(by simp only [g_rm]; omega), (by simp only [g_rm]; omega)⟩ (fun h4 fr5 p6 => ?_)
  refine g_putFin (fs' := [.ref (i + 1), .ref (i + 3)]) dX2_init_25 fX2_18 rfl rfl (fr5.at (by simp only [List.mem_cons, List.not_mem_nil, or_false]; omega) (g_ne (by omega) g_eq)) (Nat.le_of_ble_eq_true rfl) rfl rfl rfl ?_
  refine g_aload_n dX2_init_28 rfl rfl ?_
  refine g_getf dX2_init_29 fX2_18 g_eq rfl ?_
  refine g_lconst (v := lN 1) dX2_init_32 (by decide) ?_
  refine cVv (st := []) dX2_init_33 (c_become G d _ true _ (g_ne (by omega) p6.1) (g_ne (by omega) p6.2) (by omega) (by decide) (Nat.lt_of_lt_of_le (by decide) (Nat.pow_le_pow_right (by decide) (show 1 ≤ 32 * N by omega)))) sX2_21 (g_ne (by omega) p6.1) rfl rfl (by simp only [g_rm]; omega) (by simp only [g_rm]; omega) (Nat.le_of_ble_eq_true rfl) ⟨(by simp only [g_rm]; omega), (by simp only [g_rm]; omega)⟩ (fun h7 fr8 p9 => ?_)
  exact e_c dX2_init_36 rfl rfl (((((((g_fr.rf.up (by simp)).tr fr2 (by simp)).up (by simp)).up (by simp)).tr fr5 (by simp)).up (by simp)).tr fr8 (by simp)) ⟨fr8.at (by simp only [List.mem_cons, List.not_mem_nil, or_false]; omega) g_eq, ⟨0, _, fr8.at (by simp only [List.mem_cons, List.not_mem_nil, or_false]; omega) (g_ne (by omega) (fr5.at (by simp only [List.mem_cons, List.not_mem_nil, or_false]; omega) (g_ne (by omega) (g_ne (by omega) p3.1)))), fr8.at (by simp only [List.mem_cons, List.not_mem_nil, or_false]; omega) (g_ne (by omega) (fr5.at (by simp only [List.mem_cons, List.not_mem_nil, or_false]; omega) (g_ne (by omega) (g_ne (by omega) p3.2)))), Nat.zero_le _, rfl, Or.inl rfl⟩, p9⟩ (by omega) (by omega)
theorem g_fr.rf' {i : Nat} {h : gH} {c : gC} : g_fr [i] h (g_up h i c) := g_fr.rf.up (by simp)
set_option maxHeartbeats 4000000 in
set_option maxRecDepth 100000 in
theorem c_newPair (G : gG) (d : Nat) (h : gH) {i : Nat} (h0 : h i = some (.inr (5, [.null, .int (nI 0), .int (nI 0), .int (nI 0), .int (nI 0), .int (nI 0)]))) : g_M G mX5_init (d + 3) 5 214 [.ref i] (i + 1) true h (q_c (i + 6) ([i, i + 1, i + 2, i + 3, i + 4, i + 5]) h (fun h' => h' i = some (.inr (5, [.ref (i + 1), .int (nI 0), .int (nI 0), .int (nI 0), .int (nI 0), .int (nI 0)])) ∧ Fr h' (i + 1) 104 0 1)) := by
  refine g_enter (by decide) (Nat.le_of_ble_eq_true rfl) ?_
  show g_W G _ _ _ (i + 1) true h 0 0 0 [(0, .ref i)] []
  refine g_aload_n dX5_init_0 rfl rfl ?_
  refine g_objInit dX5_init_1 (List.mem_of_getElem? (i := 266) (by decide +kernel)) rfl (by decide) (by simp only [g_rm]; omega) (by simp only [g_rm]; omega) w_oi w_oc ?_
  refine g_aload_n dX5_init_4 rfl rfl ?_
  refine k_new (i0 := i + 1) (n1 := i + 2) (fs := [.null, .null]) dX5_init_5 clX2 ⟨List.mem_of_getElem? (i := 267) (by decide +kernel), rfl⟩ ⟨List.mem_of_getElem? (i := 225) (by decide +kernel), rfl⟩ ⟨List.mem_of_getElem? (i := 55) (by decide +kernel), rfl⟩ (k_df (fs' := [.null, .null]) rfl (by decide)) (Nat.le_of_ble_eq_true rfl) (Nat.le_of_ble_eq_true rfl) rfl rfl ?_
  refine g_dup dX5_init_8 rfl ?_
  refine g_bipush (v := nI 104) dX5_init_9 (by decide) ?_
  refine cI (st := [.ref (i + 1), .ref i]) dX5_init_11 (c_newFraction G d _ (i := i + 1) (N := 104) g_eq (by decide) (by decide)) rfl rfl sX5_11 rfl (by simp only [g_rm]; omega) (by simp only [g_rm]; (try show _ + 41 * _ ≤ _); omega) (Nat.le_of_ble_eq_true rfl) ⟨(Nat.le_of_ble_eq_true rfl), (Nat.le_of_ble_eq_true rfl)⟩ (fun h1 fr2 p3 => ?_)
  refine g_putFin (fs' := [.ref (i + 1), .int (nI 0), .int (nI 0), .int (nI 0), .int (nI 0), .int (nI 0)]) dX5_init_14 fX5_14 rfl rfl (fr2.at (by simp only [List.mem_cons, List.not_mem_nil, or_false]; omega) (g_ne (by omega) h0)) (Nat.le_of_ble_eq_true rfl) rfl rfl rfl ?_
  exact e_c dX5_init_17 rfl rfl (((g_fr.rf.up (by simp)).tr fr2 (by simp)).up (by simp)) ⟨g_eq, p3.fr g_fr.rf' (by simp only [List.mem_cons, List.not_mem_nil, or_false]; omega) (by simp only [List.mem_cons, List.not_mem_nil, or_false]; omega) (by simp only [List.mem_cons, List.not_mem_nil, or_false]; omega) (by simp only [List.mem_cons, List.not_mem_nil, or_false]; omega) (by simp only [List.mem_cons, List.not_mem_nil, or_false]; omega)⟩ (Nat.le_of_ble_eq_true rfl) (Nat.le_of_ble_eq_true rfl)
def s0 : Nat → Nat := fun j => match j with | 7 => 1 | 8 => 100 | 9 => 1 | 10 => 10 | 11 => 11 | 12 => 10 | _ => 0
set_option maxHeartbeats 4000000 in
set_option maxRecDepth 100000 in
theorem c_newSetup (G : gG) (d : Nat) (h : gH) (h0 : h 1 = some (.inr (7, [.null, .null, .null, .null, .int (nI 0), .int (nI 0), .int (nI 0), .int (nI 0), .int (nI 0), .int (nI 0), .int (nI 0), .int (nI 0), .int (nI 0)]))) : g_M G mX7_init (d + 1) 4 20080 [.ref 1] 2 true h (q_c 6 (List.range' 1 5) h (fun h' => Su h' s0 (fun _ => 0) (fun _ => 0) (fun _ => 0) (fun _ => 0))) := by
  refine g_enter (by decide) (Nat.le_of_ble_eq_true rfl) ?_
  show g_W G _ _ _ 2 true h 0 0 0 [(0, .ref 1)] []
  refine g_aload_n dX7_init_0 rfl rfl ?_
  refine g_objInit dX7_init_1 (List.mem_of_getElem? (i := 82) (by decide +kernel)) rfl (by decide) (by simp only [g_rm]; omega) (by simp only [g_rm]; omega) w_oi w_oc ?_
  refine g_aload_n dX7_init_4 rfl rfl ?_
  refine g_bipush (v := nI 8) dX7_init_5 (by decide) ?_
  refine k_newI (i0 := 2) (n1 := 3) dX7_init_7 (by decide) (Nat.le_of_ble_eq_true rfl) (Nat.le_of_ble_eq_true rfl) rfl rfl ?_
  refine g_putFin (fs' := [.ref 2, .null, .null, .null, .int (nI 0), .int (nI 0), .int (nI 0), .int (nI 0), .int (nI 0), .int (nI 0), .int (nI 0), .int (nI 0), .int (nI 0)]) dX7_init_9 fX7_9 rfl rfl (g_ne (by decide) h0) (Nat.le_of_ble_eq_true rfl) rfl rfl rfl ?_
  refine g_aload_n dX7_init_12 rfl rfl ?_
  refine g_bipush (v := nI 8) dX7_init_13 (by decide) ?_
  refine k_newZ (i0 := 3) (n1 := 4) dX7_init_15 (by decide) (Nat.le_of_ble_eq_true rfl) (Nat.le_of_ble_eq_true rfl) rfl rfl ?_
  refine g_putFin (fs' := [.ref 2, .ref 3, .null, .null, .int (nI 0), .int (nI 0), .int (nI 0), .int (nI 0), .int (nI 0), .int (nI 0), .int (nI 0), .int (nI 0), .int (nI 0)]) dX7_init_17 fX7_15 rfl rfl (g_ne (by decide) g_eq) (Nat.le_of_ble_eq_true rfl) rfl rfl rfl ?_
  refine g_aload_n dX7_init_20 rfl rfl ?_
  refine g_bipush (v := nI 64) dX7_init_21 (by decide) ?_
  refine k_newI (i0 := 4) (n1 := 5) dX7_init_23 (by decide) (Nat.le_of_ble_eq_true rfl) (Nat.le_of_ble_eq_true rfl) rfl rfl ?_
  refine g_putFin (fs' := [.ref 2, .ref 3, .ref 4, .null, .int (nI 0), .int (nI 0), .int (nI 0), .int (nI 0), .int (nI 0), .int (nI 0), .int (nI 0), .int (nI 0), .int (nI 0)]) dX7_init_25 fX7_19 rfl rfl (g_ne (by decide) g_eq) (Nat.le_of_ble_eq_true rfl) rfl rfl rfl ?_
  refine g_aload_n dX7_init_28 rfl rfl ?_
  refine g_sipush (v := nI 20000) dX7_init_29 (by decide) ?_
  refine k_newB (i0 := 5) (n1 := 6) dX7_init_32 (by decide) (Nat.le_of_ble_eq_true rfl) (Nat.le_of_ble_eq_true rfl) rfl rfl ?_
  refine g_putFin (fs' := [.ref 2, .ref 3, .ref 4, .ref 5, .int (nI 0), .int (nI 0), .int (nI 0), .int (nI 0), .int (nI 0), .int (nI 0), .int (nI 0), .int (nI 0), .int (nI 0)]) dX7_init_34 fX7_22 rfl rfl (g_ne (by decide) g_eq) (Nat.le_of_ble_eq_true rfl) rfl rfl rfl ?_
  refine g_aload_n dX7_init_37 rfl rfl ?_
  refine g_iconst (v := nI 1) dX7_init_38 (by decide) ?_
  refine g_put (fs' := [.ref 2, .ref 3, .ref 4, .ref 5, .int (nI 0), .int (nI 0), .int (nI 0), .int (nI 1), .int (nI 0), .int (nI 0), .int (nI 0), .int (nI 0), .int (nI 0)]) dX7_init_39 fX7_26 g_eq (Nat.le_of_ble_eq_true rfl) rfl rfl rfl ?_
  refine g_aload_n dX7_init_42 rfl rfl ?_
  refine g_bipush (v := nI 100) dX7_init_43 (by decide) ?_
  refine g_put (fs' := [.ref 2, .ref 3, .ref 4, .ref 5, .int (nI 0), .int (nI 0), .int (nI 0), .int (nI 1), .int (nI 100), .int (nI 0), .int (nI 0), .int (nI 0), .int (nI 0)]) dX7_init_45 fX7_30 g_eq (Nat.le_of_ble_eq_true rfl) rfl rfl rfl ?_
  refine g_aload_n dX7_init_48 rfl rfl ?_
  refine g_iconst (v := nI 1) dX7_init_49 (by decide) ?_
  refine g_put (fs' := [.ref 2, .ref 3, .ref 4, .ref 5, .int (nI 0), .int (nI 0), .int (nI 0), .int (nI 1), .int (nI 100), .int (nI 1), .int (nI 0), .int (nI 0), .int (nI 0)]) dX7_init_50 fX7_33 g_eq (Nat.le_of_ble_eq_true rfl) rfl rfl rfl ?_
  refine g_aload_n dX7_init_53 rfl rfl ?_
  refine g_bipush (v := nI 10) dX7_init_54 (by decide) ?_
  refine g_put (fs' := [.ref 2, .ref 3, .ref 4, .ref 5, .int (nI 0), .int (nI 0), .int (nI 0), .int (nI 1), .int (nI 100), .int (nI 1), .int (nI 10), .int (nI 0), .int (nI 0)]) dX7_init_56 fX7_36 g_eq (Nat.le_of_ble_eq_true rfl) rfl rfl rfl ?_
  refine g_aload_n dX7_init_59 rfl rfl ?_
  refine g_bipush (v := nI 11) dX7_init_60 (by decide) ?_
  refine g_put (fs' := [.ref 2, .ref 3, .ref 4, .ref 5, .int (nI 0), .int (nI 0), .int (nI 0), .int (nI 1), .int (nI 100), .int (nI 1), .int (nI 10), .int (nI 11), .int (nI 0)]) dX7_init_62 fX7_39 g_eq (Nat.le_of_ble_eq_true rfl) rfl rfl rfl ?_
  refine g_aload_n dX7_init_65 rfl rfl ?_
  refine g_bipush (v := nI 10) dX7_init_66 (by decide) ?_
  refine g_put (fs' := [.ref 2, .ref 3, .ref 4, .ref 5, .int (nI 0), .int (nI 0), .int (nI 0), .int (nI 1), .int (nI 100), .int (nI 1), .int (nI 10), .int (nI 11), .int (nI 10)]) dX7_init_68 fX7_42 g_eq (Nat.le_of_ble_eq_true rfl) rfl rfl rfl ?_
  exact e_c dX7_init_71 rfl rfl ((((((((((((((g_fr.rf.up (by decide)).up (by decide)).up (by decide)).up (by decide)).up (by decide)).up (by decide)).up (by decide)).up (by decide)).up (by decide)).up (by decide)).up (by decide)).up (by decide)).up (by decide)).up (by decide)) ⟨g_eq, g_ne (by decide) (g_ne (by decide) (g_ne (by decide) (g_ne (by decide) (g_ne (by decide) (g_ne (by decide) (g_ne (by decide) (g_ne (by decide) (g_ne (by decide) (g_ne (by decide) (g_ne (by decide) (g_ne (by decide) (g_ne (by decide) g_eq)))))))))))), g_ne (by decide) (g_ne (by decide) (g_ne (by decide) (g_ne (by decide) (g_ne (by decide) (g_ne (by decide) (g_ne (by decide) (g_ne (by decide) (g_ne (by decide) (g_ne (by decide) (g_ne (by decide) g_eq)))))))))), g_ne (by decide) (g_ne (by decide) (g_ne (by decide) (g_ne (by decide) (g_ne (by decide) (g_ne (by decide) (g_ne (by decide) (g_ne (by decide) (g_ne (by decide) g_eq)))))))), g_ne (by decide) (g_ne (by decide) (g_ne (by decide) (g_ne (by decide) (g_ne (by decide) (g_ne (by decide) (g_ne (by decide) g_eq))))))⟩ (Nat.le_of_ble_eq_true rfl) (Nat.le_of_ble_eq_true rfl)
set_option maxHeartbeats 4000000 in
set_option maxRecDepth 100000 in
theorem c_newCoins (G : gG) (d : Nat) (h : gH) (h0 : h 6 = some (.inr (0, [.null, .int (nI 0), .int (nI 0)]))) : g_M G mX0_init (d + 1) 1 4000 [.ref 6] 7 true h (q_c 8 (List.range' 6 2) h (fun h' => Co h' (fun _ => 0) 0)) := by
  refine g_enter (by decide) (Nat.le_of_ble_eq_true rfl) ?_
  show g_W G _ _ _ 7 true h 0 0 0 [(0, .ref 6)] []
  refine g_aload_n dX0_init_0 rfl rfl ?_
  refine g_objInit dX0_init_1 (List.mem_of_getElem? (i := 152) (by decide +kernel)) rfl (by decide) (by simp only [g_rm]; omega) (by simp only [g_rm]; omega) w_oi w_oc ?_
  refine g_aload_n dX0_init_4 rfl rfl ?_
  refine g_sipush (v := nI 4000) dX0_init_5 (by decide) ?_
  refine k_newB (i0 := 7) (n1 := 8) dX0_init_8 (by decide) (Nat.le_of_ble_eq_true rfl) (Nat.le_of_ble_eq_true rfl) rfl rfl ?_
  refine g_putFin (fs' := [.ref 7, .int (nI 0), .int (nI 0)]) dX0_init_10 fX0_9 rfl rfl (g_ne (by decide) h0) (Nat.le_of_ble_eq_true rfl) rfl rfl rfl ?_
  exact e_c dX0_init_13 rfl rfl ((g_fr.rf.up (by decide)).up (by decide)) ⟨0, fun _ => 0, g_eq, g_ne (by decide) g_eq, by decide, by decide, fun k hk => absurd hk (by omega), fun k => Nat.zero_le _⟩ (Nat.le_of_ble_eq_true rfl) (Nat.le_of_ble_eq_true rfl)
set_option maxHeartbeats 4000000 in
set_option maxRecDepth 100000 in
theorem c_newSeed (G : gG) (d : Nat) (h : gH) (h0 : h 8 = some (.inr (6, [.null, .null, .null, .int (nI 0)]))) : g_M G mX6_init (d + 1) 3 92 [.ref 8] 9 true h (q_c 12 (List.range' 8 4) h (fun h' => Sd h' (fun _ => 0) 0)) := by
  refine g_enter (by decide) (Nat.le_of_ble_eq_true rfl) ?_
  show g_W G _ _ _ 9 true h 0 0 0 [(0, .ref 8)] []
  refine g_aload_n dX6_init_0 rfl rfl ?_
  refine g_objInit dX6_init_1 (List.mem_of_getElem? (i := 169) (by decide +kernel)) rfl (by decide) (by simp only [g_rm]; omega) (by simp only [g_rm]; omega) w_oi w_oc ?_
  refine g_aload_n dX6_init_4 rfl rfl ?_
  refine g_bipush (v := nI 20) dX6_init_5 (by decide) ?_
  refine k_newI (i0 := 9) (n1 := 10) dX6_init_7 (by decide) (Nat.le_of_ble_eq_true rfl) (Nat.le_of_ble_eq_true rfl) rfl rfl ?_
  refine g_putFin (fs' := [.ref 9, .null, .null, .int (nI 0)]) dX6_init_9 fX6_9 rfl rfl (g_ne (by decide) h0) (Nat.le_of_ble_eq_true rfl) rfl rfl rfl ?_
  refine g_aload_n dX6_init_12 rfl rfl ?_
  refine g_bipush (v := nI 64) dX6_init_13 (by decide) ?_
  refine k_newI (i0 := 10) (n1 := 11) dX6_init_15 (by decide) (Nat.le_of_ble_eq_true rfl) (Nat.le_of_ble_eq_true rfl) rfl rfl ?_
  refine g_putFin (fs' := [.ref 9, .ref 10, .null, .int (nI 0)]) dX6_init_17 fX6_15 rfl rfl (g_ne (by decide) g_eq) (Nat.le_of_ble_eq_true rfl) rfl rfl rfl ?_
  refine g_aload_n dX6_init_20 rfl rfl ?_
  refine g_bipush (v := nI 8) dX6_init_21 (by decide) ?_
  refine k_newI (i0 := 11) (n1 := 12) dX6_init_23 (by decide) (Nat.le_of_ble_eq_true rfl) (Nat.le_of_ble_eq_true rfl) rfl rfl ?_
  refine g_putFin (fs' := [.ref 9, .ref 10, .ref 11, .int (nI 0)]) dX6_init_25 fX6_18 rfl rfl (g_ne (by decide) g_eq) (Nat.le_of_ble_eq_true rfl) rfl rfl rfl ?_
  exact e_c dX6_init_28 rfl rfl ((((((g_fr.rf.up (by decide)).up (by decide)).up (by decide)).up (by decide)).up (by decide)).up (by decide)) ⟨g_eq, g_ne (by decide) (g_ne (by decide) (g_ne (by decide) (g_ne (by decide) (g_ne (by decide) g_eq)))), ⟨_, g_ne (by decide) (g_ne (by decide) (g_ne (by decide) g_eq))⟩, _, g_ne (by decide) g_eq⟩ (Nat.le_of_ble_eq_true rfl) (Nat.le_of_ble_eq_true rfl)
set_option maxHeartbeats 4000000 in
set_option maxRecDepth 100000 in
theorem c_newLog (G : gG) (d : Nat) (h : gH) (h0 : h 12 = some (.inr (1, [.null, .null, .null, .null, .int (nI 0), .int (nI 0), .int (nI 0)]))) : g_M G mX1_init (d + 1) 4 608 [.ref 12] 13 true h (q_c 17 (List.range' 12 5) h (fun h' => Dl h' (fun _ => 0) (fun _ => 0) (fun _ => 0) (fun k => nI ((fun _ => 0) k)) 0 0 0)) := by
  refine g_enter (by decide) (Nat.le_of_ble_eq_true rfl) ?_
  show g_W G _ _ _ 13 true h 0 0 0 [(0, .ref 12)] []
  refine g_aload_n dX1_init_0 rfl rfl ?_
  refine g_objInit dX1_init_1 (List.mem_of_getElem? (i := 189) (by decide +kernel)) rfl (by decide) (by simp only [g_rm]; omega) (by simp only [g_rm]; omega) w_oi w_oc ?_
  refine g_aload_n dX1_init_4 rfl rfl ?_
  refine g_sipush (v := nI 200) dX1_init_5 (by decide) ?_
  refine k_newI (i0 := 13) (n1 := 14) dX1_init_8 (by decide) (Nat.le_of_ble_eq_true rfl) (Nat.le_of_ble_eq_true rfl) rfl rfl ?_
  refine g_putFin (fs' := [.ref 13, .null, .null, .null, .int (nI 0), .int (nI 0), .int (nI 0)]) dX1_init_10 fX1_9 rfl rfl (g_ne (by decide) h0) (Nat.le_of_ble_eq_true rfl) rfl rfl rfl ?_
  refine g_aload_n dX1_init_13 rfl rfl ?_
  refine g_sipush (v := nI 200) dX1_init_14 (by decide) ?_
  refine k_newI (i0 := 14) (n1 := 15) dX1_init_17 (by decide) (Nat.le_of_ble_eq_true rfl) (Nat.le_of_ble_eq_true rfl) rfl rfl ?_
  refine g_putFin (fs' := [.ref 13, .ref 14, .null, .null, .int (nI 0), .int (nI 0), .int (nI 0)]) dX1_init_19 fX1_15 rfl rfl (g_ne (by decide) g_eq) (Nat.le_of_ble_eq_true rfl) rfl rfl rfl ?_
  refine g_aload_n dX1_init_22 rfl rfl ?_
  refine g_sipush (v := nI 200) dX1_init_23 (by decide) ?_
  refine k_newI (i0 := 15) (n1 := 16) dX1_init_26 (by decide) (Nat.le_of_ble_eq_true rfl) (Nat.le_of_ble_eq_true rfl) rfl rfl ?_
  refine g_putFin (fs' := [.ref 13, .ref 14, .ref 15, .null, .int (nI 0), .int (nI 0), .int (nI 0)]) dX1_init_28 fX1_18 rfl rfl (g_ne (by decide) g_eq) (Nat.le_of_ble_eq_true rfl) rfl rfl rfl ?_
  refine g_aload_n dX1_init_31 rfl rfl ?_
  refine g_bipush (v := nI 8) dX1_init_32 (by decide) ?_
  refine k_newI (i0 := 16) (n1 := 17) dX1_init_34 (by decide) (Nat.le_of_ble_eq_true rfl) (Nat.le_of_ble_eq_true rfl) rfl rfl ?_
  refine g_putFin (fs' := [.ref 13, .ref 14, .ref 15, .ref 16, .int (nI 0), .int (nI 0), .int (nI 0)]) dX1_init_36 fX1_21 rfl rfl (g_ne (by decide) g_eq) (Nat.le_of_ble_eq_true rfl) rfl rfl rfl ?_
  exact e_c dX1_init_39 rfl rfl ((((((((g_fr.rf.up (by decide)).up (by decide)).up (by decide)).up (by decide)).up (by decide)).up (by decide)).up (by decide)).up (by decide)) ⟨g_eq, g_ne (by decide) (g_ne (by decide) (g_ne (by decide) (g_ne (by decide) (g_ne (by decide) (g_ne (by decide) (g_ne (by decide) g_eq)))))), g_ne (by decide) (g_ne (by decide) (g_ne (by decide) (g_ne (by decide) (g_ne (by decide) g_eq)))), g_ne (by decide) (g_ne (by decide) (g_ne (by decide) g_eq)), g_ne (by decide) g_eq⟩ (Nat.le_of_ble_eq_true rfl) (Nat.le_of_ble_eq_true rfl)
set_option maxHeartbeats 4000000 in
set_option maxRecDepth 100000 in
theorem c_newCount (G : gG) (d : Nat) (h : gH) (h0 : h 120 = some (.inr (3, [.null, .null, .int (nI 0), .int (nI 0)]))) : g_M G mX3_init (d + 1) 2 16 [.ref 120] 121 true h (q_c 123 (List.range' 120 3) h (fun h' => Fc h' (fun _ => 0) (fun _ => 0) 0 0)) := by
  refine g_enter (by decide) (Nat.le_of_ble_eq_true rfl) ?_
  show g_W G _ _ _ 121 true h 0 0 0 [(0, .ref 120)] []
  refine g_aload_n dX3_init_0 rfl rfl ?_
  refine g_objInit dX3_init_1 (List.mem_of_getElem? (i := 323) (by decide +kernel)) rfl (by decide) (by simp only [g_rm]; omega) (by simp only [g_rm]; omega) w_oi w_oc ?_
  refine g_aload_n dX3_init_4 rfl rfl ?_
  refine g_bipush (v := nI 8) dX3_init_5 (by decide) ?_
  refine k_newI (i0 := 121) (n1 := 122) dX3_init_7 (by decide) (Nat.le_of_ble_eq_true rfl) (Nat.le_of_ble_eq_true rfl) rfl rfl ?_
  refine g_putFin (fs' := [.ref 121, .null, .int (nI 0), .int (nI 0)]) dX3_init_9 fX3_9 rfl rfl (g_ne (by decide) h0) (Nat.le_of_ble_eq_true rfl) rfl rfl rfl ?_
  refine g_aload_n dX3_init_12 rfl rfl ?_
  refine g_bipush (v := nI 8) dX3_init_13 (by decide) ?_
  refine k_newZ (i0 := 122) (n1 := 123) dX3_init_15 (by decide) (Nat.le_of_ble_eq_true rfl) (Nat.le_of_ble_eq_true rfl) rfl rfl ?_
  refine g_putFin (fs' := [.ref 121, .ref 122, .int (nI 0), .int (nI 0)]) dX3_init_17 fX3_15 rfl rfl (g_ne (by decide) g_eq) (Nat.le_of_ble_eq_true rfl) rfl rfl rfl ?_
  exact e_c dX3_init_20 rfl rfl ((((g_fr.rf.up (by decide)).up (by decide)).up (by decide)).up (by decide)) ⟨g_eq, g_ne (by decide) (g_ne (by decide) (g_ne (by decide) g_eq)), g_ne (by decide) g_eq⟩ (Nat.le_of_ble_eq_true rfl) (Nat.le_of_ble_eq_true rfl)
set_option maxHeartbeats 4000000 in
set_option maxRecDepth 100000 in
theorem c_newOdds (G : gG) (d : Nat) (h : gH) (h0 : h 123 = some (.inr (4, [.null, .null, .null, .null, .null, .null]))) : g_M G mX4_init (d + 3) 13 400 [.ref 123] 124 true h (q_c 137 (List.range' 123 14) h (fun h' => Od h')) := by
  refine g_enter (by decide) (Nat.le_of_ble_eq_true rfl) ?_
  show g_W G _ _ _ 124 true h 0 0 0 [(0, .ref 123)] []
  refine g_aload_n dX4_init_0 rfl rfl ?_
  refine g_objInit dX4_init_1 (List.mem_of_getElem? (i := 345) (by decide +kernel)) rfl (by decide) (by simp only [g_rm]; omega) (by simp only [g_rm]; omega) w_oi w_oc ?_
  refine g_aload_n dX4_init_4 rfl rfl ?_
  refine g_bipush (v := nI 31) dX4_init_5 (by decide) ?_
  refine k_newI (i0 := 124) (n1 := 125) dX4_init_7 (by decide) (Nat.le_of_ble_eq_true rfl) (Nat.le_of_ble_eq_true rfl) rfl rfl ?_
  refine g_putFin (fs' := [.ref 124, .null, .null, .null, .null, .null]) dX4_init_9 fX4_9 rfl rfl (g_ne (by decide) h0) (Nat.le_of_ble_eq_true rfl) rfl rfl rfl ?_
  refine g_aload_n dX4_init_12 rfl rfl ?_
  refine g_bipush (v := nI 31) dX4_init_13 (by decide) ?_
  refine k_newI (i0 := 125) (n1 := 126) dX4_init_15 (by decide) (Nat.le_of_ble_eq_true rfl) (Nat.le_of_ble_eq_true rfl) rfl rfl ?_
  refine g_putFin (fs' := [.ref 124, .ref 125, .null, .null, .null, .null]) dX4_init_17 fX4_15 rfl rfl (g_ne (by decide) g_eq) (Nat.le_of_ble_eq_true rfl) rfl rfl rfl ?_
  refine g_aload_n dX4_init_20 rfl rfl ?_
  refine k_new (i0 := 126) (n1 := 127) (fs := [.null, .null]) dX4_init_21 clX2 ⟨List.mem_of_getElem? (i := 346) (by decide +kernel), rfl⟩ ⟨List.mem_of_getElem? (i := 225) (by decide +kernel), rfl⟩ ⟨List.mem_of_getElem? (i := 55) (by decide +kernel), rfl⟩ (k_df (fs' := [.null, .null]) rfl (by decide)) (Nat.le_of_ble_eq_true rfl) (Nat.le_of_ble_eq_true rfl) rfl rfl ?_
  refine g_dup dX4_init_24 rfl ?_
  refine g_bipush (v := nI 40) dX4_init_25 (by decide) ?_
  refine cI (st := [.ref 126, .ref 123]) dX4_init_27 (c_newFraction G d _ (i := 126) (N := 40) g_eq (by decide) (by decide)) rfl rfl sX4_20 rfl (by simp only [g_rm]; omega) (by simp only [g_rm]; (try show _ + 41 * _ ≤ _); omega) (Nat.le_of_ble_eq_true rfl) ⟨(Nat.le_of_ble_eq_true rfl), (Nat.le_of_ble_eq_true rfl)⟩ (fun h1 fr2 p3 => ?_)
  refine g_putFin (fs' := [.ref 124, .ref 125, .ref 126, .null, .null, .null]) dX4_init_30 fX4_23 rfl rfl (fr2.at (by decide) (g_ne (by decide) g_eq)) (Nat.le_of_ble_eq_true rfl) rfl rfl rfl ?_
  refine g_aload_n dX4_init_33 rfl rfl ?_
  refine k_new (i0 := 131) (n1 := 132) (fs := [.null, .int (nI 0)]) dX4_init_34 clX9 ⟨List.mem_of_getElem? (i := 348) (by decide +kernel), rfl⟩ ⟨List.mem_of_getElem? (i := 231) (by decide +kernel), rfl⟩ ⟨List.mem_of_getElem? (i := 56) (by decide +kernel), rfl⟩ (k_df (fs' := [.null, .int (nI 0)]) rfl (by decide)) (Nat.le_of_ble_eq_true rfl) (Nat.le_of_ble_eq_true rfl) rfl rfl ?_
  refine g_dup dX4_init_37 rfl ?_
  refine g_bipush (v := nI 40) dX4_init_38 (by decide) ?_
  refine cI (st := [.ref 131, .ref 123]) dX4_init_40 (c_newWhole G (d + 1) _ (i := 131) (N := 40) g_eq (by decide)) rfl rfl sX4_29 rfl (by simp only [g_rm]; omega) (by simp only [g_rm]; (try show _ + 41 * _ ≤ _); omega) (Nat.le_of_ble_eq_true rfl) ⟨(Nat.le_of_ble_eq_true rfl), (Nat.le_of_ble_eq_true rfl)⟩ (fun h4 fr5 p6 => ?_)
  refine g_putFin (fs' := [.ref 124, .ref 125, .ref 126, .ref 131, .null, .null]) dX4_init_43 fX4_30 rfl rfl (fr5.at (by decide) (g_ne (by decide) g_eq)) (Nat.le_of_ble_eq_true rfl) rfl rfl rfl ?_
  refine g_aload_n dX4_init_46 rfl rfl ?_
  refine k_new (i0 := 133) (n1 := 134) (fs := [.null, .int (nI 0)]) dX4_init_47 clX9 ⟨List.mem_of_getElem? (i := 348) (by decide +kernel), rfl⟩ ⟨List.mem_of_getElem? (i := 231) (by decide +kernel), rfl⟩ ⟨List.mem_of_getElem? (i := 56) (by decide +kernel), rfl⟩ (k_df (fs' := [.null, .int (nI 0)]) rfl (by decide)) (Nat.le_of_ble_eq_true rfl) (Nat.le_of_ble_eq_true rfl) rfl rfl ?_
  refine g_dup dX4_init_50 rfl ?_
  refine g_bipush (v := nI 40) dX4_init_51 (by decide) ?_
  refine cI (st := [.ref 133, .ref 123]) dX4_init_53 (c_newWhole G (d + 1) _ (i := 133) (N := 40) g_eq (by decide)) rfl rfl sX4_29 rfl (by simp only [g_rm]; omega) (by simp only [g_rm]; (try show _ + 41 * _ ≤ _); omega) (Nat.le_of_ble_eq_true rfl) ⟨(Nat.le_of_ble_eq_true rfl), (Nat.le_of_ble_eq_true rfl)⟩ (fun h7 fr8 p9 => ?_)
  refine g_putFin (fs' := [.ref 124, .ref 125, .ref 126, .ref 131, .ref 133, .null]) dX4_init_56 fX4_34 rfl rfl (fr8.at (by decide) (g_ne (by decide) g_eq)) (Nat.le_of_ble_eq_true rfl) rfl rfl rfl ?_
  refine g_aload_n dX4_init_59 rfl rfl ?_
  refine k_new (i0 := 135) (n1 := 136) (fs := [.null, .int (nI 0)]) dX4_init_60 clX9 ⟨List.mem_of_getElem? (i := 348) (by decide +kernel), rfl⟩ ⟨List.mem_of_getElem? (i := 231) (by decide +kernel), rfl⟩ ⟨List.mem_of_getElem? (i := 56) (by decide +kernel), rfl⟩ (k_df (fs' := [.null, .int (nI 0)]) rfl (by decide)) (Nat.le_of_ble_eq_true rfl) (Nat.le_of_ble_eq_true rfl) rfl rfl ?_
  refine g_dup dX4_init_63 rfl ?_
  refine g_bipush (v := nI 40) dX4_init_64 (by decide) ?_
  refine cI (st := [.ref 135, .ref 123]) dX4_init_66 (c_newWhole G (d + 1) _ (i := 135) (N := 40) g_eq (by decide)) rfl rfl sX4_29 rfl (by simp only [g_rm]; omega) (by simp only [g_rm]; (try show _ + 41 * _ ≤ _); omega) (Nat.le_of_ble_eq_true rfl) ⟨(Nat.le_of_ble_eq_true rfl), (Nat.le_of_ble_eq_true rfl)⟩ (fun h10 fr11 p12 => ?_)
  refine g_putFin (fs' := [.ref 124, .ref 125, .ref 126, .ref 131, .ref 133, .ref 135]) dX4_init_69 fX4_37 rfl rfl (fr11.at (by decide) (g_ne (by decide) g_eq)) (Nat.le_of_ble_eq_true rfl) rfl rfl rfl ?_
  exact e_c dX4_init_72 rfl rfl ((((((((((((((((g_fr.rf.up (by decide)).up (by decide)).up (by decide)).up (by decide)).up (by decide)).tr fr2 (by decide)).up (by decide)).up (by decide)).tr fr5 (by decide)).up (by decide)).up (by decide)).tr fr8 (by decide)).up (by decide)).up (by decide)).tr fr11 (by decide)).up (by decide)) ⟨g_eq, ⟨_, g_ne (by decide) (fr11.at (by decide) (g_ne (by decide) (g_ne (by decide) (fr8.at (by decide) (g_ne (by decide) (g_ne (by decide) (fr5.at (by decide) (g_ne (by decide) (g_ne (by decide) (fr2.at (by decide) (g_ne (by decide) (g_ne (by decide) (g_ne (by decide) (g_ne (by decide) g_eq))))))))))))))⟩, ⟨_, g_ne (by decide) (fr11.at (by decide) (g_ne (by decide) (g_ne (by decide) (fr8.at (by decide) (g_ne (by decide) (g_ne (by decide) (fr5.at (by decide) (g_ne (by decide) (g_ne (by decide) (fr2.at (by decide) (g_ne (by decide) (g_ne (by decide) g_eq))))))))))))⟩, (p3.r).fr (((((((((((g_fr.rf (S := 123 :: List.range' 131 6)).up (by decide)).up (by decide)).tr fr5 (by decide)).up (by decide)).up (by decide)).tr fr8 (by decide)).up (by decide)).up (by decide)).tr fr11 (by decide)).up (by decide)) (by decide) (by decide) (by decide) (by decide) (by decide), ⟨_, _, g_ne (by decide) (fr11.at (by decide) (g_ne (by decide) (g_ne (by decide) (fr8.at (by decide) (g_ne (by decide) (g_ne (by decide) p6.1)))))), g_ne (by decide) (fr11.at (by decide) (g_ne (by decide) (g_ne (by decide) (fr8.at (by decide) (g_ne (by decide) (g_ne (by decide) p6.2))))))⟩, ⟨_, _, g_ne (by decide) (fr11.at (by decide) (g_ne (by decide) (g_ne (by decide) p9.1))), g_ne (by decide) (fr11.at (by decide) (g_ne (by decide) (g_ne (by decide) p9.2)))⟩, ⟨_, _, g_ne (by decide) p12.1, g_ne (by decide) p12.2⟩⟩ (Nat.le_of_ble_eq_true rfl) (Nat.le_of_ble_eq_true rfl)
