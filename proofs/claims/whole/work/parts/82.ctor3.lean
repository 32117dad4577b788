theorem k_abs {G : gG} {M : gM} {R : Room} {K : gK} {n : Nat} {ex : Bool} {h : gH} {k sl pc : Nat} {ls : List (Nat × Value)} {st : List Value} {i : Nat} {c : gC} (kk : ∀ h', h' i = some c → (∀ j, j ≠ i → h' j = h j) → g_W G M R K n ex h' k sl pc ls st) : g_W G M R K n ex (g_up h i c) k sl pc ls st := kk _ g_eq (fun j hj => g_ne hj rfl)
theorem g_fr.ab {S : List Nat} {h0 h h' : gH} {i : Nat} (hf : g_fr S h0 h) (f : ∀ j, j ≠ i → h' j = h j) (hi : i ∈ S) : g_fr S h0 h' := fun j hj => (f j (fun e => hj (by rw [e]; exact hi))).trans (hf j hj)
set_option maxHeartbeats 4000000 in
set_option maxRecDepth 100000 in
theorem c_newModel (G : gG) (d : Nat) (h : gH) (h0 : h 142 = some (.inr (11, [.int (nI 0), .null, .int (nI 0), .int (nI 0), .int (nI 0), .null, .int (nI 0), .int (nI 0), .null, .int (nI 0), .int (nI 0), .int (nI 0), .int (nI 0), .null, .int (nI 0), .null, .int (nI 0), .int (nI 0), .int (nI 0), .int (nI 0), .null, .null, .null, .null, .int (nI 0), .null, .null, .null, .int (nI 0), .int (nI 0), .int (nI 0), .int (nI 0), .null, .int (nI 0), .null, .null, .null, .null, .null, .null, .null, .null, .null, .null, .null]))) : g_M G mX11_init (d + 1) 24 240000 [.ref 142] 143 true h (q_c 167 (List.range' 142 25) h (fun h' => Mc h' (nI 0) s0 0 0 0 0 0 0 0 0 0 0 (-1) ∧ h' 143 = some (.inl (0, 8, .inl (fun k => nI ((fun _ => 0) k)))) ∧ h' 144 = some (.inl (0, 65, .inl (fun k => nI ((fun _ => 0) k)))) ∧ h' 145 = some (.inl (1, 20000, .inl (fun k => nI ((fun _ => 0) k)))) ∧ h' 147 = some (.inl (1, 4000, .inl (fun k => nI ((fun _ => 0) k)))) ∧ h' 148 = some (.inl (2, 8, .inl (fun k => nI ((fun _ => 0) k)))) ∧ h' 149 = some (.inl (0, 16, .inl (fun k => nI ((fun _ => 0) k)))) ∧ h' 150 = some (.inl (0, 16, .inl (fun k => nI ((fun _ => 0) k)))) ∧ h' 151 = some (.inl (0, 16, .inl (fun k => nI ((fun _ => 0) k)))) ∧ h' 152 = some (.inl (0, 8, .inl (fun k => nI ((fun _ => 0) k)))) ∧ h' 153 = some (.inl (1, 20000, .inl (fun k => nI ((fun _ => 0) k)))) ∧ h' 154 = some (.inl (0, 20000, .inl (fun k => nI ((fun _ => 0) k)))) ∧ h' 155 = some (.inl (0, 8, .inl (fun k => nI ((fun _ => 0) k)))) ∧ h' 158 = some (.inl (0, 77000, .inl (fun k => nI ((fun _ => 0) k)))) ∧ h' 159 = some (.inl (0, 77000, .inl (fun k => nI ((fun _ => 0) k)))) ∧ h' 166 = some (.inl (2, 961, .inl (fun k => nI ((fun _ => 0) k)))) ∧ Mh h' (fun _ => 0) ∧ Bv h' (va_up (va_up (va_up (va_up (fun _ => some 0) 0 (some 0)) 1 (some 1)) 6 (some 1)) 7 (some 1)))) := by
  refine g_enter (by decide) (Nat.le_of_ble_eq_true rfl) ?_
  show g_W G _ _ _ 143 true h 0 0 0 [(0, .ref 142)] []
  refine g_aload_n dX11_init_0 rfl rfl ?_
  refine g_objInit dX11_init_1 (List.mem_of_getElem? (i := 1005) (by decide +kernel)) rfl (by decide) (by simp only [g_rm]; omega) (by simp only [g_rm]; omega) w_oi w_oc ?_
  refine g_aload_n dX11_init_4 rfl rfl ?_
  refine g_bipush (v := nI 8) dX11_init_5 (by decide) ?_
  refine k_newI (i0 := 143) (n1 := 144) dX11_init_7 (by decide) (Nat.le_of_ble_eq_true rfl) (Nat.le_of_ble_eq_true rfl) rfl rfl ?_
  refine k_abs (fun h1 e1 f1 => ?_)
  have r1 : g_fr (List.range' 142 25) h h1 := g_fr.rf.ab f1 (by decide)
  refine g_putFin (fs' := [.int (nI 0), .ref 143, .int (nI 0), .int (nI 0), .int (nI 0), .null, .int (nI 0), .int (nI 0), .null, .int (nI 0), .int (nI 0), .int (nI 0), .int (nI 0), .null, .int (nI 0), .null, .int (nI 0), .int (nI 0), .int (nI 0), .int (nI 0), .null, .null, .null, .null, .int (nI 0), .null, .null, .null, .int (nI 0), .int (nI 0), .int (nI 0), .int (nI 0), .null, .int (nI 0), .null, .null, .null, .null, .null, .null, .null, .null, .null, .null, .null]) dX11_init_9 fX11_13 rfl rfl ((f1 _ (by decide)).trans h0) (Nat.le_of_ble_eq_true rfl) rfl rfl rfl ?_
  refine k_abs (fun h2 e2 f2 => ?_)
  have r2 : g_fr (List.range' 142 25) h h2 := r1.ab f2 (by decide)
  refine g_aload_n dX11_init_12 rfl rfl ?_
  refine g_iconst (v := nI 1) dX11_init_13 (by decide) ?_
  refine g_put (fs' := [.int (nI 0), .ref 143, .int (nI 0), .int (nI 1), .int (nI 0), .null, .int (nI 0), .int (nI 0), .null, .int (nI 0), .int (nI 0), .int (nI 0), .int (nI 0), .null, .int (nI 0), .null, .int (nI 0), .int (nI 0), .int (nI 0), .int (nI 0), .null, .null, .null, .null, .int (nI 0), .null, .null, .null, .int (nI 0), .int (nI 0), .int (nI 0), .int (nI 0), .null, .int (nI 0), .null, .null, .null, .null, .null, .null, .null, .null, .null, .null, .null]) dX11_init_14 fX11_17 e2 (Nat.le_of_ble_eq_true rfl) rfl rfl rfl ?_
  refine k_abs (fun h3 e3 f3 => ?_)
  have r3 : g_fr (List.range' 142 25) h h3 := r2.ab f3 (by decide)
  refine g_aload_n dX11_init_17 rfl rfl ?_
  refine g_bipush (v := nI 100) dX11_init_18 (by decide) ?_
  refine g_put (fs' := [.int (nI 0), .ref 143, .int (nI 0), .int (nI 1), .int (nI 100), .null, .int (nI 0), .int (nI 0), .null, .int (nI 0), .int (nI 0), .int (nI 0), .int (nI 0), .null, .int (nI 0), .null, .int (nI 0), .int (nI 0), .int (nI 0), .int (nI 0), .null, .null, .null, .null, .int (nI 0), .null, .null, .null, .int (nI 0), .int (nI 0), .int (nI 0), .int (nI 0), .null, .int (nI 0), .null, .null, .null, .null, .null, .null, .null, .null, .null, .null, .null]) dX11_init_20 fX11_20 e3 (Nat.le_of_ble_eq_true rfl) rfl rfl rfl ?_
  refine k_abs (fun h4 e4 f4 => ?_)
  have r4 : g_fr (List.range' 142 25) h h4 := r3.ab f4 (by decide)
  refine g_aload_n dX11_init_23 rfl rfl ?_
  refine g_bipush (v := nI 65) dX11_init_24 (by decide) ?_
  refine k_newI (i0 := 144) (n1 := 145) dX11_init_26 (by decide) (Nat.le_of_ble_eq_true rfl) (Nat.le_of_ble_eq_true rfl) rfl rfl ?_
  refine k_abs (fun h5 e5 f5 => ?_)
  have r5 : g_fr (List.range' 142 25) h h5 := r4.ab f5 (by decide)
  refine g_putFin (fs' := [.int (nI 0), .ref 143, .int (nI 0), .int (nI 1), .int (nI 100), .ref 144, .int (nI 0), .int (nI 0), .null, .int (nI 0), .int (nI 0), .int (nI 0), .int (nI 0), .null, .int (nI 0), .null, .int (nI 0), .int (nI 0), .int (nI 0), .int (nI 0), .null, .null, .null, .null, .int (nI 0), .null, .null, .null, .int (nI 0), .int (nI 0), .int (nI 0), .int (nI 0), .null, .int (nI 0), .null, .null, .null, .null, .null, .null, .null, .null, .null, .null, .null]) dX11_init_28 fX11_23 rfl rfl ((f5 _ (by decide)).trans e4) (Nat.le_of_ble_eq_true rfl) rfl rfl rfl ?_
  refine k_abs (fun h6 e6 f6 => ?_)
  have r6 : g_fr (List.range' 142 25) h h6 := r5.ab f6 (by decide)
  refine g_aload_n dX11_init_31 rfl rfl ?_
  refine g_sipush (v := nI 20000) dX11_init_32 (by decide) ?_
  refine k_newB (i0 := 145) (n1 := 146) dX11_init_35 (by decide) (Nat.le_of_ble_eq_true rfl) (Nat.le_of_ble_eq_true rfl) rfl rfl ?_
  refine k_abs (fun h7 e7 f7 => ?_)
  have r7 : g_fr (List.range' 142 25) h h7 := r6.ab f7 (by decide)
  refine g_putFin (fs' := [.int (nI 0), .ref 143, .int (nI 0), .int (nI 1), .int (nI 100), .ref 144, .int (nI 0), .int (nI 0), .ref 145, .int (nI 0), .int (nI 0), .int (nI 0), .int (nI 0), .null, .int (nI 0), .null, .int (nI 0), .int (nI 0), .int (nI 0), .int (nI 0), .null, .null, .null, .null, .int (nI 0), .null, .null, .null, .int (nI 0), .int (nI 0), .int (nI 0), .int (nI 0), .null, .int (nI 0), .null, .null, .null, .null, .null, .null, .null, .null, .null, .null, .null]) dX11_init_37 fX11_26 rfl rfl ((f7 _ (by decide)).trans e6) (Nat.le_of_ble_eq_true rfl) rfl rfl rfl ?_
  refine k_abs (fun h8 e8 f8 => ?_)
  have r8 : g_fr (List.range' 142 25) h h8 := r7.ab f8 (by decide)
  refine g_aload_n dX11_init_40 rfl rfl ?_
  refine g_iconst (v := nI 1) dX11_init_41 (by decide) ?_
  refine g_put (fs' := [.int (nI 0), .ref 143, .int (nI 0), .int (nI 1), .int (nI 100), .ref 144, .int (nI 0), .int (nI 0), .ref 145, .int (nI 1), .int (nI 0), .int (nI 0), .int (nI 0), .null, .int (nI 0), .null, .int (nI 0), .int (nI 0), .int (nI 0), .int (nI 0), .null, .null, .null, .null, .int (nI 0), .null, .null, .null, .int (nI 0), .int (nI 0), .int (nI 0), .int (nI 0), .null, .int (nI 0), .null, .null, .null, .null, .null, .null, .null, .null, .null, .null, .null]) dX11_init_42 fX11_30 e8 (Nat.le_of_ble_eq_true rfl) rfl rfl rfl ?_
  refine k_abs (fun h9 e9 f9 => ?_)
  have r9 : g_fr (List.range' 142 25) h h9 := r8.ab f9 (by decide)
  refine g_aload_n dX11_init_45 rfl rfl ?_
  refine g_bipush (v := nI 10) dX11_init_46 (by decide) ?_
  refine g_put (fs' := [.int (nI 0), .ref 143, .int (nI 0), .int (nI 1), .int (nI 100), .ref 144, .int (nI 0), .int (nI 0), .ref 145, .int (nI 1), .int (nI 10), .int (nI 0), .int (nI 0), .null, .int (nI 0), .null, .int (nI 0), .int (nI 0), .int (nI 0), .int (nI 0), .null, .null, .null, .null, .int (nI 0), .null, .null, .null, .int (nI 0), .int (nI 0), .int (nI 0), .int (nI 0), .null, .int (nI 0), .null, .null, .null, .null, .null, .null, .null, .null, .null, .null, .null]) dX11_init_48 fX11_33 e9 (Nat.le_of_ble_eq_true rfl) rfl rfl rfl ?_
  refine k_abs (fun h10 e10 f10 => ?_)
  have r10 : g_fr (List.range' 142 25) h h10 := r9.ab f10 (by decide)
  refine g_aload_n dX11_init_51 rfl rfl ?_
  refine g_bipush (v := nI 11) dX11_init_52 (by decide) ?_
  refine g_put (fs' := [.int (nI 0), .ref 143, .int (nI 0), .int (nI 1), .int (nI 100), .ref 144, .int (nI 0), .int (nI 0), .ref 145, .int (nI 1), .int (nI 10), .int (nI 11), .int (nI 0), .null, .int (nI 0), .null, .int (nI 0), .int (nI 0), .int (nI 0), .int (nI 0), .null, .null, .null, .null, .int (nI 0), .null, .null, .null, .int (nI 0), .int (nI 0), .int (nI 0), .int (nI 0), .null, .int (nI 0), .null, .null, .null, .null, .null, .null, .null, .null, .null, .null, .null]) dX11_init_54 fX11_36 e10 (Nat.le_of_ble_eq_true rfl) rfl rfl rfl ?_
  refine k_abs (fun h11 e11 f11 => ?_)
  have r11 : g_fr (List.range' 142 25) h h11 := r10.ab f11 (by decide)
  refine g_aload_n dX11_init_57 rfl rfl ?_
  refine g_bipush (v := nI 10) dX11_init_58 (by decide) ?_
  refine g_put (fs' := [.int (nI 0), .ref 143, .int (nI 0), .int (nI 1), .int (nI 100), .ref 144, .int (nI 0), .int (nI 0), .ref 145, .int (nI 1), .int (nI 10), .int (nI 11), .int (nI 10), .null, .int (nI 0), .null, .int (nI 0), .int (nI 0), .int (nI 0), .int (nI 0), .null, .null, .null, .null, .int (nI 0), .null, .null, .null, .int (nI 0), .int (nI 0), .int (nI 0), .int (nI 0), .null, .int (nI 0), .null, .null, .null, .null, .null, .null, .null, .null, .null, .null, .null]) dX11_init_60 fX11_39 e11 (Nat.le_of_ble_eq_true rfl) rfl rfl rfl ?_
  refine k_abs (fun h12 e12 f12 => ?_)
  have r12 : g_fr (List.range' 142 25) h h12 := r11.ab f12 (by decide)
  refine g_aload_n dX11_init_63 rfl rfl ?_
  refine g_bipush (v := nI 20) dX11_init_64 (by decide) ?_
  refine k_newI (i0 := 146) (n1 := 147) dX11_init_66 (by decide) (Nat.le_of_ble_eq_true rfl) (Nat.le_of_ble_eq_true rfl) rfl rfl ?_
  refine k_abs (fun h13 e13 f13 => ?_)
  have r13 : g_fr (List.range' 142 25) h h13 := r12.ab f13 (by decide)
  refine g_putFin (fs' := [.int (nI 0), .ref 143, .int (nI 0), .int (nI 1), .int (nI 100), .ref 144, .int (nI 0), .int (nI 0), .ref 145, .int (nI 1), .int (nI 10), .int (nI 11), .int (nI 10), .ref 146, .int (nI 0), .null, .int (nI 0), .int (nI 0), .int (nI 0), .int (nI 0), .null, .null, .null, .null, .int (nI 0), .null, .null, .null, .int (nI 0), .int (nI 0), .int (nI 0), .int (nI 0), .null, .int (nI 0), .null, .null, .null, .null, .null, .null, .null, .null, .null, .null, .null]) dX11_init_68 fX11_42 rfl rfl ((f13 _ (by decide)).trans e12) (Nat.le_of_ble_eq_true rfl) rfl rfl rfl ?_
  refine k_abs (fun h14 e14 f14 => ?_)
  have r14 : g_fr (List.range' 142 25) h h14 := r13.ab f14 (by decide)
  refine g_aload_n dX11_init_71 rfl rfl ?_
  refine g_sipush (v := nI 4000) dX11_init_72 (by decide) ?_
  refine k_newB (i0 := 147) (n1 := 148) dX11_init_75 (by decide) (Nat.le_of_ble_eq_true rfl) (Nat.le_of_ble_eq_true rfl) rfl rfl ?_
  refine k_abs (fun h15 e15 f15 => ?_)
  have r15 : g_fr (List.range' 142 25) h h15 := r14.ab f15 (by decide)
  refine g_putFin (fs' := [.int (nI 0), .ref 143, .int (nI 0), .int (nI 1), .int (nI 100), .ref 144, .int (nI 0), .int (nI 0), .ref 145, .int (nI 1), .int (nI 10), .int (nI 11), .int (nI 10), .ref 146, .int (nI 0), .ref 147, .int (nI 0), .int (nI 0), .int (nI 0), .int (nI 0), .null, .null, .null, .null, .int (nI 0), .null, .null, .null, .int (nI 0), .int (nI 0), .int (nI 0), .int (nI 0), .null, .int (nI 0), .null, .null, .null, .null, .null, .null, .null, .null, .null, .null, .null]) dX11_init_77 fX11_45 rfl rfl ((f15 _ (by decide)).trans e14) (Nat.le_of_ble_eq_true rfl) rfl rfl rfl ?_
  refine k_abs (fun h16 e16 f16 => ?_)
  have r16 : g_fr (List.range' 142 25) h h16 := r15.ab f16 (by decide)
  refine g_aload_n dX11_init_80 rfl rfl ?_
  refine g_bipush (v := nI 8) dX11_init_81 (by decide) ?_
  refine k_newZ (i0 := 148) (n1 := 149) dX11_init_83 (by decide) (Nat.le_of_ble_eq_true rfl) (Nat.le_of_ble_eq_true rfl) rfl rfl ?_
  refine k_abs (fun h17 e17 f17 => ?_)
  have r17 : g_fr (List.range' 142 25) h h17 := r16.ab f17 (by decide)
  refine g_putFin (fs' := [.int (nI 0), .ref 143, .int (nI 0), .int (nI 1), .int (nI 100), .ref 144, .int (nI 0), .int (nI 0), .ref 145, .int (nI 1), .int (nI 10), .int (nI 11), .int (nI 10), .ref 146, .int (nI 0), .ref 147, .int (nI 0), .int (nI 0), .int (nI 0), .int (nI 0), .ref 148, .null, .null, .null, .int (nI 0), .null, .null, .null, .int (nI 0), .int (nI 0), .int (nI 0), .int (nI 0), .null, .int (nI 0), .null, .null, .null, .null, .null, .null, .null, .null, .null, .null, .null]) dX11_init_85 fX11_48 rfl rfl ((f17 _ (by decide)).trans e16) (Nat.le_of_ble_eq_true rfl) rfl rfl rfl ?_
  refine k_abs (fun h18 e18 f18 => ?_)
  have r18 : g_fr (List.range' 142 25) h h18 := r17.ab f18 (by decide)
  refine g_aload_n dX11_init_88 rfl rfl ?_
  refine g_bipush (v := nI 16) dX11_init_89 (by decide) ?_
  refine k_newI (i0 := 149) (n1 := 150) dX11_init_91 (by decide) (Nat.le_of_ble_eq_true rfl) (Nat.le_of_ble_eq_true rfl) rfl rfl ?_
  refine k_abs (fun h19 e19 f19 => ?_)
  have r19 : g_fr (List.range' 142 25) h h19 := r18.ab f19 (by decide)
  refine g_putFin (fs' := [.int (nI 0), .ref 143, .int (nI 0), .int (nI 1), .int (nI 100), .ref 144, .int (nI 0), .int (nI 0), .ref 145, .int (nI 1), .int (nI 10), .int (nI 11), .int (nI 10), .ref 146, .int (nI 0), .ref 147, .int (nI 0), .int (nI 0), .int (nI 0), .int (nI 0), .ref 148, .ref 149, .null, .null, .int (nI 0), .null, .null, .null, .int (nI 0), .int (nI 0), .int (nI 0), .int (nI 0), .null, .int (nI 0), .null, .null, .null, .null, .null, .null, .null, .null, .null, .null, .null]) dX11_init_93 fX11_52 rfl rfl ((f19 _ (by decide)).trans e18) (Nat.le_of_ble_eq_true rfl) rfl rfl rfl ?_
  refine k_abs (fun h20 e20 f20 => ?_)
  have r20 : g_fr (List.range' 142 25) h h20 := r19.ab f20 (by decide)
  refine g_aload_n dX11_init_96 rfl rfl ?_
  refine g_bipush (v := nI 16) dX11_init_97 (by decide) ?_
  refine k_newI (i0 := 150) (n1 := 151) dX11_init_99 (by decide) (Nat.le_of_ble_eq_true rfl) (Nat.le_of_ble_eq_true rfl) rfl rfl ?_
  refine k_abs (fun h21 e21 f21 => ?_)
  have r21 : g_fr (List.range' 142 25) h h21 := r20.ab f21 (by decide)
  refine g_putFin (fs' := [.int (nI 0), .ref 143, .int (nI 0), .int (nI 1), .int (nI 100), .ref 144, .int (nI 0), .int (nI 0), .ref 145, .int (nI 1), .int (nI 10), .int (nI 11), .int (nI 10), .ref 146, .int (nI 0), .ref 147, .int (nI 0), .int (nI 0), .int (nI 0), .int (nI 0), .ref 148, .ref 149, .ref 150, .null, .int (nI 0), .null, .null, .null, .int (nI 0), .int (nI 0), .int (nI 0), .int (nI 0), .null, .int (nI 0), .null, .null, .null, .null, .null, .null, .null, .null, .null, .null, .null]) dX11_init_101 fX11_55 rfl rfl ((f21 _ (by decide)).trans e20) (Nat.le_of_ble_eq_true rfl) rfl rfl rfl ?_
  refine k_abs (fun h22 e22 f22 => ?_)
  have r22 : g_fr (List.range' 142 25) h h22 := r21.ab f22 (by decide)
  refine g_aload_n dX11_init_104 rfl rfl ?_
  refine g_bipush (v := nI 16) dX11_init_105 (by decide) ?_
  refine k_newI (i0 := 151) (n1 := 152) dX11_init_107 (by decide) (Nat.le_of_ble_eq_true rfl) (Nat.le_of_ble_eq_true rfl) rfl rfl ?_
  refine k_abs (fun h23 e23 f23 => ?_)
  have r23 : g_fr (List.range' 142 25) h h23 := r22.ab f23 (by decide)
  refine g_putFin (fs' := [.int (nI 0), .ref 143, .int (nI 0), .int (nI 1), .int (nI 100), .ref 144, .int (nI 0), .int (nI 0), .ref 145, .int (nI 1), .int (nI 10), .int (nI 11), .int (nI 10), .ref 146, .int (nI 0), .ref 147, .int (nI 0), .int (nI 0), .int (nI 0), .int (nI 0), .ref 148, .ref 149, .ref 150, .ref 151, .int (nI 0), .null, .null, .null, .int (nI 0), .int (nI 0), .int (nI 0), .int (nI 0), .null, .int (nI 0), .null, .null, .null, .null, .null, .null, .null, .null, .null, .null, .null]) dX11_init_109 fX11_58 rfl rfl ((f23 _ (by decide)).trans e22) (Nat.le_of_ble_eq_true rfl) rfl rfl rfl ?_
  refine k_abs (fun h24 e24 f24 => ?_)
  have r24 : g_fr (List.range' 142 25) h h24 := r23.ab f24 (by decide)
  refine g_aload_n dX11_init_112 rfl rfl ?_
  refine g_bipush (v := nI 8) dX11_init_113 (by decide) ?_
  refine k_newI (i0 := 152) (n1 := 153) dX11_init_115 (by decide) (Nat.le_of_ble_eq_true rfl) (Nat.le_of_ble_eq_true rfl) rfl rfl ?_
  refine k_abs (fun h25 e25 f25 => ?_)
  have r25 : g_fr (List.range' 142 25) h h25 := r24.ab f25 (by decide)
  refine g_putFin (fs' := [.int (nI 0), .ref 143, .int (nI 0), .int (nI 1), .int (nI 100), .ref 144, .int (nI 0), .int (nI 0), .ref 145, .int (nI 1), .int (nI 10), .int (nI 11), .int (nI 10), .ref 146, .int (nI 0), .ref 147, .int (nI 0), .int (nI 0), .int (nI 0), .int (nI 0), .ref 148, .ref 149, .ref 150, .ref 151, .int (nI 0), .ref 152, .null, .null, .int (nI 0), .int (nI 0), .int (nI 0), .int (nI 0), .null, .int (nI 0), .null, .null, .null, .null, .null, .null, .null, .null, .null, .null, .null]) dX11_init_117 fX11_61 rfl rfl ((f25 _ (by decide)).trans e24) (Nat.le_of_ble_eq_true rfl) rfl rfl rfl ?_
  refine k_abs (fun h26 e26 f26 => ?_)
  have r26 : g_fr (List.range' 142 25) h h26 := r25.ab f26 (by decide)
  refine g_aload_n dX11_init_120 rfl rfl ?_
  refine g_sipush (v := nI 20000) dX11_init_121 (by decide) ?_
  refine k_newB (i0 := 153) (n1 := 154) dX11_init_124 (by decide) (Nat.le_of_ble_eq_true rfl) (Nat.le_of_ble_eq_true rfl) rfl rfl ?_
  refine k_abs (fun h27 e27 f27 => ?_)
  have r27 : g_fr (List.range' 142 25) h h27 := r26.ab f27 (by decide)
  refine g_putFin (fs' := [.int (nI 0), .ref 143, .int (nI 0), .int (nI 1), .int (nI 100), .ref 144, .int (nI 0), .int (nI 0), .ref 145, .int (nI 1), .int (nI 10), .int (nI 11), .int (nI 10), .ref 146, .int (nI 0), .ref 147, .int (nI 0), .int (nI 0), .int (nI 0), .int (nI 0), .ref 148, .ref 149, .ref 150, .ref 151, .int (nI 0), .ref 152, .ref 153, .null, .int (nI 0), .int (nI 0), .int (nI 0), .int (nI 0), .null, .int (nI 0), .null, .null, .null, .null, .null, .null, .null, .null, .null, .null, .null]) dX11_init_126 fX11_64 rfl rfl ((f27 _ (by decide)).trans e26) (Nat.le_of_ble_eq_true rfl) rfl rfl rfl ?_
  refine k_abs (fun h28 e28 f28 => ?_)
  have r28 : g_fr (List.range' 142 25) h h28 := r27.ab f28 (by decide)
  refine g_aload_n dX11_init_129 rfl rfl ?_
  refine g_sipush (v := nI 20000) dX11_init_130 (by decide) ?_
  refine k_newI (i0 := 154) (n1 := 155) dX11_init_133 (by decide) (Nat.le_of_ble_eq_true rfl) (Nat.le_of_ble_eq_true rfl) rfl rfl ?_
  refine k_abs (fun h29 e29 f29 => ?_)
  have r29 : g_fr (List.range' 142 25) h h29 := r28.ab f29 (by decide)
  refine g_putFin (fs' := [.int (nI 0), .ref 143, .int (nI 0), .int (nI 1), .int (nI 100), .ref 144, .int (nI 0), .int (nI 0), .ref 145, .int (nI 1), .int (nI 10), .int (nI 11), .int (nI 10), .ref 146, .int (nI 0), .ref 147, .int (nI 0), .int (nI 0), .int (nI 0), .int (nI 0), .ref 148, .ref 149, .ref 150, .ref 151, .int (nI 0), .ref 152, .ref 153, .ref 154, .int (nI 0), .int (nI 0), .int (nI 0), .int (nI 0), .null, .int (nI 0), .null, .null, .null, .null, .null, .null, .null, .null, .null, .null, .null]) dX11_init_135 fX11_67 rfl rfl ((f29 _ (by decide)).trans e28) (Nat.le_of_ble_eq_true rfl) rfl rfl rfl ?_
  refine k_abs (fun h30 e30 f30 => ?_)
  have r30 : g_fr (List.range' 142 25) h h30 := r29.ab f30 (by decide)
  refine g_aload_n dX11_init_138 rfl rfl ?_
  refine g_iconst (v := -1) dX11_init_139 (by decide) ?_
  refine g_put (fs' := [.int (nI 0), .ref 143, .int (nI 0), .int (nI 1), .int (nI 100), .ref 144, .int (nI 0), .int (nI 0), .ref 145, .int (nI 1), .int (nI 10), .int (nI 11), .int (nI 10), .ref 146, .int (nI 0), .ref 147, .int (nI 0), .int (nI 0), .int (nI 0), .int (nI 0), .ref 148, .ref 149, .ref 150, .ref 151, .int (nI 0), .ref 152, .ref 153, .ref 154, .int (nI 0), .int (nI 0), .int (nI 0), .int (-1), .null, .int (nI 0), .null, .null, .null, .null, .null, .null, .null, .null, .null, .null, .null]) dX11_init_140 fX11_70 e30 (Nat.le_of_ble_eq_true rfl) rfl rfl rfl ?_
  refine k_abs (fun h31 e31 f31 => ?_)
  have r31 : g_fr (List.range' 142 25) h h31 := r30.ab f31 (by decide)
  refine g_aload_n dX11_init_143 rfl rfl ?_
  refine g_bipush (v := nI 8) dX11_init_144 (by decide) ?_
  refine k_newI (i0 := 155) (n1 := 156) dX11_init_146 (by decide) (Nat.le_of_ble_eq_true rfl) (Nat.le_of_ble_eq_true rfl) rfl rfl ?_
  refine k_abs (fun h32 e32 f32 => ?_)
  have r32 : g_fr (List.range' 142 25) h h32 := r31.ab f32 (by decide)
  refine g_putFin (fs' := [.int (nI 0), .ref 143, .int (nI 0), .int (nI 1), .int (nI 100), .ref 144, .int (nI 0), .int (nI 0), .ref 145, .int (nI 1), .int (nI 10), .int (nI 11), .int (nI 10), .ref 146, .int (nI 0), .ref 147, .int (nI 0), .int (nI 0), .int (nI 0), .int (nI 0), .ref 148, .ref 149, .ref 150, .ref 151, .int (nI 0), .ref 152, .ref 153, .ref 154, .int (nI 0), .int (nI 0), .int (nI 0), .int (-1), .ref 155, .int (nI 0), .null, .null, .null, .null, .null, .null, .null, .null, .null, .null, .null]) dX11_init_148 fX11_73 rfl rfl ((f32 _ (by decide)).trans e31) (Nat.le_of_ble_eq_true rfl) rfl rfl rfl ?_
  refine k_abs (fun h33 e33 f33 => ?_)
  have r33 : g_fr (List.range' 142 25) h h33 := r32.ab f33 (by decide)
  refine g_aload_n dX11_init_151 rfl rfl ?_
  refine g_sipush (v := nI 10800) dX11_init_152 (by decide) ?_
  refine k_newI (i0 := 156) (n1 := 157) dX11_init_155 (by decide) (Nat.le_of_ble_eq_true rfl) (Nat.le_of_ble_eq_true rfl) rfl rfl ?_
  refine k_abs (fun h34 e34 f34 => ?_)
  have r34 : g_fr (List.range' 142 25) h h34 := r33.ab f34 (by decide)
  refine g_putFin (fs' := [.int (nI 0), .ref 143, .int (nI 0), .int (nI 1), .int (nI 100), .ref 144, .int (nI 0), .int (nI 0), .ref 145, .int (nI 1), .int (nI 10), .int (nI 11), .int (nI 10), .ref 146, .int (nI 0), .ref 147, .int (nI 0), .int (nI 0), .int (nI 0), .int (nI 0), .ref 148, .ref 149, .ref 150, .ref 151, .int (nI 0), .ref 152, .ref 153, .ref 154, .int (nI 0), .int (nI 0), .int (nI 0), .int (-1), .ref 155, .int (nI 0), .ref 156, .null, .null, .null, .null, .null, .null, .null, .null, .null, .null]) dX11_init_157 fX11_76 rfl rfl ((f34 _ (by decide)).trans e33) (Nat.le_of_ble_eq_true rfl) rfl rfl rfl ?_
  refine k_abs (fun h35 e35 f35 => ?_)
  have r35 : g_fr (List.range' 142 25) h h35 := r34.ab f35 (by decide)
  refine g_aload_n dX11_init_160 rfl rfl ?_
  refine g_bipush (v := nI 9) dX11_init_161 (by decide) ?_
  refine k_newI (i0 := 157) (n1 := 158) dX11_init_163 (by decide) (Nat.le_of_ble_eq_true rfl) (Nat.le_of_ble_eq_true rfl) rfl rfl ?_
  refine k_abs (fun h36 e36 f36 => ?_)
  have r36 : g_fr (List.range' 142 25) h h36 := r35.ab f36 (by decide)
  refine g_putFin (fs' := [.int (nI 0), .ref 143, .int (nI 0), .int (nI 1), .int (nI 100), .ref 144, .int (nI 0), .int (nI 0), .ref 145, .int (nI 1), .int (nI 10), .int (nI 11), .int (nI 10), .ref 146, .int (nI 0), .ref 147, .int (nI 0), .int (nI 0), .int (nI 0), .int (nI 0), .ref 148, .ref 149, .ref 150, .ref 151, .int (nI 0), .ref 152, .ref 153, .ref 154, .int (nI 0), .int (nI 0), .int (nI 0), .int (-1), .ref 155, .int (nI 0), .ref 156, .ref 157, .null, .null, .null, .null, .null, .null, .null, .null, .null]) dX11_init_165 fX11_79 rfl rfl ((f36 _ (by decide)).trans e35) (Nat.le_of_ble_eq_true rfl) rfl rfl rfl ?_
  refine k_abs (fun h37 e37 f37 => ?_)
  have r37 : g_fr (List.range' 142 25) h h37 := r36.ab f37 (by decide)
  refine g_aload_n dX11_init_168 rfl rfl ?_
  refine g_ldc dX11_init_169 kX11_82 rfl ?_
  refine g_top (show (77000 : Int32) = nI 77000 by decide) ?_
  refine k_newI (i0 := 158) (n1 := 159) dX11_init_171 (by decide) (Nat.le_of_ble_eq_true rfl) (Nat.le_of_ble_eq_true rfl) rfl rfl ?_
  refine k_abs (fun h38 e38 f38 => ?_)
  have r38 : g_fr (List.range' 142 25) h h38 := r37.ab f38 (by decide)
  refine g_putFin (fs' := [.int (nI 0), .ref 143, .int (nI 0), .int (nI 1), .int (nI 100), .ref 144, .int (nI 0), .int (nI 0), .ref 145, .int (nI 1), .int (nI 10), .int (nI 11), .int (nI 10), .ref 146, .int (nI 0), .ref 147, .int (nI 0), .int (nI 0), .int (nI 0), .int (nI 0), .ref 148, .ref 149, .ref 150, .ref 151, .int (nI 0), .ref 152, .ref 153, .ref 154, .int (nI 0), .int (nI 0), .int (nI 0), .int (-1), .ref 155, .int (nI 0), .ref 156, .ref 157, .ref 158, .null, .null, .null, .null, .null, .null, .null, .null]) dX11_init_173 fX11_83 rfl rfl ((f38 _ (by decide)).trans e37) (Nat.le_of_ble_eq_true rfl) rfl rfl rfl ?_
  refine k_abs (fun h39 e39 f39 => ?_)
  have r39 : g_fr (List.range' 142 25) h h39 := r38.ab f39 (by decide)
  refine g_aload_n dX11_init_176 rfl rfl ?_
  refine g_ldc dX11_init_177 kX11_82 rfl ?_
  refine g_top (show (77000 : Int32) = nI 77000 by decide) ?_
  refine k_newI (i0 := 159) (n1 := 160) dX11_init_179 (by decide) (Nat.le_of_ble_eq_true rfl) (Nat.le_of_ble_eq_true rfl) rfl rfl ?_
  refine k_abs (fun h40 e40 f40 => ?_)
  have r40 : g_fr (List.range' 142 25) h h40 := r39.ab f40 (by decide)
  refine g_putFin (fs' := [.int (nI 0), .ref 143, .int (nI 0), .int (nI 1), .int (nI 100), .ref 144, .int (nI 0), .int (nI 0), .ref 145, .int (nI 1), .int (nI 10), .int (nI 11), .int (nI 10), .ref 146, .int (nI 0), .ref 147, .int (nI 0), .int (nI 0), .int (nI 0), .int (nI 0), .ref 148, .ref 149, .ref 150, .ref 151, .int (nI 0), .ref 152, .ref 153, .ref 154, .int (nI 0), .int (nI 0), .int (nI 0), .int (-1), .ref 155, .int (nI 0), .ref 156, .ref 157, .ref 158, .ref 159, .null, .null, .null, .null, .null, .null, .null]) dX11_init_181 fX11_86 rfl rfl ((f40 _ (by decide)).trans e39) (Nat.le_of_ble_eq_true rfl) rfl rfl rfl ?_
  refine k_abs (fun h41 e41 f41 => ?_)
  have r41 : g_fr (List.range' 142 25) h h41 := r40.ab f41 (by decide)
  refine g_aload_n dX11_init_184 rfl rfl ?_
  refine g_bipush (v := nI 64) dX11_init_185 (by decide) ?_
  refine k_newI (i0 := 160) (n1 := 161) dX11_init_187 (by decide) (Nat.le_of_ble_eq_true rfl) (Nat.le_of_ble_eq_true rfl) rfl rfl ?_
  refine k_abs (fun h42 e42 f42 => ?_)
  have r42 : g_fr (List.range' 142 25) h h42 := r41.ab f42 (by decide)
  refine g_dup dX11_init_189 rfl ?_
  refine g_iconst (v := nI 0) dX11_init_190 (by decide) ?_
  refine g_ldc dX11_init_191 kX11_89 rfl ?_
  refine g_top (show (1116352408 : Int32) = nI 1116352408 by decide) ?_
  refine g_iastN dX11_init_193 e42 (by omega) (by omega) ?_
  refine k_abs (fun h43 e43 f43 => ?_)
  have r43 : g_fr (List.range' 142 25) h h43 := r42.ab f43 (by decide)
  refine g_dup dX11_init_194 rfl ?_
  refine g_iconst (v := nI 1) dX11_init_195 (by decide) ?_
  refine g_ldc dX11_init_196 kX11_90 rfl ?_
  refine g_top (show (1899447441 : Int32) = nI 1899447441 by decide) ?_
  refine g_iastN dX11_init_198 e43 (by omega) (by omega) ?_
  refine k_abs (fun h44 e44 f44 => ?_)
  have r44 : g_fr (List.range' 142 25) h h44 := r43.ab f44 (by decide)
  refine g_dup dX11_init_199 rfl ?_
  refine g_iconst (v := nI 2) dX11_init_200 (by decide) ?_
  refine g_ldc dX11_init_201 kX11_91 rfl ?_
  refine g_iastN dX11_init_203 e44 (by omega) (by omega) ?_
  refine k_abs (fun h45 e45 f45 => ?_)
  have r45 : g_fr (List.range' 142 25) h h45 := r44.ab f45 (by decide)
  refine g_dup dX11_init_204 rfl ?_
  refine g_iconst (v := nI 3) dX11_init_205 (by decide) ?_
  refine g_ldc dX11_init_206 kX11_92 rfl ?_
  refine g_iastN dX11_init_208 e45 (by omega) (by omega) ?_
  refine k_abs (fun h46 e46 f46 => ?_)
  have r46 : g_fr (List.range' 142 25) h h46 := r45.ab f46 (by decide)
  refine g_dup dX11_init_209 rfl ?_
  refine g_iconst (v := nI 4) dX11_init_210 (by decide) ?_
  refine g_ldc dX11_init_211 kX11_93 rfl ?_
  refine g_top (show (961987163 : Int32) = nI 961987163 by decide) ?_
  refine g_iastN dX11_init_213 e46 (by omega) (by omega) ?_
  refine k_abs (fun h47 e47 f47 => ?_)
  have r47 : g_fr (List.range' 142 25) h h47 := r46.ab f47 (by decide)
  refine g_dup dX11_init_214 rfl ?_
  refine g_iconst (v := nI 5) dX11_init_215 (by decide) ?_
  refine g_ldc dX11_init_216 kX11_94 rfl ?_
  refine g_top (show (1508970993 : Int32) = nI 1508970993 by decide) ?_
  refine g_iastN dX11_init_218 e47 (by omega) (by omega) ?_
  refine k_abs (fun h48 e48 f48 => ?_)
  have r48 : g_fr (List.range' 142 25) h h48 := r47.ab f48 (by decide)
  refine g_dup dX11_init_219 rfl ?_
  refine g_bipush (v := nI 6) dX11_init_220 (by decide) ?_
  refine g_ldc dX11_init_222 kX11_95 rfl ?_
  refine g_iastN dX11_init_224 e48 (by omega) (by omega) ?_
  refine k_abs (fun h49 e49 f49 => ?_)
  have r49 : g_fr (List.range' 142 25) h h49 := r48.ab f49 (by decide)
  refine g_dup dX11_init_225 rfl ?_
  refine g_bipush (v := nI 7) dX11_init_226 (by decide) ?_
  refine g_ldc dX11_init_228 kX11_96 rfl ?_
  refine g_iastN dX11_init_230 e49 (by omega) (by omega) ?_
  refine k_abs (fun h50 e50 f50 => ?_)
  have r50 : g_fr (List.range' 142 25) h h50 := r49.ab f50 (by decide)
  refine g_dup dX11_init_231 rfl ?_
  refine g_bipush (v := nI 8) dX11_init_232 (by decide) ?_
  refine g_ldc dX11_init_234 kX11_97 rfl ?_
  refine g_iastN dX11_init_236 e50 (by omega) (by omega) ?_
  refine k_abs (fun h51 e51 f51 => ?_)
  have r51 : g_fr (List.range' 142 25) h h51 := r50.ab f51 (by decide)
  refine g_dup dX11_init_237 rfl ?_
  refine g_bipush (v := nI 9) dX11_init_238 (by decide) ?_
  refine g_ldc dX11_init_240 kX11_98 rfl ?_
  refine g_top (show (310598401 : Int32) = nI 310598401 by decide) ?_
  refine g_iastN dX11_init_242 e51 (by omega) (by omega) ?_
  refine k_abs (fun h52 e52 f52 => ?_)
  have r52 : g_fr (List.range' 142 25) h h52 := r51.ab f52 (by decide)
  refine g_dup dX11_init_243 rfl ?_
  refine g_bipush (v := nI 10) dX11_init_244 (by decide) ?_
  refine g_ldc dX11_init_246 kX11_99 rfl ?_
  refine g_top (show (607225278 : Int32) = nI 607225278 by decide) ?_
  refine g_iastN dX11_init_248 e52 (by omega) (by omega) ?_
  refine k_abs (fun h53 e53 f53 => ?_)
  have r53 : g_fr (List.range' 142 25) h h53 := r52.ab f53 (by decide)
  refine g_dup dX11_init_249 rfl ?_
  refine g_bipush (v := nI 11) dX11_init_250 (by decide) ?_
  refine g_ldc dX11_init_252 kX11_100 rfl ?_
  refine g_top (show (1426881987 : Int32) = nI 1426881987 by decide) ?_
  refine g_iastN dX11_init_254 e53 (by omega) (by omega) ?_
  refine k_abs (fun h54 e54 f54 => ?_)
  have r54 : g_fr (List.range' 142 25) h h54 := r53.ab f54 (by decide)
  refine g_dup dX11_init_255 rfl ?_
  refine g_bipush (v := nI 12) dX11_init_256 (by decide) ?_
  refine g_ldc dX11_init_258 kX11_101 rfl ?_
  refine g_top (show (1925078388 : Int32) = nI 1925078388 by decide) ?_
  refine g_iastN dX11_init_260 e54 (by omega) (by omega) ?_
  refine k_abs (fun h55 e55 f55 => ?_)
  have r55 : g_fr (List.range' 142 25) h h55 := r54.ab f55 (by decide)
  refine g_dup dX11_init_261 rfl ?_
  refine g_bipush (v := nI 13) dX11_init_262 (by decide) ?_
  refine g_ldc dX11_init_264 kX11_102 rfl ?_
  refine g_iastN dX11_init_266 e55 (by omega) (by omega) ?_
  refine k_abs (fun h56 e56 f56 => ?_)
  have r56 : g_fr (List.range' 142 25) h h56 := r55.ab f56 (by decide)
  refine g_dup dX11_init_267 rfl ?_
  refine g_bipush (v := nI 14) dX11_init_268 (by decide) ?_
  refine g_ldc dX11_init_270 kX11_103 rfl ?_
  refine g_iastN dX11_init_272 e56 (by omega) (by omega) ?_
  refine k_abs (fun h57 e57 f57 => ?_)
  have r57 : g_fr (List.range' 142 25) h h57 := r56.ab f57 (by decide)
  refine g_dup dX11_init_273 rfl ?_
  refine g_bipush (v := nI 15) dX11_init_274 (by decide) ?_
  refine g_ldc dX11_init_276 kX11_104 rfl ?_
  refine g_iastN dX11_init_278 e57 (by omega) (by omega) ?_
  refine k_abs (fun h58 e58 f58 => ?_)
  have r58 : g_fr (List.range' 142 25) h h58 := r57.ab f58 (by decide)
  refine g_dup dX11_init_279 rfl ?_
  refine g_bipush (v := nI 16) dX11_init_280 (by decide) ?_
  refine g_ldc dX11_init_282 kX11_105 rfl ?_
  refine g_iastN dX11_init_284 e58 (by omega) (by omega) ?_
  refine k_abs (fun h59 e59 f59 => ?_)
  have r59 : g_fr (List.range' 142 25) h h59 := r58.ab f59 (by decide)
  refine g_dup dX11_init_285 rfl ?_
  refine g_bipush (v := nI 17) dX11_init_286 (by decide) ?_
  refine g_ldc dX11_init_288 kX11_106 rfl ?_
  refine g_iastN dX11_init_290 e59 (by omega) (by omega) ?_
  refine k_abs (fun h60 e60 f60 => ?_)
  have r60 : g_fr (List.range' 142 25) h h60 := r59.ab f60 (by decide)
  refine g_dup dX11_init_291 rfl ?_
  refine g_bipush (v := nI 18) dX11_init_292 (by decide) ?_
  refine g_ldc dX11_init_294 kX11_107 rfl ?_
  refine g_top (show (264347078 : Int32) = nI 264347078 by decide) ?_
  refine g_iastN dX11_init_296 e60 (by omega) (by omega) ?_
  refine k_abs (fun h61 e61 f61 => ?_)
  have r61 : g_fr (List.range' 142 25) h h61 := r60.ab f61 (by decide)
  refine g_dup dX11_init_297 rfl ?_
  refine g_bipush (v := nI 19) dX11_init_298 (by decide) ?_
  refine g_ldc dX11_init_300 kX11_108 rfl ?_
  refine g_top (show (604807628 : Int32) = nI 604807628 by decide) ?_
  refine g_iastN dX11_init_302 e61 (by omega) (by omega) ?_
  refine k_abs (fun h62 e62 f62 => ?_)
  have r62 : g_fr (List.range' 142 25) h h62 := r61.ab f62 (by decide)
  refine g_dup dX11_init_303 rfl ?_
  refine g_bipush (v := nI 20) dX11_init_304 (by decide) ?_
  refine g_ldc dX11_init_306 kX11_109 rfl ?_
  refine g_top (show (770255983 : Int32) = nI 770255983 by decide) ?_
  refine g_iastN dX11_init_308 e62 (by omega) (by omega) ?_
  refine k_abs (fun h63 e63 f63 => ?_)
  have r63 : g_fr (List.range' 142 25) h h63 := r62.ab f63 (by decide)
  refine g_dup dX11_init_309 rfl ?_
  refine g_bipush (v := nI 21) dX11_init_310 (by decide) ?_
  refine g_ldc dX11_init_312 kX11_110 rfl ?_
  refine g_top (show (1249150122 : Int32) = nI 1249150122 by decide) ?_
  refine g_iastN dX11_init_314 e63 (by omega) (by omega) ?_
  refine k_abs (fun h64 e64 f64 => ?_)
  have r64 : g_fr (List.range' 142 25) h h64 := r63.ab f64 (by decide)
  refine g_dup dX11_init_315 rfl ?_
  refine g_bipush (v := nI 22) dX11_init_316 (by decide) ?_
  refine g_ldc dX11_init_318 kX11_111 rfl ?_
  refine g_top (show (1555081692 : Int32) = nI 1555081692 by decide) ?_
  refine g_iastN dX11_init_320 e64 (by omega) (by omega) ?_
  refine k_abs (fun h65 e65 f65 => ?_)
  have r65 : g_fr (List.range' 142 25) h h65 := r64.ab f65 (by decide)
  refine g_dup dX11_init_321 rfl ?_
  refine g_bipush (v := nI 23) dX11_init_322 (by decide) ?_
  refine g_ldc dX11_init_324 kX11_112 rfl ?_
  refine g_top (show (1996064986 : Int32) = nI 1996064986 by decide) ?_
  refine g_iastN dX11_init_326 e65 (by omega) (by omega) ?_
  refine k_abs (fun h66 e66 f66 => ?_)
  have r66 : g_fr (List.range' 142 25) h h66 := r65.ab f66 (by decide)
  refine g_dup dX11_init_327 rfl ?_
  refine g_bipush (v := nI 24) dX11_init_328 (by decide) ?_
  refine g_ldc dX11_init_330 kX11_113 rfl ?_
  refine g_iastN dX11_init_332 e66 (by omega) (by omega) ?_
  refine k_abs (fun h67 e67 f67 => ?_)
  have r67 : g_fr (List.range' 142 25) h h67 := r66.ab f67 (by decide)
  refine g_dup dX11_init_333 rfl ?_
  refine g_bipush (v := nI 25) dX11_init_334 (by decide) ?_
  refine g_ldc dX11_init_336 kX11_114 rfl ?_
  refine g_iastN dX11_init_338 e67 (by omega) (by omega) ?_
  refine k_abs (fun h68 e68 f68 => ?_)
  have r68 : g_fr (List.range' 142 25) h h68 := r67.ab f68 (by decide)
  refine g_dup dX11_init_339 rfl ?_
  refine g_bipush (v := nI 26) dX11_init_340 (by decide) ?_
  refine g_ldc dX11_init_342 kX11_115 rfl ?_
  refine g_iastN dX11_init_344 e68 (by omega) (by omega) ?_
  refine k_abs (fun h69 e69 f69 => ?_)
  have r69 : g_fr (List.range' 142 25) h h69 := r68.ab f69 (by decide)
  refine g_dup dX11_init_345 rfl ?_
  refine g_bipush (v := nI 27) dX11_init_346 (by decide) ?_
  refine g_ldc dX11_init_348 kX11_116 rfl ?_
  refine g_iastN dX11_init_350 e69 (by omega) (by omega) ?_
  refine k_abs (fun h70 e70 f70 => ?_)
  have r70 : g_fr (List.range' 142 25) h h70 := r69.ab f70 (by decide)
  refine g_dup dX11_init_351 rfl ?_
  refine g_bipush (v := nI 28) dX11_init_352 (by decide) ?_
  refine g_ldc dX11_init_354 kX11_117 rfl ?_
  refine g_iastN dX11_init_356 e70 (by omega) (by omega) ?_
  refine k_abs (fun h71 e71 f71 => ?_)
  have r71 : g_fr (List.range' 142 25) h h71 := r70.ab f71 (by decide)
  refine g_dup dX11_init_357 rfl ?_
  refine g_bipush (v := nI 29) dX11_init_358 (by decide) ?_
  refine g_ldc dX11_init_360 kX11_118 rfl ?_
  refine g_iastN dX11_init_362 e71 (by omega) (by omega) ?_
  refine k_abs (fun h72 e72 f72 => ?_)
  have r72 : g_fr (List.range' 142 25) h h72 := r71.ab f72 (by decide)
  refine g_dup dX11_init_363 rfl ?_
  refine g_bipush (v := nI 30) dX11_init_364 (by decide) ?_
  refine g_ldc dX11_init_366 kX11_119 rfl ?_
  refine g_top (show (113926993 : Int32) = nI 113926993 by decide) ?_
  refine g_iastN dX11_init_368 e72 (by omega) (by omega) ?_
  refine k_abs (fun h73 e73 f73 => ?_)
  have r73 : g_fr (List.range' 142 25) h h73 := r72.ab f73 (by decide)
  refine g_dup dX11_init_369 rfl ?_
  refine g_bipush (v := nI 31) dX11_init_370 (by decide) ?_
  refine g_ldc dX11_init_372 kX11_120 rfl ?_
  refine g_top (show (338241895 : Int32) = nI 338241895 by decide) ?_
  refine g_iastN dX11_init_374 e73 (by omega) (by omega) ?_
  refine k_abs (fun h74 e74 f74 => ?_)
  have r74 : g_fr (List.range' 142 25) h h74 := r73.ab f74 (by decide)
  refine g_dup dX11_init_375 rfl ?_
  refine g_bipush (v := nI 32) dX11_init_376 (by decide) ?_
  refine g_ldc dX11_init_378 kX11_121 rfl ?_
  refine g_top (show (666307205 : Int32) = nI 666307205 by decide) ?_
  refine g_iastN dX11_init_380 e74 (by omega) (by omega) ?_
  refine k_abs (fun h75 e75 f75 => ?_)
  have r75 : g_fr (List.range' 142 25) h h75 := r74.ab f75 (by decide)
  refine g_dup dX11_init_381 rfl ?_
  refine g_bipush (v := nI 33) dX11_init_382 (by decide) ?_
  refine g_ldc dX11_init_384 kX11_122 rfl ?_
  refine g_top (show (773529912 : Int32) = nI 773529912 by decide) ?_
  refine g_iastN dX11_init_386 e75 (by omega) (by omega) ?_
  refine k_abs (fun h76 e76 f76 => ?_)
  have r76 : g_fr (List.range' 142 25) h h76 := r75.ab f76 (by decide)
  refine g_dup dX11_init_387 rfl ?_
  refine g_bipush (v := nI 34) dX11_init_388 (by decide) ?_
  refine g_ldc dX11_init_390 kX11_123 rfl ?_
  refine g_top (show (1294757372 : Int32) = nI 1294757372 by decide) ?_
  refine g_iastN dX11_init_392 e76 (by omega) (by omega) ?_
  refine k_abs (fun h77 e77 f77 => ?_)
  have r77 : g_fr (List.range' 142 25) h h77 := r76.ab f77 (by decide)
  refine g_dup dX11_init_393 rfl ?_
  refine g_bipush (v := nI 35) dX11_init_394 (by decide) ?_
  refine g_ldc dX11_init_396 kX11_124 rfl ?_
  refine g_top (show (1396182291 : Int32) = nI 1396182291 by decide) ?_
  refine g_iastN dX11_init_398 e77 (by omega) (by omega) ?_
  refine k_abs (fun h78 e78 f78 => ?_)
  have r78 : g_fr (List.range' 142 25) h h78 := r77.ab f78 (by decide)
  refine g_dup dX11_init_399 rfl ?_
  refine g_bipush (v := nI 36) dX11_init_400 (by decide) ?_
  refine g_ldc dX11_init_402 kX11_125 rfl ?_
  refine g_top (show (1695183700 : Int32) = nI 1695183700 by decide) ?_
  refine g_iastN dX11_init_404 e78 (by omega) (by omega) ?_
  refine k_abs (fun h79 e79 f79 => ?_)
  have r79 : g_fr (List.range' 142 25) h h79 := r78.ab f79 (by decide)
  refine g_dup dX11_init_405 rfl ?_
  refine g_bipush (v := nI 37) dX11_init_406 (by decide) ?_
  refine g_ldc dX11_init_408 kX11_126 rfl ?_
  refine g_top (show (1986661051 : Int32) = nI 1986661051 by decide) ?_
  refine g_iastN dX11_init_410 e79 (by omega) (by omega) ?_
  refine k_abs (fun h80 e80 f80 => ?_)
  have r80 : g_fr (List.range' 142 25) h h80 := r79.ab f80 (by decide)
  refine g_dup dX11_init_411 rfl ?_
  refine g_bipush (v := nI 38) dX11_init_412 (by decide) ?_
  refine g_ldc dX11_init_414 kX11_127 rfl ?_
  refine g_iastN dX11_init_416 e80 (by omega) (by omega) ?_
  refine k_abs (fun h81 e81 f81 => ?_)
  have r81 : g_fr (List.range' 142 25) h h81 := r80.ab f81 (by decide)
  refine g_dup dX11_init_417 rfl ?_
  refine g_bipush (v := nI 39) dX11_init_418 (by decide) ?_
  refine g_ldc dX11_init_420 kX11_128 rfl ?_
  refine g_iastN dX11_init_422 e81 (by omega) (by omega) ?_
  refine k_abs (fun h82 e82 f82 => ?_)
  have r82 : g_fr (List.range' 142 25) h h82 := r81.ab f82 (by decide)
  refine g_dup dX11_init_423 rfl ?_
  refine g_bipush (v := nI 40) dX11_init_424 (by decide) ?_
  refine g_ldc dX11_init_426 kX11_129 rfl ?_
  refine g_iastN dX11_init_428 e82 (by omega) (by omega) ?_
  refine k_abs (fun h83 e83 f83 => ?_)
  have r83 : g_fr (List.range' 142 25) h h83 := r82.ab f83 (by decide)
  refine g_dup dX11_init_429 rfl ?_
  refine g_bipush (v := nI 41) dX11_init_430 (by decide) ?_
  refine g_ldc dX11_init_432 kX11_130 rfl ?_
  refine g_iastN dX11_init_434 e83 (by omega) (by omega) ?_
  refine k_abs (fun h84 e84 f84 => ?_)
  have r84 : g_fr (List.range' 142 25) h h84 := r83.ab f84 (by decide)
  refine g_dup dX11_init_435 rfl ?_
  refine g_bipush (v := nI 42) dX11_init_436 (by decide) ?_
  refine g_ldc dX11_init_438 kX11_131 rfl ?_
  refine g_iastN dX11_init_440 e84 (by omega) (by omega) ?_
  refine k_abs (fun h85 e85 f85 => ?_)
  have r85 : g_fr (List.range' 142 25) h h85 := r84.ab f85 (by decide)
  refine g_dup dX11_init_441 rfl ?_
  refine g_bipush (v := nI 43) dX11_init_442 (by decide) ?_
  refine g_ldc dX11_init_444 kX11_132 rfl ?_
  refine g_iastN dX11_init_446 e85 (by omega) (by omega) ?_
  refine k_abs (fun h86 e86 f86 => ?_)
  have r86 : g_fr (List.range' 142 25) h h86 := r85.ab f86 (by decide)
  refine g_dup dX11_init_447 rfl ?_
  refine g_bipush (v := nI 44) dX11_init_448 (by decide) ?_
  refine g_ldc dX11_init_450 kX11_133 rfl ?_
  refine g_iastN dX11_init_452 e86 (by omega) (by omega) ?_
  refine k_abs (fun h87 e87 f87 => ?_)
  have r87 : g_fr (List.range' 142 25) h h87 := r86.ab f87 (by decide)
  refine g_dup dX11_init_453 rfl ?_
  refine g_bipush (v := nI 45) dX11_init_454 (by decide) ?_
  refine g_ldc dX11_init_456 kX11_134 rfl ?_
  refine g_iastN dX11_init_458 e87 (by omega) (by omega) ?_
  refine k_abs (fun h88 e88 f88 => ?_)
  have r88 : g_fr (List.range' 142 25) h h88 := r87.ab f88 (by decide)
  refine g_dup dX11_init_459 rfl ?_
  refine g_bipush (v := nI 46) dX11_init_460 (by decide) ?_
  refine g_ldc dX11_init_462 kX11_135 rfl ?_
  refine g_iastN dX11_init_464 e88 (by omega) (by omega) ?_
  refine k_abs (fun h89 e89 f89 => ?_)
  have r89 : g_fr (List.range' 142 25) h h89 := r88.ab f89 (by decide)
  refine g_dup dX11_init_465 rfl ?_
  refine g_bipush (v := nI 47) dX11_init_466 (by decide) ?_
  refine g_ldc dX11_init_468 kX11_136 rfl ?_
  refine g_top (show (275423344 : Int32) = nI 275423344 by decide) ?_
  refine g_iastN dX11_init_470 e89 (by omega) (by omega) ?_
  refine k_abs (fun h90 e90 f90 => ?_)
  have r90 : g_fr (List.range' 142 25) h h90 := r89.ab f90 (by decide)
  refine g_dup dX11_init_471 rfl ?_
  refine g_bipush (v := nI 48) dX11_init_472 (by decide) ?_
  refine g_ldc dX11_init_474 kX11_137 rfl ?_
  refine g_top (show (430227734 : Int32) = nI 430227734 by decide) ?_
  refine g_iastN dX11_init_476 e90 (by omega) (by omega) ?_
  refine k_abs (fun h91 e91 f91 => ?_)
  have r91 : g_fr (List.range' 142 25) h h91 := r90.ab f91 (by decide)
  refine g_dup dX11_init_477 rfl ?_
  refine g_bipush (v := nI 49) dX11_init_478 (by decide) ?_
  refine g_ldc dX11_init_480 kX11_138 rfl ?_
  refine g_top (show (506948616 : Int32) = nI 506948616 by decide) ?_
  refine g_iastN dX11_init_482 e91 (by omega) (by omega) ?_
  refine k_abs (fun h92 e92 f92 => ?_)
  have r92 : g_fr (List.range' 142 25) h h92 := r91.ab f92 (by decide)
  refine g_dup dX11_init_483 rfl ?_
  refine g_bipush (v := nI 50) dX11_init_484 (by decide) ?_
  refine g_ldc dX11_init_486 kX11_139 rfl ?_
  refine g_top (show (659060556 : Int32) = nI 659060556 by decide) ?_
  refine g_iastN dX11_init_488 e92 (by omega) (by omega) ?_
  refine k_abs (fun h93 e93 f93 => ?_)
  have r93 : g_fr (List.range' 142 25) h h93 := r92.ab f93 (by decide)
  refine g_dup dX11_init_489 rfl ?_
  refine g_bipush (v := nI 51) dX11_init_490 (by decide) ?_
  refine g_ldc dX11_init_492 kX11_140 rfl ?_
  refine g_top (show (883997877 : Int32) = nI 883997877 by decide) ?_
  refine g_iastN dX11_init_494 e93 (by omega) (by omega) ?_
  refine k_abs (fun h94 e94 f94 => ?_)
  have r94 : g_fr (List.range' 142 25) h h94 := r93.ab f94 (by decide)
  refine g_dup dX11_init_495 rfl ?_
  refine g_bipush (v := nI 52) dX11_init_496 (by decide) ?_
  refine g_ldc dX11_init_498 kX11_141 rfl ?_
  refine g_top (show (958139571 : Int32) = nI 958139571 by decide) ?_
  refine g_iastN dX11_init_500 e94 (by omega) (by omega) ?_
  refine k_abs (fun h95 e95 f95 => ?_)
  have r95 : g_fr (List.range' 142 25) h h95 := r94.ab f95 (by decide)
  refine g_dup dX11_init_501 rfl ?_
  refine g_bipush (v := nI 53) dX11_init_502 (by decide) ?_
  refine g_ldc dX11_init_504 kX11_142 rfl ?_
  refine g_top (show (1322822218 : Int32) = nI 1322822218 by decide) ?_
  refine g_iastN dX11_init_506 e95 (by omega) (by omega) ?_
  refine k_abs (fun h96 e96 f96 => ?_)
  have r96 : g_fr (List.range' 142 25) h h96 := r95.ab f96 (by decide)
  refine g_dup dX11_init_507 rfl ?_
  refine g_bipush (v := nI 54) dX11_init_508 (by decide) ?_
  refine g_ldc dX11_init_510 kX11_143 rfl ?_
  refine g_top (show (1537002063 : Int32) = nI 1537002063 by decide) ?_
  refine g_iastN dX11_init_512 e96 (by omega) (by omega) ?_
  refine k_abs (fun h97 e97 f97 => ?_)
  have r97 : g_fr (List.range' 142 25) h h97 := r96.ab f97 (by decide)
  refine g_dup dX11_init_513 rfl ?_
  refine g_bipush (v := nI 55) dX11_init_514 (by decide) ?_
  refine g_ldc dX11_init_516 kX11_144 rfl ?_
  refine g_top (show (1747873779 : Int32) = nI 1747873779 by decide) ?_
  refine g_iastN dX11_init_518 e97 (by omega) (by omega) ?_
  refine k_abs (fun h98 e98 f98 => ?_)
  have r98 : g_fr (List.range' 142 25) h h98 := r97.ab f98 (by decide)
  refine g_dup dX11_init_519 rfl ?_
  refine g_bipush (v := nI 56) dX11_init_520 (by decide) ?_
  refine g_ldc dX11_init_522 kX11_145 rfl ?_
  refine g_top (show (1955562222 : Int32) = nI 1955562222 by decide) ?_
  refine g_iastN dX11_init_524 e98 (by omega) (by omega) ?_
  refine k_abs (fun h99 e99 f99 => ?_)
  have r99 : g_fr (List.range' 142 25) h h99 := r98.ab f99 (by decide)
  refine g_dup dX11_init_525 rfl ?_
  refine g_bipush (v := nI 57) dX11_init_526 (by decide) ?_
  refine g_ldc dX11_init_528 kX11_146 rfl ?_
  refine g_top (show (2024104815 : Int32) = nI 2024104815 by decide) ?_
  refine g_iastN dX11_init_530 e99 (by omega) (by omega) ?_
  refine k_abs (fun h100 e100 f100 => ?_)
  have r100 : g_fr (List.range' 142 25) h h100 := r99.ab f100 (by decide)
  refine g_dup dX11_init_531 rfl ?_
  refine g_bipush (v := nI 58) dX11_init_532 (by decide) ?_
  refine g_ldc dX11_init_534 kX11_147 rfl ?_
  refine g_iastN dX11_init_536 e100 (by omega) (by omega) ?_
  refine k_abs (fun h101 e101 f101 => ?_)
  have r101 : g_fr (List.range' 142 25) h h101 := r100.ab f101 (by decide)
  refine g_dup dX11_init_537 rfl ?_
  refine g_bipush (v := nI 59) dX11_init_538 (by decide) ?_
  refine g_ldc dX11_init_540 kX11_148 rfl ?_
  refine g_iastN dX11_init_542 e101 (by omega) (by omega) ?_
  refine k_abs (fun h102 e102 f102 => ?_)
  have r102 : g_fr (List.range' 142 25) h h102 := r101.ab f102 (by decide)
  refine g_dup dX11_init_543 rfl ?_
  refine g_bipush (v := nI 60) dX11_init_544 (by decide) ?_
  refine g_ldc dX11_init_546 kX11_149 rfl ?_
  refine g_iastN dX11_init_548 e102 (by omega) (by omega) ?_
  refine k_abs (fun h103 e103 f103 => ?_)
  have r103 : g_fr (List.range' 142 25) h h103 := r102.ab f103 (by decide)
  refine g_dup dX11_init_549 rfl ?_
  refine g_bipush (v := nI 61) dX11_init_550 (by decide) ?_
  refine g_ldc dX11_init_552 kX11_150 rfl ?_
  refine g_iastN dX11_init_554 e103 (by omega) (by omega) ?_
  refine k_abs (fun h104 e104 f104 => ?_)
  have r104 : g_fr (List.range' 142 25) h h104 := r103.ab f104 (by decide)
  refine g_dup dX11_init_555 rfl ?_
  refine g_bipush (v := nI 62) dX11_init_556 (by decide) ?_
  refine g_ldc dX11_init_558 kX11_151 rfl ?_
  refine g_iastN dX11_init_560 e104 (by omega) (by omega) ?_
  refine k_abs (fun h105 e105 f105 => ?_)
  have r105 : g_fr (List.range' 142 25) h h105 := r104.ab f105 (by decide)
  refine g_dup dX11_init_561 rfl ?_
  refine g_bipush (v := nI 63) dX11_init_562 (by decide) ?_
  refine g_ldc dX11_init_564 kX11_152 rfl ?_
  refine g_iastN dX11_init_566 e105 (by omega) (by omega) ?_
  refine k_abs (fun h106 e106 f106 => ?_)
  have r106 : g_fr (List.range' 142 25) h h106 := r105.ab f106 (by decide)
  refine g_putFin (fs' := [.int (nI 0), .ref 143, .int (nI 0), .int (nI 1), .int (nI 100), .ref 144, .int (nI 0), .int (nI 0), .ref 145, .int (nI 1), .int (nI 10), .int (nI 11), .int (nI 10), .ref 146, .int (nI 0), .ref 147, .int (nI 0), .int (nI 0), .int (nI 0), .int (nI 0), .ref 148, .ref 149, .ref 150, .ref 151, .int (nI 0), .ref 152, .ref 153, .ref 154, .int (nI 0), .int (nI 0), .int (nI 0), .int (-1), .ref 155, .int (nI 0), .ref 156, .ref 157, .ref 158, .ref 159, .ref 160, .null, .null, .null, .null, .null, .null]) dX11_init_567 fX11_153 rfl rfl ((f106 _ (by decide)).trans ((f105 _ (by decide)).trans ((f104 _ (by decide)).trans ((f103 _ (by decide)).trans ((f102 _ (by decide)).trans ((f101 _ (by decide)).trans ((f100 _ (by decide)).trans ((f99 _ (by decide)).trans ((f98 _ (by decide)).trans ((f97 _ (by decide)).trans ((f96 _ (by decide)).trans ((f95 _ (by decide)).trans ((f94 _ (by decide)).trans ((f93 _ (by decide)).trans ((f92 _ (by decide)).trans ((f91 _ (by decide)).trans ((f90 _ (by decide)).trans ((f89 _ (by decide)).trans ((f88 _ (by decide)).trans ((f87 _ (by decide)).trans ((f86 _ (by decide)).trans ((f85 _ (by decide)).trans ((f84 _ (by decide)).trans ((f83 _ (by decide)).trans ((f82 _ (by decide)).trans ((f81 _ (by decide)).trans ((f80 _ (by decide)).trans ((f79 _ (by decide)).trans ((f78 _ (by decide)).trans ((f77 _ (by decide)).trans ((f76 _ (by decide)).trans ((f75 _ (by decide)).trans ((f74 _ (by decide)).trans ((f73 _ (by decide)).trans ((f72 _ (by decide)).trans ((f71 _ (by decide)).trans ((f70 _ (by decide)).trans ((f69 _ (by decide)).trans ((f68 _ (by decide)).trans ((f67 _ (by decide)).trans ((f66 _ (by decide)).trans ((f65 _ (by decide)).trans ((f64 _ (by decide)).trans ((f63 _ (by decide)).trans ((f62 _ (by decide)).trans ((f61 _ (by decide)).trans ((f60 _ (by decide)).trans ((f59 _ (by decide)).trans ((f58 _ (by decide)).trans ((f57 _ (by decide)).trans ((f56 _ (by decide)).trans ((f55 _ (by decide)).trans ((f54 _ (by decide)).trans ((f53 _ (by decide)).trans ((f52 _ (by decide)).trans ((f51 _ (by decide)).trans ((f50 _ (by decide)).trans ((f49 _ (by decide)).trans ((f48 _ (by decide)).trans ((f47 _ (by decide)).trans ((f46 _ (by decide)).trans ((f45 _ (by decide)).trans ((f44 _ (by decide)).trans ((f43 _ (by decide)).trans ((f42 _ (by decide)).trans e41))))))))))))))))))))))))))))))))))))))))))))))))))))))))))))))))) (Nat.le_of_ble_eq_true rfl) rfl rfl rfl ?_
  refine k_abs (fun h107 e107 f107 => ?_)
  have r107 : g_fr (List.range' 142 25) h h107 := r106.ab f107 (by decide)
  refine g_aload_n dX11_init_570 rfl rfl ?_
  refine g_bipush (v := nI 8) dX11_init_571 (by decide) ?_
  refine k_newI (i0 := 161) (n1 := 162) dX11_init_573 (by decide) (Nat.le_of_ble_eq_true rfl) (Nat.le_of_ble_eq_true rfl) rfl rfl ?_
  refine k_abs (fun h108 e108 f108 => ?_)
  have r108 : g_fr (List.range' 142 25) h h108 := r107.ab f108 (by decide)
  refine g_dup dX11_init_575 rfl ?_
  refine g_iconst (v := nI 0) dX11_init_576 (by decide) ?_
  refine g_ldc dX11_init_577 kX11_156 rfl ?_
  refine g_top (show (1779033703 : Int32) = nI 1779033703 by decide) ?_
  refine g_iastN dX11_init_579 e108 (by omega) (by omega) ?_
  refine k_abs (fun h109 e109 f109 => ?_)
  have r109 : g_fr (List.range' 142 25) h h109 := r108.ab f109 (by decide)
  refine g_dup dX11_init_580 rfl ?_
  refine g_iconst (v := nI 1) dX11_init_581 (by decide) ?_
  refine g_ldc dX11_init_582 kX11_157 rfl ?_
  refine g_iastN dX11_init_584 e109 (by omega) (by omega) ?_
  refine k_abs (fun h110 e110 f110 => ?_)
  have r110 : g_fr (List.range' 142 25) h h110 := r109.ab f110 (by decide)
  refine g_dup dX11_init_585 rfl ?_
  refine g_iconst (v := nI 2) dX11_init_586 (by decide) ?_
  refine g_ldc dX11_init_587 kX11_158 rfl ?_
  refine g_top (show (1013904242 : Int32) = nI 1013904242 by decide) ?_
  refine g_iastN dX11_init_589 e110 (by omega) (by omega) ?_
  refine k_abs (fun h111 e111 f111 => ?_)
  have r111 : g_fr (List.range' 142 25) h h111 := r110.ab f111 (by decide)
  refine g_dup dX11_init_590 rfl ?_
  refine g_iconst (v := nI 3) dX11_init_591 (by decide) ?_
  refine g_ldc dX11_init_592 kX11_159 rfl ?_
  refine g_iastN dX11_init_594 e111 (by omega) (by omega) ?_
  refine k_abs (fun h112 e112 f112 => ?_)
  have r112 : g_fr (List.range' 142 25) h h112 := r111.ab f112 (by decide)
  refine g_dup dX11_init_595 rfl ?_
  refine g_iconst (v := nI 4) dX11_init_596 (by decide) ?_
  refine g_ldc dX11_init_597 kX11_160 rfl ?_
  refine g_top (show (1359893119 : Int32) = nI 1359893119 by decide) ?_
  refine g_iastN dX11_init_599 e112 (by omega) (by omega) ?_
  refine k_abs (fun h113 e113 f113 => ?_)
  have r113 : g_fr (List.range' 142 25) h h113 := r112.ab f113 (by decide)
  refine g_dup dX11_init_600 rfl ?_
  refine g_iconst (v := nI 5) dX11_init_601 (by decide) ?_
  refine g_ldc dX11_init_602 kX11_161 rfl ?_
  refine g_iastN dX11_init_604 e113 (by omega) (by omega) ?_
  refine k_abs (fun h114 e114 f114 => ?_)
  have r114 : g_fr (List.range' 142 25) h h114 := r113.ab f114 (by decide)
  refine g_dup dX11_init_605 rfl ?_
  refine g_bipush (v := nI 6) dX11_init_606 (by decide) ?_
  refine g_ldc dX11_init_608 kX11_162 rfl ?_
  refine g_top (show (528734635 : Int32) = nI 528734635 by decide) ?_
  refine g_iastN dX11_init_610 e114 (by omega) (by omega) ?_
  refine k_abs (fun h115 e115 f115 => ?_)
  have r115 : g_fr (List.range' 142 25) h h115 := r114.ab f115 (by decide)
  refine g_dup dX11_init_611 rfl ?_
  refine g_bipush (v := nI 7) dX11_init_612 (by decide) ?_
  refine g_ldc dX11_init_614 kX11_163 rfl ?_
  refine g_top (show (1541459225 : Int32) = nI 1541459225 by decide) ?_
  refine g_iastN dX11_init_616 e115 (by omega) (by omega) ?_
  refine k_abs (fun h116 e116 f116 => ?_)
  have r116 : g_fr (List.range' 142 25) h h116 := r115.ab f116 (by decide)
  refine g_putFin (fs' := [.int (nI 0), .ref 143, .int (nI 0), .int (nI 1), .int (nI 100), .ref 144, .int (nI 0), .int (nI 0), .ref 145, .int (nI 1), .int (nI 10), .int (nI 11), .int (nI 10), .ref 146, .int (nI 0), .ref 147, .int (nI 0), .int (nI 0), .int (nI 0), .int (nI 0), .ref 148, .ref 149, .ref 150, .ref 151, .int (nI 0), .ref 152, .ref 153, .ref 154, .int (nI 0), .int (nI 0), .int (nI 0), .int (-1), .ref 155, .int (nI 0), .ref 156, .ref 157, .ref 158, .ref 159, .ref 160, .ref 161, .null, .null, .null, .null, .null]) dX11_init_617 fX11_164 rfl rfl ((f116 _ (by decide)).trans ((f115 _ (by decide)).trans ((f114 _ (by decide)).trans ((f113 _ (by decide)).trans ((f112 _ (by decide)).trans ((f111 _ (by decide)).trans ((f110 _ (by decide)).trans ((f109 _ (by decide)).trans ((f108 _ (by decide)).trans e107))))))))) (Nat.le_of_ble_eq_true rfl) rfl rfl rfl ?_
  refine k_abs (fun h117 e117 f117 => ?_)
  have r117 : g_fr (List.range' 142 25) h h117 := r116.ab f117 (by decide)
  refine g_aload_n dX11_init_620 rfl rfl ?_
  refine g_bipush (v := nI 64) dX11_init_621 (by decide) ?_
  refine k_newI (i0 := 162) (n1 := 163) dX11_init_623 (by decide) (Nat.le_of_ble_eq_true rfl) (Nat.le_of_ble_eq_true rfl) rfl rfl ?_
  refine k_abs (fun h118 e118 f118 => ?_)
  have r118 : g_fr (List.range' 142 25) h h118 := r117.ab f118 (by decide)
  refine g_putFin (fs' := [.int (nI 0), .ref 143, .int (nI 0), .int (nI 1), .int (nI 100), .ref 144, .int (nI 0), .int (nI 0), .ref 145, .int (nI 1), .int (nI 10), .int (nI 11), .int (nI 10), .ref 146, .int (nI 0), .ref 147, .int (nI 0), .int (nI 0), .int (nI 0), .int (nI 0), .ref 148, .ref 149, .ref 150, .ref 151, .int (nI 0), .ref 152, .ref 153, .ref 154, .int (nI 0), .int (nI 0), .int (nI 0), .int (-1), .ref 155, .int (nI 0), .ref 156, .ref 157, .ref 158, .ref 159, .ref 160, .ref 161, .ref 162, .null, .null, .null, .null]) dX11_init_625 fX11_167 rfl rfl ((f118 _ (by decide)).trans e117) (Nat.le_of_ble_eq_true rfl) rfl rfl rfl ?_
  refine k_abs (fun h119 e119 f119 => ?_)
  have r119 : g_fr (List.range' 142 25) h h119 := r118.ab f119 (by decide)
  refine g_aload_n dX11_init_628 rfl rfl ?_
  refine g_bipush (v := nI 8) dX11_init_629 (by decide) ?_
  refine k_newI (i0 := 163) (n1 := 164) dX11_init_631 (by decide) (Nat.le_of_ble_eq_true rfl) (Nat.le_of_ble_eq_true rfl) rfl rfl ?_
  refine k_abs (fun h120 e120 f120 => ?_)
  have r120 : g_fr (List.range' 142 25) h h120 := r119.ab f120 (by decide)
  refine g_putFin (fs' := [.int (nI 0), .ref 143, .int (nI 0), .int (nI 1), .int (nI 100), .ref 144, .int (nI 0), .int (nI 0), .ref 145, .int (nI 1), .int (nI 10), .int (nI 11), .int (nI 10), .ref 146, .int (nI 0), .ref 147, .int (nI 0), .int (nI 0), .int (nI 0), .int (nI 0), .ref 148, .ref 149, .ref 150, .ref 151, .int (nI 0), .ref 152, .ref 153, .ref 154, .int (nI 0), .int (nI 0), .int (nI 0), .int (-1), .ref 155, .int (nI 0), .ref 156, .ref 157, .ref 158, .ref 159, .ref 160, .ref 161, .ref 162, .ref 163, .null, .null, .null]) dX11_init_633 fX11_170 rfl rfl ((f120 _ (by decide)).trans e119) (Nat.le_of_ble_eq_true rfl) rfl rfl rfl ?_
  refine k_abs (fun h121 e121 f121 => ?_)
  have r121 : g_fr (List.range' 142 25) h h121 := r120.ab f121 (by decide)
  refine g_aload_n dX11_init_636 rfl rfl ?_
  refine g_bipush (v := nI 64) dX11_init_637 (by decide) ?_
  refine k_newI (i0 := 164) (n1 := 165) dX11_init_639 (by decide) (Nat.le_of_ble_eq_true rfl) (Nat.le_of_ble_eq_true rfl) rfl rfl ?_
  refine k_abs (fun h122 e122 f122 => ?_)
  have r122 : g_fr (List.range' 142 25) h h122 := r121.ab f122 (by decide)
  refine g_putFin (fs' := [.int (nI 0), .ref 143, .int (nI 0), .int (nI 1), .int (nI 100), .ref 144, .int (nI 0), .int (nI 0), .ref 145, .int (nI 1), .int (nI 10), .int (nI 11), .int (nI 10), .ref 146, .int (nI 0), .ref 147, .int (nI 0), .int (nI 0), .int (nI 0), .int (nI 0), .ref 148, .ref 149, .ref 150, .ref 151, .int (nI 0), .ref 152, .ref 153, .ref 154, .int (nI 0), .int (nI 0), .int (nI 0), .int (-1), .ref 155, .int (nI 0), .ref 156, .ref 157, .ref 158, .ref 159, .ref 160, .ref 161, .ref 162, .ref 163, .ref 164, .null, .null]) dX11_init_641 fX11_173 rfl rfl ((f122 _ (by decide)).trans e121) (Nat.le_of_ble_eq_true rfl) rfl rfl rfl ?_
  refine k_abs (fun h123 e123 f123 => ?_)
  have r123 : g_fr (List.range' 142 25) h h123 := r122.ab f123 (by decide)
  refine g_aload_n dX11_init_644 rfl rfl ?_
  refine g_bipush (v := nI 32) dX11_init_645 (by decide) ?_
  refine k_newI (i0 := 165) (n1 := 166) dX11_init_647 (by decide) (Nat.le_of_ble_eq_true rfl) (Nat.le_of_ble_eq_true rfl) rfl rfl ?_
  refine k_abs (fun h124 e124 f124 => ?_)
  have r124 : g_fr (List.range' 142 25) h h124 := r123.ab f124 (by decide)
  refine g_putFin (fs' := [.int (nI 0), .ref 143, .int (nI 0), .int (nI 1), .int (nI 100), .ref 144, .int (nI 0), .int (nI 0), .ref 145, .int (nI 1), .int (nI 10), .int (nI 11), .int (nI 10), .ref 146, .int (nI 0), .ref 147, .int (nI 0), .int (nI 0), .int (nI 0), .int (nI 0), .ref 148, .ref 149, .ref 150, .ref 151, .int (nI 0), .ref 152, .ref 153, .ref 154, .int (nI 0), .int (nI 0), .int (nI 0), .int (-1), .ref 155, .int (nI 0), .ref 156, .ref 157, .ref 158, .ref 159, .ref 160, .ref 161, .ref 162, .ref 163, .ref 164, .ref 165, .null]) dX11_init_649 fX11_176 rfl rfl ((f124 _ (by decide)).trans e123) (Nat.le_of_ble_eq_true rfl) rfl rfl rfl ?_
  refine k_abs (fun h125 e125 f125 => ?_)
  have r125 : g_fr (List.range' 142 25) h h125 := r124.ab f125 (by decide)
  refine g_aload_n dX11_init_652 rfl rfl ?_
  refine g_sipush (v := nI 961) dX11_init_653 (by decide) ?_
  refine k_newZ (i0 := 166) (n1 := 167) dX11_init_656 (by decide) (Nat.le_of_ble_eq_true rfl) (Nat.le_of_ble_eq_true rfl) rfl rfl ?_
  refine k_abs (fun h126 e126 f126 => ?_)
  have r126 : g_fr (List.range' 142 25) h h126 := r125.ab f126 (by decide)
  refine g_putFin (fs' := [.int (nI 0), .ref 143, .int (nI 0), .int (nI 1), .int (nI 100), .ref 144, .int (nI 0), .int (nI 0), .ref 145, .int (nI 1), .int (nI 10), .int (nI 11), .int (nI 10), .ref 146, .int (nI 0), .ref 147, .int (nI 0), .int (nI 0), .int (nI 0), .int (nI 0), .ref 148, .ref 149, .ref 150, .ref 151, .int (nI 0), .ref 152, .ref 153, .ref 154, .int (nI 0), .int (nI 0), .int (nI 0), .int (-1), .ref 155, .int (nI 0), .ref 156, .ref 157, .ref 158, .ref 159, .ref 160, .ref 161, .ref 162, .ref 163, .ref 164, .ref 165, .ref 166]) dX11_init_658 fX11_179 rfl rfl ((f126 _ (by decide)).trans e125) (Nat.le_of_ble_eq_true rfl) rfl rfl rfl ?_
  refine k_abs (fun h127 e127 f127 => ?_)
  have r127 : g_fr (List.range' 142 25) h h127 := r126.ab f127 (by decide)
  refine g_aload_n dX11_init_661 rfl rfl ?_
  refine g_iconst (v := nI 0) dX11_init_662 (by decide) ?_
  refine g_lconst (v := lN 0) dX11_init_663 (by decide) ?_
  refine cVv (st := []) dX11_init_664 (c_give G d _ true _ (s := 0) (v := 0) (⟨fun _ => 0, fun _ => 0, ⟨e127, (f127 _ (by decide)).trans ((f126 _ (by decide)).trans ((f125 _ (by decide)).trans ((f124 _ (by decide)).trans ((f123 _ (by decide)).trans ((f122 _ (by decide)).trans ((f121 _ (by decide)).trans ((f120 _ (by decide)).trans ((f119 _ (by decide)).trans ((f118 _ (by decide)).trans ((f117 _ (by decide)).trans ((f116 _ (by decide)).trans ((f115 _ (by decide)).trans ((f114 _ (by decide)).trans ((f113 _ (by decide)).trans ((f112 _ (by decide)).trans ((f111 _ (by decide)).trans ((f110 _ (by decide)).trans ((f109 _ (by decide)).trans ((f108 _ (by decide)).trans ((f107 _ (by decide)).trans ((f106 _ (by decide)).trans ((f105 _ (by decide)).trans ((f104 _ (by decide)).trans ((f103 _ (by decide)).trans ((f102 _ (by decide)).trans ((f101 _ (by decide)).trans ((f100 _ (by decide)).trans ((f99 _ (by decide)).trans ((f98 _ (by decide)).trans ((f97 _ (by decide)).trans ((f96 _ (by decide)).trans ((f95 _ (by decide)).trans ((f94 _ (by decide)).trans ((f93 _ (by decide)).trans ((f92 _ (by decide)).trans ((f91 _ (by decide)).trans ((f90 _ (by decide)).trans ((f89 _ (by decide)).trans ((f88 _ (by decide)).trans ((f87 _ (by decide)).trans ((f86 _ (by decide)).trans ((f85 _ (by decide)).trans ((f84 _ (by decide)).trans ((f83 _ (by decide)).trans ((f82 _ (by decide)).trans ((f81 _ (by decide)).trans ((f80 _ (by decide)).trans ((f79 _ (by decide)).trans ((f78 _ (by decide)).trans ((f77 _ (by decide)).trans ((f76 _ (by decide)).trans ((f75 _ (by decide)).trans ((f74 _ (by decide)).trans ((f73 _ (by decide)).trans ((f72 _ (by decide)).trans ((f71 _ (by decide)).trans ((f70 _ (by decide)).trans ((f69 _ (by decide)).trans ((f68 _ (by decide)).trans ((f67 _ (by decide)).trans ((f66 _ (by decide)).trans ((f65 _ (by decide)).trans ((f64 _ (by decide)).trans ((f63 _ (by decide)).trans ((f62 _ (by decide)).trans ((f61 _ (by decide)).trans ((f60 _ (by decide)).trans ((f59 _ (by decide)).trans ((f58 _ (by decide)).trans ((f57 _ (by decide)).trans ((f56 _ (by decide)).trans ((f55 _ (by decide)).trans ((f54 _ (by decide)).trans ((f53 _ (by decide)).trans ((f52 _ (by decide)).trans ((f51 _ (by decide)).trans ((f50 _ (by decide)).trans ((f49 _ (by decide)).trans ((f48 _ (by decide)).trans ((f47 _ (by decide)).trans ((f46 _ (by decide)).trans ((f45 _ (by decide)).trans ((f44 _ (by decide)).trans ((f43 _ (by decide)).trans ((f42 _ (by decide)).trans ((f41 _ (by decide)).trans ((f40 _ (by decide)).trans ((f39 _ (by decide)).trans ((f38 _ (by decide)).trans ((f37 _ (by decide)).trans ((f36 _ (by decide)).trans ((f35 _ (by decide)).trans e34)))))))))))))))))))))))))))))))))))))))))))))))))))))))))))))))))))))))))))))))))))))))))))), (f127 _ (by decide)).trans ((f126 _ (by decide)).trans ((f125 _ (by decide)).trans ((f124 _ (by decide)).trans ((f123 _ (by decide)).trans ((f122 _ (by decide)).trans ((f121 _ (by decide)).trans ((f120 _ (by decide)).trans ((f119 _ (by decide)).trans ((f118 _ (by decide)).trans ((f117 _ (by decide)).trans ((f116 _ (by decide)).trans ((f115 _ (by decide)).trans ((f114 _ (by decide)).trans ((f113 _ (by decide)).trans ((f112 _ (by decide)).trans ((f111 _ (by decide)).trans ((f110 _ (by decide)).trans ((f109 _ (by decide)).trans ((f108 _ (by decide)).trans ((f107 _ (by decide)).trans ((f106 _ (by decide)).trans ((f105 _ (by decide)).trans ((f104 _ (by decide)).trans ((f103 _ (by decide)).trans ((f102 _ (by decide)).trans ((f101 _ (by decide)).trans ((f100 _ (by decide)).trans ((f99 _ (by decide)).trans ((f98 _ (by decide)).trans ((f97 _ (by decide)).trans ((f96 _ (by decide)).trans ((f95 _ (by decide)).trans ((f94 _ (by decide)).trans ((f93 _ (by decide)).trans ((f92 _ (by decide)).trans ((f91 _ (by decide)).trans ((f90 _ (by decide)).trans ((f89 _ (by decide)).trans ((f88 _ (by decide)).trans ((f87 _ (by decide)).trans ((f86 _ (by decide)).trans ((f85 _ (by decide)).trans ((f84 _ (by decide)).trans ((f83 _ (by decide)).trans ((f82 _ (by decide)).trans ((f81 _ (by decide)).trans ((f80 _ (by decide)).trans ((f79 _ (by decide)).trans ((f78 _ (by decide)).trans ((f77 _ (by decide)).trans ((f76 _ (by decide)).trans ((f75 _ (by decide)).trans ((f74 _ (by decide)).trans ((f73 _ (by decide)).trans ((f72 _ (by decide)).trans ((f71 _ (by decide)).trans ((f70 _ (by decide)).trans ((f69 _ (by decide)).trans ((f68 _ (by decide)).trans ((f67 _ (by decide)).trans ((f66 _ (by decide)).trans ((f65 _ (by decide)).trans ((f64 _ (by decide)).trans ((f63 _ (by decide)).trans ((f62 _ (by decide)).trans ((f61 _ (by decide)).trans ((f60 _ (by decide)).trans ((f59 _ (by decide)).trans ((f58 _ (by decide)).trans ((f57 _ (by decide)).trans ((f56 _ (by decide)).trans ((f55 _ (by decide)).trans ((f54 _ (by decide)).trans ((f53 _ (by decide)).trans ((f52 _ (by decide)).trans ((f51 _ (by decide)).trans ((f50 _ (by decide)).trans ((f49 _ (by decide)).trans ((f48 _ (by decide)).trans ((f47 _ (by decide)).trans ((f46 _ (by decide)).trans ((f45 _ (by decide)).trans ((f44 _ (by decide)).trans ((f43 _ (by decide)).trans ((f42 _ (by decide)).trans ((f41 _ (by decide)).trans ((f40 _ (by decide)).trans ((f39 _ (by decide)).trans ((f38 _ (by decide)).trans ((f37 _ (by decide)).trans e36)))))))))))))))))))))))))))))))))))))))))))))))))))))))))))))))))))))))))))))))))))))))))), fun j => Nat.zero_lt_succ _⟩, fun s hs => ⟨Nat.zero_le _, rfl, Or.inl rfl⟩⟩ : Bn _ (MX (nI 0) s0 0 0 0 0 0 0 0 0 0 0 (-1)) (fun _ => some 0)) (by decide) (by decide)) sX11_182 e127 rfl rfl (by simp only [g_rm]; omega) (by simp only [g_rm]; omega) (Nat.le_of_ble_eq_true rfl) ⟨(Nat.le_of_ble_eq_true rfl), (Nat.le_of_ble_eq_true rfl)⟩ (fun h128 fr129 p130 => ?_)
  refine g_aload_n dX11_init_667 rfl rfl ?_
  refine g_iconst (v := nI 1) dX11_init_668 (by decide) ?_
  refine g_lconst (v := lN 1) dX11_init_669 (by decide) ?_
  refine cVv (st := []) dX11_init_670 (c_give G d _ true _ (s := 1) (v := 1) p130 (by decide) (by decide)) sX11_182 (fr129.at (by decide) e127) rfl rfl (by simp only [g_rm]; omega) (by simp only [g_rm]; omega) (Nat.le_of_ble_eq_true rfl) ⟨(Nat.le_of_ble_eq_true rfl), (Nat.le_of_ble_eq_true rfl)⟩ (fun h132 fr133 p134 => ?_)
  refine g_aload_n dX11_init_673 rfl rfl ?_
  refine g_bipush (v := nI 6) dX11_init_674 (by decide) ?_
  refine g_lconst (v := lN 1) dX11_init_676 (by decide) ?_
  refine cVv (st := []) dX11_init_677 (c_give G d _ true _ (s := 6) (v := 1) p134 (by decide) (by decide)) sX11_182 (fr133.at (by decide) (fr129.at (by decide) e127)) rfl rfl (by simp only [g_rm]; omega) (by simp only [g_rm]; omega) (Nat.le_of_ble_eq_true rfl) ⟨(Nat.le_of_ble_eq_true rfl), (Nat.le_of_ble_eq_true rfl)⟩ (fun h136 fr137 p138 => ?_)
  refine g_aload_n dX11_init_680 rfl rfl ?_
  refine g_bipush (v := nI 7) dX11_init_681 (by decide) ?_
  refine g_lconst (v := lN 1) dX11_init_683 (by decide) ?_
  refine cVv (st := []) dX11_init_684 (c_give G d _ true _ (s := 7) (v := 1) p138 (by decide) (by decide)) sX11_182 (fr137.at (by decide) (fr133.at (by decide) (fr129.at (by decide) e127))) rfl rfl (by simp only [g_rm]; omega) (by simp only [g_rm]; omega) (Nat.le_of_ble_eq_true rfl) ⟨(Nat.le_of_ble_eq_true rfl), (Nat.le_of_ble_eq_true rfl)⟩ (fun h140 fr141 p142 => ?_)
  exact e_c dX11_init_687 rfl rfl ((((r127.tr fr129 (by decide)).tr fr133 (by decide)).tr fr137 (by decide)).tr fr141 (by decide)) ⟨fr141.at (by decide) (fr137.at (by decide) (fr133.at (by decide) (fr129.at (by decide) e127))), fr141.at (by decide) (fr137.at (by decide) (fr133.at (by decide) (fr129.at (by decide) ((f127 _ (by decide)).trans ((f126 _ (by decide)).trans ((f125 _ (by decide)).trans ((f124 _ (by decide)).trans ((f123 _ (by decide)).trans ((f122 _ (by decide)).trans ((f121 _ (by decide)).trans ((f120 _ (by decide)).trans ((f119 _ (by decide)).trans ((f118 _ (by decide)).trans ((f117 _ (by decide)).trans ((f116 _ (by decide)).trans ((f115 _ (by decide)).trans ((f114 _ (by decide)).trans ((f113 _ (by decide)).trans ((f112 _ (by decide)).trans ((f111 _ (by decide)).trans ((f110 _ (by decide)).trans ((f109 _ (by decide)).trans ((f108 _ (by decide)).trans ((f107 _ (by decide)).trans ((f106 _ (by decide)).trans ((f105 _ (by decide)).trans ((f104 _ (by decide)).trans ((f103 _ (by decide)).trans ((f102 _ (by decide)).trans ((f101 _ (by decide)).trans ((f100 _ (by decide)).trans ((f99 _ (by decide)).trans ((f98 _ (by decide)).trans ((f97 _ (by decide)).trans ((f96 _ (by decide)).trans ((f95 _ (by decide)).trans ((f94 _ (by decide)).trans ((f93 _ (by decide)).trans ((f92 _ (by decide)).trans ((f91 _ (by decide)).trans ((f90 _ (by decide)).trans ((f89 _ (by decide)).trans ((f88 _ (by decide)).trans ((f87 _ (by decide)).trans ((f86 _ (by decide)).trans ((f85 _ (by decide)).trans ((f84 _ (by decide)).trans ((f83 _ (by decide)).trans ((f82 _ (by decide)).trans ((f81 _ (by decide)).trans ((f80 _ (by decide)).trans ((f79 _ (by decide)).trans ((f78 _ (by decide)).trans ((f77 _ (by decide)).trans ((f76 _ (by decide)).trans ((f75 _ (by decide)).trans ((f74 _ (by decide)).trans ((f73 _ (by decide)).trans ((f72 _ (by decide)).trans ((f71 _ (by decide)).trans ((f70 _ (by decide)).trans ((f69 _ (by decide)).trans ((f68 _ (by decide)).trans ((f67 _ (by decide)).trans ((f66 _ (by decide)).trans ((f65 _ (by decide)).trans ((f64 _ (by decide)).trans ((f63 _ (by decide)).trans ((f62 _ (by decide)).trans ((f61 _ (by decide)).trans ((f60 _ (by decide)).trans ((f59 _ (by decide)).trans ((f58 _ (by decide)).trans ((f57 _ (by decide)).trans ((f56 _ (by decide)).trans ((f55 _ (by decide)).trans ((f54 _ (by decide)).trans ((f53 _ (by decide)).trans ((f52 _ (by decide)).trans ((f51 _ (by decide)).trans ((f50 _ (by decide)).trans ((f49 _ (by decide)).trans ((f48 _ (by decide)).trans ((f47 _ (by decide)).trans ((f46 _ (by decide)).trans ((f45 _ (by decide)).trans ((f44 _ (by decide)).trans ((f43 _ (by decide)).trans ((f42 _ (by decide)).trans ((f41 _ (by decide)).trans ((f40 _ (by decide)).trans ((f39 _ (by decide)).trans ((f38 _ (by decide)).trans ((f37 _ (by decide)).trans ((f36 _ (by decide)).trans ((f35 _ (by decide)).trans ((f34 _ (by decide)).trans ((f33 _ (by decide)).trans ((f32 _ (by decide)).trans ((f31 _ (by decide)).trans ((f30 _ (by decide)).trans ((f29 _ (by decide)).trans ((f28 _ (by decide)).trans ((f27 _ (by decide)).trans ((f26 _ (by decide)).trans ((f25 _ (by decide)).trans ((f24 _ (by decide)).trans ((f23 _ (by decide)).trans ((f22 _ (by decide)).trans ((f21 _ (by decide)).trans ((f20 _ (by decide)).trans ((f19 _ (by decide)).trans ((f18 _ (by decide)).trans ((f17 _ (by decide)).trans ((f16 _ (by decide)).trans ((f15 _ (by decide)).trans ((f14 _ (by decide)).trans ((f13 _ (by decide)).trans ((f12 _ (by decide)).trans ((f11 _ (by decide)).trans ((f10 _ (by decide)).trans ((f9 _ (by decide)).trans ((f8 _ (by decide)).trans ((f7 _ (by decide)).trans ((f6 _ (by decide)).trans ((f5 _ (by decide)).trans ((f4 _ (by decide)).trans ((f3 _ (by decide)).trans ((f2 _ (by decide)).trans e1))))))))))))))))))))))))))))))))))))))))))))))))))))))))))))))))))))))))))))))))))))))))))))))))))))))))))))))))))))))))))))))))), fr141.at (by decide) (fr137.at (by decide) (fr133.at (by decide) (fr129.at (by decide) ((f127 _ (by decide)).trans ((f126 _ (by decide)).trans ((f125 _ (by decide)).trans ((f124 _ (by decide)).trans ((f123 _ (by decide)).trans ((f122 _ (by decide)).trans ((f121 _ (by decide)).trans ((f120 _ (by decide)).trans ((f119 _ (by decide)).trans ((f118 _ (by decide)).trans ((f117 _ (by decide)).trans ((f116 _ (by decide)).trans ((f115 _ (by decide)).trans ((f114 _ (by decide)).trans ((f113 _ (by decide)).trans ((f112 _ (by decide)).trans ((f111 _ (by decide)).trans ((f110 _ (by decide)).trans ((f109 _ (by decide)).trans ((f108 _ (by decide)).trans ((f107 _ (by decide)).trans ((f106 _ (by decide)).trans ((f105 _ (by decide)).trans ((f104 _ (by decide)).trans ((f103 _ (by decide)).trans ((f102 _ (by decide)).trans ((f101 _ (by decide)).trans ((f100 _ (by decide)).trans ((f99 _ (by decide)).trans ((f98 _ (by decide)).trans ((f97 _ (by decide)).trans ((f96 _ (by decide)).trans ((f95 _ (by decide)).trans ((f94 _ (by decide)).trans ((f93 _ (by decide)).trans ((f92 _ (by decide)).trans ((f91 _ (by decide)).trans ((f90 _ (by decide)).trans ((f89 _ (by decide)).trans ((f88 _ (by decide)).trans ((f87 _ (by decide)).trans ((f86 _ (by decide)).trans ((f85 _ (by decide)).trans ((f84 _ (by decide)).trans ((f83 _ (by decide)).trans ((f82 _ (by decide)).trans ((f81 _ (by decide)).trans ((f80 _ (by decide)).trans ((f79 _ (by decide)).trans ((f78 _ (by decide)).trans ((f77 _ (by decide)).trans ((f76 _ (by decide)).trans ((f75 _ (by decide)).trans ((f74 _ (by decide)).trans ((f73 _ (by decide)).trans ((f72 _ (by decide)).trans ((f71 _ (by decide)).trans ((f70 _ (by decide)).trans ((f69 _ (by decide)).trans ((f68 _ (by decide)).trans ((f67 _ (by decide)).trans ((f66 _ (by decide)).trans ((f65 _ (by decide)).trans ((f64 _ (by decide)).trans ((f63 _ (by decide)).trans ((f62 _ (by decide)).trans ((f61 _ (by decide)).trans ((f60 _ (by decide)).trans ((f59 _ (by decide)).trans ((f58 _ (by decide)).trans ((f57 _ (by decide)).trans ((f56 _ (by decide)).trans ((f55 _ (by decide)).trans ((f54 _ (by decide)).trans ((f53 _ (by decide)).trans ((f52 _ (by decide)).trans ((f51 _ (by decide)).trans ((f50 _ (by decide)).trans ((f49 _ (by decide)).trans ((f48 _ (by decide)).trans ((f47 _ (by decide)).trans ((f46 _ (by decide)).trans ((f45 _ (by decide)).trans ((f44 _ (by decide)).trans ((f43 _ (by decide)).trans ((f42 _ (by decide)).trans ((f41 _ (by decide)).trans ((f40 _ (by decide)).trans ((f39 _ (by decide)).trans ((f38 _ (by decide)).trans ((f37 _ (by decide)).trans ((f36 _ (by decide)).trans ((f35 _ (by decide)).trans ((f34 _ (by decide)).trans ((f33 _ (by decide)).trans ((f32 _ (by decide)).trans ((f31 _ (by decide)).trans ((f30 _ (by decide)).trans ((f29 _ (by decide)).trans ((f28 _ (by decide)).trans ((f27 _ (by decide)).trans ((f26 _ (by decide)).trans ((f25 _ (by decide)).trans ((f24 _ (by decide)).trans ((f23 _ (by decide)).trans ((f22 _ (by decide)).trans ((f21 _ (by decide)).trans ((f20 _ (by decide)).trans ((f19 _ (by decide)).trans ((f18 _ (by decide)).trans ((f17 _ (by decide)).trans ((f16 _ (by decide)).trans ((f15 _ (by decide)).trans ((f14 _ (by decide)).trans ((f13 _ (by decide)).trans ((f12 _ (by decide)).trans ((f11 _ (by decide)).trans ((f10 _ (by decide)).trans ((f9 _ (by decide)).trans ((f8 _ (by decide)).trans ((f7 _ (by decide)).trans ((f6 _ (by decide)).trans e5))))))))))))))))))))))))))))))))))))))))))))))))))))))))))))))))))))))))))))))))))))))))))))))))))))))))))))))))))))))))))))), fr141.at (by decide) (fr137.at (by decide) (fr133.at (by decide) (fr129.at (by decide) ((f127 _ (by decide)).trans ((f126 _ (by decide)).trans ((f125 _ (by decide)).trans ((f124 _ (by decide)).trans ((f123 _ (by decide)).trans ((f122 _ (by decide)).trans ((f121 _ (by decide)).trans ((f120 _ (by decide)).trans ((f119 _ (by decide)).trans ((f118 _ (by decide)).trans ((f117 _ (by decide)).trans ((f116 _ (by decide)).trans ((f115 _ (by decide)).trans ((f114 _ (by decide)).trans ((f113 _ (by decide)).trans ((f112 _ (by decide)).trans ((f111 _ (by decide)).trans ((f110 _ (by decide)).trans ((f109 _ (by decide)).trans ((f108 _ (by decide)).trans ((f107 _ (by decide)).trans ((f106 _ (by decide)).trans ((f105 _ (by decide)).trans ((f104 _ (by decide)).trans ((f103 _ (by decide)).trans ((f102 _ (by decide)).trans ((f101 _ (by decide)).trans ((f100 _ (by decide)).trans ((f99 _ (by decide)).trans ((f98 _ (by decide)).trans ((f97 _ (by decide)).trans ((f96 _ (by decide)).trans ((f95 _ (by decide)).trans ((f94 _ (by decide)).trans ((f93 _ (by decide)).trans ((f92 _ (by decide)).trans ((f91 _ (by decide)).trans ((f90 _ (by decide)).trans ((f89 _ (by decide)).trans ((f88 _ (by decide)).trans ((f87 _ (by decide)).trans ((f86 _ (by decide)).trans ((f85 _ (by decide)).trans ((f84 _ (by decide)).trans ((f83 _ (by decide)).trans ((f82 _ (by decide)).trans ((f81 _ (by decide)).trans ((f80 _ (by decide)).trans ((f79 _ (by decide)).trans ((f78 _ (by decide)).trans ((f77 _ (by decide)).trans ((f76 _ (by decide)).trans ((f75 _ (by decide)).trans ((f74 _ (by decide)).trans ((f73 _ (by decide)).trans ((f72 _ (by decide)).trans ((f71 _ (by decide)).trans ((f70 _ (by decide)).trans ((f69 _ (by decide)).trans ((f68 _ (by decide)).trans ((f67 _ (by decide)).trans ((f66 _ (by decide)).trans ((f65 _ (by decide)).trans ((f64 _ (by decide)).trans ((f63 _ (by decide)).trans ((f62 _ (by decide)).trans ((f61 _ (by decide)).trans ((f60 _ (by decide)).trans ((f59 _ (by decide)).trans ((f58 _ (by decide)).trans ((f57 _ (by decide)).trans ((f56 _ (by decide)).trans ((f55 _ (by decide)).trans ((f54 _ (by decide)).trans ((f53 _ (by decide)).trans ((f52 _ (by decide)).trans ((f51 _ (by decide)).trans ((f50 _ (by decide)).trans ((f49 _ (by decide)).trans ((f48 _ (by decide)).trans ((f47 _ (by decide)).trans ((f46 _ (by decide)).trans ((f45 _ (by decide)).trans ((f44 _ (by decide)).trans ((f43 _ (by decide)).trans ((f42 _ (by decide)).trans ((f41 _ (by decide)).trans ((f40 _ (by decide)).trans ((f39 _ (by decide)).trans ((f38 _ (by decide)).trans ((f37 _ (by decide)).trans ((f36 _ (by decide)).trans ((f35 _ (by decide)).trans ((f34 _ (by decide)).trans ((f33 _ (by decide)).trans ((f32 _ (by decide)).trans ((f31 _ (by decide)).trans ((f30 _ (by decide)).trans ((f29 _ (by decide)).trans ((f28 _ (by decide)).trans ((f27 _ (by decide)).trans ((f26 _ (by decide)).trans ((f25 _ (by decide)).trans ((f24 _ (by decide)).trans ((f23 _ (by decide)).trans ((f22 _ (by decide)).trans ((f21 _ (by decide)).trans ((f20 _ (by decide)).trans ((f19 _ (by decide)).trans ((f18 _ (by decide)).trans ((f17 _ (by decide)).trans ((f16 _ (by decide)).trans ((f15 _ (by decide)).trans ((f14 _ (by decide)).trans ((f13 _ (by decide)).trans ((f12 _ (by decide)).trans ((f11 _ (by decide)).trans ((f10 _ (by decide)).trans ((f9 _ (by decide)).trans ((f8 _ (by decide)).trans e7))))))))))))))))))))))))))))))))))))))))))))))))))))))))))))))))))))))))))))))))))))))))))))))))))))))))))))))))))))))))))), fr141.at (by decide) (fr137.at (by decide) (fr133.at (by decide) (fr129.at (by decide) ((f127 _ (by decide)).trans ((f126 _ (by decide)).trans ((f125 _ (by decide)).trans ((f124 _ (by decide)).trans ((f123 _ (by decide)).trans ((f122 _ (by decide)).trans ((f121 _ (by decide)).trans ((f120 _ (by decide)).trans ((f119 _ (by decide)).trans ((f118 _ (by decide)).trans ((f117 _ (by decide)).trans ((f116 _ (by decide)).trans ((f115 _ (by decide)).trans ((f114 _ (by decide)).trans ((f113 _ (by decide)).trans ((f112 _ (by decide)).trans ((f111 _ (by decide)).trans ((f110 _ (by decide)).trans ((f109 _ (by decide)).trans ((f108 _ (by decide)).trans ((f107 _ (by decide)).trans ((f106 _ (by decide)).trans ((f105 _ (by decide)).trans ((f104 _ (by decide)).trans ((f103 _ (by decide)).trans ((f102 _ (by decide)).trans ((f101 _ (by decide)).trans ((f100 _ (by decide)).trans ((f99 _ (by decide)).trans ((f98 _ (by decide)).trans ((f97 _ (by decide)).trans ((f96 _ (by decide)).trans ((f95 _ (by decide)).trans ((f94 _ (by decide)).trans ((f93 _ (by decide)).trans ((f92 _ (by decide)).trans ((f91 _ (by decide)).trans ((f90 _ (by decide)).trans ((f89 _ (by decide)).trans ((f88 _ (by decide)).trans ((f87 _ (by decide)).trans ((f86 _ (by decide)).trans ((f85 _ (by decide)).trans ((f84 _ (by decide)).trans ((f83 _ (by decide)).trans ((f82 _ (by decide)).trans ((f81 _ (by decide)).trans ((f80 _ (by decide)).trans ((f79 _ (by decide)).trans ((f78 _ (by decide)).trans ((f77 _ (by decide)).trans ((f76 _ (by decide)).trans ((f75 _ (by decide)).trans ((f74 _ (by decide)).trans ((f73 _ (by decide)).trans ((f72 _ (by decide)).trans ((f71 _ (by decide)).trans ((f70 _ (by decide)).trans ((f69 _ (by decide)).trans ((f68 _ (by decide)).trans ((f67 _ (by decide)).trans ((f66 _ (by decide)).trans ((f65 _ (by decide)).trans ((f64 _ (by decide)).trans ((f63 _ (by decide)).trans ((f62 _ (by decide)).trans ((f61 _ (by decide)).trans ((f60 _ (by decide)).trans ((f59 _ (by decide)).trans ((f58 _ (by decide)).trans ((f57 _ (by decide)).trans ((f56 _ (by decide)).trans ((f55 _ (by decide)).trans ((f54 _ (by decide)).trans ((f53 _ (by decide)).trans ((f52 _ (by decide)).trans ((f51 _ (by decide)).trans ((f50 _ (by decide)).trans ((f49 _ (by decide)).trans ((f48 _ (by decide)).trans ((f47 _ (by decide)).trans ((f46 _ (by decide)).trans ((f45 _ (by decide)).trans ((f44 _ (by decide)).trans ((f43 _ (by decide)).trans ((f42 _ (by decide)).trans ((f41 _ (by decide)).trans ((f40 _ (by decide)).trans ((f39 _ (by decide)).trans ((f38 _ (by decide)).trans ((f37 _ (by decide)).trans ((f36 _ (by decide)).trans ((f35 _ (by decide)).trans ((f34 _ (by decide)).trans ((f33 _ (by decide)).trans ((f32 _ (by decide)).trans ((f31 _ (by decide)).trans ((f30 _ (by decide)).trans ((f29 _ (by decide)).trans ((f28 _ (by decide)).trans ((f27 _ (by decide)).trans ((f26 _ (by decide)).trans ((f25 _ (by decide)).trans ((f24 _ (by decide)).trans ((f23 _ (by decide)).trans ((f22 _ (by decide)).trans ((f21 _ (by decide)).trans ((f20 _ (by decide)).trans ((f19 _ (by decide)).trans ((f18 _ (by decide)).trans ((f17 _ (by decide)).trans ((f16 _ (by decide)).trans e15))))))))))))))))))))))))))))))))))))))))))))))))))))))))))))))))))))))))))))))))))))))))))))))))))))))))))))))))))), fr141.at (by decide) (fr137.at (by decide) (fr133.at (by decide) (fr129.at (by decide) ((f127 _ (by decide)).trans ((f126 _ (by decide)).trans ((f125 _ (by decide)).trans ((f124 _ (by decide)).trans ((f123 _ (by decide)).trans ((f122 _ (by decide)).trans ((f121 _ (by decide)).trans ((f120 _ (by decide)).trans ((f119 _ (by decide)).trans ((f118 _ (by decide)).trans ((f117 _ (by decide)).trans ((f116 _ (by decide)).trans ((f115 _ (by decide)).trans ((f114 _ (by decide)).trans ((f113 _ (by decide)).trans ((f112 _ (by decide)).trans ((f111 _ (by decide)).trans ((f110 _ (by decide)).trans ((f109 _ (by decide)).trans ((f108 _ (by decide)).trans ((f107 _ (by decide)).trans ((f106 _ (by decide)).trans ((f105 _ (by decide)).trans ((f104 _ (by decide)).trans ((f103 _ (by decide)).trans ((f102 _ (by decide)).trans ((f101 _ (by decide)).trans ((f100 _ (by decide)).trans ((f99 _ (by decide)).trans ((f98 _ (by decide)).trans ((f97 _ (by decide)).trans ((f96 _ (by decide)).trans ((f95 _ (by decide)).trans ((f94 _ (by decide)).trans ((f93 _ (by decide)).trans ((f92 _ (by decide)).trans ((f91 _ (by decide)).trans ((f90 _ (by decide)).trans ((f89 _ (by decide)).trans ((f88 _ (by decide)).trans ((f87 _ (by decide)).trans ((f86 _ (by decide)).trans ((f85 _ (by decide)).trans ((f84 _ (by decide)).trans ((f83 _ (by decide)).trans ((f82 _ (by decide)).trans ((f81 _ (by decide)).trans ((f80 _ (by decide)).trans ((f79 _ (by decide)).trans ((f78 _ (by decide)).trans ((f77 _ (by decide)).trans ((f76 _ (by decide)).trans ((f75 _ (by decide)).trans ((f74 _ (by decide)).trans ((f73 _ (by decide)).trans ((f72 _ (by decide)).trans ((f71 _ (by decide)).trans ((f70 _ (by decide)).trans ((f69 _ (by decide)).trans ((f68 _ (by decide)).trans ((f67 _ (by decide)).trans ((f66 _ (by decide)).trans ((f65 _ (by decide)).trans ((f64 _ (by decide)).trans ((f63 _ (by decide)).trans ((f62 _ (by decide)).trans ((f61 _ (by decide)).trans ((f60 _ (by decide)).trans ((f59 _ (by decide)).trans ((f58 _ (by decide)).trans ((f57 _ (by decide)).trans ((f56 _ (by decide)).trans ((f55 _ (by decide)).trans ((f54 _ (by decide)).trans ((f53 _ (by decide)).trans ((f52 _ (by decide)).trans ((f51 _ (by decide)).trans ((f50 _ (by decide)).trans ((f49 _ (by decide)).trans ((f48 _ (by decide)).trans ((f47 _ (by decide)).trans ((f46 _ (by decide)).trans ((f45 _ (by decide)).trans ((f44 _ (by decide)).trans ((f43 _ (by decide)).trans ((f42 _ (by decide)).trans ((f41 _ (by decide)).trans ((f40 _ (by decide)).trans ((f39 _ (by decide)).trans ((f38 _ (by decide)).trans ((f37 _ (by decide)).trans ((f36 _ (by decide)).trans ((f35 _ (by decide)).trans ((f34 _ (by decide)).trans ((f33 _ (by decide)).trans ((f32 _ (by decide)).trans ((f31 _ (by decide)).trans ((f30 _ (by decide)).trans ((f29 _ (by decide)).trans ((f28 _ (by decide)).trans ((f27 _ (by decide)).trans ((f26 _ (by decide)).trans ((f25 _ (by decide)).trans ((f24 _ (by decide)).trans ((f23 _ (by decide)).trans ((f22 _ (by decide)).trans ((f21 _ (by decide)).trans ((f20 _ (by decide)).trans ((f19 _ (by decide)).trans ((f18 _ (by decide)).trans e17))))))))))))))))))))))))))))))))))))))))))))))))))))))))))))))))))))))))))))))))))))))))))))))))))))))))))))))))), fr141.at (by decide) (fr137.at (by decide) (fr133.at (by decide) (fr129.at (by decide) ((f127 _ (by decide)).trans ((f126 _ (by decide)).trans ((f125 _ (by decide)).trans ((f124 _ (by decide)).trans ((f123 _ (by decide)).trans ((f122 _ (by decide)).trans ((f121 _ (by decide)).trans ((f120 _ (by decide)).trans ((f119 _ (by decide)).trans ((f118 _ (by decide)).trans ((f117 _ (by decide)).trans ((f116 _ (by decide)).trans ((f115 _ (by decide)).trans ((f114 _ (by decide)).trans ((f113 _ (by decide)).trans ((f112 _ (by decide)).trans ((f111 _ (by decide)).trans ((f110 _ (by decide)).trans ((f109 _ (by decide)).trans ((f108 _ (by decide)).trans ((f107 _ (by decide)).trans ((f106 _ (by decide)).trans ((f105 _ (by decide)).trans ((f104 _ (by decide)).trans ((f103 _ (by decide)).trans ((f102 _ (by decide)).trans ((f101 _ (by decide)).trans ((f100 _ (by decide)).trans ((f99 _ (by decide)).trans ((f98 _ (by decide)).trans ((f97 _ (by decide)).trans ((f96 _ (by decide)).trans ((f95 _ (by decide)).trans ((f94 _ (by decide)).trans ((f93 _ (by decide)).trans ((f92 _ (by decide)).trans ((f91 _ (by decide)).trans ((f90 _ (by decide)).trans ((f89 _ (by decide)).trans ((f88 _ (by decide)).trans ((f87 _ (by decide)).trans ((f86 _ (by decide)).trans ((f85 _ (by decide)).trans ((f84 _ (by decide)).trans ((f83 _ (by decide)).trans ((f82 _ (by decide)).trans ((f81 _ (by decide)).trans ((f80 _ (by decide)).trans ((f79 _ (by decide)).trans ((f78 _ (by decide)).trans ((f77 _ (by decide)).trans ((f76 _ (by decide)).trans ((f75 _ (by decide)).trans ((f74 _ (by decide)).trans ((f73 _ (by decide)).trans ((f72 _ (by decide)).trans ((f71 _ (by decide)).trans ((f70 _ (by decide)).trans ((f69 _ (by decide)).trans ((f68 _ (by decide)).trans ((f67 _ (by decide)).trans ((f66 _ (by decide)).trans ((f65 _ (by decide)).trans ((f64 _ (by decide)).trans ((f63 _ (by decide)).trans ((f62 _ (by decide)).trans ((f61 _ (by decide)).trans ((f60 _ (by decide)).trans ((f59 _ (by decide)).trans ((f58 _ (by decide)).trans ((f57 _ (by decide)).trans ((f56 _ (by decide)).trans ((f55 _ (by decide)).trans ((f54 _ (by decide)).trans ((f53 _ (by decide)).trans ((f52 _ (by decide)).trans ((f51 _ (by decide)).trans ((f50 _ (by decide)).trans ((f49 _ (by decide)).trans ((f48 _ (by decide)).trans ((f47 _ (by decide)).trans ((f46 _ (by decide)).trans ((f45 _ (by decide)).trans ((f44 _ (by decide)).trans ((f43 _ (by decide)).trans ((f42 _ (by decide)).trans ((f41 _ (by decide)).trans ((f40 _ (by decide)).trans ((f39 _ (by decide)).trans ((f38 _ (by decide)).trans ((f37 _ (by decide)).trans ((f36 _ (by decide)).trans ((f35 _ (by decide)).trans ((f34 _ (by decide)).trans ((f33 _ (by decide)).trans ((f32 _ (by decide)).trans ((f31 _ (by decide)).trans ((f30 _ (by decide)).trans ((f29 _ (by decide)).trans ((f28 _ (by decide)).trans ((f27 _ (by decide)).trans ((f26 _ (by decide)).trans ((f25 _ (by decide)).trans ((f24 _ (by decide)).trans ((f23 _ (by decide)).trans ((f22 _ (by decide)).trans ((f21 _ (by decide)).trans ((f20 _ (by decide)).trans e19))))))))))))))))))))))))))))))))))))))))))))))))))))))))))))))))))))))))))))))))))))))))))))))))))))))))))))))), fr141.at (by decide) (fr137.at (by decide) (fr133.at (by decide) (fr129.at (by decide) ((f127 _ (by decide)).trans ((f126 _ (by decide)).trans ((f125 _ (by decide)).trans ((f124 _ (by decide)).trans ((f123 _ (by decide)).trans ((f122 _ (by decide)).trans ((f121 _ (by decide)).trans ((f120 _ (by decide)).trans ((f119 _ (by decide)).trans ((f118 _ (by decide)).trans ((f117 _ (by decide)).trans ((f116 _ (by decide)).trans ((f115 _ (by decide)).trans ((f114 _ (by decide)).trans ((f113 _ (by decide)).trans ((f112 _ (by decide)).trans ((f111 _ (by decide)).trans ((f110 _ (by decide)).trans ((f109 _ (by decide)).trans ((f108 _ (by decide)).trans ((f107 _ (by decide)).trans ((f106 _ (by decide)).trans ((f105 _ (by decide)).trans ((f104 _ (by decide)).trans ((f103 _ (by decide)).trans ((f102 _ (by decide)).trans ((f101 _ (by decide)).trans ((f100 _ (by decide)).trans ((f99 _ (by decide)).trans ((f98 _ (by decide)).trans ((f97 _ (by decide)).trans ((f96 _ (by decide)).trans ((f95 _ (by decide)).trans ((f94 _ (by decide)).trans ((f93 _ (by decide)).trans ((f92 _ (by decide)).trans ((f91 _ (by decide)).trans ((f90 _ (by decide)).trans ((f89 _ (by decide)).trans ((f88 _ (by decide)).trans ((f87 _ (by decide)).trans ((f86 _ (by decide)).trans ((f85 _ (by decide)).trans ((f84 _ (by decide)).trans ((f83 _ (by decide)).trans ((f82 _ (by decide)).trans ((f81 _ (by decide)).trans ((f80 _ (by decide)).trans ((f79 _ (by decide)).trans ((f78 _ (by decide)).trans ((f77 _ (by decide)).trans ((f76 _ (by decide)).trans ((f75 _ (by decide)).trans ((f74 _ (by decide)).trans ((f73 _ (by decide)).trans ((f72 _ (by decide)).trans ((f71 _ (by decide)).trans ((f70 _ (by decide)).trans ((f69 _ (by decide)).trans ((f68 _ (by decide)).trans ((f67 _ (by decide)).trans ((f66 _ (by decide)).trans ((f65 _ (by decide)).trans ((f64 _ (by decide)).trans ((f63 _ (by decide)).trans ((f62 _ (by decide)).trans ((f61 _ (by decide)).trans ((f60 _ (by decide)).trans ((f59 _ (by decide)).trans ((f58 _ (by decide)).trans ((f57 _ (by decide)).trans ((f56 _ (by decide)).trans ((f55 _ (by decide)).trans ((f54 _ (by decide)).trans ((f53 _ (by decide)).trans ((f52 _ (by decide)).trans ((f51 _ (by decide)).trans ((f50 _ (by decide)).trans ((f49 _ (by decide)).trans ((f48 _ (by decide)).trans ((f47 _ (by decide)).trans ((f46 _ (by decide)).trans ((f45 _ (by decide)).trans ((f44 _ (by decide)).trans ((f43 _ (by decide)).trans ((f42 _ (by decide)).trans ((f41 _ (by decide)).trans ((f40 _ (by decide)).trans ((f39 _ (by decide)).trans ((f38 _ (by decide)).trans ((f37 _ (by decide)).trans ((f36 _ (by decide)).trans ((f35 _ (by decide)).trans ((f34 _ (by decide)).trans ((f33 _ (by decide)).trans ((f32 _ (by decide)).trans ((f31 _ (by decide)).trans ((f30 _ (by decide)).trans ((f29 _ (by decide)).trans ((f28 _ (by decide)).trans ((f27 _ (by decide)).trans ((f26 _ (by decide)).trans ((f25 _ (by decide)).trans ((f24 _ (by decide)).trans ((f23 _ (by decide)).trans ((f22 _ (by decide)).trans e21))))))))))))))))))))))))))))))))))))))))))))))))))))))))))))))))))))))))))))))))))))))))))))))))))))))))))))), fr141.at (by decide) (fr137.at (by decide) (fr133.at (by decide) (fr129.at (by decide) ((f127 _ (by decide)).trans ((f126 _ (by decide)).trans ((f125 _ (by decide)).trans ((f124 _ (by decide)).trans ((f123 _ (by decide)).trans ((f122 _ (by decide)).trans ((f121 _ (by decide)).trans ((f120 _ (by decide)).trans ((f119 _ (by decide)).trans ((f118 _ (by decide)).trans ((f117 _ (by decide)).trans ((f116 _ (by decide)).trans ((f115 _ (by decide)).trans ((f114 _ (by decide)).trans ((f113 _ (by decide)).trans ((f112 _ (by decide)).trans ((f111 _ (by decide)).trans ((f110 _ (by decide)).trans ((f109 _ (by decide)).trans ((f108 _ (by decide)).trans ((f107 _ (by decide)).trans ((f106 _ (by decide)).trans ((f105 _ (by decide)).trans ((f104 _ (by decide)).trans ((f103 _ (by decide)).trans ((f102 _ (by decide)).trans ((f101 _ (by decide)).trans ((f100 _ (by decide)).trans ((f99 _ (by decide)).trans ((f98 _ (by decide)).trans ((f97 _ (by decide)).trans ((f96 _ (by decide)).trans ((f95 _ (by decide)).trans ((f94 _ (by decide)).trans ((f93 _ (by decide)).trans ((f92 _ (by decide)).trans ((f91 _ (by decide)).trans ((f90 _ (by decide)).trans ((f89 _ (by decide)).trans ((f88 _ (by decide)).trans ((f87 _ (by decide)).trans ((f86 _ (by decide)).trans ((f85 _ (by decide)).trans ((f84 _ (by decide)).trans ((f83 _ (by decide)).trans ((f82 _ (by decide)).trans ((f81 _ (by decide)).trans ((f80 _ (by decide)).trans ((f79 _ (by decide)).trans ((f78 _ (by decide)).trans ((f77 _ (by decide)).trans ((f76 _ (by decide)).trans ((f75 _ (by decide)).trans ((f74 _ (by decide)).trans ((f73 _ (by decide)).trans ((f72 _ (by decide)).trans ((f71 _ (by decide)).trans ((f70 _ (by decide)).trans ((f69 _ (by decide)).trans ((f68 _ (by decide)).trans ((f67 _ (by decide)).trans ((f66 _ (by decide)).trans ((f65 _ (by decide)).trans ((f64 _ (by decide)).trans ((f63 _ (by decide)).trans ((f62 _ (by decide)).trans ((f61 _ (by decide)).trans ((f60 _ (by decide)).trans ((f59 _ (by decide)).trans ((f58 _ (by decide)).trans ((f57 _ (by decide)).trans ((f56 _ (by decide)).trans ((f55 _ (by decide)).trans ((f54 _ (by decide)).trans ((f53 _ (by decide)).trans ((f52 _ (by decide)).trans ((f51 _ (by decide)).trans ((f50 _ (by decide)).trans ((f49 _ (by decide)).trans ((f48 _ (by decide)).trans ((f47 _ (by decide)).trans ((f46 _ (by decide)).trans ((f45 _ (by decide)).trans ((f44 _ (by decide)).trans ((f43 _ (by decide)).trans ((f42 _ (by decide)).trans ((f41 _ (by decide)).trans ((f40 _ (by decide)).trans ((f39 _ (by decide)).trans ((f38 _ (by decide)).trans ((f37 _ (by decide)).trans ((f36 _ (by decide)).trans ((f35 _ (by decide)).trans ((f34 _ (by decide)).trans ((f33 _ (by decide)).trans ((f32 _ (by decide)).trans ((f31 _ (by decide)).trans ((f30 _ (by decide)).trans ((f29 _ (by decide)).trans ((f28 _ (by decide)).trans ((f27 _ (by decide)).trans ((f26 _ (by decide)).trans ((f25 _ (by decide)).trans ((f24 _ (by decide)).trans e23))))))))))))))))))))))))))))))))))))))))))))))))))))))))))))))))))))))))))))))))))))))))))))))))))))))))))), fr141.at (by decide) (fr137.at (by decide) (fr133.at (by decide) (fr129.at (by decide) ((f127 _ (by decide)).trans ((f126 _ (by decide)).trans ((f125 _ (by decide)).trans ((f124 _ (by decide)).trans ((f123 _ (by decide)).trans ((f122 _ (by decide)).trans ((f121 _ (by decide)).trans ((f120 _ (by decide)).trans ((f119 _ (by decide)).trans ((f118 _ (by decide)).trans ((f117 _ (by decide)).trans ((f116 _ (by decide)).trans ((f115 _ (by decide)).trans ((f114 _ (by decide)).trans ((f113 _ (by decide)).trans ((f112 _ (by decide)).trans ((f111 _ (by decide)).trans ((f110 _ (by decide)).trans ((f109 _ (by decide)).trans ((f108 _ (by decide)).trans ((f107 _ (by decide)).trans ((f106 _ (by decide)).trans ((f105 _ (by decide)).trans ((f104 _ (by decide)).trans ((f103 _ (by decide)).trans ((f102 _ (by decide)).trans ((f101 _ (by decide)).trans ((f100 _ (by decide)).trans ((f99 _ (by decide)).trans ((f98 _ (by decide)).trans ((f97 _ (by decide)).trans ((f96 _ (by decide)).trans ((f95 _ (by decide)).trans ((f94 _ (by decide)).trans ((f93 _ (by decide)).trans ((f92 _ (by decide)).trans ((f91 _ (by decide)).trans ((f90 _ (by decide)).trans ((f89 _ (by decide)).trans ((f88 _ (by decide)).trans ((f87 _ (by decide)).trans ((f86 _ (by decide)).trans ((f85 _ (by decide)).trans ((f84 _ (by decide)).trans ((f83 _ (by decide)).trans ((f82 _ (by decide)).trans ((f81 _ (by decide)).trans ((f80 _ (by decide)).trans ((f79 _ (by decide)).trans ((f78 _ (by decide)).trans ((f77 _ (by decide)).trans ((f76 _ (by decide)).trans ((f75 _ (by decide)).trans ((f74 _ (by decide)).trans ((f73 _ (by decide)).trans ((f72 _ (by decide)).trans ((f71 _ (by decide)).trans ((f70 _ (by decide)).trans ((f69 _ (by decide)).trans ((f68 _ (by decide)).trans ((f67 _ (by decide)).trans ((f66 _ (by decide)).trans ((f65 _ (by decide)).trans ((f64 _ (by decide)).trans ((f63 _ (by decide)).trans ((f62 _ (by decide)).trans ((f61 _ (by decide)).trans ((f60 _ (by decide)).trans ((f59 _ (by decide)).trans ((f58 _ (by decide)).trans ((f57 _ (by decide)).trans ((f56 _ (by decide)).trans ((f55 _ (by decide)).trans ((f54 _ (by decide)).trans ((f53 _ (by decide)).trans ((f52 _ (by decide)).trans ((f51 _ (by decide)).trans ((f50 _ (by decide)).trans ((f49 _ (by decide)).trans ((f48 _ (by decide)).trans ((f47 _ (by decide)).trans ((f46 _ (by decide)).trans ((f45 _ (by decide)).trans ((f44 _ (by decide)).trans ((f43 _ (by decide)).trans ((f42 _ (by decide)).trans ((f41 _ (by decide)).trans ((f40 _ (by decide)).trans ((f39 _ (by decide)).trans ((f38 _ (by decide)).trans ((f37 _ (by decide)).trans ((f36 _ (by decide)).trans ((f35 _ (by decide)).trans ((f34 _ (by decide)).trans ((f33 _ (by decide)).trans ((f32 _ (by decide)).trans ((f31 _ (by decide)).trans ((f30 _ (by decide)).trans ((f29 _ (by decide)).trans ((f28 _ (by decide)).trans ((f27 _ (by decide)).trans ((f26 _ (by decide)).trans e25))))))))))))))))))))))))))))))))))))))))))))))))))))))))))))))))))))))))))))))))))))))))))))))))))))))))), fr141.at (by decide) (fr137.at (by decide) (fr133.at (by decide) (fr129.at (by decide) ((f127 _ (by decide)).trans ((f126 _ (by decide)).trans ((f125 _ (by decide)).trans ((f124 _ (by decide)).trans ((f123 _ (by decide)).trans ((f122 _ (by decide)).trans ((f121 _ (by decide)).trans ((f120 _ (by decide)).trans ((f119 _ (by decide)).trans ((f118 _ (by decide)).trans ((f117 _ (by decide)).trans ((f116 _ (by decide)).trans ((f115 _ (by decide)).trans ((f114 _ (by decide)).trans ((f113 _ (by decide)).trans ((f112 _ (by decide)).trans ((f111 _ (by decide)).trans ((f110 _ (by decide)).trans ((f109 _ (by decide)).trans ((f108 _ (by decide)).trans ((f107 _ (by decide)).trans ((f106 _ (by decide)).trans ((f105 _ (by decide)).trans ((f104 _ (by decide)).trans ((f103 _ (by decide)).trans ((f102 _ (by decide)).trans ((f101 _ (by decide)).trans ((f100 _ (by decide)).trans ((f99 _ (by decide)).trans ((f98 _ (by decide)).trans ((f97 _ (by decide)).trans ((f96 _ (by decide)).trans ((f95 _ (by decide)).trans ((f94 _ (by decide)).trans ((f93 _ (by decide)).trans ((f92 _ (by decide)).trans ((f91 _ (by decide)).trans ((f90 _ (by decide)).trans ((f89 _ (by decide)).trans ((f88 _ (by decide)).trans ((f87 _ (by decide)).trans ((f86 _ (by decide)).trans ((f85 _ (by decide)).trans ((f84 _ (by decide)).trans ((f83 _ (by decide)).trans ((f82 _ (by decide)).trans ((f81 _ (by decide)).trans ((f80 _ (by decide)).trans ((f79 _ (by decide)).trans ((f78 _ (by decide)).trans ((f77 _ (by decide)).trans ((f76 _ (by decide)).trans ((f75 _ (by decide)).trans ((f74 _ (by decide)).trans ((f73 _ (by decide)).trans ((f72 _ (by decide)).trans ((f71 _ (by decide)).trans ((f70 _ (by decide)).trans ((f69 _ (by decide)).trans ((f68 _ (by decide)).trans ((f67 _ (by decide)).trans ((f66 _ (by decide)).trans ((f65 _ (by decide)).trans ((f64 _ (by decide)).trans ((f63 _ (by decide)).trans ((f62 _ (by decide)).trans ((f61 _ (by decide)).trans ((f60 _ (by decide)).trans ((f59 _ (by decide)).trans ((f58 _ (by decide)).trans ((f57 _ (by decide)).trans ((f56 _ (by decide)).trans ((f55 _ (by decide)).trans ((f54 _ (by decide)).trans ((f53 _ (by decide)).trans ((f52 _ (by decide)).trans ((f51 _ (by decide)).trans ((f50 _ (by decide)).trans ((f49 _ (by decide)).trans ((f48 _ (by decide)).trans ((f47 _ (by decide)).trans ((f46 _ (by decide)).trans ((f45 _ (by decide)).trans ((f44 _ (by decide)).trans ((f43 _ (by decide)).trans ((f42 _ (by decide)).trans ((f41 _ (by decide)).trans ((f40 _ (by decide)).trans ((f39 _ (by decide)).trans ((f38 _ (by decide)).trans ((f37 _ (by decide)).trans ((f36 _ (by decide)).trans ((f35 _ (by decide)).trans ((f34 _ (by decide)).trans ((f33 _ (by decide)).trans ((f32 _ (by decide)).trans ((f31 _ (by decide)).trans ((f30 _ (by decide)).trans ((f29 _ (by decide)).trans ((f28 _ (by decide)).trans e27))))))))))))))))))))))))))))))))))))))))))))))))))))))))))))))))))))))))))))))))))))))))))))))))))))))), fr141.at (by decide) (fr137.at (by decide) (fr133.at (by decide) (fr129.at (by decide) ((f127 _ (by decide)).trans ((f126 _ (by decide)).trans ((f125 _ (by decide)).trans ((f124 _ (by decide)).trans ((f123 _ (by decide)).trans ((f122 _ (by decide)).trans ((f121 _ (by decide)).trans ((f120 _ (by decide)).trans ((f119 _ (by decide)).trans ((f118 _ (by decide)).trans ((f117 _ (by decide)).trans ((f116 _ (by decide)).trans ((f115 _ (by decide)).trans ((f114 _ (by decide)).trans ((f113 _ (by decide)).trans ((f112 _ (by decide)).trans ((f111 _ (by decide)).trans ((f110 _ (by decide)).trans ((f109 _ (by decide)).trans ((f108 _ (by decide)).trans ((f107 _ (by decide)).trans ((f106 _ (by decide)).trans ((f105 _ (by decide)).trans ((f104 _ (by decide)).trans ((f103 _ (by decide)).trans ((f102 _ (by decide)).trans ((f101 _ (by decide)).trans ((f100 _ (by decide)).trans ((f99 _ (by decide)).trans ((f98 _ (by decide)).trans ((f97 _ (by decide)).trans ((f96 _ (by decide)).trans ((f95 _ (by decide)).trans ((f94 _ (by decide)).trans ((f93 _ (by decide)).trans ((f92 _ (by decide)).trans ((f91 _ (by decide)).trans ((f90 _ (by decide)).trans ((f89 _ (by decide)).trans ((f88 _ (by decide)).trans ((f87 _ (by decide)).trans ((f86 _ (by decide)).trans ((f85 _ (by decide)).trans ((f84 _ (by decide)).trans ((f83 _ (by decide)).trans ((f82 _ (by decide)).trans ((f81 _ (by decide)).trans ((f80 _ (by decide)).trans ((f79 _ (by decide)).trans ((f78 _ (by decide)).trans ((f77 _ (by decide)).trans ((f76 _ (by decide)).trans ((f75 _ (by decide)).trans ((f74 _ (by decide)).trans ((f73 _ (by decide)).trans ((f72 _ (by decide)).trans ((f71 _ (by decide)).trans ((f70 _ (by decide)).trans ((f69 _ (by decide)).trans ((f68 _ (by decide)).trans ((f67 _ (by decide)).trans ((f66 _ (by decide)).trans ((f65 _ (by decide)).trans ((f64 _ (by decide)).trans ((f63 _ (by decide)).trans ((f62 _ (by decide)).trans ((f61 _ (by decide)).trans ((f60 _ (by decide)).trans ((f59 _ (by decide)).trans ((f58 _ (by decide)).trans ((f57 _ (by decide)).trans ((f56 _ (by decide)).trans ((f55 _ (by decide)).trans ((f54 _ (by decide)).trans ((f53 _ (by decide)).trans ((f52 _ (by decide)).trans ((f51 _ (by decide)).trans ((f50 _ (by decide)).trans ((f49 _ (by decide)).trans ((f48 _ (by decide)).trans ((f47 _ (by decide)).trans ((f46 _ (by decide)).trans ((f45 _ (by decide)).trans ((f44 _ (by decide)).trans ((f43 _ (by decide)).trans ((f42 _ (by decide)).trans ((f41 _ (by decide)).trans ((f40 _ (by decide)).trans ((f39 _ (by decide)).trans ((f38 _ (by decide)).trans ((f37 _ (by decide)).trans ((f36 _ (by decide)).trans ((f35 _ (by decide)).trans ((f34 _ (by decide)).trans ((f33 _ (by decide)).trans ((f32 _ (by decide)).trans ((f31 _ (by decide)).trans ((f30 _ (by decide)).trans e29))))))))))))))))))))))))))))))))))))))))))))))))))))))))))))))))))))))))))))))))))))))))))))))))))))), fr141.at (by decide) (fr137.at (by decide) (fr133.at (by decide) (fr129.at (by decide) ((f127 _ (by decide)).trans ((f126 _ (by decide)).trans ((f125 _ (by decide)).trans ((f124 _ (by decide)).trans ((f123 _ (by decide)).trans ((f122 _ (by decide)).trans ((f121 _ (by decide)).trans ((f120 _ (by decide)).trans ((f119 _ (by decide)).trans ((f118 _ (by decide)).trans ((f117 _ (by decide)).trans ((f116 _ (by decide)).trans ((f115 _ (by decide)).trans ((f114 _ (by decide)).trans ((f113 _ (by decide)).trans ((f112 _ (by decide)).trans ((f111 _ (by decide)).trans ((f110 _ (by decide)).trans ((f109 _ (by decide)).trans ((f108 _ (by decide)).trans ((f107 _ (by decide)).trans ((f106 _ (by decide)).trans ((f105 _ (by decide)).trans ((f104 _ (by decide)).trans ((f103 _ (by decide)).trans ((f102 _ (by decide)).trans ((f101 _ (by decide)).trans ((f100 _ (by decide)).trans ((f99 _ (by decide)).trans ((f98 _ (by decide)).trans ((f97 _ (by decide)).trans ((f96 _ (by decide)).trans ((f95 _ (by decide)).trans ((f94 _ (by decide)).trans ((f93 _ (by decide)).trans ((f92 _ (by decide)).trans ((f91 _ (by decide)).trans ((f90 _ (by decide)).trans ((f89 _ (by decide)).trans ((f88 _ (by decide)).trans ((f87 _ (by decide)).trans ((f86 _ (by decide)).trans ((f85 _ (by decide)).trans ((f84 _ (by decide)).trans ((f83 _ (by decide)).trans ((f82 _ (by decide)).trans ((f81 _ (by decide)).trans ((f80 _ (by decide)).trans ((f79 _ (by decide)).trans ((f78 _ (by decide)).trans ((f77 _ (by decide)).trans ((f76 _ (by decide)).trans ((f75 _ (by decide)).trans ((f74 _ (by decide)).trans ((f73 _ (by decide)).trans ((f72 _ (by decide)).trans ((f71 _ (by decide)).trans ((f70 _ (by decide)).trans ((f69 _ (by decide)).trans ((f68 _ (by decide)).trans ((f67 _ (by decide)).trans ((f66 _ (by decide)).trans ((f65 _ (by decide)).trans ((f64 _ (by decide)).trans ((f63 _ (by decide)).trans ((f62 _ (by decide)).trans ((f61 _ (by decide)).trans ((f60 _ (by decide)).trans ((f59 _ (by decide)).trans ((f58 _ (by decide)).trans ((f57 _ (by decide)).trans ((f56 _ (by decide)).trans ((f55 _ (by decide)).trans ((f54 _ (by decide)).trans ((f53 _ (by decide)).trans ((f52 _ (by decide)).trans ((f51 _ (by decide)).trans ((f50 _ (by decide)).trans ((f49 _ (by decide)).trans ((f48 _ (by decide)).trans ((f47 _ (by decide)).trans ((f46 _ (by decide)).trans ((f45 _ (by decide)).trans ((f44 _ (by decide)).trans ((f43 _ (by decide)).trans ((f42 _ (by decide)).trans ((f41 _ (by decide)).trans ((f40 _ (by decide)).trans ((f39 _ (by decide)).trans ((f38 _ (by decide)).trans ((f37 _ (by decide)).trans ((f36 _ (by decide)).trans ((f35 _ (by decide)).trans ((f34 _ (by decide)).trans ((f33 _ (by decide)).trans e32)))))))))))))))))))))))))))))))))))))))))))))))))))))))))))))))))))))))))))))))))))))))))))))))))), fr141.at (by decide) (fr137.at (by decide) (fr133.at (by decide) (fr129.at (by decide) ((f127 _ (by decide)).trans ((f126 _ (by decide)).trans ((f125 _ (by decide)).trans ((f124 _ (by decide)).trans ((f123 _ (by decide)).trans ((f122 _ (by decide)).trans ((f121 _ (by decide)).trans ((f120 _ (by decide)).trans ((f119 _ (by decide)).trans ((f118 _ (by decide)).trans ((f117 _ (by decide)).trans ((f116 _ (by decide)).trans ((f115 _ (by decide)).trans ((f114 _ (by decide)).trans ((f113 _ (by decide)).trans ((f112 _ (by decide)).trans ((f111 _ (by decide)).trans ((f110 _ (by decide)).trans ((f109 _ (by decide)).trans ((f108 _ (by decide)).trans ((f107 _ (by decide)).trans ((f106 _ (by decide)).trans ((f105 _ (by decide)).trans ((f104 _ (by decide)).trans ((f103 _ (by decide)).trans ((f102 _ (by decide)).trans ((f101 _ (by decide)).trans ((f100 _ (by decide)).trans ((f99 _ (by decide)).trans ((f98 _ (by decide)).trans ((f97 _ (by decide)).trans ((f96 _ (by decide)).trans ((f95 _ (by decide)).trans ((f94 _ (by decide)).trans ((f93 _ (by decide)).trans ((f92 _ (by decide)).trans ((f91 _ (by decide)).trans ((f90 _ (by decide)).trans ((f89 _ (by decide)).trans ((f88 _ (by decide)).trans ((f87 _ (by decide)).trans ((f86 _ (by decide)).trans ((f85 _ (by decide)).trans ((f84 _ (by decide)).trans ((f83 _ (by decide)).trans ((f82 _ (by decide)).trans ((f81 _ (by decide)).trans ((f80 _ (by decide)).trans ((f79 _ (by decide)).trans ((f78 _ (by decide)).trans ((f77 _ (by decide)).trans ((f76 _ (by decide)).trans ((f75 _ (by decide)).trans ((f74 _ (by decide)).trans ((f73 _ (by decide)).trans ((f72 _ (by decide)).trans ((f71 _ (by decide)).trans ((f70 _ (by decide)).trans ((f69 _ (by decide)).trans ((f68 _ (by decide)).trans ((f67 _ (by decide)).trans ((f66 _ (by decide)).trans ((f65 _ (by decide)).trans ((f64 _ (by decide)).trans ((f63 _ (by decide)).trans ((f62 _ (by decide)).trans ((f61 _ (by decide)).trans ((f60 _ (by decide)).trans ((f59 _ (by decide)).trans ((f58 _ (by decide)).trans ((f57 _ (by decide)).trans ((f56 _ (by decide)).trans ((f55 _ (by decide)).trans ((f54 _ (by decide)).trans ((f53 _ (by decide)).trans ((f52 _ (by decide)).trans ((f51 _ (by decide)).trans ((f50 _ (by decide)).trans ((f49 _ (by decide)).trans ((f48 _ (by decide)).trans ((f47 _ (by decide)).trans ((f46 _ (by decide)).trans ((f45 _ (by decide)).trans ((f44 _ (by decide)).trans ((f43 _ (by decide)).trans ((f42 _ (by decide)).trans ((f41 _ (by decide)).trans ((f40 _ (by decide)).trans ((f39 _ (by decide)).trans e38)))))))))))))))))))))))))))))))))))))))))))))))))))))))))))))))))))))))))))))))))))))))))))), fr141.at (by decide) (fr137.at (by decide) (fr133.at (by decide) (fr129.at (by decide) ((f127 _ (by decide)).trans ((f126 _ (by decide)).trans ((f125 _ (by decide)).trans ((f124 _ (by decide)).trans ((f123 _ (by decide)).trans ((f122 _ (by decide)).trans ((f121 _ (by decide)).trans ((f120 _ (by decide)).trans ((f119 _ (by decide)).trans ((f118 _ (by decide)).trans ((f117 _ (by decide)).trans ((f116 _ (by decide)).trans ((f115 _ (by decide)).trans ((f114 _ (by decide)).trans ((f113 _ (by decide)).trans ((f112 _ (by decide)).trans ((f111 _ (by decide)).trans ((f110 _ (by decide)).trans ((f109 _ (by decide)).trans ((f108 _ (by decide)).trans ((f107 _ (by decide)).trans ((f106 _ (by decide)).trans ((f105 _ (by decide)).trans ((f104 _ (by decide)).trans ((f103 _ (by decide)).trans ((f102 _ (by decide)).trans ((f101 _ (by decide)).trans ((f100 _ (by decide)).trans ((f99 _ (by decide)).trans ((f98 _ (by decide)).trans ((f97 _ (by decide)).trans ((f96 _ (by decide)).trans ((f95 _ (by decide)).trans ((f94 _ (by decide)).trans ((f93 _ (by decide)).trans ((f92 _ (by decide)).trans ((f91 _ (by decide)).trans ((f90 _ (by decide)).trans ((f89 _ (by decide)).trans ((f88 _ (by decide)).trans ((f87 _ (by decide)).trans ((f86 _ (by decide)).trans ((f85 _ (by decide)).trans ((f84 _ (by decide)).trans ((f83 _ (by decide)).trans ((f82 _ (by decide)).trans ((f81 _ (by decide)).trans ((f80 _ (by decide)).trans ((f79 _ (by decide)).trans ((f78 _ (by decide)).trans ((f77 _ (by decide)).trans ((f76 _ (by decide)).trans ((f75 _ (by decide)).trans ((f74 _ (by decide)).trans ((f73 _ (by decide)).trans ((f72 _ (by decide)).trans ((f71 _ (by decide)).trans ((f70 _ (by decide)).trans ((f69 _ (by decide)).trans ((f68 _ (by decide)).trans ((f67 _ (by decide)).trans ((f66 _ (by decide)).trans ((f65 _ (by decide)).trans ((f64 _ (by decide)).trans ((f63 _ (by decide)).trans ((f62 _ (by decide)).trans ((f61 _ (by decide)).trans ((f60 _ (by decide)).trans ((f59 _ (by decide)).trans ((f58 _ (by decide)).trans ((f57 _ (by decide)).trans ((f56 _ (by decide)).trans ((f55 _ (by decide)).trans ((f54 _ (by decide)).trans ((f53 _ (by decide)).trans ((f52 _ (by decide)).trans ((f51 _ (by decide)).trans ((f50 _ (by decide)).trans ((f49 _ (by decide)).trans ((f48 _ (by decide)).trans ((f47 _ (by decide)).trans ((f46 _ (by decide)).trans ((f45 _ (by decide)).trans ((f44 _ (by decide)).trans ((f43 _ (by decide)).trans ((f42 _ (by decide)).trans ((f41 _ (by decide)).trans e40)))))))))))))))))))))))))))))))))))))))))))))))))))))))))))))))))))))))))))))))))))))))))), fr141.at (by decide) (fr137.at (by decide) (fr133.at (by decide) (fr129.at (by decide) ((f127 _ (by decide)).trans e126)))), ⟨fr141.at (by decide) (fr137.at (by decide) (fr133.at (by decide) (fr129.at (by decide) ((f127 _ (by decide)).trans ((f126 _ (by decide)).trans ((f125 _ (by decide)).trans ((f124 _ (by decide)).trans ((f123 _ (by decide)).trans ((f122 _ (by decide)).trans ((f121 _ (by decide)).trans ((f120 _ (by decide)).trans ((f119 _ (by decide)).trans ((f118 _ (by decide)).trans ((f117 _ (by decide)).trans ((f116 _ (by decide)).trans ((f115 _ (by decide)).trans ((f114 _ (by decide)).trans ((f113 _ (by decide)).trans ((f112 _ (by decide)).trans ((f111 _ (by decide)).trans ((f110 _ (by decide)).trans ((f109 _ (by decide)).trans ((f108 _ (by decide)).trans ((f107 _ (by decide)).trans ((f106 _ (by decide)).trans ((f105 _ (by decide)).trans ((f104 _ (by decide)).trans ((f103 _ (by decide)).trans ((f102 _ (by decide)).trans ((f101 _ (by decide)).trans ((f100 _ (by decide)).trans ((f99 _ (by decide)).trans ((f98 _ (by decide)).trans ((f97 _ (by decide)).trans ((f96 _ (by decide)).trans ((f95 _ (by decide)).trans ((f94 _ (by decide)).trans ((f93 _ (by decide)).trans ((f92 _ (by decide)).trans ((f91 _ (by decide)).trans ((f90 _ (by decide)).trans ((f89 _ (by decide)).trans ((f88 _ (by decide)).trans ((f87 _ (by decide)).trans ((f86 _ (by decide)).trans ((f85 _ (by decide)).trans ((f84 _ (by decide)).trans ((f83 _ (by decide)).trans ((f82 _ (by decide)).trans ((f81 _ (by decide)).trans ((f80 _ (by decide)).trans ((f79 _ (by decide)).trans ((f78 _ (by decide)).trans ((f77 _ (by decide)).trans ((f76 _ (by decide)).trans ((f75 _ (by decide)).trans ((f74 _ (by decide)).trans ((f73 _ (by decide)).trans ((f72 _ (by decide)).trans ((f71 _ (by decide)).trans ((f70 _ (by decide)).trans ((f69 _ (by decide)).trans ((f68 _ (by decide)).trans ((f67 _ (by decide)).trans ((f66 _ (by decide)).trans ((f65 _ (by decide)).trans ((f64 _ (by decide)).trans ((f63 _ (by decide)).trans ((f62 _ (by decide)).trans ((f61 _ (by decide)).trans ((f60 _ (by decide)).trans ((f59 _ (by decide)).trans ((f58 _ (by decide)).trans ((f57 _ (by decide)).trans ((f56 _ (by decide)).trans ((f55 _ (by decide)).trans ((f54 _ (by decide)).trans ((f53 _ (by decide)).trans ((f52 _ (by decide)).trans ((f51 _ (by decide)).trans ((f50 _ (by decide)).trans ((f49 _ (by decide)).trans ((f48 _ (by decide)).trans ((f47 _ (by decide)).trans ((f46 _ (by decide)).trans ((f45 _ (by decide)).trans ((f44 _ (by decide)).trans ((f43 _ (by decide)).trans ((f42 _ (by decide)).trans ((f41 _ (by decide)).trans ((f40 _ (by decide)).trans ((f39 _ (by decide)).trans ((f38 _ (by decide)).trans ((f37 _ (by decide)).trans ((f36 _ (by decide)).trans ((f35 _ (by decide)).trans ((f34 _ (by decide)).trans ((f33 _ (by decide)).trans ((f32 _ (by decide)).trans ((f31 _ (by decide)).trans ((f30 _ (by decide)).trans ((f29 _ (by decide)).trans ((f28 _ (by decide)).trans ((f27 _ (by decide)).trans ((f26 _ (by decide)).trans ((f25 _ (by decide)).trans ((f24 _ (by decide)).trans ((f23 _ (by decide)).trans ((f22 _ (by decide)).trans ((f21 _ (by decide)).trans ((f20 _ (by decide)).trans ((f19 _ (by decide)).trans ((f18 _ (by decide)).trans ((f17 _ (by decide)).trans ((f16 _ (by decide)).trans ((f15 _ (by decide)).trans ((f14 _ (by decide)).trans e13))))))))))))))))))))))))))))))))))))))))))))))))))))))))))))))))))))))))))))))))))))))))))))))))))))))))))))))))))))), ⟨_, fr141.at (by decide) (fr137.at (by decide) (fr133.at (by decide) (fr129.at (by decide) ((f127 _ (by decide)).trans ((f126 _ (by decide)).trans ((f125 _ (by decide)).trans ((f124 _ (by decide)).trans ((f123 _ (by decide)).trans ((f122 _ (by decide)).trans ((f121 _ (by decide)).trans ((f120 _ (by decide)).trans ((f119 _ (by decide)).trans ((f118 _ (by decide)).trans ((f117 _ (by decide)).trans ((f116 _ (by decide)).trans ((f115 _ (by decide)).trans ((f114 _ (by decide)).trans ((f113 _ (by decide)).trans ((f112 _ (by decide)).trans ((f111 _ (by decide)).trans ((f110 _ (by decide)).trans ((f109 _ (by decide)).trans ((f108 _ (by decide)).trans ((f107 _ (by decide)).trans e106)))))))))))))))))))))))), by decide +kernel⟩, ⟨_, fr141.at (by decide) (fr137.at (by decide) (fr133.at (by decide) (fr129.at (by decide) ((f127 _ (by decide)).trans ((f126 _ (by decide)).trans ((f125 _ (by decide)).trans ((f124 _ (by decide)).trans ((f123 _ (by decide)).trans ((f122 _ (by decide)).trans ((f121 _ (by decide)).trans ((f120 _ (by decide)).trans ((f119 _ (by decide)).trans ((f118 _ (by decide)).trans ((f117 _ (by decide)).trans e116)))))))))))))), by decide +kernel⟩, ⟨_, fr141.at (by decide) (fr137.at (by decide) (fr133.at (by decide) (fr129.at (by decide) ((f127 _ (by decide)).trans ((f126 _ (by decide)).trans ((f125 _ (by decide)).trans ((f124 _ (by decide)).trans ((f123 _ (by decide)).trans ((f122 _ (by decide)).trans ((f121 _ (by decide)).trans ((f120 _ (by decide)).trans ((f119 _ (by decide)).trans e118))))))))))))⟩, ⟨_, fr141.at (by decide) (fr137.at (by decide) (fr133.at (by decide) (fr129.at (by decide) ((f127 _ (by decide)).trans ((f126 _ (by decide)).trans ((f125 _ (by decide)).trans ((f124 _ (by decide)).trans ((f123 _ (by decide)).trans ((f122 _ (by decide)).trans ((f121 _ (by decide)).trans e120))))))))))⟩, ⟨_, fr141.at (by decide) (fr137.at (by decide) (fr133.at (by decide) (fr129.at (by decide) ((f127 _ (by decide)).trans ((f126 _ (by decide)).trans ((f125 _ (by decide)).trans ((f124 _ (by decide)).trans ((f123 _ (by decide)).trans e122))))))))⟩, ⟨_, fr141.at (by decide) (fr137.at (by decide) (fr133.at (by decide) (fr129.at (by decide) ((f127 _ (by decide)).trans ((f126 _ (by decide)).trans ((f125 _ (by decide)).trans e124))))))⟩⟩, (p142).v⟩ (Nat.le_of_ble_eq_true rfl) (Nat.le_of_ble_eq_true rfl)
