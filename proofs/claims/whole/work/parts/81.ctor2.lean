/-- Tests under way: k pairs are made -/
def Tj (h : gH) (k : Nat) : Prop := h 17 = some (.inr (8, [.ref 18, .ref 19, .int (nI 0), .int (nI 0), .int (nI 0)])) ∧ (∃ f, h 18 = some (.inl (4, 16, .inr (.inr (.inr (.inr f))))) ∧ ∀ j, j < k → f j = some (24 + 6 * j)) ∧ FrR h 19 328 ∧ ∀ j, j < k → FrR h (24 + 6 * j + 1) 104 ∧ h (24 + 6 * j) = some (.inr (5, [.ref (24 + 6 * j + 1), .int (nI 0), .int (nI 0), .int (nI 0), .int (nI 0), .int (nI 0)]))
theorem mSP17 {i : Nat} (h1 : 17 ≤ i) (h2 : i < 120) : i ∈ List.range' 17 103 := by rw [List.mem_range'_1]; omega
set_option maxHeartbeats 4000000 in
set_option maxRecDepth 100000 in
theorem l_newTests (G : gG) (d : Nat) (h0 : gH) : ∀ (g k : Nat), k + g = 16 → ∀ (h : gH) (cc ss : Nat), cc + 6 * g ≤ 102 → ss + 220 * g ≤ 4198 → Tj h k → g_fr (List.range' 17 103) h0 h → g_W G mX8_init (g_rm (d + 4) 102 4198) (g_K G (q_c 120 (List.range' 17 103) h0 (fun h' => Te h' 0 0 0 ∧ TeR h')) 102 4198) (24 + 6 * k) true h cc ss 29 [(1, .int (nI k)), (0, .ref 17)] [] := by
  intro g
  induction g with
  | zero =>
    intro k hk h cc ss hc hs z hf
    have ek : k = 16 := by omega
    subst ek
    refine g_iload_n dX8_init_29 rfl rfl ?_
    refine g_bipush (v := nI 16) dX8_init_30 (by decide) ?_
    refine g_icmp_geN (tgt := 54) dX8_init_32 (by decide) (by decide) (by decide) (fun c32 => ?_) (fun c32 => absurd c32 (by decide))
    obtain ⟨z1, ⟨f, z2, z3⟩, z4, z5⟩ := z
    exact e_c dX8_init_54 rfl rfl hf ⟨⟨z1, f, z2, z3⟩, fun k hk => ⟨(z5 k hk).1, _, _, _, _, _, (z5 k hk).2⟩, z4⟩ (by omega) (by omega)
  | succ g ih =>
    intro k hk h cc ss hc hs z hf
    obtain ⟨z1, ⟨f, z2, z3⟩, z4, z5⟩ := z
    refine g_iload_n dX8_init_29 rfl rfl ?_
    refine g_bipush (v := nI 16) dX8_init_30 (by decide) ?_
    refine g_icmp_geN (tgt := 54) dX8_init_32 (by decide) (by omega) (by omega) (fun c32 => ?_) (fun c32 => ?_)
    · exact absurd c32 (by omega)
    · refine g_aload_n dX8_init_35 rfl rfl ?_
      refine g_getf dX8_init_36 fX8_11 z1 rfl ?_
      refine g_iload_n dX8_init_39 rfl rfl ?_
      refine k_new (i0 := 24 + 6 * k) (n1 := 24 + 6 * k + 1) (fs := [.null, .int (nI 0), .int (nI 0), .int (nI 0), .int (nI 0), .int (nI 0)]) dX8_init_40 clX5 ⟨List.mem_of_getElem? (i := 222) (by decide +kernel), rfl⟩ ⟨List.mem_of_getElem? (i := 262) (by decide +kernel), rfl⟩ ⟨List.mem_of_getElem? (i := 57) (by decide +kernel), rfl⟩ (k_df (fs' := [.null, .int (nI 0), .int (nI 0), .int (nI 0), .int (nI 0), .int (nI 0)]) rfl (by decide)) (by simp only [g_rm]; omega) (by simp only [g_rm]; omega) rfl rfl ?_
      refine g_dup dX8_init_43 rfl ?_
      refine cIN (st := [.ref (24 + 6 * k), .int (nI k), .ref 18]) dX8_init_44 (c_newPair G d _ (i := 24 + 6 * k) g_eq) rfl rfl sX8_26 nX8_26 rfl (by simp only [g_rm]; omega) (by simp only [g_rm]; (try show _ + 41 * _ ≤ _); omega) (Nat.le_of_ble_eq_true rfl) ⟨(by simp only [g_rm]; omega), (by simp only [g_rm]; omega)⟩ (fun h1 fr2 p3 => ?_)
      refine k_aast dX8_init_47 (fr2.at (by simp only [List.mem_cons, List.not_mem_nil, or_false]; omega) (g_ne (by omega) z2)) p3.1 (by omega) (by decide) ?_
      refine g_iincN (z := 1) (ls' := [(1, .int (nI (k + 1))), (0, .ref 17)]) dX8_init_48 rfl (by decide) rfl ?_
      refine g_goto (tgt := 29) dX8_init_51 (by decide) ?_
      refine ih (k + 1) (by omega) _ _ _ (by omega) (by omega) ⟨g_ne (by decide) (fr2.at (by simp only [List.mem_cons, List.not_mem_nil, or_false]; omega) (g_ne (by omega) z1)), ⟨_, g_eq, fun j hj => ?_⟩, ?_, fun j hj => ?_⟩ (((hf.up (mSP17 (by omega) (by omega))).tr fr2 (fun i hi => mSP17 (by simp only [List.mem_cons, List.not_mem_nil, or_false] at hi; omega) (by simp only [List.mem_cons, List.not_mem_nil, or_false] at hi; omega))).up (mSP17 (by omega) (by omega)))
      · by_cases ej : j = k
        · subst ej; exact if_pos rfl
        · exact (if_neg ej).trans (z3 j (by omega))
      · refine ((z4.fr (g_fr.rf' (i := 24 + 6 * k)) (by simp only [List.mem_cons, List.not_mem_nil, or_false]; omega) (by simp only [List.mem_cons, List.not_mem_nil, or_false]; omega) (by simp only [List.mem_cons, List.not_mem_nil, or_false]; omega) (by simp only [List.mem_cons, List.not_mem_nil, or_false]; omega) (by simp only [List.mem_cons, List.not_mem_nil, or_false]; omega)).fr fr2 (by simp only [List.mem_cons, List.not_mem_nil, or_false]; omega) (by simp only [List.mem_cons, List.not_mem_nil, or_false]; omega) (by simp only [List.mem_cons, List.not_mem_nil, or_false]; omega) (by simp only [List.mem_cons, List.not_mem_nil, or_false]; omega) (by simp only [List.mem_cons, List.not_mem_nil, or_false]; omega)).fr (g_fr.rf' (i := 18)) (by simp only [List.mem_cons, List.not_mem_nil, or_false]; omega) (by simp only [List.mem_cons, List.not_mem_nil, or_false]; omega) (by simp only [List.mem_cons, List.not_mem_nil, or_false]; omega) (by simp only [List.mem_cons, List.not_mem_nil, or_false]; omega) (by simp only [List.mem_cons, List.not_mem_nil, or_false]; omega)
      · by_cases ej : j = k
        · subst ej; exact ⟨((p3.2).r).fr (g_fr.rf' (i := 18)) (by simp only [List.mem_cons, List.not_mem_nil, or_false]; omega) (by simp only [List.mem_cons, List.not_mem_nil, or_false]; omega) (by simp only [List.mem_cons, List.not_mem_nil, or_false]; omega) (by simp only [List.mem_cons, List.not_mem_nil, or_false]; omega) (by simp only [List.mem_cons, List.not_mem_nil, or_false]; omega), g_ne (by omega) p3.1⟩
        · refine ⟨(((z5 j (by omega)).1.fr (g_fr.rf' (i := 24 + 6 * k)) (by simp only [List.mem_cons, List.not_mem_nil, or_false]; omega) (by simp only [List.mem_cons, List.not_mem_nil, or_false]; omega) (by simp only [List.mem_cons, List.not_mem_nil, or_false]; omega) (by simp only [List.mem_cons, List.not_mem_nil, or_false]; omega) (by simp only [List.mem_cons, List.not_mem_nil, or_false]; omega)).fr fr2 (by simp only [List.mem_cons, List.not_mem_nil, or_false]; omega) (by simp only [List.mem_cons, List.not_mem_nil, or_false]; omega) (by simp only [List.mem_cons, List.not_mem_nil, or_false]; omega) (by simp only [List.mem_cons, List.not_mem_nil, or_false]; omega) (by simp only [List.mem_cons, List.not_mem_nil, or_false]; omega)).fr (g_fr.rf' (i := 18)) (by simp only [List.mem_cons, List.not_mem_nil, or_false]; omega) (by simp only [List.mem_cons, List.not_mem_nil, or_false]; omega) (by simp only [List.mem_cons, List.not_mem_nil, or_false]; omega) (by simp only [List.mem_cons, List.not_mem_nil, or_false]; omega) (by simp only [List.mem_cons, List.not_mem_nil, or_false]; omega), g_ne (by omega) (fr2.at (by simp only [List.mem_cons, List.not_mem_nil, or_false]; omega) (g_ne (by omega) (z5 j (by omega)).2))⟩
set_option maxHeartbeats 4000000 in
set_option maxRecDepth 100000 in
theorem c_newTests (G : gG) (d : Nat) (h : gH) (h0 : h 17 = some (.inr (8, [.null, .null, .int (nI 0), .int (nI 0), .int (nI 0)]))) : g_M G mX8_init (d + 4) 102 4198 [.ref 17] 18 true h (q_c 120 (List.range' 17 103) h (fun h' => Te h' 0 0 0 ∧ TeR h')) := by
  refine g_enter (by decide) (Nat.le_of_ble_eq_true rfl) ?_
  show g_W G _ _ _ 18 true h 0 0 0 [(0, .ref 17)] []
  refine g_aload_n dX8_init_0 rfl rfl ?_
  refine g_objInit dX8_init_1 (List.mem_of_getElem? (i := 221) (by decide +kernel)) rfl (by decide) (by simp only [g_rm]; omega) (by simp only [g_rm]; omega) w_oi w_oc ?_
  refine g_aload_n dX8_init_4 rfl rfl ?_
  refine g_bipush (v := nI 16) dX8_init_5 (by decide) ?_
  refine k_newQ (i0 := 18) (n1 := 19) dX8_init_7 (List.mem_of_getElem? (i := 222) (by decide +kernel)) rfl (by decide) (Nat.le_of_ble_eq_true rfl) (Nat.le_of_ble_eq_true rfl) rfl rfl ?_
  refine g_putFin (fs' := [.ref 18, .null, .int (nI 0), .int (nI 0), .int (nI 0)]) dX8_init_10 fX8_11 rfl rfl (g_ne (by decide) h0) (Nat.le_of_ble_eq_true rfl) rfl rfl rfl ?_
  refine g_aload_n dX8_init_13 rfl rfl ?_
  refine k_new (i0 := 19) (n1 := 20) (fs := [.null, .null]) dX8_init_14 clX2 ⟨List.mem_of_getElem? (i := 224) (by decide +kernel), rfl⟩ ⟨List.mem_of_getElem? (i := 225) (by decide +kernel), rfl⟩ ⟨List.mem_of_getElem? (i := 55) (by decide +kernel), rfl⟩ (k_df (fs' := [.null, .null]) rfl (by decide)) (Nat.le_of_ble_eq_true rfl) (Nat.le_of_ble_eq_true rfl) rfl rfl ?_
  refine g_dup dX8_init_17 rfl ?_
  refine g_sipush (v := nI 328) dX8_init_18 (by decide) ?_
  refine cI (st := [.ref 19, .ref 17]) dX8_init_21 (c_newFraction G (d + 1) _ (i := 19) (N := 328) g_eq (by decide) (by decide)) rfl rfl sX8_19 rfl (by simp only [g_rm]; omega) (by simp only [g_rm]; (try show _ + 41 * _ ≤ _); omega) (Nat.le_of_ble_eq_true rfl) ⟨(Nat.le_of_ble_eq_true rfl), (Nat.le_of_ble_eq_true rfl)⟩ (fun h1 fr2 p3 => ?_)
  refine g_putFin (fs' := [.ref 18, .ref 19, .int (nI 0), .int (nI 0), .int (nI 0)]) dX8_init_24 fX8_22 rfl rfl (fr2.at (by decide) (g_ne (by decide) g_eq)) (Nat.le_of_ble_eq_true rfl) rfl rfl rfl ?_
  refine g_iconst (v := nI 0) dX8_init_27 (by decide) ?_
  refine g_istore_n (ls' := [(1, .int (nI 0)), (0, .ref 17)]) dX8_init_28 rfl (by decide) rfl ?_
  refine l_newTests G d h 16 0 rfl _ _ _ (by decide) (by decide) ⟨g_eq, ⟨_, g_ne (by decide) (fr2.at (by decide) (g_ne (by decide) (g_ne (by decide) g_eq))), fun j hj => absurd hj (by omega)⟩, (p3.r).fr (g_fr.rf' (i := 17)) (by decide) (by decide) (by decide) (by decide) (by decide), fun j hj => absurd hj (by omega)⟩ (((((g_fr.rf.up (by decide)).up (by decide)).up (by decide)).tr fr2 (by decide)).up (by decide))
abbrev SSu : List Nat := 0 :: List.range' 6 136
abbrev SCo : List Nat := 0 :: List.range' 8 134
abbrev SSd : List Nat := 0 :: List.range' 12 130
abbrev SDl : List Nat := 0 :: List.range' 17 125
abbrev STe : List Nat := 0 :: List.range' 120 22
abbrev SFc : List Nat := 0 :: List.range' 123 19
abbrev SOd : List Nat := 0 :: List.range' 137 5
set_option maxHeartbeats 4000000 in
set_option maxRecDepth 100000 in
theorem c_newAudit (G : gG) (d : Nat) (h : gH) (h0 : h 0 = some (.inr (10, [.null, .null, .null, .null, .null, .null, .null, .null, .int (nI 0), .int (nI 0), .int (nI 0)]))) : g_M G mX10_init (d + 5) 141 40000 [.ref 0] 1 true h (q_c 142 (List.range' 0 142) h (fun h' => Au h' 0 0 0 ∧ Su h' s0 (fun _ => 0) (fun _ => 0) (fun _ => 0) (fun _ => 0) ∧ Co h' (fun _ => 0) 0 ∧ Sd h' (fun _ => 0) 0 ∧ Dl h' (fun _ => 0) (fun _ => 0) (fun _ => 0) (fun k => nI ((fun _ => 0) k)) 0 0 0 ∧ Te h' 0 0 0 ∧ TeR h' ∧ Fc h' (fun _ => 0) (fun _ => 0) 0 0 ∧ Od h' ∧ Fr h' 137 328 0 1)) := by
  refine g_enter (by decide) (Nat.le_of_ble_eq_true rfl) ?_
  show g_W G _ _ _ 1 true h 0 0 0 [(0, .ref 0)] []
  refine g_aload_n dX10_init_0 rfl rfl ?_
  refine g_objInit dX10_init_1 (List.mem_of_getElem? (i := 74) (by decide +kernel)) rfl (by decide) (by simp only [g_rm]; omega) (by simp only [g_rm]; omega) w_oi w_oc ?_
  refine g_aload_n dX10_init_4 rfl rfl ?_
  refine k_new (i0 := 1) (n1 := 2) (fs := [.null, .null, .null, .null, .int (nI 0), .int (nI 0), .int (nI 0), .int (nI 0), .int (nI 0), .int (nI 0), .int (nI 0), .int (nI 0), .int (nI 0)]) dX10_init_5 clX7 ⟨List.mem_of_getElem? (i := 77) (by decide +kernel), rfl⟩ ⟨List.mem_of_getElem? (i := 78) (by decide +kernel), rfl⟩ ⟨List.mem_of_getElem? (i := 50) (by decide +kernel), rfl⟩ (k_df (fs' := [.null, .null, .null, .null, .int (nI 0), .int (nI 0), .int (nI 0), .int (nI 0), .int (nI 0), .int (nI 0), .int (nI 0), .int (nI 0), .int (nI 0)]) rfl (by decide)) (Nat.le_of_ble_eq_true rfl) (Nat.le_of_ble_eq_true rfl) rfl rfl ?_
  refine g_dup dX10_init_8 rfl ?_
  refine cIN (st := [.ref 1, .ref 0]) dX10_init_9 (c_newSetup G (d + 3) _ g_eq) rfl rfl sX10_11 nX10_11 rfl (by simp only [g_rm]; omega) (by simp only [g_rm]; (try show _ + 41 * _ ≤ _); omega) (Nat.le_of_ble_eq_true rfl) ⟨(Nat.le_of_ble_eq_true rfl), (Nat.le_of_ble_eq_true rfl)⟩ (fun h1 fr2 p3 => ?_)
  refine g_putFin (fs' := [.ref 1, .null, .null, .null, .null, .null, .null, .null, .int (nI 0), .int (nI 0), .int (nI 0)]) dX10_init_12 fX10_12 rfl rfl (fr2.at (by decide) (g_ne (by decide) h0)) (Nat.le_of_ble_eq_true rfl) rfl rfl rfl ?_
  refine g_aload_n dX10_init_15 rfl rfl ?_
  refine k_new (i0 := 6) (n1 := 7) (fs := [.null, .int (nI 0), .int (nI 0)]) dX10_init_16 clX0 ⟨List.mem_of_getElem? (i := 147) (by decide +kernel), rfl⟩ ⟨List.mem_of_getElem? (i := 148) (by decide +kernel), rfl⟩ ⟨List.mem_of_getElem? (i := 51) (by decide +kernel), rfl⟩ (k_df (fs' := [.null, .int (nI 0), .int (nI 0)]) rfl (by decide)) (Nat.le_of_ble_eq_true rfl) (Nat.le_of_ble_eq_true rfl) rfl rfl ?_
  refine g_dup dX10_init_19 rfl ?_
  refine cIN (st := [.ref 6, .ref 0]) dX10_init_20 (c_newCoins G (d + 3) _ g_eq) rfl rfl sX10_18 nX10_18 rfl (by simp only [g_rm]; omega) (by simp only [g_rm]; (try show _ + 41 * _ ≤ _); omega) (Nat.le_of_ble_eq_true rfl) ⟨(Nat.le_of_ble_eq_true rfl), (Nat.le_of_ble_eq_true rfl)⟩ (fun h4 fr5 p6 => ?_)
  refine g_putFin (fs' := [.ref 1, .ref 6, .null, .null, .null, .null, .null, .null, .int (nI 0), .int (nI 0), .int (nI 0)]) dX10_init_23 fX10_19 rfl rfl (fr5.at (by decide) (g_ne (by decide) g_eq)) (Nat.le_of_ble_eq_true rfl) rfl rfl rfl ?_
  refine g_aload_n dX10_init_26 rfl rfl ?_
  refine k_new (i0 := 8) (n1 := 9) (fs := [.null, .null, .null, .int (nI 0)]) dX10_init_27 clX6 ⟨List.mem_of_getElem? (i := 164) (by decide +kernel), rfl⟩ ⟨List.mem_of_getElem? (i := 165) (by decide +kernel), rfl⟩ ⟨List.mem_of_getElem? (i := 52) (by decide +kernel), rfl⟩ (k_df (fs' := [.null, .null, .null, .int (nI 0)]) rfl (by decide)) (Nat.le_of_ble_eq_true rfl) (Nat.le_of_ble_eq_true rfl) rfl rfl ?_
  refine g_dup dX10_init_30 rfl ?_
  refine cIN (st := [.ref 8, .ref 0]) dX10_init_31 (c_newSeed G (d + 3) _ g_eq) rfl rfl sX10_25 nX10_25 rfl (by simp only [g_rm]; omega) (by simp only [g_rm]; (try show _ + 41 * _ ≤ _); omega) (Nat.le_of_ble_eq_true rfl) ⟨(Nat.le_of_ble_eq_true rfl), (Nat.le_of_ble_eq_true rfl)⟩ (fun h7 fr8 p9 => ?_)
  refine g_putFin (fs' := [.ref 1, .ref 6, .ref 8, .null, .null, .null, .null, .null, .int (nI 0), .int (nI 0), .int (nI 0)]) dX10_init_34 fX10_26 rfl rfl (fr8.at (by decide) (g_ne (by decide) g_eq)) (Nat.le_of_ble_eq_true rfl) rfl rfl rfl ?_
  refine g_aload_n dX10_init_37 rfl rfl ?_
  refine k_new (i0 := 12) (n1 := 13) (fs := [.null, .null, .null, .null, .int (nI 0), .int (nI 0), .int (nI 0)]) dX10_init_38 clX1 ⟨List.mem_of_getElem? (i := 184) (by decide +kernel), rfl⟩ ⟨List.mem_of_getElem? (i := 185) (by decide +kernel), rfl⟩ ⟨List.mem_of_getElem? (i := 53) (by decide +kernel), rfl⟩ (k_df (fs' := [.null, .null, .null, .null, .int (nI 0), .int (nI 0), .int (nI 0)]) rfl (by decide)) (Nat.le_of_ble_eq_true rfl) (Nat.le_of_ble_eq_true rfl) rfl rfl ?_
  refine g_dup dX10_init_41 rfl ?_
  refine cIN (st := [.ref 12, .ref 0]) dX10_init_42 (c_newLog G (d + 3) _ g_eq) rfl rfl sX10_32 nX10_32 rfl (by simp only [g_rm]; omega) (by simp only [g_rm]; (try show _ + 41 * _ ≤ _); omega) (Nat.le_of_ble_eq_true rfl) ⟨(Nat.le_of_ble_eq_true rfl), (Nat.le_of_ble_eq_true rfl)⟩ (fun h10 fr11 p12 => ?_)
  refine g_putFin (fs' := [.ref 1, .ref 6, .ref 8, .ref 12, .null, .null, .null, .null, .int (nI 0), .int (nI 0), .int (nI 0)]) dX10_init_45 fX10_33 rfl rfl (fr11.at (by decide) (g_ne (by decide) g_eq)) (Nat.le_of_ble_eq_true rfl) rfl rfl rfl ?_
  refine g_aload_n dX10_init_48 rfl rfl ?_
  refine k_new (i0 := 17) (n1 := 18) (fs := [.null, .null, .int (nI 0), .int (nI 0), .int (nI 0)]) dX10_init_49 clX8 ⟨List.mem_of_getElem? (i := 216) (by decide +kernel), rfl⟩ ⟨List.mem_of_getElem? (i := 217) (by decide +kernel), rfl⟩ ⟨List.mem_of_getElem? (i := 54) (by decide +kernel), rfl⟩ (k_df (fs' := [.null, .null, .int (nI 0), .int (nI 0), .int (nI 0)]) rfl (by decide)) (Nat.le_of_ble_eq_true rfl) (Nat.le_of_ble_eq_true rfl) rfl rfl ?_
  refine g_dup dX10_init_52 rfl ?_
  refine cI (st := [.ref 17, .ref 0]) dX10_init_53 (c_newTests G (d) _ g_eq) rfl rfl sX10_39 rfl (by simp only [g_rm]; omega) (by simp only [g_rm]; (try show _ + 41 * _ ≤ _); omega) (Nat.le_of_ble_eq_true rfl) ⟨(Nat.le_of_ble_eq_true rfl), (Nat.le_of_ble_eq_true rfl)⟩ (fun h13 fr14 p15 => ?_)
  refine g_putFin (fs' := [.ref 1, .ref 6, .ref 8, .ref 12, .ref 17, .null, .null, .null, .int (nI 0), .int (nI 0), .int (nI 0)]) dX10_init_56 fX10_40 rfl rfl (fr14.at (by decide) (g_ne (by decide) g_eq)) (Nat.le_of_ble_eq_true rfl) rfl rfl rfl ?_
  refine g_aload_n dX10_init_59 rfl rfl ?_
  refine k_new (i0 := 120) (n1 := 121) (fs := [.null, .null, .int (nI 0), .int (nI 0)]) dX10_init_60 clX3 ⟨List.mem_of_getElem? (i := 318) (by decide +kernel), rfl⟩ ⟨List.mem_of_getElem? (i := 319) (by decide +kernel), rfl⟩ ⟨List.mem_of_getElem? (i := 58) (by decide +kernel), rfl⟩ (k_df (fs' := [.null, .null, .int (nI 0), .int (nI 0)]) rfl (by decide)) (Nat.le_of_ble_eq_true rfl) (Nat.le_of_ble_eq_true rfl) rfl rfl ?_
  refine g_dup dX10_init_63 rfl ?_
  refine cIN (st := [.ref 120, .ref 0]) dX10_init_64 (c_newCount G (d + 3) _ g_eq) rfl rfl sX10_46 nX10_46 rfl (by simp only [g_rm]; omega) (by simp only [g_rm]; (try show _ + 41 * _ ≤ _); omega) (Nat.le_of_ble_eq_true rfl) ⟨(Nat.le_of_ble_eq_true rfl), (Nat.le_of_ble_eq_true rfl)⟩ (fun h16 fr17 p18 => ?_)
  refine g_putFin (fs' := [.ref 1, .ref 6, .ref 8, .ref 12, .ref 17, .ref 120, .null, .null, .int (nI 0), .int (nI 0), .int (nI 0)]) dX10_init_67 fX10_47 rfl rfl (fr17.at (by decide) (g_ne (by decide) g_eq)) (Nat.le_of_ble_eq_true rfl) rfl rfl rfl ?_
  refine g_aload_n dX10_init_70 rfl rfl ?_
  refine k_new (i0 := 123) (n1 := 124) (fs := [.null, .null, .null, .null, .null, .null]) dX10_init_71 clX4 ⟨List.mem_of_getElem? (i := 340) (by decide +kernel), rfl⟩ ⟨List.mem_of_getElem? (i := 341) (by decide +kernel), rfl⟩ ⟨List.mem_of_getElem? (i := 59) (by decide +kernel), rfl⟩ (k_df (fs' := [.null, .null, .null, .null, .null, .null]) rfl (by decide)) (Nat.le_of_ble_eq_true rfl) (Nat.le_of_ble_eq_true rfl) rfl rfl ?_
  refine g_dup dX10_init_74 rfl ?_
  refine cIN (st := [.ref 123, .ref 0]) dX10_init_75 (c_newOdds G (d + 1) _ g_eq) rfl rfl sX10_53 nX10_53 rfl (by simp only [g_rm]; omega) (by simp only [g_rm]; (try show _ + 41 * _ ≤ _); omega) (Nat.le_of_ble_eq_true rfl) ⟨(Nat.le_of_ble_eq_true rfl), (Nat.le_of_ble_eq_true rfl)⟩ (fun h19 fr20 p21 => ?_)
  refine g_putFin (fs' := [.ref 1, .ref 6, .ref 8, .ref 12, .ref 17, .ref 120, .ref 123, .null, .int (nI 0), .int (nI 0), .int (nI 0)]) dX10_init_78 fX10_54 rfl rfl (fr20.at (by decide) (g_ne (by decide) g_eq)) (Nat.le_of_ble_eq_true rfl) rfl rfl rfl ?_
  refine g_aload_n dX10_init_81 rfl rfl ?_
  refine k_new (i0 := 137) (n1 := 138) (fs := [.null, .null]) dX10_init_82 clX2 ⟨List.mem_of_getElem? (i := 370) (by decide +kernel), rfl⟩ ⟨List.mem_of_getElem? (i := 225) (by decide +kernel), rfl⟩ ⟨List.mem_of_getElem? (i := 55) (by decide +kernel), rfl⟩ (k_df (fs' := [.null, .null]) rfl (by decide)) (Nat.le_of_ble_eq_true rfl) (Nat.le_of_ble_eq_true rfl) rfl rfl ?_
  refine g_dup dX10_init_85 rfl ?_
  refine g_sipush (v := nI 328) dX10_init_86 (by decide) ?_
  refine cI (st := [.ref 137, .ref 0]) dX10_init_89 (c_newFraction G (d + 2) _ (i := 137) (N := 328) g_eq (by decide) (by decide)) rfl rfl sX10_60 rfl (by simp only [g_rm]; omega) (by simp only [g_rm]; (try show _ + 41 * _ ≤ _); omega) (Nat.le_of_ble_eq_true rfl) ⟨(Nat.le_of_ble_eq_true rfl), (Nat.le_of_ble_eq_true rfl)⟩ (fun h22 fr23 p24 => ?_)
  refine g_putFin (fs' := [.ref 1, .ref 6, .ref 8, .ref 12, .ref 17, .ref 120, .ref 123, .ref 137, .int (nI 0), .int (nI 0), .int (nI 0)]) dX10_init_92 fX10_63 rfl rfl (fr23.at (by decide) (g_ne (by decide) g_eq)) (Nat.le_of_ble_eq_true rfl) rfl rfl rfl ?_
  refine g_aload_n dX10_init_95 rfl rfl ?_
  refine g_iconst (v := nI 0) dX10_init_96 (by decide) ?_
  refine g_put (fs' := [.ref 1, .ref 6, .ref 8, .ref 12, .ref 17, .ref 120, .ref 123, .ref 137, .int (nI 0), .int (nI 0), .int (nI 0)]) dX10_init_97 fX10_67 g_eq (Nat.le_of_ble_eq_true rfl) rfl rfl rfl ?_
  exact e_c dX10_init_100 rfl rfl (((((((((((((((((((((((((g_fr.rf.up (by decide)).tr fr2 (by decide)).up (by decide)).up (by decide)).tr fr5 (by decide)).up (by decide)).up (by decide)).tr fr8 (by decide)).up (by decide)).up (by decide)).tr fr11 (by decide)).up (by decide)).up (by decide)).tr fr14 (by decide)).up (by decide)).up (by decide)).tr fr17 (by decide)).up (by decide)).up (by decide)).tr fr20 (by decide)).up (by decide)).up (by decide)).tr fr23 (by decide)).up (by decide)).up (by decide)) ⟨g_eq, (p3).fr ((((((((((((((((((((((((g_fr.rf (S := SSu)).up (by decide)).up (by decide)).tr fr5 (by decide)).up (by decide)).up (by decide)).tr fr8 (by decide)).up (by decide)).up (by decide)).tr fr11 (by decide)).up (by decide)).up (by decide)).tr fr14 (by decide)).up (by decide)).up (by decide)).tr fr17 (by decide)).up (by decide)).up (by decide)).tr fr20 (by decide)).up (by decide)).up (by decide)).tr fr23 (by decide)).up (by decide)).up (by decide)) (by decide), (p6).fr (((((((((((((((((((((g_fr.rf (S := SCo)).up (by decide)).up (by decide)).tr fr8 (by decide)).up (by decide)).up (by decide)).tr fr11 (by decide)).up (by decide)).up (by decide)).tr fr14 (by decide)).up (by decide)).up (by decide)).tr fr17 (by decide)).up (by decide)).up (by decide)).tr fr20 (by decide)).up (by decide)).up (by decide)).tr fr23 (by decide)).up (by decide)).up (by decide)) (by decide) (by decide), (p9).fr ((((((((((((((((((g_fr.rf (S := SSd)).up (by decide)).up (by decide)).tr fr11 (by decide)).up (by decide)).up (by decide)).tr fr14 (by decide)).up (by decide)).up (by decide)).tr fr17 (by decide)).up (by decide)).up (by decide)).tr fr20 (by decide)).up (by decide)).up (by decide)).tr fr23 (by decide)).up (by decide)).up (by decide)) (by decide), (p12).fr (((((((((((((((g_fr.rf (S := SDl)).up (by decide)).up (by decide)).tr fr14 (by decide)).up (by decide)).up (by decide)).tr fr17 (by decide)).up (by decide)).up (by decide)).tr fr20 (by decide)).up (by decide)).up (by decide)).tr fr23 (by decide)).up (by decide)).up (by decide)) (by decide), (p15.1).fr ((((((((((((g_fr.rf (S := STe)).up (by decide)).up (by decide)).tr fr17 (by decide)).up (by decide)).up (by decide)).tr fr20 (by decide)).up (by decide)).up (by decide)).tr fr23 (by decide)).up (by decide)).up (by decide)) (by decide) (by decide), (p15.2).fr ((((((((((((g_fr.rf (S := STe)).up (by decide)).up (by decide)).tr fr17 (by decide)).up (by decide)).up (by decide)).tr fr20 (by decide)).up (by decide)).up (by decide)).tr fr23 (by decide)).up (by decide)).up (by decide)) (by decide), (p18).fr (((((((((g_fr.rf (S := SFc)).up (by decide)).up (by decide)).tr fr20 (by decide)).up (by decide)).up (by decide)).tr fr23 (by decide)).up (by decide)).up (by decide)) (by decide) (by decide) (by decide), (p21).fr ((((((g_fr.rf (S := SOd)).up (by decide)).up (by decide)).tr fr23 (by decide)).up (by decide)).up (by decide)) (by decide), (p24).fr (((g_fr.rf (S := [0])).up (by decide)).up (by decide)) (by decide) (by decide) (by decide) (by decide) (by decide)⟩ (Nat.le_of_ble_eq_true rfl) (Nat.le_of_ble_eq_true rfl)
