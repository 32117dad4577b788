set_option maxHeartbeats 4000000 in
set_option maxRecDepth 100000 in
theorem c_limbOrZero (G : gG) (d n : Nat) (ex : Bool) (h : gH) {w a N u i : Nat} {f : Nat → Int32} (hw : h w = some (.inr (9, [.ref a, .int (nI u)]))) (ha : h a = some (.inl (0, N, .inl f))) (hu : u ≤ N) (hN : N < 2 ^ 31) (hi : i < 2 ^ 31) : g_M G mX9_limbOrZero d 0 0 [.ref w, .int (nI i)] n ex h (q_l n ex [] h (fun r _ => r = lN (if i < u then un (f i) else 0))) := by
  refine g_enter (by decide) (Nat.le_of_ble_eq_true rfl) ?_
  show g_W G _ _ _ n ex h 0 0 0 [(0, .ref w), (1, .int (nI i))] []
  have ne_w_a : w ≠ a := g_ap hw ha (by intro q; cases q)
  refine g_iload_n dX9_limbOrZero_0 rfl rfl ?_
  refine g_aload_n dX9_limbOrZero_1 rfl rfl ?_
  refine g_getf dX9_limbOrZero_2 fX9_15 hw rfl ?_
  refine g_icmp_geN (tgt := 22) dX9_limbOrZero_5 (by decide) (by omega) (by omega) (fun c5 => ?_) (fun c5 => ?_)
  · refine g_lconst (v := lN 0) dX9_limbOrZero_22 (by decide) ?_
    exact e_l dX9_limbOrZero_23 rfl g_fr.rf (by first | rw [if_pos c5] | rw [if_neg (by omega)]) (by decide) (by decide)
  · refine g_aload_n dX9_limbOrZero_8 rfl rfl ?_
    refine g_getf dX9_limbOrZero_9 fX9_9 hw rfl ?_
    refine g_iload_n dX9_limbOrZero_12 rfl rfl ?_
    refine g_ialdN dX9_limbOrZero_13 ha (by omega) (by omega) ?_
    refine g_i2l dX9_limbOrZero_14 ?_
    refine g_ldc2 dX9_limbOrZero_15 kX9_40 rfl ?_
    refine g_topl (show (4294967295 : Int64) = lN 4294967295 by decide) ?_
    refine g_land dX9_limbOrZero_18 ?_
    refine g_topl (show ((f i).toInt64) &&& (lN 4294967295) = lN (un (f i)) from un_mask _) ?_
    refine g_goto (tgt := 23) dX9_limbOrZero_19 (by decide) ?_
    exact e_l dX9_limbOrZero_23 rfl g_fr.rf (by first | rw [if_pos c5] | rw [if_neg (by omega)]) (by decide) (by decide)
/-- what append leaves -/
def ap_P (N L u : Nat) (f : Nat → Int32) (u' : Nat) (f' : Nat → Int32) : Prop := u ≤ u' ∧ u' ≤ N ∧ (∀ j, j < u → f' j = f j) ∧ wv f' u' = wv f u + L * 2 ^ (32 * u) ∧ (L = 0 → u' = u) ∧ (L ≠ 0 → u < u' ∧ f' (u' - 1) ≠ 0)
theorem ap_0 {N u : Nat} {f : Nat → Int32} (hu : u ≤ N) : ap_P N 0 u f u f := ⟨Nat.le_refl _, hu, fun _ _ => rfl, by omega, fun _ => rfl, fun z => absurd rfl z⟩
theorem ap_s {N L u u' : Nat} {f f' : Nat → Int32} (hL : L ≠ 0) (hP : ap_P N (L / 4294967296) (u + 1) (upd f u (nI L)) u' f') : ap_P N L u f u' f' := by
  obtain ⟨h1, h2, h3, h4, h5, h6⟩ := hP
  refine ⟨by omega, h2, fun j hj => by rw [h3 j (by omega), pk_un (by omega)], ?_, fun z => absurd z hL, fun _ => ⟨by omega, ?_⟩⟩
  · rw [h4, wv_put, un_nIm, p32]
    have e1 : L / 4294967296 * (2 ^ (32 * u) * 4294967296) = (L / 4294967296 * 4294967296) * 2 ^ (32 * u) := by
      rw [Nat.mul_comm (2 ^ (32 * u)) 4294967296, ← Nat.mul_assoc]
    rw [e1, Nat.add_assoc, ← Nat.add_mul]
    congr 2
    omega
  · by_cases hz : L / 4294967296 = 0
    · rw [h5 hz]
      show f' u ≠ 0
      rw [h3 u (by omega), pk_us]
      intro q
      have q2 : un (nI L) = 0 := by rw [q]; rfl
      rw [un_nIm] at q2
      omega
    · exact (h6 hz).2
theorem ap_room {N L u : Nat} (h : L < 2 ^ (32 * (N - u))) (hL : L ≠ 0) : u < N ∧ L / 4294967296 < 2 ^ (32 * (N - (u + 1))) := by
  have h1 : u < N := by
    rcases Nat.lt_or_ge u N with q | q
    · exact q
    · rw [show N - u = 0 by omega] at h
      omega
  refine ⟨h1, ?_⟩
  rw [show N - u = (N - (u + 1)) + 1 by omega, p32] at h
  exact Nat.div_lt_of_lt_mul (by rw [Nat.mul_comm]; exact h)
set_option maxHeartbeats 4000000 in
set_option maxRecDepth 100000 in
theorem lp_append (G : gG) (R : Room) (n : Nat) (ex : Bool) (h0 : gH) {w a N V : Nat} {P : gH → Prop} (hN : N < 2 ^ 31) : ∀ (m L u : Nat) (f : Nat → Int32) (h : gH), L < m → u ≤ N → L < 2 ^ (32 * (N - u)) → L < 2 ^ 63 → h w = some (.inr (9, [.ref a, .int (nI u)])) → h a = some (.inl (0, N, .inl f)) → g_fr [w, a] h0 h →
    (∀ (u' : Nat) (f' : Nat → Int32) (h' : gH), h' w = some (.inr (9, [.ref a, .int (nI u')])) → h' a = some (.inl (0, N, .inl f')) → ap_P N L u f u' f' → P h') → g_W G mX9_append R (g_K G (q_v n ex [w, a] h0 P) 0 0) n ex h 0 0 2 [(3, .long (lN L)), (0, .ref w), (1, .long (lN V))] [] := by
  intro m
  induction m with
  | zero => intro L u f h hm; exact absurd hm (by omega)
  | succ m ih =>
    intro L u f h hm hu hr hL hw ha hf hP
    have ne_w_a : w ≠ a := g_ap hw ha (by intro q; cases q)
    refine g_lload_n dX9_append_2 rfl rfl ?_
    refine g_lconst (v := lN 0) dX9_append_3 (by decide) ?_
    refine g_lc_eqN (tgt := 49) dX9_append_4 dX9_append_5 (by decide) (by omega) (by omega) (fun c4 => ?_) (fun c4 => ?_)
    · exact e_v dX9_append_49 rfl hf (hP u f _ hw ha (by rw [c4]; exact ap_0 hu)) (by decide) (by decide)
    · refine g_aload_n dX9_append_8 rfl rfl ?_
      refine g_getf dX9_append_9 fX9_15 hw rfl ?_
      refine g_aload_n dX9_append_12 rfl rfl ?_
      refine g_getf dX9_append_13 fX9_9 hw rfl ?_
      refine g_aleni dX9_append_16 (by decide) ha ?_
      refine g_icmp_geN (tgt := 49) dX9_append_17 (by decide) (by omega) (by omega) (fun c17 => ?_) (fun c17 => ?_)
      · exact absurd c17 (by have := (ap_room hr c4).1; omega)
      · refine g_aload_n dX9_append_20 rfl rfl ?_
        refine g_getf dX9_append_21 fX9_9 hw rfl ?_
        refine g_aload_n dX9_append_24 rfl rfl ?_
        refine g_getf dX9_append_25 fX9_15 hw rfl ?_
        refine g_lload_n dX9_append_28 rfl rfl ?_
        refine g_l2iN dX9_append_29 ?_
        refine g_iastN dX9_append_30 ha (by omega) (by omega) ?_
        refine g_aload_n dX9_append_31 rfl rfl ?_
        refine g_dup dX9_append_32 rfl ?_
        refine g_getf dX9_append_33 fX9_15 (g_ne ne_w_a hw) rfl ?_
        refine g_iconst (v := nI 1) dX9_append_36 (by decide) ?_
        refine g_iaddN dX9_append_37 ?_
        refine g_put (fs' := [.ref a, .int (nI (u + 1))]) dX9_append_38 fX9_15 (g_ne ne_w_a hw) (Nat.le_of_ble_eq_true rfl) rfl rfl rfl ?_
        refine g_lload_n dX9_append_41 rfl rfl ?_
        refine g_bipush (v := nI 32) dX9_append_42 (by decide) ?_
        refine g_lushr dX9_append_44 ?_
        refine g_topl (show ((lN L).toUInt64 >>> ((nI 32).toInt64.toUInt64 &&& Int64.toUInt64 63)).toInt64 = lN (L / 4294967296) from lN_sh32 (by omega)) ?_
        refine g_lstore_n (ls' := [(3, .long (lN (L / 4294967296))), (0, .ref w), (1, .long (lN V))]) dX9_append_45 rfl (by decide) rfl ?_
        refine g_goto (tgt := 2) dX9_append_46 (by decide) ?_
        refine ih (L / 4294967296) (u + 1) (upd f u (nI L)) _ (by omega) (by omega) (ap_room hr c4).2 (by omega) g_eq (g_ne (Ne.symm ne_w_a) g_eq) ((hf.up (by simp)).up (by simp)) (fun u' f' h' q1 q2 q3 => hP u' f' h' q1 q2 (ap_s c4 q3))
