/-- limbs with noughts behind the used ones -/
def wz (f : Nat → Int32) (u : Nat) : Nat → Int32 := fun k => if k < u then f k else 0
theorem wz_un (f : Nat → Int32) (u i : Nat) : un (wz f u i) = if i < u then un (f i) else 0 := by
  unfold wz
  by_cases q : i < u
  · rw [if_pos q, if_pos q]
  · rw [if_neg q, if_neg q]; rfl
theorem wz_wv {f : Nat → Int32} {u i : Nat} (h : u ≤ i) : wv (wz f u) i = wv f u := by
  induction i with
  | zero => rw [show u = 0 by omega]; rfl
  | succ i ih =>
    by_cases q : u = i + 1
    · rw [← q]
      exact wv_congr (fun j hj => if_pos hj)
    · show wv (wz f u) i + un (wz f u i) * _ = _
      rw [ih (by omega), wz_un, if_neg (by omega), Nat.zero_mul, Nat.add_zero]
theorem add_step {F1 F2 g : Nat → Int32} {i c S : Nat} (hc : c ≤ 1) (hS : S = un (F1 i) + un (F2 i) + c) (hI : wv g i + c * 2 ^ (32 * i) = wv F1 i + wv F2 i) : S / 4294967296 ≤ 1 ∧ wv (upd g i (nI S)) (i + 1) + S / 4294967296 * 2 ^ (32 * (i + 1)) = wv F1 (i + 1) + wv F2 (i + 1) := by
  have h1 := un_lt (F1 i)
  have h2 := un_lt (F2 i)
  refine ⟨by omega, ?_⟩
  rw [wv_put, un_nIm, p32]
  have e1 : S / 4294967296 * (2 ^ (32 * i) * 4294967296) = (S / 4294967296 * 4294967296) * 2 ^ (32 * i) := by
    rw [Nat.mul_comm (2 ^ (32 * i)) 4294967296, ← Nat.mul_assoc]
  rw [e1, Nat.add_assoc, ← Nat.add_mul, show S % 4294967296 + S / 4294967296 * 4294967296 = S by omega]
  show _ = wv F1 i + un (F1 i) * 2 ^ (32 * i) + (wv F2 i + un (F2 i) * 2 ^ (32 * i))
  rw [hS, Nat.add_mul, Nat.add_mul]
  omega
theorem add_end {f1 f2 g f' : Nat → Int32} {u1 u2 mx u' c N : Nat} (hm : mx = max u1 u2) (n1 : u1 = 0 ∨ f1 (u1 - 1) ≠ 0) (n2 : u2 = 0 ∨ f2 (u2 - 1) ≠ 0) (hI : wv g mx + c * 2 ^ (32 * mx) = wv (wz f1 u1) mx + wv (wz f2 u2) mx) (hP : ap_P N c mx g u' f') : wv f' u' = wv f1 u1 + wv f2 u2 ∧ (u' = 0 ∨ f' (u' - 1) ≠ 0) := by
  obtain ⟨h1, h2, h3, h4, h5, h6⟩ := hP
  have e1 : wv f' u' = wv f1 u1 + wv f2 u2 := by rw [h4, hI, wz_wv (by omega), wz_wv (by omega)]
  refine ⟨e1, ?_⟩
  by_cases hc : c = 0
  · have hu := h5 hc
    refine wv_norm.mpr ?_
    rw [e1, hu]
    rcases wv_norm.mp n1 with q1 | q1
    · rcases wv_norm.mp n2 with q2 | q2
      · exact Or.inl (by omega)
      · refine Or.inr (Nat.le_trans ?_ (Nat.le_add_left _ _))
        rw [hm, q1, Nat.max_eq_right (Nat.zero_le _)]; exact q2
    · rcases wv_norm.mp n2 with q2 | q2
      · refine Or.inr (Nat.le_trans ?_ (Nat.le_add_right _ _))
        rw [hm, q2, Nat.max_eq_left (Nat.zero_le _)]; exact q1
      · rcases Nat.le_total u1 u2 with z | z
        · refine Or.inr (Nat.le_trans ?_ (Nat.le_add_left _ _))
          rw [hm, Nat.max_eq_right z]; exact q2
        · refine Or.inr (Nat.le_trans ?_ (Nat.le_add_right _ _))
          rw [hm, Nat.max_eq_left z]; exact q1
  · exact Or.inr (h6 hc).2
set_option maxHeartbeats 4000000 in
set_option maxRecDepth 100000 in
theorem lp_add (G : gG) (d n : Nat) (ex : Bool) (h0 : gH) {w a N w2 a2 N2 u1 u2 mx : Nat} {f1 f2 : Nat → Int32} (hN : N < 2 ^ 31) (hN2 : N2 < 2 ^ 31) (emx : mx = max u1 u2) (hm : mx ≤ N) (hu1 : u1 ≤ N) (hu2 : u2 ≤ N2) (n1 : u1 = 0 ∨ f1 (u1 - 1) ≠ 0) (n2 : u2 = 0 ∨ f2 (u2 - 1) ≠ 0) (hVN : wv f1 u1 + wv f2 u2 < 2 ^ (32 * N)) (hww : w ≠ w2) (haa : a ≠ a2) : ∀ (m i c : Nat) (g : Nat → Int32) (h : gH), mx - i < m → i ≤ mx → c ≤ 1 → wv g i + c * 2 ^ (32 * i) = wv (wz f1 u1) i + wv (wz f2 u2) i → (∀ j, i ≤ j → g j = f1 j) → h w = some (.inr (9, [.ref a, .int (nI u1)])) → h a = some (.inl (0, N, .inl g)) → h w2 = some (.inr (9, [.ref a2, .int (nI u2)])) → h a2 = some (.inl (0, N2, .inl f2)) → g_fr [w, a] h0 h →
    g_W G mX9_add (g_rm (d + 1) 0 0) (g_K G (q_v n ex [w, a] h0 (fun h' => Wh h' w a N (wv f1 u1 + wv f2 u2))) 0 0) n ex h 0 0 25 [(5, .int (nI i)), (3, .long (lN c)), (2, .int (nI mx)), (0, .ref w), (1, .ref w2)] [] := by
  intro m
  induction m with
  | zero => intro i c g h hm; exact absurd hm (by omega)
  | succ m ih =>
    intro i c g h hmm hi hc hI hg hw ha hw2 ha2 hf
    have ne_w_a : w ≠ a := g_ap hw ha (by intro q; cases q)
    have ne_w_a2 : w ≠ a2 := g_ap hw ha2 (by intro q; cases q)
    have ne_a_w2 : a ≠ w2 := g_ap ha hw2 (by intro q; cases q)
    have ne_w2_a2 : w2 ≠ a2 := g_ap hw2 ha2 (by intro q; cases q)
    have hx1 := un_lt (g i)
    have hx2 := un_lt (f2 i)
    have eS : (if i < u1 then un (g i) else 0) + (if i < u2 then un (f2 i) else 0) + c = un (wz f1 u1 i) + un (wz f2 u2 i) + c := by rw [wz_un, wz_un, hg i (Nat.le_refl _)]
    have bS1 : (if i < u1 then un (g i) else 0) < 4294967296 := by split <;> omega
    have bS2 : (if i < u2 then un (f2 i) else 0) < 4294967296 := by split <;> omega
    refine g_iload dX9_add_25 rfl ?_
    refine g_iload_n dX9_add_27 rfl rfl ?_
    refine g_icmp_geN (tgt := 70) dX9_add_28 (by decide) (by omega) (by omega) (fun c28 => ?_) (fun c28 => ?_)
    · have him : mx = i := by omega
      subst him
      refine g_aload_n dX9_add_70 rfl rfl ?_
      refine g_iload_n dX9_add_71 rfl rfl ?_
      refine g_put (fs' := [.ref a, .int (nI mx)]) dX9_add_72 fX9_15 hw (Nat.le_of_ble_eq_true rfl) rfl rfl rfl ?_
      refine g_aload_n dX9_add_75 rfl rfl ?_
      refine g_lload_n dX9_add_76 rfl rfl ?_
      refine cVv (st := []) dX9_add_77 (c_append G d n ex (g_up h w (.inr (9, [.ref a, .int (nI mx)]))) g_eq (g_ne (Ne.symm ne_w_a) ha) hm hN (by omega) (room_of hm (A := wv g mx) (by rw [hI, wz_wv (by omega), wz_wv (by omega)]; exact hVN))) sX9_19 g_eq rfl rfl (by simp only [g_rm]; omega) (by simp only [g_rm]; omega) (Nat.le_of_ble_eq_true rfl) ⟨Nat.le_of_ble_eq_true rfl, Nat.le_of_ble_eq_true rfl⟩ (fun h1 fr2 p3 => ?_)
      obtain ⟨u', f', q1, q2, q3⟩ := p3
      obtain ⟨q4, q5⟩ := add_end emx n1 n2 hI q3
      exact e_v dX9_add_80 rfl ((hf.up (by simp)).tr fr2 (fun _ q => q)) ⟨u', f', q1, q2, q3.2.1, q4, q5⟩ (by decide) (by decide)
    · refine g_aload_n dX9_add_31 rfl rfl ?_
      refine g_iload dX9_add_32 rfl ?_
      refine cVl (st := []) dX9_add_34 (c_limbOrZero G d n ex h hw ha hu1 hN (by omega)) sX9_32 hw rfl rfl (by simp only [g_rm]; omega) (by simp only [g_rm]; omega) (Nat.le_of_ble_eq_true rfl) ⟨Nat.le_of_ble_eq_true rfl, Nat.le_of_ble_eq_true rfl⟩ (fun r8 h5 fr6 p7 => ?_)
      cases g_fr0 fr6
      subst p7
      refine g_aload_n dX9_add_37 rfl rfl ?_
      refine g_iload dX9_add_38 rfl ?_
      refine cVl (st := [.long (lN (if i < u1 then un (g i) else 0))]) dX9_add_40 (c_limbOrZero G d n ex h hw2 ha2 hu2 hN2 (by omega)) sX9_32 hw2 rfl rfl (by simp only [g_rm]; omega) (by simp only [g_rm]; omega) (Nat.le_of_ble_eq_true rfl) ⟨Nat.le_of_ble_eq_true rfl, Nat.le_of_ble_eq_true rfl⟩ (fun r12 h9 fr10 p11 => ?_)
      cases g_fr0 fr10
      subst p11
      refine g_laddN dX9_add_43 ?_
      refine g_lload_n dX9_add_44 rfl rfl ?_
      refine g_laddN dX9_add_45 ?_
      refine g_lstore (ls' := [(6, .long (lN (((if i < u1 then un (g i) else 0) + (if i < u2 then un (f2 i) else 0)) + c))), (5, .int (nI i)), (3, .long (lN c)), (2, .int (nI mx)), (0, .ref w), (1, .ref w2)]) dX9_add_46 (by decide) rfl ?_
      refine g_aload_n dX9_add_48 rfl rfl ?_
      refine g_getf dX9_add_49 fX9_9 hw rfl ?_
      refine g_iload dX9_add_52 rfl ?_
      refine g_lload dX9_add_54 rfl ?_
      refine g_l2iN dX9_add_56 ?_
      refine g_iastN dX9_add_57 ha (by omega) (by omega) ?_
      refine g_lload dX9_add_58 rfl ?_
      refine g_bipush (v := nI 32) dX9_add_60 (by decide) ?_
      refine g_lushr dX9_add_62 ?_
      refine g_topl (show ((lN (((if i < u1 then un (g i) else 0) + (if i < u2 then un (f2 i) else 0)) + c)).toUInt64 >>> ((nI 32).toInt64.toUInt64 &&& Int64.toUInt64 63)).toInt64 = lN (((if i < u1 then un (g i) else 0) + (if i < u2 then un (f2 i) else 0) + c) / 4294967296) from lN_sh32 (by omega)) ?_
      refine g_lstore_n (ls' := [(3, .long (lN (((if i < u1 then un (g i) else 0) + (if i < u2 then un (f2 i) else 0) + c) / 4294967296))), (6, .long (lN (((if i < u1 then un (g i) else 0) + (if i < u2 then un (f2 i) else 0)) + c))), (5, .int (nI i)), (2, .int (nI mx)), (0, .ref w), (1, .ref w2)]) dX9_add_63 rfl (by decide) rfl ?_
      refine g_iincN (z := 1) (ls' := [(5, .int (nI (i + 1))), (3, .long (lN (((if i < u1 then un (g i) else 0) + (if i < u2 then un (f2 i) else 0) + c) / 4294967296))), (6, .long (lN (((if i < u1 then un (g i) else 0) + (if i < u2 then un (f2 i) else 0)) + c))), (2, .int (nI mx)), (0, .ref w), (1, .ref w2)]) dX9_add_64 rfl (by decide) rfl ?_
      refine g_goto (tgt := 25) dX9_add_67 (by decide) ?_
      refine g_pick [0, 1, 3, 4, 5] (ls' := [(5, .int (nI (i + 1))), (3, .long (lN (((if i < u1 then un (g i) else 0) + (if i < u2 then un (f2 i) else 0) + c) / 4294967296))), (2, .int (nI mx)), (0, .ref w), (1, .ref w2)]) rfl ?_
      obtain ⟨st1, st2⟩ := add_step hc eS hI
      exact ih (i + 1) (((if i < u1 then un (g i) else 0) + (if i < u2 then un (f2 i) else 0) + c) / 4294967296) (upd g i (nI ((if i < u1 then un (g i) else 0) + (if i < u2 then un (f2 i) else 0) + c))) _ (by omega) (by omega) st1 st2 (fun j hj => by rw [pk_un (by omega)]; exact hg j (by omega)) (g_ne ne_w_a hw) g_eq (g_ne (Ne.symm ne_a_w2) hw2) (g_ne (Ne.symm haa) ha2) (hf.up (by simp))
set_option maxHeartbeats 4000000 in
set_option maxRecDepth 100000 in
theorem c_add (G : gG) (d n : Nat) (ex : Bool) (h : gH) {w a N w2 a2 N2 V1 V2 : Nat} (hq1 : Wh h w a N V1) (hq2 : Wh h w2 a2 N2 V2) (hN : N < 2 ^ 31) (hN2 : N2 < 2 ^ 31) (hVN : V1 + V2 < 2 ^ (32 * N)) (hww : w ≠ w2) (haa : a ≠ a2) : g_M G mX9_add (d + 1) 0 0 [.ref w, .ref w2] n ex h (q_v n ex [w, a] h (fun h' => Wh h' w a N (V1 + V2))) := by
  obtain ⟨u1, f1, hw, ha, hu1, e1, n1⟩ := hq1
  obtain ⟨u2, f2, hw2, ha2, hu2, e2, n2⟩ := hq2
  rw [← e1, ← e2] at hVN ⊢
  have k2 : u2 ≤ N := wv_used n2 (by omega)
  have hm : max u1 u2 ≤ N := Nat.max_le.mpr ⟨hu1, k2⟩
  have hb : max u1 u2 < 2 ^ 31 := by omega
  refine g_enter (by decide) (Nat.le_of_ble_eq_true rfl) ?_
  show g_W G _ _ _ n ex h 0 0 0 [(0, .ref w), (1, .ref w2)] []
  have ne_w_a : w ≠ a := g_ap hw ha (by intro q; cases q)
  have ne_w_a2 : w ≠ a2 := g_ap hw ha2 (by intro q; cases q)
  have ne_a_w2 : a ≠ w2 := g_ap ha hw2 (by intro q; cases q)
  have ne_w2_a2 : w2 ≠ a2 := g_ap hw2 ha2 (by intro q; cases q)
  refine g_aload_n dX9_add_0 rfl rfl ?_
  refine g_getf dX9_add_1 fX9_15 hw rfl ?_
  refine g_aload_n dX9_add_4 rfl rfl ?_
  refine g_getf dX9_add_5 fX9_15 hw2 rfl ?_
  refine g_mmax dX9_add_8 sX9_29 (by omega) (by omega) (by simp only [g_rm]; omega) (by simp only [g_rm]; omega) (Nat.le_of_ble_eq_true rfl) (Nat.zero_le _) (Nat.zero_le _) ?_
  refine g_aload_n dX9_add_11 rfl rfl ?_
  refine g_getf dX9_add_12 fX9_9 hw rfl ?_
  refine g_aleni dX9_add_15 (by decide) ha ?_
  refine g_mmin dX9_add_16 sX9_23 (by omega) (by omega) (by simp only [g_rm]; omega) (by simp only [g_rm]; omega) (Nat.le_of_ble_eq_true rfl) (Nat.zero_le _) (Nat.zero_le _) ?_
  refine g_top (show nI (min (max u1 u2) N) = nI (max u1 u2) from by rw [Nat.min_eq_left hm]) ?_
  refine g_istore_n (ls' := [(2, .int (nI (max u1 u2))), (0, .ref w), (1, .ref w2)]) dX9_add_19 rfl (by decide) rfl ?_
  refine g_lconst (v := lN 0) dX9_add_20 (by decide) ?_
  refine g_lstore_n (ls' := [(3, .long (lN 0)), (2, .int (nI (max u1 u2))), (0, .ref w), (1, .ref w2)]) dX9_add_21 rfl (by decide) rfl ?_
  refine g_iconst (v := nI 0) dX9_add_22 (by decide) ?_
  refine g_istore (ls' := [(5, .int (nI 0)), (3, .long (lN 0)), (2, .int (nI (max u1 u2))), (0, .ref w), (1, .ref w2)]) dX9_add_23 (by decide) rfl ?_
  refine g_pick [0, 1, 2, 3, 4] (ls' := [(5, .int (nI 0)), (3, .long (lN 0)), (2, .int (nI (max u1 u2))), (0, .ref w), (1, .ref w2)]) rfl ?_
  exact lp_add G d n ex h hN hN2 rfl hm hu1 hu2 n1 n2 hVN hww haa (max u1 u2 + 1) 0 0 f1 h (by omega) (Nat.zero_le _) (by decide) rfl (fun _ _ => rfl) hw ha hw2 ha2 g_fr.rf
