/-- limbs with noughts behind the used ones -/
def wz (f : Nat → Int32) (u : Nat) : Nat → Int32 := fun k => if k < u then f k else 0
theorem wz_un (f : Nat → Int32) (u i : Nat) : un (wz f u i) = if i < u then un (f i) else 0 := by
  unfold wz
  by_cases q : i < u
  · rw [if_pos q, if_pos q]
  · rw [if_neg q, if_neg q]; rfl
theorem wz_wv {f : Nat → Int32} {u i : Nat} (h : u ≤ i) : wv (wz f u) i = wv f u := by
  induction i with
  | zero => rw [show u = 0 by omega]; rfl
  | succ i ih =>
    by_cases q : u = i + 1
    · rw [← q]
      exact wv_congr (fun j hj => if_pos hj)
    · show wv (wz f u) i + un (wz f u i) * _ = _
      rw [ih (by omega), wz_un, if_neg (by omega), Nat.zero_mul, Nat.add_zero]
theorem add_step {F1 F2 g : Nat → Int32} {i c S : Nat} (hc : c ≤ 1) (hS : S = un (F1 i) + un (F2 i) + c) (hI : wv g i + c * 2 ^ (32 * i) = wv F1 i + wv F2 i) : S / 4294967296 ≤ 1 ∧ wv (upd g i (nI S)) (i + 1) + S / 4294967296 * 2 ^ (32 * (i + 1)) = wv F1 (i + 1) + wv F2 (i + 1) := by
  have h1 := un_lt (F1 i)
  have h2 := un_lt (F2 i)
  refine ⟨by omega, ?_⟩
  rw [wv_put, un_nIm, p32]
  have e1 : S / 4294967296 * (2 ^ (32 * i) * 4294967296) = (S / 4294967296 * 4294967296) * 2 ^ (32 * i) := by
    rw [Nat.mul_comm (2 ^ (32 * i)) 4294967296, ← Nat.mul_assoc]
  rw [e1, Nat.add_assoc, ← Nat.add_mul, show S % 4294967296 + S / 4294967296 * 4294967296 = S by omega]
  show _ = wv F1 i + un (F1 i) * 2 ^ (32 * i) + (wv F2 i + un (F2 i) * 2 ^ (32 * i))
  rw [hS, Nat.add_mul, Nat.add_mul]
  omega
theorem add_end {f1 f2 g f' : Nat → Int32} {u1 u2 mx u' c N : Nat} (hm : mx = max u1 u2) (n1 : u1 = 0 ∨ f1 (u1 - 1) ≠ 0) (n2 : u2 = 0 ∨ f2 (u2 - 1) ≠ 0) (hI : wv g mx + c * 2 ^ (32 * mx) = wv (wz f1 u1) mx + wv (wz f2 u2) mx) (hP : ap_P N c mx g u' f') : wv f' u' = wv f1 u1 + wv f2 u2 ∧ (u' = 0 ∨ f' (u' - 1) ≠ 0) := by
  obtain ⟨h1, h2, h3, h4, h5, h6⟩ := hP
  have e1 : wv f' u' = wv f1 u1 + wv f2 u2 := by rw [h4, hI, wz_wv (by omega), wz_wv (by omega)]
  refine ⟨e1, ?_⟩
  by_cases hc : c = 0
  · have hu := h5 hc
    refine wv_norm.mpr ?_
    rw [e1, hu]
    rcases wv_norm.mp n1 with q1 | q1
    · rcases wv_norm.mp n2 with q2 | q2
      · exact Or.inl (by omega)
      · refine Or.inr (Nat.le_trans ?_ (Nat.le_add_left _ _))
        rw [hm, q1, Nat.max_eq_right (Nat.zero_le _)]; exact q2
    · rcases wv_norm.mp n2 with q2 | q2
      · refine Or.inr (Nat.le_trans ?_ (Nat.le_add_right _ _))
        rw [hm, q2, Nat.max_eq_left (Nat.zero_le _)]; exact q1
      · rcases Nat.le_total u1 u2 with z | z
        · refine Or.inr (Nat.le_trans ?_ (Nat.le_add_left _ _))
          rw [hm, Nat.max_eq_right z]; exact q2
        · refine Or.inr (Nat.le_trans ?_ (Nat.le_add_right _ _))
          rw [hm, Nat.max_eq_left z]; exact q1
  · exact Or.inr (h6 hc).2
set_option maxHeartbeats 4000000 in
set_option maxRecDepth 100000 in
theorem lp_add (G : gG) (d n : Nat) (ex : Bool) (h0 : gH) {w a N w2 a2 N2 u1 u2 mx : Nat} {f1 f2 : Nat → Int32} (hN : N < 2 ^ 31) (hN2 : N2 < 2 ^ 31) (emx : mx = max u1 u2) (hm : mx ≤ N) (hu1 : u1 ≤ N) (hu2 : u2 ≤ N2) (n1 : u1 = 0 ∨ f1 (u1 - 1) ≠ 0) (n2 : u2 = 0 ∨ f2 (u2 - 1) ≠ 0) (hVN : wv f1 u1 + wv f2 u2 < 2 ^ (32 * N)) (hww : w ≠ w2) (haa : a ≠ a2) : ∀ (m i c : Nat) (g : Nat → Int32) (h : gH), mx - i < m → i ≤ mx → c ≤ 1 → wv g i + c * 2 ^ (32 * i) = wv (wz f1 u1) i + wv (wz f2 u2) i → (∀ j, i ≤ j → g j = f1 j) → h w = some (.inr (9, [.ref a, .int (nI u1)])) → h a = some (.inl (0, N, .inl g)) → h w2 = some (.inr (9, [.ref a2, .int (nI u2)])) → h a2 = some (.inl (0, N2, .inl f2)) → g_fr [w, a] h0 h →
    g_W G mX9_add (g_rm (d + 1) 0 0) (g_K G (q_v n ex [w, a] h0 (fun h' => Wh h' w a N (wv f1 u1 + wv f2 u2))) 0 0) n ex h 0 0 25 [(5, .int (nI i)), (3, .long (lN c)), (2, .int (nI mx)), (0, .ref w), (1, .ref w2)] [] := by
  intro m
  induction m with
  | zero => intro i c g h hm; exact absurd hm (by omega)
  | succ m ih =>
    intro i c g h hmm hi hc hI hg hw ha hw2 ha2 hf
    have ne_w_a : w ≠ a := g_ap hw ha (by intro q; cases q)
    have ne_w_a2 : w ≠ a2 := g_ap hw ha2 (by intro q; cases q)
    have ne_a_w2 : a ≠ w2 := g_ap ha hw2 (by intro q; cases q)
    have ne_w2_a2 : w2 ≠ a2 := g_ap hw2 ha2 (by intro q; cases q)
    have hx1 := un_lt (g i)
    have hx2 := un_lt (f2 i)
    have eS : (if i < u1 then un (g i) else 0) + (if i < u2 then un (f2 i) else 0) + c = un (wz f1 u1 i) + un (wz f2 u2 i) + c := by rw [wz_un, wz_un, hg i (Nat.le_refl _)]
    have bS1 : (if i < u1 then un (g i) else 0) < 4294967296 := by split <;> omega
    have bS2 : (if i < u2 then un (f2 i) else 0) < 4294967296 := by split <;> omega
    refine g_iload dX9_add_25 rfl ?_
    refine g_iload_n dX9_add_27 rfl rfl ?_
    refine g_icmp_geN (tgt := 70) dX9_add_28 (by decide) (by omega) (by omega) (fun c28 => ?_) (fun c28 => ?_)
    · have him : mx = i := by omega
      subst him
      refine g_aload_n dX9_add_70 rfl rfl ?_
      refine g_iload_n dX9_add_71 rfl rfl ?_
      refine g_put (fs' := [.ref a, .int (nI mx)]) dX9_add_72 fX9_15 hw (Nat.le_of_ble_eq_true rfl) rfl rfl rfl ?_
      refine g_aload_n dX9_add_75 rfl rfl ?_
      refine g_lload_n dX9_add_76 rfl rfl ?_
      refine cVv (st := []) dX9_add_77 (c_append G d n ex (g_up h w (.inr (9, [.ref a, .int (nI mx)]))) g_eq (g_ne (Ne.symm ne_w_a) ha) hm hN (by omega) (room_of hm (A := wv g mx) (by rw [hI, wz_wv (by omega), wz_wv (by omega)]; exact hVN))) sX9_19 g_eq rfl rfl (by simp only [g_rm]; omega) (by simp only [g_rm]; omega) (Nat.le_of_ble_eq_true rfl) ⟨Nat.le_of_ble_eq_true rfl, Nat.le_of_ble_eq_true rfl⟩ (fun h1 fr2 p3 => ?_)
      obtain ⟨u', f', q1, q2, q3⟩ := p3
      obtain ⟨q4, q5⟩ := add_end emx n1 n2 hI q3
      exact e_v dX9_add_80 rfl ((hf.up (by simp)).tr fr2 (fun _ q => q)) ⟨u', f', q1, q2, q3.2.1, q4, q5⟩ (by decide) (by decide)
    · refine g_aload_n dX9_add_31 rfl rfl ?_
      refine g_iload dX9_add_32 rfl ?_
      refine cVl (st := []) dX9_add_34 (c_limbOrZero G d n ex h hw ha hu1 hN (by omega)) sX9_32 hw rfl rfl (by simp only [g_rm]; omega) (by simp only [g_rm]; omega) (Nat.le_of_ble_eq_true rfl) ⟨Nat.le_of_ble_eq_true rfl, Nat.le_of_ble_eq_true rfl⟩ (fun r8 h5 fr6 p7 => ?_)
      cases g_fr0 fr6
      subst p7
      refine g_aload_n dX9_add_37 rfl rfl ?_
      refine g_iload dX9_add_38 rfl ?_
      refine cVl (st := [.long (lN (if i < u1 then un (g i) else 0))]) dX9_add_40 (c_limbOrZero G d n ex h hw2 ha2 hu2 hN2 (by omega)) sX9_32 hw2 rfl rfl (by simp only [g_rm]; omega) (by simp only [g_rm]; omega) (Nat.le_of_ble_eq_true rfl) ⟨Nat.le_of_ble_eq_true rfl, Nat.le_of_ble_eq_true rfl⟩ (fun r12 h9 fr10 p11 => ?_)
      cases g_fr0 fr10
      subst p11
      refine g_laddN dX9_add_43 ?_
      refine g_lload_n dX9_add_44 rfl rfl ?_
      refine g_laddN dX9_add_45 ?_
      refine g_lstore (ls' := [(6, .long (lN (((if i < u1 then un (g i) else 0) + (if i < u2 then un (f2 i) else 0)) + c))), (5, .int (nI i)), (3, .long (lN c)), (2, .int (nI mx)), (0, .ref w), (1, .ref w2)]) dX9_add_46 (by decide) rfl ?_
      refine g_aload_n dX9_add_48 rfl rfl ?_
      refine g_getf dX9_add_49 fX9_9 hw rfl ?_
      refine g_iload dX9_add_52 rfl ?_
      refine g_lload dX9_add_54 rfl ?_
      refine g_l2iN dX9_add_56 ?_
      refine g_iastN dX9_add_57 ha (by omega) (by omega) ?_
      refine g_lload dX9_add_58 rfl ?_
      refine g_bipush (v := nI 32) dX9_add_60 (by decide) ?_
      refine g_lushr dX9_add_62 ?_
      refine g_topl (show ((lN (((if i < u1 then un (g i) else 0) + (if i < u2 then un (f2 i) else 0)) + c)).toUInt64 >>> ((nI 32).toInt64.toUInt64 &&& Int64.toUInt64 63)).toInt64 = lN (((if i < u1 then un (g i) else 0) + (if i < u2 then un (f2 i) else 0) + c) / 4294967296) from lN_sh32 (by omega)) ?_
      refine g_lstore_n (ls' := [(3, .long (lN (((if i < u1 then un (g i) else 0) + (if i < u2 then un (f2 i) else 0) + c) / 4294967296))), (6, .long (lN (((if i < u1 then un (g i) else 0) + (if i < u2 then un (f2 i) else 0)) + c))), (5, .int (nI i)), (2, .int (nI mx)), (0, .ref w), (1, .ref w2)]) dX9_add_63 rfl (by decide) rfl ?_
      refine g_iincN (z := 1) (ls' := [(5, .int (nI (i + 1))), (3, .long (lN (((if i < u1 then un (g i) else 0) + (if i < u2 then un (f2 i) else 0) + c) / 4294967296))), (6, .long (lN (((if i < u1 then un (g i) else 0) + (if i < u2 then un (f2 i) else 0)) + c))), (2, .int (nI mx)), (0, .ref w), (1, .ref w2)]) dX9_add_64 rfl (by decide) rfl ?_
      refine g_goto (tgt := 25) dX9_add_67 (by decide) ?_
      refine g_pick [0, 1, 3, 4, 5] (ls' := [(5, .int (nI (i + 1))), (3, .long (lN (((if i < u1 then un (g i) else 0) + (if i < u2 then un (f2 i) else 0) + c) / 4294967296))), (2, .int (nI mx)), (0, .ref w), (1, .ref w2)]) rfl ?_
      obtain ⟨st1, st2⟩ := add_step hc eS hI
      exact ih (i + 1) (((if i < u1 then un (g i) else 0) + (if i < u2 then un (f2 i) else 0) + c) / 4294967296) (upd g i (nI ((if i < u1 then un (g i) else 0) + (if i < u2 then un (f2 i) else 0) + c))) _ (by omega) (by omega) st1 st2 (fun j hj => by rw [pk_un (by omega)]; exact hg j (by omega)) (g_ne ne_w_a hw) g_eq (g_ne (Ne.symm ne_a_w2) hw2) (g_ne (Ne.symm haa) ha2) (hf.up (by simp))
set_option maxHeartbeats 4000000 in
set_option maxRecDepth 100000 in
theorem c_add (G : gG) (d n : Nat) (ex : Bool) (h : gH) {w a N w2 a2 N2 V1 V2 : Nat} (hq1 : Wh h w a N V1) (hq2 : Wh h w2 a2 N2 V2) (hN : N < 2 ^ 31) (hN2 : N2 < 2 ^ 31) (hVN : V1 + V2 < 2 ^ (32 * N)) (hww : w ≠ w2) (haa : a ≠ a2) : g_M G mX9_add (d + 1) 0 0 [.ref w, .ref w2] n ex h (q_v n ex [w, a] h (fun h' => Wh h' w a N (V1 + V2))) := by
  obtain ⟨u1, f1, hw, ha, hu1, e1, n1⟩ := hq1
  obtain ⟨u2, f2, hw2, ha2, hu2, e2, n2⟩ := hq2
  rw [← e1, ← e2] at hVN ⊢
  have k2 : u2 ≤ N := wv_used n2 (by omega)
  have hm : max u1 u2 ≤ N := Nat.max_le.mpr ⟨hu1, k2⟩
  have hb : max u1 u2 < 2 ^ 31 := by omega
  refine g_enter (by decide) (Nat.le_of_ble_eq_true rfl) ?_
  show g_W G _ _ _ n ex h 0 0 0 [(0, .ref w), (1, .ref w2)] []
  have ne_w_a : w ≠ a := g_ap hw ha (by intro q; cases q)
  have ne_w_a2 : w ≠ a2 := g_ap hw ha2 (by intro q; cases q)
  have ne_a_w2 : a ≠ w2 := g_ap ha hw2 (by intro q; cases q)
  have ne_w2_a2 : w2 ≠ a2 := g_ap hw2 ha2 (by intro q; cases q)
  refine g_aload_n dX9_add_0 rfl rfl ?_
  refine g_getf dX9_add_1 fX9_15 hw rfl ?_
  refine g_aload_n dX9_add_4 rfl rfl ?_
  refine g_getf dX9_add_5 fX9_15 hw2 rfl ?_
  refine g_mmax dX9_add_8 sX9_29 (by omega) (by omega) (by simp only [g_rm]; omega) (by simp only [g_rm]; omega) (Nat.le_of_ble_eq_true rfl) (Nat.zero_le _) (Nat.zero_le _) ?_
  refine g_aload_n dX9_add_11 rfl rfl ?_
  refine g_getf dX9_add_12 fX9_9 hw rfl ?_
  refine g_aleni dX9_add_15 (by decide) ha ?_
  refine g_mmin dX9_add_16 sX9_23 (by omega) (by omega) (by simp only [g_rm]; omega) (by simp only [g_rm]; omega) (Nat.le_of_ble_eq_true rfl) (Nat.zero_le _) (Nat.zero_le _) ?_
  refine g_top (show nI (min (max u1 u2) N) = nI (max u1 u2) from by rw [Nat.min_eq_left hm]) ?_
  refine g_istore_n (ls' := [(2, .int (nI (max u1 u2))), (0, .ref w), (1, .ref w2)]) dX9_add_19 rfl (by decide) rfl ?_
  refine g_lconst (v := lN 0) dX9_add_20 (by decide) ?_
  refine g_lstore_n (ls' := [(3, .long (lN 0)), (2, .int (nI (max u1 u2))), (0, .ref w), (1, .ref w2)]) dX9_add_21 rfl (by decide) rfl ?_
  refine g_iconst (v := nI 0) dX9_add_22 (by decide) ?_
  refine g_istore (ls' := [(5, .int (nI 0)), (3, .long (lN 0)), (2, .int (nI (max u1 u2))), (0, .ref w), (1, .ref w2)]) dX9_add_23 (by decide) rfl ?_
  refine g_pick [0, 1, 2, 3, 4] (ls' := [(5, .int (nI 0)), (3, .long (lN 0)), (2, .int (nI (max u1 u2))), (0, .ref w), (1, .ref w2)]) rfl ?_
  exact lp_add G d n ex h hN hN2 rfl hm hu1 hu2 n1 n2 hVN hww haa (max u1 u2 + 1) 0 0 f1 h (by omega) (Nat.zero_le _) (by decide) rfl (fun _ _ => rfl) hw ha hw2 ha2 g_fr.rf
/-- a long by its whole number -/
def lZ (c : Int) : Int64 := Int64.ofInt c
theorem lZ_N (n : Nat) : lN n = lZ n := (Int64.ofInt_eq_ofNat (n := n)).symm
theorem lZ_cs (c : Int) (a b : Nat) : lZ c + (lN a - lN b) = lZ (c + (a - b)) := by
  rw [lZ_N, lZ_N]
  unfold lZ
  rw [Int64.ofInt_add, Int64.ofInt_sub]
theorem lZ_int {c : Int} (h1 : -9223372036854775808 ≤ c) (h2 : c < 9223372036854775808) : (lZ c).toInt = c := Int64.toInt_ofInt_of_le h1 h2
theorem lZ_shr32 {c : Int} (h1 : -9223372036854775808 ≤ c) (h2 : c < 9223372036854775808) : lZ c >>> ((nI 32).toInt64 &&& 63) = lZ (c / 4294967296) := by
  apply Int64.toInt_inj.mp
  rw [lZ_int (by omega) (by omega)]
  have h3 : (lZ c >>> ((nI 32).toInt64 &&& 63)).toInt = (lZ c).toInt >>> 32 := by
    show (lZ c >>> ((nI 32).toInt64 &&& 63)).toBitVec.toInt = _
    rw [Int64.toBitVec_shiftRight, BitVec.sshiftRight_eq', BitVec.toInt_sshiftRight]
    rfl
  rw [h3, lZ_int h1 h2, Int.shiftRight_eq_div_pow]
  rfl
theorem lZ_i0 (c : Int) : (lZ c).toInt32 = 0 ↔ c % 4294967296 = 0 := by
  unfold lZ
  rw [Int64.toInt32_ofInt]
  have h1 : (0 : Int32) = Int32.ofInt 0 := rfl
  rw [h1, ← Int32.toInt_inj, Int32.toInt_ofInt, Int32.toInt_ofInt]
  show c.bmod (2 ^ 32) = (0 : Int).bmod (2 ^ 32) ↔ _
  rw [Int.bmod_def, Int.bmod_def]
  constructor
  · intro q
    split at q <;> split at q <;> omega
  · intro q
    rw [show c % ((2 ^ 32 : Nat) : Int) = 0 from q]
    rfl
theorem lZ_0 {c : Int} (h1 : -9223372036854775808 ≤ c) (h2 : c < 9223372036854775808) : lZ c = lN 0 ↔ c = 0 := by
  rw [lZ_N, ← Int64.toInt_inj, lZ_int h1 h2, lZ_int (by decide) (by decide)]
  rfl
theorem lZ_neg {c : Int} (h1 : -9223372036854775808 ≤ c) (h2 : c < 9223372036854775808) : lZ c < lN 0 ↔ c < 0 := by
  rw [lZ_N, Int64.lt_iff_toInt_lt, lZ_int h1 h2, lZ_int (by decide) (by decide)]
  rfl
/-- what the limbs seen so far say of the two products -/
def cp_I (A B lt rt c low P : Int) (b : Nat) : Prop := A * lt - B * rt = c * P + low ∧ 0 ≤ low ∧ low < P ∧ -rt ≤ c ∧ c ≤ lt ∧ ((b = 0 ∧ low = 0) ∨ (b = 1 ∧ low ≠ 0))
theorem cp_step {A B lt rt c low P x y s : Int} {b b' : Nat} (hI : cp_I A B lt rt c low P b) (hs : s = c + (x * lt - y * rt)) (hx0 : 0 ≤ x) (hx : x < 4294967296) (hy0 : 0 ≤ y) (hy : y < 4294967296) (hlt : 0 ≤ lt) (hrt : 0 ≤ rt) (hb : b' = if b = 0 ∧ s % 4294967296 = 0 then 0 else 1) :
    cp_I (A + x * P) (B + y * P) lt rt (s / 4294967296) (low + s % 4294967296 * P) (P * 4294967296) b' := by
  obtain ⟨h1, h2, h3, h4, h5, h6⟩ := hI
  have hP : 0 < P := by omega
  have m0 : 0 ≤ s % 4294967296 := Int.emod_nonneg _ (by decide)
  have m1 : s % 4294967296 ≤ 4294967295 := by have := Int.emod_lt_of_pos s (show (0 : Int) < 4294967296 by decide); omega
  have b0 : 0 ≤ s % 4294967296 * P := Int.mul_nonneg m0 (by omega)
  have b1 : s % 4294967296 * P ≤ 4294967295 * P := Int.mul_le_mul_of_nonneg_right m1 (by omega)
  have x0 : 0 ≤ x * lt := Int.mul_nonneg hx0 hlt
  have x1 : x * lt ≤ 4294967295 * lt := Int.mul_le_mul_of_nonneg_right (by omega) hlt
  have y0 : 0 ≤ y * rt := Int.mul_nonneg hy0 hrt
  have y1 : y * rt ≤ 4294967295 * rt := Int.mul_le_mul_of_nonneg_right (by omega) hrt
  refine ⟨?_, by omega, by omega, by omega, by omega, ?_⟩
  · have e1 : (A + x * P) * lt = A * lt + x * lt * P := by rw [Int.add_mul, Int.mul_right_comm]
    have e2 : (B + y * P) * rt = B * rt + y * rt * P := by rw [Int.add_mul, Int.mul_right_comm]
    have e3 : s * P = c * P + (x * lt * P - y * rt * P) := by rw [hs, Int.add_mul, Int.sub_mul]
    have e4 : s * P = s / 4294967296 * (P * 4294967296) + s % 4294967296 * P := by
      have e5 : s / 4294967296 * (P * 4294967296) = 4294967296 * (s / 4294967296) * P := by rw [Int.mul_comm P, ← Int.mul_assoc, Int.mul_comm (s / 4294967296)]
      rw [e5, ← Int.add_mul, Int.mul_ediv_add_emod]
    omega
  · by_cases z : s % 4294967296 = 0
    · rcases h6 with ⟨q1, q2⟩ | ⟨q1, q2⟩
      · exact Or.inl ⟨by rw [hb, if_pos ⟨q1, z⟩], by rw [z, Int.zero_mul]; omega⟩
      · exact Or.inr ⟨by rw [hb, if_neg (fun q => by omega)], by rw [z, Int.zero_mul]; omega⟩
    · have b2 : 1 * P ≤ s % 4294967296 * P := Int.mul_le_mul_of_nonneg_right (by omega) (by omega)
      exact Or.inr ⟨by rw [hb, if_neg (fun q => z q.2)], by omega⟩
def cp_sg (X Y : Nat) : Int32 := if X < Y then -1 else if X = Y then 0 else 1
theorem cp_lo {c P low : Int} (hP : low < P) (h0 : 0 ≤ low) (hc : c < 0) : c * P + low < 0 := by
  have : c * P ≤ (-1) * P := Int.mul_le_mul_of_nonneg_right (by omega) (by omega)
  omega
theorem cp_hi {c P low : Int} (hP : low < P) (h0 : 0 ≤ low) (hc : 0 < c) : 0 < c * P + low := by
  have : 1 * P ≤ c * P := Int.mul_le_mul_of_nonneg_right (by omega) (by omega)
  omega
theorem cp_end {X Y : Nat} {A B lt rt c low P : Int} {b : Nat} {r : Int32} (hI : cp_I A B lt rt c low P b) (eX : A * lt = X) (eY : B * rt = Y) (h : (c = 0 ∧ b = 0 ∧ r = 0) ∨ (c = 0 ∧ ¬ b = 0 ∧ r = 1) ∨ (c < 0 ∧ r = -1) ∨ (0 < c ∧ r = 1)) : r = cp_sg X Y := by
  obtain ⟨h1, h2, h3, h4, h5, h6⟩ := hI
  unfold cp_sg
  rcases h with ⟨q1, q2, q3⟩ | ⟨q1, q2, q3⟩ | ⟨q1, q3⟩ | ⟨q1, q3⟩
  · rw [q1, Int.zero_mul] at h1
    rw [if_neg (by omega), if_pos (by omega), q3]
  · rw [q1, Int.zero_mul] at h1
    rw [if_neg (by omega), if_neg (by omega), q3]
  · have := cp_lo h3 h2 q1
    rw [if_pos (by omega), q3]
  · have := cp_hi h3 h2 q1
    rw [if_neg (by omega), if_neg (by omega), q3]
set_option maxHeartbeats 4000000 in
set_option maxRecDepth 100000 in
theorem lp_cp (G : gG) (d n : Nat) (ex : Bool) (h : gH) {w a N w2 a2 N2 u1 u2 lt rt : Nat} {f1 f2 : Nat → Int32} (hN : N < 2 ^ 31) (hN2 : N2 < 2 ^ 31) (hu1 : u1 ≤ N) (hu2 : u2 ≤ N2) (hlt : lt ≤ 1000000) (hrt : rt ≤ 1000000) (hw : h w = some (.inr (9, [.ref a, .int (nI u1)]))) (ha : h a = some (.inl (0, N, .inl f1))) (hw2 : h w2 = some (.inr (9, [.ref a2, .int (nI u2)]))) (ha2 : h a2 = some (.inl (0, N2, .inl f2))) (hb : max u1 u2 < 2 ^ 31) : ∀ (m i : Nat) (c low : Int) (b : Nat), max u1 u2 - i < m → i ≤ max u1 u2 → cp_I (wv (wz f1 u1) i) (wv (wz f2 u2) i) lt rt c low (2 ^ (32 * i) : Nat) b →
    g_W G mX9_compareProducts (g_rm (d + 1) 0 0) (g_K G (q_i n ex [] h (fun r _ => r = cp_sg (wv f1 u1 * lt) (wv f2 u2 * rt))) 0 0) n ex h 0 0 22 [(8, .int (nI i)), (6, .long (lZ c)), (5, .int (nI b)), (4, .int (nI (max u1 u2))), (0, .ref w), (1, .int (nI lt)), (2, .ref w2), (3, .int (nI rt))] [] := by
  intro m
  induction m with
  | zero => intro i c low b hm; exact absurd hm (by omega)
  | succ m ih =>
    intro i c low b hmm hi hI
    have hbb : b < 2 ^ 31 := by have := hI.2.2.2.2.2; omega
    have hx1 := un_lt (f1 i)
    have hx2 := un_lt (f2 i)
    have bS1 : (if i < u1 then un (f1 i) else 0) < 4294967296 := by split <;> omega
    have bS2 : (if i < u2 then un (f2 i) else 0) < 4294967296 := by split <;> omega
    have bT1 : (if i < u1 then un (f1 i) else 0) * lt ≤ 4294967295 * lt := Nat.mul_le_mul_right _ (by omega)
    have bT2 : (if i < u2 then un (f2 i) else 0) * rt ≤ 4294967295 * rt := Nat.mul_le_mul_right _ (by omega)
    have bc := hI.2.2.2
    refine g_iload dX9_compareProducts_22 rfl ?_
    refine g_iload dX9_compareProducts_24 rfl ?_
    refine g_icmp_geN (tgt := 84) dX9_compareProducts_26 (by decide) (by omega) (by omega) (fun c26 => ?_) (fun c26 => ?_)
    · have k0 : lg_cmp (lZ c) (lN 0) = 0 ↔ c = 0 := g_lcE.trans (lZ_0 (by omega) (by omega))
      have kL : lg_cmp (lZ c) (lN 0) < 0 ↔ c < 0 := g_lcL.trans (lZ_neg (by omega) (by omega))
      have him : i = max u1 u2 := by omega
      rw [him] at hI
      have eX : (wv (wz f1 u1) (max u1 u2) : Int) * lt = (wv f1 u1 * lt : Nat) := by rw [wz_wv (by omega), Int.natCast_mul]
      have eY : (wv (wz f2 u2) (max u1 u2) : Int) * rt = (wv f2 u2 * rt : Nat) := by rw [wz_wv (by omega), Int.natCast_mul]
      refine g_lload dX9_compareProducts_84 rfl ?_
      refine g_lconst (v := lN 0) dX9_compareProducts_86 (by decide) ?_
      refine g_lcmp dX9_compareProducts_87 ?_
      refine g_if_ne (tgt := 102) dX9_compareProducts_88 (by decide) (fun c88 => ?_) (fun c88 => ?_)
      · refine g_lload dX9_compareProducts_102 rfl ?_
        refine g_lconst (v := lN 0) dX9_compareProducts_104 (by decide) ?_
        refine g_lcmp dX9_compareProducts_105 ?_
        refine g_if_ge (tgt := 113) dX9_compareProducts_106 (by decide) (fun c106 => ?_) (fun c106 => ?_)
        · refine g_iconst (v := nI 1) dX9_compareProducts_113 (by decide) ?_
          exact e_i dX9_compareProducts_114 rfl rfl g_fr.rf (cp_end hI eX eY (by first | exact Or.inl ⟨k0.mp c88, c93, rfl⟩ | exact Or.inr (Or.inl ⟨k0.mp c88, c93, rfl⟩) | exact Or.inr (Or.inr (Or.inl ⟨kL.mp (Int32.not_le.mp c106), rfl⟩)) | exact Or.inr (Or.inr (Or.inr ⟨by have z1 : ¬ c = 0 := fun q => c88 (k0.mpr q); have z2 : ¬ c < 0 := fun q => absurd (kL.mpr q) (Int32.not_lt.mpr c106); omega, rfl⟩)))) (by decide) (by decide)
        · refine g_iconst (v := -1) dX9_compareProducts_109 (by decide) ?_
          refine g_goto (tgt := 114) dX9_compareProducts_110 (by decide) ?_
          exact e_i dX9_compareProducts_114 rfl rfl g_fr.rf (cp_end hI eX eY (by first | exact Or.inl ⟨k0.mp c88, c93, rfl⟩ | exact Or.inr (Or.inl ⟨k0.mp c88, c93, rfl⟩) | exact Or.inr (Or.inr (Or.inl ⟨kL.mp (Int32.not_le.mp c106), rfl⟩)) | exact Or.inr (Or.inr (Or.inr ⟨by have z1 : ¬ c = 0 := fun q => c88 (k0.mpr q); have z2 : ¬ c < 0 := fun q => absurd (kL.mpr q) (Int32.not_lt.mpr c106); omega, rfl⟩)))) (by decide) (by decide)
      · refine g_iload dX9_compareProducts_91 rfl ?_
        refine g_if_eqN (tgt := 100) dX9_compareProducts_93 (by decide) (by omega) (fun c93 => ?_) (fun c93 => ?_)
        · refine g_iconst (v := nI 0) dX9_compareProducts_100 (by decide) ?_
          exact e_i dX9_compareProducts_101 rfl rfl g_fr.rf (cp_end hI eX eY (by first | exact Or.inl ⟨k0.mp c88, c93, rfl⟩ | exact Or.inr (Or.inl ⟨k0.mp c88, c93, rfl⟩) | exact Or.inr (Or.inr (Or.inl ⟨kL.mp (Int32.not_le.mp c106), rfl⟩)) | exact Or.inr (Or.inr (Or.inr ⟨by have z1 : ¬ c = 0 := fun q => c88 (k0.mpr q); have z2 : ¬ c < 0 := fun q => absurd (kL.mpr q) (Int32.not_lt.mpr c106); omega, rfl⟩)))) (by decide) (by decide)
        · refine g_iconst (v := nI 1) dX9_compareProducts_96 (by decide) ?_
          refine g_goto (tgt := 101) dX9_compareProducts_97 (by decide) ?_
          exact e_i dX9_compareProducts_101 rfl rfl g_fr.rf (cp_end hI eX eY (by first | exact Or.inl ⟨k0.mp c88, c93, rfl⟩ | exact Or.inr (Or.inl ⟨k0.mp c88, c93, rfl⟩) | exact Or.inr (Or.inr (Or.inl ⟨kL.mp (Int32.not_le.mp c106), rfl⟩)) | exact Or.inr (Or.inr (Or.inr ⟨by have z1 : ¬ c = 0 := fun q => c88 (k0.mpr q); have z2 : ¬ c < 0 := fun q => absurd (kL.mpr q) (Int32.not_lt.mpr c106); omega, rfl⟩)))) (by decide) (by decide)
    · refine g_lload dX9_compareProducts_29 rfl ?_
      refine g_aload_n dX9_compareProducts_31 rfl rfl ?_
      refine g_iload dX9_compareProducts_32 rfl ?_
      refine cVl (st := [.long (lZ c)]) dX9_compareProducts_34 (c_limbOrZero G d n ex h hw ha hu1 hN (by omega)) sX9_32 hw rfl rfl (by simp only [g_rm]; omega) (by simp only [g_rm]; omega) (Nat.le_of_ble_eq_true rfl) ⟨Nat.le_of_ble_eq_true rfl, Nat.le_of_ble_eq_true rfl⟩ (fun r4 h1 fr2 p3 => ?_)
      cases g_fr0 fr2
      subst p3
      refine g_iload_n dX9_compareProducts_37 rfl rfl ?_
      refine g_i2lN dX9_compareProducts_38 (by omega) ?_
      refine g_lmulN dX9_compareProducts_39 ?_
      refine g_aload_n dX9_compareProducts_40 rfl rfl ?_
      refine g_iload dX9_compareProducts_41 rfl ?_
      refine cVl (st := [.long (lN ((if i < u1 then un (f1 i) else 0) * lt)), .long (lZ c)]) dX9_compareProducts_43 (c_limbOrZero G d n ex h hw2 ha2 hu2 hN2 (by omega)) sX9_32 hw2 rfl rfl (by simp only [g_rm]; omega) (by simp only [g_rm]; omega) (Nat.le_of_ble_eq_true rfl) ⟨Nat.le_of_ble_eq_true rfl, Nat.le_of_ble_eq_true rfl⟩ (fun r8 h5 fr6 p7 => ?_)
      cases g_fr0 fr6
      subst p7
      refine g_iload_n dX9_compareProducts_46 rfl rfl ?_
      refine g_i2lN dX9_compareProducts_47 (by omega) ?_
      refine g_lmulN dX9_compareProducts_48 ?_
      refine g_lsub dX9_compareProducts_49 ?_
      refine g_ladd dX9_compareProducts_50 ?_
      refine g_topl (show (lZ c) + ((lN ((if i < u1 then un (f1 i) else 0) * lt)) - (lN ((if i < u2 then un (f2 i) else 0) * rt))) = lZ (c + (((if i < u1 then un (f1 i) else 0) * lt : Nat) - ((if i < u2 then un (f2 i) else 0) * rt : Nat) : Int)) from lZ_cs _ _ _) ?_
      refine g_lstore (ls' := [(6, .long (lZ (c + (((if i < u1 then un (f1 i) else 0) * lt : Nat) - ((if i < u2 then un (f2 i) else 0) * rt : Nat) : Int)))), (8, .int (nI i)), (5, .int (nI b)), (4, .int (nI (max u1 u2))), (0, .ref w), (1, .int (nI lt)), (2, .ref w2), (3, .int (nI rt))]) dX9_compareProducts_51 (by decide) rfl ?_
      refine g_iload dX9_compareProducts_53 rfl ?_
      refine g_if_neN (tgt := 64) dX9_compareProducts_55 (by decide) (by omega) (fun c55 => ?_) (fun c55 => ?_)
      · refine g_iconst (v := nI 1) dX9_compareProducts_64 (by decide) ?_
        refine g_goto (tgt := 69) dX9_compareProducts_65 (by decide) ?_
        refine g_istore (ls' := [(5, .int (nI 1)), (6, .long (lZ (c + (((if i < u1 then un (f1 i) else 0) * lt : Nat) - ((if i < u2 then un (f2 i) else 0) * rt : Nat) : Int)))), (8, .int (nI i)), (4, .int (nI (max u1 u2))), (0, .ref w), (1, .int (nI lt)), (2, .ref w2), (3, .int (nI rt))]) dX9_compareProducts_69 (by decide) rfl ?_
        refine g_lload dX9_compareProducts_71 rfl ?_
        refine g_bipush (v := nI 32) dX9_compareProducts_73 (by decide) ?_
        refine g_lshr dX9_compareProducts_75 ?_
        refine g_topl (show (lZ (c + (((if i < u1 then un (f1 i) else 0) * lt : Nat) - ((if i < u2 then un (f2 i) else 0) * rt : Nat) : Int))) >>> ((nI 32).toInt64 &&& 63) = lZ ((c + (((if i < u1 then un (f1 i) else 0) * lt : Nat) - ((if i < u2 then un (f2 i) else 0) * rt : Nat) : Int)) / 4294967296) from lZ_shr32 (by omega) (by omega)) ?_
        refine g_lstore (ls' := [(6, .long (lZ ((c + (((if i < u1 then un (f1 i) else 0) * lt : Nat) - ((if i < u2 then un (f2 i) else 0) * rt : Nat) : Int)) / 4294967296))), (5, .int (nI 1)), (8, .int (nI i)), (4, .int (nI (max u1 u2))), (0, .ref w), (1, .int (nI lt)), (2, .ref w2), (3, .int (nI rt))]) dX9_compareProducts_76 (by decide) rfl ?_
        refine g_iincN (z := 1) (ls' := [(8, .int (nI (i + 1))), (6, .long (lZ ((c + (((if i < u1 then un (f1 i) else 0) * lt : Nat) - ((if i < u2 then un (f2 i) else 0) * rt : Nat) : Int)) / 4294967296))), (5, .int (nI 1)), (4, .int (nI (max u1 u2))), (0, .ref w), (1, .int (nI lt)), (2, .ref w2), (3, .int (nI rt))]) dX9_compareProducts_78 rfl (by decide) rfl ?_
        refine g_goto (tgt := 22) dX9_compareProducts_81 (by decide) ?_
        refine g_pick [0, 1, 2, 3, 4, 5, 6, 7] (ls' := [(8, .int (nI (i + 1))), (6, .long (lZ ((c + (((if i < u1 then un (f1 i) else 0) * lt : Nat) - ((if i < u2 then un (f2 i) else 0) * rt : Nat) : Int)) / 4294967296))), (5, .int (nI 1)), (4, .int (nI (max u1 u2))), (0, .ref w), (1, .int (nI lt)), (2, .ref w2), (3, .int (nI rt))]) rfl ?_
        exact ih (i + 1) ((c + (((if i < u1 then un (f1 i) else 0) * lt : Nat) - ((if i < u2 then un (f2 i) else 0) * rt : Nat) : Int)) / 4294967296) (low + (c + (((if i < u1 then un (f1 i) else 0) * lt : Nat) - ((if i < u2 then un (f2 i) else 0) * rt : Nat) : Int)) % 4294967296 * (2 ^ (32 * i) : Nat)) 1 (by omega) (by omega) (by rw [p32, Int.natCast_mul]; show cp_I ((wv (wz f1 u1) i + un (wz f1 u1 i) * 2 ^ (32 * i) : Nat) : Int) ((wv (wz f2 u2) i + un (wz f2 u2 i) * 2 ^ (32 * i) : Nat) : Int) _ _ _ _ _ _; rw [Int.natCast_add, Int.natCast_add, Int.natCast_mul, Int.natCast_mul, wz_un, wz_un]; exact cp_step hI (by first | rfl | rw [Int.natCast_mul, Int.natCast_mul]) (by omega) (by omega) (by omega) (by omega) (by omega) (by omega) (by first | (rw [if_pos ⟨by assumption, (lZ_i0 _).mp (by assumption)⟩]) | (rw [if_neg (fun q => absurd q.1 (by assumption))]) | (rw [if_neg (fun q => absurd ((lZ_i0 _).mpr q.2) (by assumption))])))
      · refine g_lload dX9_compareProducts_58 rfl ?_
        refine g_l2i dX9_compareProducts_60 ?_
        refine g_if_eq (tgt := 68) dX9_compareProducts_61 (by decide) (fun c61 => ?_) (fun c61 => ?_)
        · refine g_iconst (v := nI 0) dX9_compareProducts_68 (by decide) ?_
          refine g_istore (ls' := [(5, .int (nI 0)), (6, .long (lZ (c + (((if i < u1 then un (f1 i) else 0) * lt : Nat) - ((if i < u2 then un (f2 i) else 0) * rt : Nat) : Int)))), (8, .int (nI i)), (4, .int (nI (max u1 u2))), (0, .ref w), (1, .int (nI lt)), (2, .ref w2), (3, .int (nI rt))]) dX9_compareProducts_69 (by decide) rfl ?_
          refine g_lload dX9_compareProducts_71 rfl ?_
          refine g_bipush (v := nI 32) dX9_compareProducts_73 (by decide) ?_
          refine g_lshr dX9_compareProducts_75 ?_
          refine g_topl (show (lZ (c + (((if i < u1 then un (f1 i) else 0) * lt : Nat) - ((if i < u2 then un (f2 i) else 0) * rt : Nat) : Int))) >>> ((nI 32).toInt64 &&& 63) = lZ ((c + (((if i < u1 then un (f1 i) else 0) * lt : Nat) - ((if i < u2 then un (f2 i) else 0) * rt : Nat) : Int)) / 4294967296) from lZ_shr32 (by omega) (by omega)) ?_
          refine g_lstore (ls' := [(6, .long (lZ ((c + (((if i < u1 then un (f1 i) else 0) * lt : Nat) - ((if i < u2 then un (f2 i) else 0) * rt : Nat) : Int)) / 4294967296))), (5, .int (nI 0)), (8, .int (nI i)), (4, .int (nI (max u1 u2))), (0, .ref w), (1, .int (nI lt)), (2, .ref w2), (3, .int (nI rt))]) dX9_compareProducts_76 (by decide) rfl ?_
          refine g_iincN (z := 1) (ls' := [(8, .int (nI (i + 1))), (6, .long (lZ ((c + (((if i < u1 then un (f1 i) else 0) * lt : Nat) - ((if i < u2 then un (f2 i) else 0) * rt : Nat) : Int)) / 4294967296))), (5, .int (nI 0)), (4, .int (nI (max u1 u2))), (0, .ref w), (1, .int (nI lt)), (2, .ref w2), (3, .int (nI rt))]) dX9_compareProducts_78 rfl (by decide) rfl ?_
          refine g_goto (tgt := 22) dX9_compareProducts_81 (by decide) ?_
          refine g_pick [0, 1, 2, 3, 4, 5, 6, 7] (ls' := [(8, .int (nI (i + 1))), (6, .long (lZ ((c + (((if i < u1 then un (f1 i) else 0) * lt : Nat) - ((if i < u2 then un (f2 i) else 0) * rt : Nat) : Int)) / 4294967296))), (5, .int (nI 0)), (4, .int (nI (max u1 u2))), (0, .ref w), (1, .int (nI lt)), (2, .ref w2), (3, .int (nI rt))]) rfl ?_
          exact ih (i + 1) ((c + (((if i < u1 then un (f1 i) else 0) * lt : Nat) - ((if i < u2 then un (f2 i) else 0) * rt : Nat) : Int)) / 4294967296) (low + (c + (((if i < u1 then un (f1 i) else 0) * lt : Nat) - ((if i < u2 then un (f2 i) else 0) * rt : Nat) : Int)) % 4294967296 * (2 ^ (32 * i) : Nat)) 0 (by omega) (by omega) (by rw [p32, Int.natCast_mul]; show cp_I ((wv (wz f1 u1) i + un (wz f1 u1 i) * 2 ^ (32 * i) : Nat) : Int) ((wv (wz f2 u2) i + un (wz f2 u2 i) * 2 ^ (32 * i) : Nat) : Int) _ _ _ _ _ _; rw [Int.natCast_add, Int.natCast_add, Int.natCast_mul, Int.natCast_mul, wz_un, wz_un]; exact cp_step hI (by first | rfl | rw [Int.natCast_mul, Int.natCast_mul]) (by omega) (by omega) (by omega) (by omega) (by omega) (by omega) (by first | (rw [if_pos ⟨by assumption, (lZ_i0 _).mp (by assumption)⟩]) | (rw [if_neg (fun q => absurd q.1 (by assumption))]) | (rw [if_neg (fun q => absurd ((lZ_i0 _).mpr q.2) (by assumption))])))
        · refine g_iconst (v := nI 1) dX9_compareProducts_64 (by decide) ?_
          refine g_goto (tgt := 69) dX9_compareProducts_65 (by decide) ?_
          refine g_istore (ls' := [(5, .int (nI 1)), (6, .long (lZ (c + (((if i < u1 then un (f1 i) else 0) * lt : Nat) - ((if i < u2 then un (f2 i) else 0) * rt : Nat) : Int)))), (8, .int (nI i)), (4, .int (nI (max u1 u2))), (0, .ref w), (1, .int (nI lt)), (2, .ref w2), (3, .int (nI rt))]) dX9_compareProducts_69 (by decide) rfl ?_
          refine g_lload dX9_compareProducts_71 rfl ?_
          refine g_bipush (v := nI 32) dX9_compareProducts_73 (by decide) ?_
          refine g_lshr dX9_compareProducts_75 ?_
          refine g_topl (show (lZ (c + (((if i < u1 then un (f1 i) else 0) * lt : Nat) - ((if i < u2 then un (f2 i) else 0) * rt : Nat) : Int))) >>> ((nI 32).toInt64 &&& 63) = lZ ((c + (((if i < u1 then un (f1 i) else 0) * lt : Nat) - ((if i < u2 then un (f2 i) else 0) * rt : Nat) : Int)) / 4294967296) from lZ_shr32 (by omega) (by omega)) ?_
          refine g_lstore (ls' := [(6, .long (lZ ((c + (((if i < u1 then un (f1 i) else 0) * lt : Nat) - ((if i < u2 then un (f2 i) else 0) * rt : Nat) : Int)) / 4294967296))), (5, .int (nI 1)), (8, .int (nI i)), (4, .int (nI (max u1 u2))), (0, .ref w), (1, .int (nI lt)), (2, .ref w2), (3, .int (nI rt))]) dX9_compareProducts_76 (by decide) rfl ?_
          refine g_iincN (z := 1) (ls' := [(8, .int (nI (i + 1))), (6, .long (lZ ((c + (((if i < u1 then un (f1 i) else 0) * lt : Nat) - ((if i < u2 then un (f2 i) else 0) * rt : Nat) : Int)) / 4294967296))), (5, .int (nI 1)), (4, .int (nI (max u1 u2))), (0, .ref w), (1, .int (nI lt)), (2, .ref w2), (3, .int (nI rt))]) dX9_compareProducts_78 rfl (by decide) rfl ?_
          refine g_goto (tgt := 22) dX9_compareProducts_81 (by decide) ?_
          refine g_pick [0, 1, 2, 3, 4, 5, 6, 7] (ls' := [(8, .int (nI (i + 1))), (6, .long (lZ ((c + (((if i < u1 then un (f1 i) else 0) * lt : Nat) - ((if i < u2 then un (f2 i) else 0) * rt : Nat) : Int)) / 4294967296))), (5, .int (nI 1)), (4, .int (nI (max u1 u2))), (0, .ref w), (1, .int (nI lt)), (2, .ref w2), (3, .int (nI rt))]) rfl ?_
          exact ih (i + 1) ((c + (((if i < u1 then un (f1 i) else 0) * lt : Nat) - ((if i < u2 then un (f2 i) else 0) * rt : Nat) : Int)) / 4294967296) (low + (c + (((if i < u1 then un (f1 i) else 0) * lt : Nat) - ((if i < u2 then un (f2 i) else 0) * rt : Nat) : Int)) % 4294967296 * (2 ^ (32 * i) : Nat)) 1 (by omega) (by omega) (by rw [p32, Int.natCast_mul]; show cp_I ((wv (wz f1 u1) i + un (wz f1 u1 i) * 2 ^ (32 * i) : Nat) : Int) ((wv (wz f2 u2) i + un (wz f2 u2 i) * 2 ^ (32 * i) : Nat) : Int) _ _ _ _ _ _; rw [Int.natCast_add, Int.natCast_add, Int.natCast_mul, Int.natCast_mul, wz_un, wz_un]; exact cp_step hI (by first | rfl | rw [Int.natCast_mul, Int.natCast_mul]) (by omega) (by omega) (by omega) (by omega) (by omega) (by omega) (by first | (rw [if_pos ⟨by assumption, (lZ_i0 _).mp (by assumption)⟩]) | (rw [if_neg (fun q => absurd q.1 (by assumption))]) | (rw [if_neg (fun q => absurd ((lZ_i0 _).mpr q.2) (by assumption))])))
set_option maxHeartbeats 4000000 in
set_option maxRecDepth 100000 in
theorem c_compareProducts (G : gG) (d n : Nat) (ex : Bool) (h : gH) {w a N w2 a2 N2 V1 V2 lt rt : Nat} (hq1 : Wh h w a N V1) (hq2 : Wh h w2 a2 N2 V2) (hN : N < 2 ^ 31) (hN2 : N2 < 2 ^ 31) (hlt : lt ≤ 1000000) (hrt : rt ≤ 1000000) : g_M G mX9_compareProducts (d + 1) 0 0 [.ref w, .int (nI lt), .ref w2, .int (nI rt)] n ex h (q_i n ex [] h (fun r _ => r = cp_sg (V1 * lt) (V2 * rt))) := by
  obtain ⟨u1, f1, hw, ha, hu1, e1, n1⟩ := hq1
  obtain ⟨u2, f2, hw2, ha2, hu2, e2, n2⟩ := hq2
  rw [← e1, ← e2]
  have hb : max u1 u2 < 2 ^ 31 := by omega
  refine g_enter (by decide) (Nat.le_of_ble_eq_true rfl) ?_
  show g_W G _ _ _ n ex h 0 0 0 [(0, .ref w), (1, .int (nI lt)), (2, .ref w2), (3, .int (nI rt))] []
  refine g_aload_n dX9_compareProducts_0 rfl rfl ?_
  refine g_getf dX9_compareProducts_1 fX9_15 hw rfl ?_
  refine g_aload_n dX9_compareProducts_4 rfl rfl ?_
  refine g_getf dX9_compareProducts_5 fX9_15 hw2 rfl ?_
  refine g_mmax dX9_compareProducts_8 sX9_29 (by omega) (by omega) (by simp only [g_rm]; omega) (by simp only [g_rm]; omega) (Nat.le_of_ble_eq_true rfl) (Nat.zero_le _) (Nat.zero_le _) ?_
  refine g_istore (ls' := [(4, .int (nI (max u1 u2))), (0, .ref w), (1, .int (nI lt)), (2, .ref w2), (3, .int (nI rt))]) dX9_compareProducts_11 (by decide) rfl ?_
  refine g_iconst (v := nI 0) dX9_compareProducts_13 (by decide) ?_
  refine g_istore (ls' := [(5, .int (nI 0)), (4, .int (nI (max u1 u2))), (0, .ref w), (1, .int (nI lt)), (2, .ref w2), (3, .int (nI rt))]) dX9_compareProducts_14 (by decide) rfl ?_
  refine g_lconst (v := lN 0) dX9_compareProducts_16 (by decide) ?_
  refine g_lstore (ls' := [(6, .long (lN 0)), (5, .int (nI 0)), (4, .int (nI (max u1 u2))), (0, .ref w), (1, .int (nI lt)), (2, .ref w2), (3, .int (nI rt))]) dX9_compareProducts_17 (by decide) rfl ?_
  refine g_iconst (v := nI 0) dX9_compareProducts_19 (by decide) ?_
  refine g_istore (ls' := [(8, .int (nI 0)), (6, .long (lN 0)), (5, .int (nI 0)), (4, .int (nI (max u1 u2))), (0, .ref w), (1, .int (nI lt)), (2, .ref w2), (3, .int (nI rt))]) dX9_compareProducts_20 (by decide) rfl ?_
  refine g_pick [0, 1, 2, 3, 4, 5, 6, 7] (ls' := [(8, .int (nI 0)), (6, .long (lN 0)), (5, .int (nI 0)), (4, .int (nI (max u1 u2))), (0, .ref w), (1, .int (nI lt)), (2, .ref w2), (3, .int (nI rt))]) rfl ?_
  rw [show lN 0 = lZ 0 from lZ_N 0]
  exact lp_cp G d n ex h hN hN2 hu1 hu2 hlt hrt hw ha hw2 ha2 hb (max u1 u2 + 1) 0 0 0 0 (by omega) (Nat.zero_le _) ⟨by show (0 : Int) * lt - 0 * rt = 0 * _ + 0; omega, by decide, by decide, by omega, by omega, Or.inl ⟨rfl, rfl⟩⟩
