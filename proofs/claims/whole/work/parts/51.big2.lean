theorem bv_ltx {B : Nat → Nat} {o p k L : Nat} (hk : k ≤ L) (h : ∀ j, k ≤ j → j < L → B (o + j) = B (p + j)) (hl : bv B o k < bv B p k) : bv B o L < bv B p L := by
  obtain ⟨m, rfl⟩ := Nat.exists_eq_add_of_le hk
  clear hk
  induction m with
  | zero => exact hl
  | succ m ih =>
    have h1 := ih (fun j h1 h2 => h j h1 (by omega))
    show bv B o (k + m) + B (o + (k + m)) * _ < bv B p (k + m) + B (p + (k + m)) * _
    rw [h (k + m) (by omega) (by omega)]
    omega
theorem bv_ltd {B : Nat → Nat} (hB : ∀ j, B j < 65536) {o p j : Nat} (h : B (o + j) < B (p + j)) : bv B o (j + 1) < bv B p (j + 1) := by
  show bv B o j + B (o + j) * _ < bv B p j + B (p + j) * _
  have h1 := bv_lt hB o j
  have h2 := Nat.mul_le_mul_right (65536 ^ j) (show B (o + j) + 1 ≤ B (p + j) by omega)
  rw [Nat.add_mul] at h2
  omega
theorem bv_lts {B : Nat → Nat} (hB : ∀ j, B j < 65536) {o p k m : Nat} (hm : m = 0 ∨ ¬ B (p + m - 1) = 0) (h : k < m) : bv B o k < bv B p m := by
  rcases bv_top hm with q | q
  · omega
  · exact Nat.lt_of_lt_of_le (bv_lt hB o k) (Nat.le_trans (Nat.pow_le_pow_right (by decide) (by omega)) q)
theorem cp_l {X Y : Nat} (h : X < Y) : cp_sg X Y = -1 := if_pos h
theorem cp_g {X Y : Nat} (h : Y < X) : cp_sg X Y = 1 := (if_neg (by omega)).trans (if_neg (by omega))
theorem cp_e {X Y : Nat} (h : X = Y) : cp_sg X Y = 0 := (if_neg (by omega)).trans (if_pos h)
set_option maxHeartbeats 4000000 in
set_option maxRecDepth 100000 in
theorem lp_mcompare (G : gG) (R : Room) (n : Nat) (ex : Bool) (h : gH) {X : Nat → Int32} {B Z : Nat → Nat} {s u : Nat} (hs : s < 9) (hu : u < 9) (hz : Z s ≤ 1190) (he : Z s = Z u) (hg : Bg h X B Z) : ∀ (j : Nat), j ≤ Z s → (∀ i, j ≤ i → i < Z s → B (1200 * s + i) = B (1200 * u + i)) →
    g_W G mX11_compare R (g_K G (q_i n ex [] h (fun r _ => r = cp_sg (bv B (1200 * s) (Z s)) (bv B (1200 * u) (Z u)))) 0 0) n ex h 0 0 45 [(3, .int (nI j - nI 1)), (0, .ref 142), (1, .int (nI s)), (2, .int (nI u))] [] := by
  obtain ⟨m0, m1, m2, m3⟩ := id hg
  intro j
  induction j with
  | zero =>
    intro hj hI
    refine g_iload_n dX11_compare_45 rfl rfl ?_
    refine g_if_lt (tgt := 103) dX11_compare_46 (by decide) (fun c46 => ?_) (fun c46 => ?_)
    · refine g_iconst (v := nI 0) dX11_compare_103 (by decide) ?_
      exact e_i dX11_compare_104 rfl rfl g_fr.rf (cp_e (by rw [← he]; exact bv_congr (fun i hi => hI i (by omega) hi))).symm (by decide) (by decide)
    · exact absurd (show nI 0 - nI 1 < 0 by decide) c46
  | succ j ih =>
    intro hj hI
    rw [nI_pr]
    have hb1 := m3 (1200 * s + j)
    have hb2 := m3 (1200 * u + j)
    refine g_iload_n dX11_compare_45 rfl rfl ?_
    refine g_if_ltN (tgt := 103) dX11_compare_46 (by decide) (by omega) (fun c46 => ?_) (fun c46 => ?_)
    · exact c46.elim
    · refine g_aload_n dX11_compare_49 rfl rfl ?_
      refine g_getf dX11_compare_50 fX11_76 m0 rfl ?_
      refine g_sipush (v := nI 1200) dX11_compare_53 (by decide) ?_
      refine g_iload_n dX11_compare_56 rfl rfl ?_
      refine g_imulN dX11_compare_57 ?_
      refine g_iload_n dX11_compare_58 rfl rfl ?_
      refine g_iaddN dX11_compare_59 ?_
      refine g_ialdN dX11_compare_60 m1 (by omega) (by decide) ?_
      refine g_istore (ls' := [(4, .int (nI (B ((1200 * s) + j)))), (3, .int (nI j)), (0, .ref 142), (1, .int (nI s)), (2, .int (nI u))]) dX11_compare_61 (by decide) rfl ?_
      refine g_aload_n dX11_compare_63 rfl rfl ?_
      refine g_getf dX11_compare_64 fX11_76 m0 rfl ?_
      refine g_sipush (v := nI 1200) dX11_compare_67 (by decide) ?_
      refine g_iload_n dX11_compare_70 rfl rfl ?_
      refine g_imulN dX11_compare_71 ?_
      refine g_iload_n dX11_compare_72 rfl rfl ?_
      refine g_iaddN dX11_compare_73 ?_
      refine g_ialdN dX11_compare_74 m1 (by omega) (by decide) ?_
      refine g_istore (ls' := [(5, .int (nI (B ((1200 * u) + j)))), (4, .int (nI (B ((1200 * s) + j)))), (3, .int (nI j)), (0, .ref 142), (1, .int (nI s)), (2, .int (nI u))]) dX11_compare_75 (by decide) rfl ?_
      refine g_iload dX11_compare_77 rfl ?_
      refine g_iload dX11_compare_79 rfl ?_
      refine g_icmp_eqN (tgt := 97) dX11_compare_81 (by decide) (by omega) (by omega) (fun c81 => ?_) (fun c81 => ?_)
      · refine g_iinc (v := nI j - nI 1) (ls' := [(3, .int (nI j - nI 1)), (5, .int (nI (B ((1200 * u) + j)))), (4, .int (nI (B ((1200 * s) + j)))), (0, .ref 142), (1, .int (nI s)), (2, .int (nI u))]) dX11_compare_97 rfl (nI_dec _) (by decide) rfl ?_
        refine g_goto (tgt := 45) dX11_compare_100 (by decide) ?_
        refine g_pick [0, 3, 4, 5] (ls' := [(3, .int (nI j - nI 1)), (0, .ref 142), (1, .int (nI s)), (2, .int (nI u))]) rfl ?_
        exact ih (by omega) (fun i h1 h2 => by by_cases q : i = j; (subst q; exact c81); exact hI i (by omega) h2)
      · refine g_iload dX11_compare_84 rfl ?_
        refine g_iload dX11_compare_86 rfl ?_
        refine g_icmp_geN (tgt := 95) dX11_compare_88 (by decide) (by omega) (by omega) (fun c88 => ?_) (fun c88 => ?_)
        · refine g_iconst (v := nI 1) dX11_compare_95 (by decide) ?_
          exact e_i dX11_compare_96 rfl rfl g_fr.rf (by first | exact (cp_l (by rw [← he]; exact bv_ltx (by omega) hI (bv_ltd m3 c88))).symm | exact (cp_g (by rw [← he]; exact bv_ltx (o := 1200 * u) (p := 1200 * s) (by omega) (fun i h1 h2 => (hI i h1 h2).symm) (bv_ltd m3 (by omega)))).symm) (by decide) (by decide)
        · refine g_iconst (v := -1) dX11_compare_91 (by decide) ?_
          refine g_goto (tgt := 96) dX11_compare_92 (by decide) ?_
          exact e_i dX11_compare_96 rfl rfl g_fr.rf (by first | exact (cp_l (by rw [← he]; exact bv_ltx (by omega) hI (bv_ltd m3 c88))).symm | exact (cp_g (by rw [← he]; exact bv_ltx (o := 1200 * u) (p := 1200 * s) (by omega) (fun i h1 h2 => (hI i h1 h2).symm) (bv_ltd m3 (by omega)))).symm) (by decide) (by decide)
set_option maxHeartbeats 4000000 in
set_option maxRecDepth 100000 in
theorem c_mcompare (G : gG) (d n : Nat) (ex : Bool) (h : gH) {X : Nat → Int32} {V : Nat → Option Nat} {s u a b : Nat} (hN : Bn h X V) (hs : s < 9) (hu : u < 9) (ha : V s = some a) (hb : V u = some b) : g_M G mX11_compare d 0 0 [.ref 142, .int (nI s), .int (nI u)] n ex h (q_i n ex [] h (fun r _ => r = cp_sg a b)) := by
  obtain ⟨B, Z, ⟨m0, m1, m2, m3⟩, hV⟩ := hN
  have hVs := hV s hs
  rw [ha] at hVs
  obtain ⟨q1, q2, q3⟩ := hVs
  have hVu := hV u hu
  rw [hb] at hVu
  obtain ⟨k1, k2, k3⟩ := hVu
  refine g_enter (by decide) (Nat.le_of_ble_eq_true rfl) ?_
  show g_W G _ _ _ n ex h 0 0 0 [(0, .ref 142), (1, .int (nI s)), (2, .int (nI u))] []
  refine g_aload_n dX11_compare_0 rfl rfl ?_
  refine g_getf dX11_compare_1 fX11_79 m0 rfl ?_
  refine g_iload_n dX11_compare_4 rfl rfl ?_
  refine g_ialdN dX11_compare_5 m2 (by omega) (by decide) ?_
  refine g_aload_n dX11_compare_6 rfl rfl ?_
  refine g_getf dX11_compare_7 fX11_79 m0 rfl ?_
  refine g_iload_n dX11_compare_10 rfl rfl ?_
  refine g_ialdN dX11_compare_11 m2 (by omega) (by decide) ?_
  refine g_icmp_eqN (tgt := 36) dX11_compare_12 (by decide) (by omega) (by omega) (fun c12 => ?_) (fun c12 => ?_)
  · refine g_aload_n dX11_compare_36 rfl rfl ?_
    refine g_getf dX11_compare_37 fX11_79 m0 rfl ?_
    refine g_iload_n dX11_compare_40 rfl rfl ?_
    refine g_ialdN dX11_compare_41 m2 (by omega) (by decide) ?_
    refine g_iconst (v := nI 1) dX11_compare_42 (by decide) ?_
    refine g_isub dX11_compare_43 ?_
    refine g_istore_n (ls' := [(3, .int ((nI (Z s)) - (nI 1))), (0, .ref 142), (1, .int (nI s)), (2, .int (nI u))]) dX11_compare_44 rfl (by decide) rfl ?_
    refine g_pick [0, 1, 2, 3] (ls' := [(3, .int ((nI (Z s)) - (nI 1))), (0, .ref 142), (1, .int (nI s)), (2, .int (nI u))]) rfl ?_
    rw [← q2, ← k2]
    exact lp_mcompare G _ n ex h hs hu q1 c12 ⟨m0, m1, m2, m3⟩ (Z s) (Nat.le_refl _) (fun i h1 h2 => absurd h2 (by omega))
  · refine g_aload_n dX11_compare_15 rfl rfl ?_
    refine g_getf dX11_compare_16 fX11_79 m0 rfl ?_
    refine g_iload_n dX11_compare_19 rfl rfl ?_
    refine g_ialdN dX11_compare_20 m2 (by omega) (by decide) ?_
    refine g_aload_n dX11_compare_21 rfl rfl ?_
    refine g_getf dX11_compare_22 fX11_79 m0 rfl ?_
    refine g_iload_n dX11_compare_25 rfl rfl ?_
    refine g_ialdN dX11_compare_26 m2 (by omega) (by decide) ?_
    refine g_icmp_geN (tgt := 34) dX11_compare_27 (by decide) (by omega) (by omega) (fun c27 => ?_) (fun c27 => ?_)
    · refine g_iconst (v := nI 1) dX11_compare_34 (by decide) ?_
      exact e_i dX11_compare_35 rfl rfl g_fr.rf (by rw [← q2, ← k2]; first | exact (cp_l (bv_lts m3 k3 c27)).symm | exact (cp_g (bv_lts m3 q3 (by omega))).symm) (by decide) (by decide)
    · refine g_iconst (v := -1) dX11_compare_30 (by decide) ?_
      refine g_goto (tgt := 35) dX11_compare_31 (by decide) ?_
      exact e_i dX11_compare_35 rfl rfl g_fr.rf (by rw [← q2, ← k2]; first | exact (cp_l (bv_lts m3 k3 c27)).symm | exact (cp_g (bv_lts m3 q3 (by omega))).symm) (by decide) (by decide)
/-- a number's limbs, 0 behind its length -/
def mz (B : Nat → Nat) (o z : Nat) : Nat → Nat := fun j => if j < z then B (o + j) else 0
theorem mz_i {B : Nat → Nat} {o z i : Nat} (h : i < z) : mz B o z i = B (o + i) := if_pos h
theorem mz_o {B : Nat → Nat} {o z i : Nat} (h : z ≤ i) : mz B o z i = 0 := if_neg (by omega)
theorem mz_b {B : Nat → Nat} (hB : ∀ j, B j < 65536) (o z : Nat) : ∀ i, mz B o z i < 65536 := fun i => by unfold mz; split; exact hB _; decide
theorem mz_v {B : Nat → Nat} {o z k : Nat} (h : z ≤ k) : bv (mz B o z) 0 k = bv B o z := by
  obtain ⟨m, rfl⟩ := Nat.exists_eq_add_of_le h
  clear h
  induction m with
  | zero => exact bv_congr (fun i hi => by rw [Nat.zero_add]; exact mz_i hi)
  | succ m ih =>
    show bv (mz B o z) 0 (z + m) + mz B o z (0 + (z + m)) * _ = _
    rw [ih, mz_o (by omega), Nat.zero_mul, Nat.add_zero]
theorem nx16 (k : Nat) : nI k &&& nI 65535 = nI (k % 65536) := nx_mod k
theorem sh16 {k : Nat} (h : k < 2147483648) : nI k >>> (nI 16 &&& 31) = nI (k / 65536) := by
  have e : nI k >>> (nI 16 &&& 31) = ((nI k).toUInt32 >>> ((nI 16).toUInt32 &&& Int32.toUInt32 31)).toInt32 := b_ext (fun i hi => by
    rw [b_sshr 16 (by decide) _ hi, b_ushr 16 (by decide)]
    split
    · rfl
    · have h1 : bt (nI k) 31 = false := by
        show (nI k).toBitVec.getLsbD 31 = false
        show (BitVec.ofNat 32 k).getLsbD 31 = false
        rw [BitVec.getLsbD_ofNat]
        simp only [Nat.testBit_lt_two_pow (show k < 2 ^ 31 from h), Bool.and_false]
      rw [h1]
      exact (BitVec.getLsbD_of_ge _ _ (by omega)).symm)
  rw [e, un_hi16, un_nI (by omega)]
theorem ad_s {x c S p u v b1 b2 : Nat} (h : x + c * p = u + v) (e : S = c + b1 + b2) : x + S % 65536 * p + S / 65536 * (p * 65536) = u + b1 * p + (v + b2 * p) := by
  have e1 : S % 65536 * p + S / 65536 * (p * 65536) = S * p := by
    rw [Nat.mul_comm p 65536, ← Nat.mul_assoc, ← Nat.add_mul]
    congr 1; omega
  rw [Nat.add_assoc, e1, e, Nat.add_mul, Nat.add_mul]
  omega
set_option maxHeartbeats 4000000 in
set_option maxRecDepth 100000 in
theorem lp_madd (G : gG) (d n : Nat) (ex : Bool) (h0 : gH) {X : Nat → Int32} {V : Nat → Option Nat} {B0 Z0 : Nat → Nat} {s u a b : Nat} (hs : s < 9) (hu : u < 9) (hsu : ¬ s = u) (hr : a + b < RM) (hV : ∀ s, s < 9 → Bs B0 Z0 s (V s)) (hB : ∀ j, B0 j < 65536) (q1 : Z0 s ≤ 1190) (q2 : bv B0 (1200 * s) (Z0 s) = a) (k1 : Z0 u ≤ 1190) (k2 : bv B0 (1200 * u) (Z0 u) = b) : ∀ (t c m i : Nat) (B : Nat → Nat) (h : gH), 1200 - i < t → i ≤ m → c ≤ 1 → Z0 s ≤ m ∧ Z0 u ≤ m ∧ (m ≤ i ∨ m ≤ Z0 s ∨ m ≤ Z0 u) ∧ i ≤ 1190 → Bg h X B Z0 → bv B (1200 * s) i + c * 65536 ^ i = bv (mz B0 (1200 * s) (Z0 s)) 0 i + bv (mz B0 (1200 * u) (Z0 u)) 0 i → (∀ j, i ≤ j → j < 1200 → B (1200 * s + j) = B0 (1200 * s + j)) → (∀ j, (j < 1200 * s ∨ 1200 * s + 1200 ≤ j) → B j = B0 j) → g_fr [156, 157] h0 h →
    g_W G mX11_add (g_rm (d + 1) 0 0) (g_K G (q_v n ex [156, 157] h0 (fun h' => Bn h' X (va_up V s (some (a + b))))) 0 0) n ex h 0 0 37 [(5, .int (nI i)), (4, .int (nI m)), (3, .int (nI c)), (0, .ref 142), (1, .int (nI s)), (2, .int (nI u))] [] := by
  intro t
  induction t with
  | zero => intro c m i B h hm hi hc hq; exact absurd hm (by omega)
  | succ t ih =>
    intro c m i B h ht him hc hm hg hval hB0 hO hf
    obtain ⟨m0, m1, m2, m3⟩ := id hg
    obtain ⟨n1, n2, n3, n4⟩ := hm
    have w1 := mz_b hB (1200 * s) (Z0 s) i
    have w2 := mz_b hB (1200 * u) (Z0 u) i
    have w3 : (c + mz B0 (1200 * s) (Z0 s) i + mz B0 (1200 * u) (Z0 u) i) / 65536 ≤ 1 := by omega
    refine g_iload dX11_add_37 rfl ?_
    refine g_iload dX11_add_39 rfl ?_
    refine g_icmp_ltN (tgt := 48) dX11_add_41 (by decide) (by omega) (by omega) (fun c41 => ?_) (fun c41 => ?_)
    · have hi9 : i < 1190 := by
        rcases Nat.lt_or_ge i 1190 with q | q
        · exact q
        · have h9 : 65536 ^ 1190 ≤ 65536 ^ i := Nat.pow_le_pow_right (by decide) q
          have h8 := Nat.mul_le_mul_right (65536 ^ i) (show 1 ≤ c by omega)
          have h7 := hval
          rw [mz_v (by omega), mz_v (by omega), q2, k2] at h7
          exact absurd hr (by show ¬ a + b < 65536 ^ 1190; omega)
      refine g_iload_n dX11_add_48 rfl rfl ?_
      refine g_iload dX11_add_49 rfl ?_
      refine g_aload_n dX11_add_51 rfl rfl ?_
      refine g_getf dX11_add_52 fX11_79 m0 rfl ?_
      refine g_iload_n dX11_add_55 rfl rfl ?_
      refine g_ialdN dX11_add_56 m2 (by omega) (by decide) ?_
      refine g_icmp_geN (tgt := 76) dX11_add_57 (by decide) (by omega) (by omega) (fun c57 => ?_) (fun c57 => ?_)
      · refine g_iconst (v := nI 0) dX11_add_76 (by decide) ?_
        refine g_top (show nI 0 = nI (mz B0 (1200 * s) (Z0 s) i) from by rw [mz_o (by omega)]) ?_
        refine g_iaddN dX11_add_77 ?_
        refine g_iload dX11_add_78 rfl ?_
        refine g_aload_n dX11_add_80 rfl rfl ?_
        refine g_getf dX11_add_81 fX11_79 m0 rfl ?_
        refine g_iload_n dX11_add_84 rfl rfl ?_
        refine g_ialdN dX11_add_85 m2 (by omega) (by decide) ?_
        refine g_icmp_geN (tgt := 105) dX11_add_86 (by decide) (by omega) (by omega) (fun c86 => ?_) (fun c86 => ?_)
        · refine g_iconst (v := nI 0) dX11_add_105 (by decide) ?_
          refine g_top (show nI 0 = nI (mz B0 (1200 * u) (Z0 u) i) from by rw [mz_o (by omega)]) ?_
          refine g_iaddN dX11_add_106 ?_
          refine g_istore (ls' := [(6, .int (nI ((c + (mz B0 (1200 * s) (Z0 s) i)) + (mz B0 (1200 * u) (Z0 u) i)))), (5, .int (nI i)), (4, .int (nI m)), (3, .int (nI c)), (0, .ref 142), (1, .int (nI s)), (2, .int (nI u))]) dX11_add_107 (by decide) rfl ?_
          refine g_aload_n dX11_add_109 rfl rfl ?_
          refine g_getf dX11_add_110 fX11_76 m0 rfl ?_
          refine g_sipush (v := nI 1200) dX11_add_113 (by decide) ?_
          refine g_iload_n dX11_add_116 rfl rfl ?_
          refine g_imulN dX11_add_117 ?_
          refine g_iload dX11_add_118 rfl ?_
          refine g_iaddN dX11_add_120 ?_
          refine g_iload dX11_add_121 rfl ?_
          refine g_ldc dX11_add_123 kX11_194 rfl ?_
          refine g_top (show (65535 : Int32) = nI 65535 by decide) ?_
          refine g_iand dX11_add_125 ?_
          refine g_top (show (nI ((c + (mz B0 (1200 * s) (Z0 s) i)) + (mz B0 (1200 * u) (Z0 u) i))) &&& (nI 65535) = nI ((c + mz B0 (1200 * s) (Z0 s) i + mz B0 (1200 * u) (Z0 u) i) % 65536) from nx16 _) ?_
          refine g_iastN dX11_add_126 m1 (by omega) (by decide) ?_
          rw [upd_nI]
          refine g_iload dX11_add_127 rfl ?_
          refine g_bipush (v := nI 16) dX11_add_129 (by decide) ?_
          refine g_ishr dX11_add_131 ?_
          refine g_top (show (nI ((c + (mz B0 (1200 * s) (Z0 s) i)) + (mz B0 (1200 * u) (Z0 u) i))) >>> ((nI 16) &&& 31) = nI ((c + mz B0 (1200 * s) (Z0 s) i + mz B0 (1200 * u) (Z0 u) i) / 65536) from sh16 (by omega)) ?_
          refine g_istore_n (ls' := [(3, .int (nI ((c + mz B0 (1200 * s) (Z0 s) i + mz B0 (1200 * u) (Z0 u) i) / 65536))), (6, .int (nI ((c + (mz B0 (1200 * s) (Z0 s) i)) + (mz B0 (1200 * u) (Z0 u) i)))), (5, .int (nI i)), (4, .int (nI m)), (0, .ref 142), (1, .int (nI s)), (2, .int (nI u))]) dX11_add_132 rfl (by decide) rfl ?_
          refine g_iload dX11_add_133 rfl ?_
          refine g_iconst (v := nI 1) dX11_add_135 (by decide) ?_
          refine g_iaddN dX11_add_136 ?_
          refine g_iload dX11_add_137 rfl ?_
          refine g_icmp_leN (tgt := 149) dX11_add_139 (by decide) (by omega) (by omega) (fun c139 => ?_) (fun c139 => ?_)
          · refine g_iload dX11_add_149 rfl ?_
            refine g_istore (ls' := [(4, .int (nI m)), (3, .int (nI ((c + mz B0 (1200 * s) (Z0 s) i + mz B0 (1200 * u) (Z0 u) i) / 65536))), (6, .int (nI ((c + (mz B0 (1200 * s) (Z0 s) i)) + (mz B0 (1200 * u) (Z0 u) i)))), (5, .int (nI i)), (0, .ref 142), (1, .int (nI s)), (2, .int (nI u))]) dX11_add_151 (by decide) rfl ?_
            refine g_iincN (z := 1) (ls' := [(5, .int (nI (i + 1))), (4, .int (nI m)), (3, .int (nI ((c + mz B0 (1200 * s) (Z0 s) i + mz B0 (1200 * u) (Z0 u) i) / 65536))), (6, .int (nI ((c + (mz B0 (1200 * s) (Z0 s) i)) + (mz B0 (1200 * u) (Z0 u) i)))), (0, .ref 142), (1, .int (nI s)), (2, .int (nI u))]) dX11_add_153 rfl (by decide) rfl ?_
            refine g_goto (tgt := 37) dX11_add_156 (by decide) ?_
            refine g_pick [0, 1, 2, 4, 5, 6] (ls' := [(5, .int (nI (i + 1))), (4, .int (nI m)), (3, .int (nI ((c + mz B0 (1200 * s) (Z0 s) i + mz B0 (1200 * u) (Z0 u) i) / 65536))), (0, .ref 142), (1, .int (nI s)), (2, .int (nI u))]) rfl ?_
            refine ih ((c + mz B0 (1200 * s) (Z0 s) i + mz B0 (1200 * u) (Z0 u) i) / 65536) m (i + 1) (va_up B (1200 * s + i) ((c + mz B0 (1200 * s) (Z0 s) i + mz B0 (1200 * u) (Z0 u) i) % 65536)) _ (by omega) (by omega) (by omega) (by omega) ⟨g_ne (by decide) m0, g_eq, g_ne (by decide) m2, up_b m3 (Nat.mod_lt _ (by decide))⟩ ?_ (fun j h1 h2 => (va_n (by omega)).trans (hB0 j (by omega) h2)) (fun j hj => (va_n (by omega)).trans (hO j hj)) (hf.up (by simp))
            rw [bv_put, Nat.pow_succ]
            show _ = bv (mz B0 (1200 * s) (Z0 s)) 0 i + mz B0 (1200 * s) (Z0 s) (0 + i) * _ + (bv (mz B0 (1200 * u) (Z0 u)) 0 i + mz B0 (1200 * u) (Z0 u) (0 + i) * _)
            rw [Nat.zero_add]
            exact ad_s hval rfl
          · refine g_iload dX11_add_142 rfl ?_
            refine g_iconst (v := nI 1) dX11_add_144 (by decide) ?_
            refine g_iaddN dX11_add_145 ?_
            refine g_goto (tgt := 151) dX11_add_146 (by decide) ?_
            refine g_istore (ls' := [(4, .int (nI (i + 1))), (3, .int (nI ((c + mz B0 (1200 * s) (Z0 s) i + mz B0 (1200 * u) (Z0 u) i) / 65536))), (6, .int (nI ((c + (mz B0 (1200 * s) (Z0 s) i)) + (mz B0 (1200 * u) (Z0 u) i)))), (5, .int (nI i)), (0, .ref 142), (1, .int (nI s)), (2, .int (nI u))]) dX11_add_151 (by decide) rfl ?_
            refine g_iincN (z := 1) (ls' := [(5, .int (nI (i + 1))), (4, .int (nI (i + 1))), (3, .int (nI ((c + mz B0 (1200 * s) (Z0 s) i + mz B0 (1200 * u) (Z0 u) i) / 65536))), (6, .int (nI ((c + (mz B0 (1200 * s) (Z0 s) i)) + (mz B0 (1200 * u) (Z0 u) i)))), (0, .ref 142), (1, .int (nI s)), (2, .int (nI u))]) dX11_add_153 rfl (by decide) rfl ?_
            refine g_goto (tgt := 37) dX11_add_156 (by decide) ?_
            refine g_pick [0, 1, 2, 4, 5, 6] (ls' := [(5, .int (nI (i + 1))), (4, .int (nI (i + 1))), (3, .int (nI ((c + mz B0 (1200 * s) (Z0 s) i + mz B0 (1200 * u) (Z0 u) i) / 65536))), (0, .ref 142), (1, .int (nI s)), (2, .int (nI u))]) rfl ?_
            refine ih ((c + mz B0 (1200 * s) (Z0 s) i + mz B0 (1200 * u) (Z0 u) i) / 65536) (i + 1) (i + 1) (va_up B (1200 * s + i) ((c + mz B0 (1200 * s) (Z0 s) i + mz B0 (1200 * u) (Z0 u) i) % 65536)) _ (by omega) (by omega) (by omega) (by omega) ⟨g_ne (by decide) m0, g_eq, g_ne (by decide) m2, up_b m3 (Nat.mod_lt _ (by decide))⟩ ?_ (fun j h1 h2 => (va_n (by omega)).trans (hB0 j (by omega) h2)) (fun j hj => (va_n (by omega)).trans (hO j hj)) (hf.up (by simp))
            rw [bv_put, Nat.pow_succ]
            show _ = bv (mz B0 (1200 * s) (Z0 s)) 0 i + mz B0 (1200 * s) (Z0 s) (0 + i) * _ + (bv (mz B0 (1200 * u) (Z0 u)) 0 i + mz B0 (1200 * u) (Z0 u) (0 + i) * _)
            rw [Nat.zero_add]
            exact ad_s hval rfl
        · refine g_aload_n dX11_add_89 rfl rfl ?_
          refine g_getf dX11_add_90 fX11_76 m0 rfl ?_
          refine g_sipush (v := nI 1200) dX11_add_93 (by decide) ?_
          refine g_iload_n dX11_add_96 rfl rfl ?_
          refine g_imulN dX11_add_97 ?_
          refine g_iload dX11_add_98 rfl ?_
          refine g_iaddN dX11_add_100 ?_
          refine g_ialdN dX11_add_101 m1 (by omega) (by decide) ?_
          refine g_goto (tgt := 106) dX11_add_102 (by decide) ?_
          refine g_top (show nI (B ((1200 * u) + i)) = nI (mz B0 (1200 * u) (Z0 u) i) from by rw [mz_i (by omega), hO _ (by omega)]) ?_
          refine g_iaddN dX11_add_106 ?_
          refine g_istore (ls' := [(6, .int (nI ((c + (mz B0 (1200 * s) (Z0 s) i)) + (mz B0 (1200 * u) (Z0 u) i)))), (5, .int (nI i)), (4, .int (nI m)), (3, .int (nI c)), (0, .ref 142), (1, .int (nI s)), (2, .int (nI u))]) dX11_add_107 (by decide) rfl ?_
          refine g_aload_n dX11_add_109 rfl rfl ?_
          refine g_getf dX11_add_110 fX11_76 m0 rfl ?_
          refine g_sipush (v := nI 1200) dX11_add_113 (by decide) ?_
          refine g_iload_n dX11_add_116 rfl rfl ?_
          refine g_imulN dX11_add_117 ?_
          refine g_iload dX11_add_118 rfl ?_
          refine g_iaddN dX11_add_120 ?_
          refine g_iload dX11_add_121 rfl ?_
          refine g_ldc dX11_add_123 kX11_194 rfl ?_
          refine g_top (show (65535 : Int32) = nI 65535 by decide) ?_
          refine g_iand dX11_add_125 ?_
          refine g_top (show (nI ((c + (mz B0 (1200 * s) (Z0 s) i)) + (mz B0 (1200 * u) (Z0 u) i))) &&& (nI 65535) = nI ((c + mz B0 (1200 * s) (Z0 s) i + mz B0 (1200 * u) (Z0 u) i) % 65536) from nx16 _) ?_
          refine g_iastN dX11_add_126 m1 (by omega) (by decide) ?_
          rw [upd_nI]
          refine g_iload dX11_add_127 rfl ?_
          refine g_bipush (v := nI 16) dX11_add_129 (by decide) ?_
          refine g_ishr dX11_add_131 ?_
          refine g_top (show (nI ((c + (mz B0 (1200 * s) (Z0 s) i)) + (mz B0 (1200 * u) (Z0 u) i))) >>> ((nI 16) &&& 31) = nI ((c + mz B0 (1200 * s) (Z0 s) i + mz B0 (1200 * u) (Z0 u) i) / 65536) from sh16 (by omega)) ?_
          refine g_istore_n (ls' := [(3, .int (nI ((c + mz B0 (1200 * s) (Z0 s) i + mz B0 (1200 * u) (Z0 u) i) / 65536))), (6, .int (nI ((c + (mz B0 (1200 * s) (Z0 s) i)) + (mz B0 (1200 * u) (Z0 u) i)))), (5, .int (nI i)), (4, .int (nI m)), (0, .ref 142), (1, .int (nI s)), (2, .int (nI u))]) dX11_add_132 rfl (by decide) rfl ?_
          refine g_iload dX11_add_133 rfl ?_
          refine g_iconst (v := nI 1) dX11_add_135 (by decide) ?_
          refine g_iaddN dX11_add_136 ?_
          refine g_iload dX11_add_137 rfl ?_
          refine g_icmp_leN (tgt := 149) dX11_add_139 (by decide) (by omega) (by omega) (fun c139 => ?_) (fun c139 => ?_)
          · refine g_iload dX11_add_149 rfl ?_
            refine g_istore (ls' := [(4, .int (nI m)), (3, .int (nI ((c + mz B0 (1200 * s) (Z0 s) i + mz B0 (1200 * u) (Z0 u) i) / 65536))), (6, .int (nI ((c + (mz B0 (1200 * s) (Z0 s) i)) + (mz B0 (1200 * u) (Z0 u) i)))), (5, .int (nI i)), (0, .ref 142), (1, .int (nI s)), (2, .int (nI u))]) dX11_add_151 (by decide) rfl ?_
            refine g_iincN (z := 1) (ls' := [(5, .int (nI (i + 1))), (4, .int (nI m)), (3, .int (nI ((c + mz B0 (1200 * s) (Z0 s) i + mz B0 (1200 * u) (Z0 u) i) / 65536))), (6, .int (nI ((c + (mz B0 (1200 * s) (Z0 s) i)) + (mz B0 (1200 * u) (Z0 u) i)))), (0, .ref 142), (1, .int (nI s)), (2, .int (nI u))]) dX11_add_153 rfl (by decide) rfl ?_
            refine g_goto (tgt := 37) dX11_add_156 (by decide) ?_
            refine g_pick [0, 1, 2, 4, 5, 6] (ls' := [(5, .int (nI (i + 1))), (4, .int (nI m)), (3, .int (nI ((c + mz B0 (1200 * s) (Z0 s) i + mz B0 (1200 * u) (Z0 u) i) / 65536))), (0, .ref 142), (1, .int (nI s)), (2, .int (nI u))]) rfl ?_
            refine ih ((c + mz B0 (1200 * s) (Z0 s) i + mz B0 (1200 * u) (Z0 u) i) / 65536) m (i + 1) (va_up B (1200 * s + i) ((c + mz B0 (1200 * s) (Z0 s) i + mz B0 (1200 * u) (Z0 u) i) % 65536)) _ (by omega) (by omega) (by omega) (by omega) ⟨g_ne (by decide) m0, g_eq, g_ne (by decide) m2, up_b m3 (Nat.mod_lt _ (by decide))⟩ ?_ (fun j h1 h2 => (va_n (by omega)).trans (hB0 j (by omega) h2)) (fun j hj => (va_n (by omega)).trans (hO j hj)) (hf.up (by simp))
            rw [bv_put, Nat.pow_succ]
            show _ = bv (mz B0 (1200 * s) (Z0 s)) 0 i + mz B0 (1200 * s) (Z0 s) (0 + i) * _ + (bv (mz B0 (1200 * u) (Z0 u)) 0 i + mz B0 (1200 * u) (Z0 u) (0 + i) * _)
            rw [Nat.zero_add]
            exact ad_s hval rfl
          · refine g_iload dX11_add_142 rfl ?_
            refine g_iconst (v := nI 1) dX11_add_144 (by decide) ?_
            refine g_iaddN dX11_add_145 ?_
            refine g_goto (tgt := 151) dX11_add_146 (by decide) ?_
            refine g_istore (ls' := [(4, .int (nI (i + 1))), (3, .int (nI ((c + mz B0 (1200 * s) (Z0 s) i + mz B0 (1200 * u) (Z0 u) i) / 65536))), (6, .int (nI ((c + (mz B0 (1200 * s) (Z0 s) i)) + (mz B0 (1200 * u) (Z0 u) i)))), (5, .int (nI i)), (0, .ref 142), (1, .int (nI s)), (2, .int (nI u))]) dX11_add_151 (by decide) rfl ?_
            refine g_iincN (z := 1) (ls' := [(5, .int (nI (i + 1))), (4, .int (nI (i + 1))), (3, .int (nI ((c + mz B0 (1200 * s) (Z0 s) i + mz B0 (1200 * u) (Z0 u) i) / 65536))), (6, .int (nI ((c + (mz B0 (1200 * s) (Z0 s) i)) + (mz B0 (1200 * u) (Z0 u) i)))), (0, .ref 142), (1, .int (nI s)), (2, .int (nI u))]) dX11_add_153 rfl (by decide) rfl ?_
            refine g_goto (tgt := 37) dX11_add_156 (by decide) ?_
            refine g_pick [0, 1, 2, 4, 5, 6] (ls' := [(5, .int (nI (i + 1))), (4, .int (nI (i + 1))), (3, .int (nI ((c + mz B0 (1200 * s) (Z0 s) i + mz B0 (1200 * u) (Z0 u) i) / 65536))), (0, .ref 142), (1, .int (nI s)), (2, .int (nI u))]) rfl ?_
            refine ih ((c + mz B0 (1200 * s) (Z0 s) i + mz B0 (1200 * u) (Z0 u) i) / 65536) (i + 1) (i + 1) (va_up B (1200 * s + i) ((c + mz B0 (1200 * s) (Z0 s) i + mz B0 (1200 * u) (Z0 u) i) % 65536)) _ (by omega) (by omega) (by omega) (by omega) ⟨g_ne (by decide) m0, g_eq, g_ne (by decide) m2, up_b m3 (Nat.mod_lt _ (by decide))⟩ ?_ (fun j h1 h2 => (va_n (by omega)).trans (hB0 j (by omega) h2)) (fun j hj => (va_n (by omega)).trans (hO j hj)) (hf.up (by simp))
            rw [bv_put, Nat.pow_succ]
            show _ = bv (mz B0 (1200 * s) (Z0 s)) 0 i + mz B0 (1200 * s) (Z0 s) (0 + i) * _ + (bv (mz B0 (1200 * u) (Z0 u)) 0 i + mz B0 (1200 * u) (Z0 u) (0 + i) * _)
            rw [Nat.zero_add]
            exact ad_s hval rfl
      · refine g_aload_n dX11_add_60 rfl rfl ?_
        refine g_getf dX11_add_61 fX11_76 m0 rfl ?_
        refine g_sipush (v := nI 1200) dX11_add_64 (by decide) ?_
        refine g_iload_n dX11_add_67 rfl rfl ?_
        refine g_imulN dX11_add_68 ?_
        refine g_iload dX11_add_69 rfl ?_
        refine g_iaddN dX11_add_71 ?_
        refine g_ialdN dX11_add_72 m1 (by omega) (by decide) ?_
        refine g_goto (tgt := 77) dX11_add_73 (by decide) ?_
        refine g_top (show nI (B ((1200 * s) + i)) = nI (mz B0 (1200 * s) (Z0 s) i) from by rw [mz_i (by omega), hB0 i (Nat.le_refl _) (by omega)]) ?_
        refine g_iaddN dX11_add_77 ?_
        refine g_iload dX11_add_78 rfl ?_
        refine g_aload_n dX11_add_80 rfl rfl ?_
        refine g_getf dX11_add_81 fX11_79 m0 rfl ?_
        refine g_iload_n dX11_add_84 rfl rfl ?_
        refine g_ialdN dX11_add_85 m2 (by omega) (by decide) ?_
        refine g_icmp_geN (tgt := 105) dX11_add_86 (by decide) (by omega) (by omega) (fun c86 => ?_) (fun c86 => ?_)
        · refine g_iconst (v := nI 0) dX11_add_105 (by decide) ?_
          refine g_top (show nI 0 = nI (mz B0 (1200 * u) (Z0 u) i) from by rw [mz_o (by omega)]) ?_
          refine g_iaddN dX11_add_106 ?_
          refine g_istore (ls' := [(6, .int (nI ((c + (mz B0 (1200 * s) (Z0 s) i)) + (mz B0 (1200 * u) (Z0 u) i)))), (5, .int (nI i)), (4, .int (nI m)), (3, .int (nI c)), (0, .ref 142), (1, .int (nI s)), (2, .int (nI u))]) dX11_add_107 (by decide) rfl ?_
          refine g_aload_n dX11_add_109 rfl rfl ?_
          refine g_getf dX11_add_110 fX11_76 m0 rfl ?_
          refine g_sipush (v := nI 1200) dX11_add_113 (by decide) ?_
          refine g_iload_n dX11_add_116 rfl rfl ?_
          refine g_imulN dX11_add_117 ?_
          refine g_iload dX11_add_118 rfl ?_
          refine g_iaddN dX11_add_120 ?_
          refine g_iload dX11_add_121 rfl ?_
          refine g_ldc dX11_add_123 kX11_194 rfl ?_
          refine g_top (show (65535 : Int32) = nI 65535 by decide) ?_
          refine g_iand dX11_add_125 ?_
          refine g_top (show (nI ((c + (mz B0 (1200 * s) (Z0 s) i)) + (mz B0 (1200 * u) (Z0 u) i))) &&& (nI 65535) = nI ((c + mz B0 (1200 * s) (Z0 s) i + mz B0 (1200 * u) (Z0 u) i) % 65536) from nx16 _) ?_
          refine g_iastN dX11_add_126 m1 (by omega) (by decide) ?_
          rw [upd_nI]
          refine g_iload dX11_add_127 rfl ?_
          refine g_bipush (v := nI 16) dX11_add_129 (by decide) ?_
          refine g_ishr dX11_add_131 ?_
          refine g_top (show (nI ((c + (mz B0 (1200 * s) (Z0 s) i)) + (mz B0 (1200 * u) (Z0 u) i))) >>> ((nI 16) &&& 31) = nI ((c + mz B0 (1200 * s) (Z0 s) i + mz B0 (1200 * u) (Z0 u) i) / 65536) from sh16 (by omega)) ?_
          refine g_istore_n (ls' := [(3, .int (nI ((c + mz B0 (1200 * s) (Z0 s) i + mz B0 (1200 * u) (Z0 u) i) / 65536))), (6, .int (nI ((c + (mz B0 (1200 * s) (Z0 s) i)) + (mz B0 (1200 * u) (Z0 u) i)))), (5, .int (nI i)), (4, .int (nI m)), (0, .ref 142), (1, .int (nI s)), (2, .int (nI u))]) dX11_add_132 rfl (by decide) rfl ?_
          refine g_iload dX11_add_133 rfl ?_
          refine g_iconst (v := nI 1) dX11_add_135 (by decide) ?_
          refine g_iaddN dX11_add_136 ?_
          refine g_iload dX11_add_137 rfl ?_
          refine g_icmp_leN (tgt := 149) dX11_add_139 (by decide) (by omega) (by omega) (fun c139 => ?_) (fun c139 => ?_)
          · refine g_iload dX11_add_149 rfl ?_
            refine g_istore (ls' := [(4, .int (nI m)), (3, .int (nI ((c + mz B0 (1200 * s) (Z0 s) i + mz B0 (1200 * u) (Z0 u) i) / 65536))), (6, .int (nI ((c + (mz B0 (1200 * s) (Z0 s) i)) + (mz B0 (1200 * u) (Z0 u) i)))), (5, .int (nI i)), (0, .ref 142), (1, .int (nI s)), (2, .int (nI u))]) dX11_add_151 (by decide) rfl ?_
            refine g_iincN (z := 1) (ls' := [(5, .int (nI (i + 1))), (4, .int (nI m)), (3, .int (nI ((c + mz B0 (1200 * s) (Z0 s) i + mz B0 (1200 * u) (Z0 u) i) / 65536))), (6, .int (nI ((c + (mz B0 (1200 * s) (Z0 s) i)) + (mz B0 (1200 * u) (Z0 u) i)))), (0, .ref 142), (1, .int (nI s)), (2, .int (nI u))]) dX11_add_153 rfl (by decide) rfl ?_
            refine g_goto (tgt := 37) dX11_add_156 (by decide) ?_
            refine g_pick [0, 1, 2, 4, 5, 6] (ls' := [(5, .int (nI (i + 1))), (4, .int (nI m)), (3, .int (nI ((c + mz B0 (1200 * s) (Z0 s) i + mz B0 (1200 * u) (Z0 u) i) / 65536))), (0, .ref 142), (1, .int (nI s)), (2, .int (nI u))]) rfl ?_
            refine ih ((c + mz B0 (1200 * s) (Z0 s) i + mz B0 (1200 * u) (Z0 u) i) / 65536) m (i + 1) (va_up B (1200 * s + i) ((c + mz B0 (1200 * s) (Z0 s) i + mz B0 (1200 * u) (Z0 u) i) % 65536)) _ (by omega) (by omega) (by omega) (by omega) ⟨g_ne (by decide) m0, g_eq, g_ne (by decide) m2, up_b m3 (Nat.mod_lt _ (by decide))⟩ ?_ (fun j h1 h2 => (va_n (by omega)).trans (hB0 j (by omega) h2)) (fun j hj => (va_n (by omega)).trans (hO j hj)) (hf.up (by simp))
            rw [bv_put, Nat.pow_succ]
            show _ = bv (mz B0 (1200 * s) (Z0 s)) 0 i + mz B0 (1200 * s) (Z0 s) (0 + i) * _ + (bv (mz B0 (1200 * u) (Z0 u)) 0 i + mz B0 (1200 * u) (Z0 u) (0 + i) * _)
            rw [Nat.zero_add]
            exact ad_s hval rfl
          · refine g_iload dX11_add_142 rfl ?_
            refine g_iconst (v := nI 1) dX11_add_144 (by decide) ?_
            refine g_iaddN dX11_add_145 ?_
            refine g_goto (tgt := 151) dX11_add_146 (by decide) ?_
            refine g_istore (ls' := [(4, .int (nI (i + 1))), (3, .int (nI ((c + mz B0 (1200 * s) (Z0 s) i + mz B0 (1200 * u) (Z0 u) i) / 65536))), (6, .int (nI ((c + (mz B0 (1200 * s) (Z0 s) i)) + (mz B0 (1200 * u) (Z0 u) i)))), (5, .int (nI i)), (0, .ref 142), (1, .int (nI s)), (2, .int (nI u))]) dX11_add_151 (by decide) rfl ?_
            refine g_iincN (z := 1) (ls' := [(5, .int (nI (i + 1))), (4, .int (nI (i + 1))), (3, .int (nI ((c + mz B0 (1200 * s) (Z0 s) i + mz B0 (1200 * u) (Z0 u) i) / 65536))), (6, .int (nI ((c + (mz B0 (1200 * s) (Z0 s) i)) + (mz B0 (1200 * u) (Z0 u) i)))), (0, .ref 142), (1, .int (nI s)), (2, .int (nI u))]) dX11_add_153 rfl (by decide) rfl ?_
            refine g_goto (tgt := 37) dX11_add_156 (by decide) ?_
            refine g_pick [0, 1, 2, 4, 5, 6] (ls' := [(5, .int (nI (i + 1))), (4, .int (nI (i + 1))), (3, .int (nI ((c + mz B0 (1200 * s) (Z0 s) i + mz B0 (1200 * u) (Z0 u) i) / 65536))), (0, .ref 142), (1, .int (nI s)), (2, .int (nI u))]) rfl ?_
            refine ih ((c + mz B0 (1200 * s) (Z0 s) i + mz B0 (1200 * u) (Z0 u) i) / 65536) (i + 1) (i + 1) (va_up B (1200 * s + i) ((c + mz B0 (1200 * s) (Z0 s) i + mz B0 (1200 * u) (Z0 u) i) % 65536)) _ (by omega) (by omega) (by omega) (by omega) ⟨g_ne (by decide) m0, g_eq, g_ne (by decide) m2, up_b m3 (Nat.mod_lt _ (by decide))⟩ ?_ (fun j h1 h2 => (va_n (by omega)).trans (hB0 j (by omega) h2)) (fun j hj => (va_n (by omega)).trans (hO j hj)) (hf.up (by simp))
            rw [bv_put, Nat.pow_succ]
            show _ = bv (mz B0 (1200 * s) (Z0 s)) 0 i + mz B0 (1200 * s) (Z0 s) (0 + i) * _ + (bv (mz B0 (1200 * u) (Z0 u)) 0 i + mz B0 (1200 * u) (Z0 u) (0 + i) * _)
            rw [Nat.zero_add]
            exact ad_s hval rfl
        · refine g_aload_n dX11_add_89 rfl rfl ?_
          refine g_getf dX11_add_90 fX11_76 m0 rfl ?_
          refine g_sipush (v := nI 1200) dX11_add_93 (by decide) ?_
          refine g_iload_n dX11_add_96 rfl rfl ?_
          refine g_imulN dX11_add_97 ?_
          refine g_iload dX11_add_98 rfl ?_
          refine g_iaddN dX11_add_100 ?_
          refine g_ialdN dX11_add_101 m1 (by omega) (by decide) ?_
          refine g_goto (tgt := 106) dX11_add_102 (by decide) ?_
          refine g_top (show nI (B ((1200 * u) + i)) = nI (mz B0 (1200 * u) (Z0 u) i) from by rw [mz_i (by omega), hO _ (by omega)]) ?_
          refine g_iaddN dX11_add_106 ?_
          refine g_istore (ls' := [(6, .int (nI ((c + (mz B0 (1200 * s) (Z0 s) i)) + (mz B0 (1200 * u) (Z0 u) i)))), (5, .int (nI i)), (4, .int (nI m)), (3, .int (nI c)), (0, .ref 142), (1, .int (nI s)), (2, .int (nI u))]) dX11_add_107 (by decide) rfl ?_
          refine g_aload_n dX11_add_109 rfl rfl ?_
          refine g_getf dX11_add_110 fX11_76 m0 rfl ?_
          refine g_sipush (v := nI 1200) dX11_add_113 (by decide) ?_
          refine g_iload_n dX11_add_116 rfl rfl ?_
          refine g_imulN dX11_add_117 ?_
          refine g_iload dX11_add_118 rfl ?_
          refine g_iaddN dX11_add_120 ?_
          refine g_iload dX11_add_121 rfl ?_
          refine g_ldc dX11_add_123 kX11_194 rfl ?_
          refine g_top (show (65535 : Int32) = nI 65535 by decide) ?_
          refine g_iand dX11_add_125 ?_
          refine g_top (show (nI ((c + (mz B0 (1200 * s) (Z0 s) i)) + (mz B0 (1200 * u) (Z0 u) i))) &&& (nI 65535) = nI ((c + mz B0 (1200 * s) (Z0 s) i + mz B0 (1200 * u) (Z0 u) i) % 65536) from nx16 _) ?_
          refine g_iastN dX11_add_126 m1 (by omega) (by decide) ?_
          rw [upd_nI]
          refine g_iload dX11_add_127 rfl ?_
          refine g_bipush (v := nI 16) dX11_add_129 (by decide) ?_
          refine g_ishr dX11_add_131 ?_
          refine g_top (show (nI ((c + (mz B0 (1200 * s) (Z0 s) i)) + (mz B0 (1200 * u) (Z0 u) i))) >>> ((nI 16) &&& 31) = nI ((c + mz B0 (1200 * s) (Z0 s) i + mz B0 (1200 * u) (Z0 u) i) / 65536) from sh16 (by omega)) ?_
          refine g_istore_n (ls' := [(3, .int (nI ((c + mz B0 (1200 * s) (Z0 s) i + mz B0 (1200 * u) (Z0 u) i) / 65536))), (6, .int (nI ((c + (mz B0 (1200 * s) (Z0 s) i)) + (mz B0 (1200 * u) (Z0 u) i)))), (5, .int (nI i)), (4, .int (nI m)), (0, .ref 142), (1, .int (nI s)), (2, .int (nI u))]) dX11_add_132 rfl (by decide) rfl ?_
          refine g_iload dX11_add_133 rfl ?_
          refine g_iconst (v := nI 1) dX11_add_135 (by decide) ?_
          refine g_iaddN dX11_add_136 ?_
          refine g_iload dX11_add_137 rfl ?_
          refine g_icmp_leN (tgt := 149) dX11_add_139 (by decide) (by omega) (by omega) (fun c139 => ?_) (fun c139 => ?_)
          · refine g_iload dX11_add_149 rfl ?_
            refine g_istore (ls' := [(4, .int (nI m)), (3, .int (nI ((c + mz B0 (1200 * s) (Z0 s) i + mz B0 (1200 * u) (Z0 u) i) / 65536))), (6, .int (nI ((c + (mz B0 (1200 * s) (Z0 s) i)) + (mz B0 (1200 * u) (Z0 u) i)))), (5, .int (nI i)), (0, .ref 142), (1, .int (nI s)), (2, .int (nI u))]) dX11_add_151 (by decide) rfl ?_
            refine g_iincN (z := 1) (ls' := [(5, .int (nI (i + 1))), (4, .int (nI m)), (3, .int (nI ((c + mz B0 (1200 * s) (Z0 s) i + mz B0 (1200 * u) (Z0 u) i) / 65536))), (6, .int (nI ((c + (mz B0 (1200 * s) (Z0 s) i)) + (mz B0 (1200 * u) (Z0 u) i)))), (0, .ref 142), (1, .int (nI s)), (2, .int (nI u))]) dX11_add_153 rfl (by decide) rfl ?_
            refine g_goto (tgt := 37) dX11_add_156 (by decide) ?_
            refine g_pick [0, 1, 2, 4, 5, 6] (ls' := [(5, .int (nI (i + 1))), (4, .int (nI m)), (3, .int (nI ((c + mz B0 (1200 * s) (Z0 s) i + mz B0 (1200 * u) (Z0 u) i) / 65536))), (0, .ref 142), (1, .int (nI s)), (2, .int (nI u))]) rfl ?_
            refine ih ((c + mz B0 (1200 * s) (Z0 s) i + mz B0 (1200 * u) (Z0 u) i) / 65536) m (i + 1) (va_up B (1200 * s + i) ((c + mz B0 (1200 * s) (Z0 s) i + mz B0 (1200 * u) (Z0 u) i) % 65536)) _ (by omega) (by omega) (by omega) (by omega) ⟨g_ne (by decide) m0, g_eq, g_ne (by decide) m2, up_b m3 (Nat.mod_lt _ (by decide))⟩ ?_ (fun j h1 h2 => (va_n (by omega)).trans (hB0 j (by omega) h2)) (fun j hj => (va_n (by omega)).trans (hO j hj)) (hf.up (by simp))
            rw [bv_put, Nat.pow_succ]
            show _ = bv (mz B0 (1200 * s) (Z0 s)) 0 i + mz B0 (1200 * s) (Z0 s) (0 + i) * _ + (bv (mz B0 (1200 * u) (Z0 u)) 0 i + mz B0 (1200 * u) (Z0 u) (0 + i) * _)
            rw [Nat.zero_add]
            exact ad_s hval rfl
          · refine g_iload dX11_add_142 rfl ?_
            refine g_iconst (v := nI 1) dX11_add_144 (by decide) ?_
            refine g_iaddN dX11_add_145 ?_
            refine g_goto (tgt := 151) dX11_add_146 (by decide) ?_
            refine g_istore (ls' := [(4, .int (nI (i + 1))), (3, .int (nI ((c + mz B0 (1200 * s) (Z0 s) i + mz B0 (1200 * u) (Z0 u) i) / 65536))), (6, .int (nI ((c + (mz B0 (1200 * s) (Z0 s) i)) + (mz B0 (1200 * u) (Z0 u) i)))), (5, .int (nI i)), (0, .ref 142), (1, .int (nI s)), (2, .int (nI u))]) dX11_add_151 (by decide) rfl ?_
            refine g_iincN (z := 1) (ls' := [(5, .int (nI (i + 1))), (4, .int (nI (i + 1))), (3, .int (nI ((c + mz B0 (1200 * s) (Z0 s) i + mz B0 (1200 * u) (Z0 u) i) / 65536))), (6, .int (nI ((c + (mz B0 (1200 * s) (Z0 s) i)) + (mz B0 (1200 * u) (Z0 u) i)))), (0, .ref 142), (1, .int (nI s)), (2, .int (nI u))]) dX11_add_153 rfl (by decide) rfl ?_
            refine g_goto (tgt := 37) dX11_add_156 (by decide) ?_
            refine g_pick [0, 1, 2, 4, 5, 6] (ls' := [(5, .int (nI (i + 1))), (4, .int (nI (i + 1))), (3, .int (nI ((c + mz B0 (1200 * s) (Z0 s) i + mz B0 (1200 * u) (Z0 u) i) / 65536))), (0, .ref 142), (1, .int (nI s)), (2, .int (nI u))]) rfl ?_
            refine ih ((c + mz B0 (1200 * s) (Z0 s) i + mz B0 (1200 * u) (Z0 u) i) / 65536) (i + 1) (i + 1) (va_up B (1200 * s + i) ((c + mz B0 (1200 * s) (Z0 s) i + mz B0 (1200 * u) (Z0 u) i) % 65536)) _ (by omega) (by omega) (by omega) (by omega) ⟨g_ne (by decide) m0, g_eq, g_ne (by decide) m2, up_b m3 (Nat.mod_lt _ (by decide))⟩ ?_ (fun j h1 h2 => (va_n (by omega)).trans (hB0 j (by omega) h2)) (fun j hj => (va_n (by omega)).trans (hO j hj)) (hf.up (by simp))
            rw [bv_put, Nat.pow_succ]
            show _ = bv (mz B0 (1200 * s) (Z0 s)) 0 i + mz B0 (1200 * s) (Z0 s) (0 + i) * _ + (bv (mz B0 (1200 * u) (Z0 u)) 0 i + mz B0 (1200 * u) (Z0 u) (0 + i) * _)
            rw [Nat.zero_add]
            exact ad_s hval rfl
    · refine g_iload_n dX11_add_44 rfl rfl ?_
      refine g_if_leN (tgt := 159) dX11_add_45 (by decide) (by omega) (fun c45 => ?_) (fun c45 => ?_)
      · refine g_aload_n dX11_add_159 rfl rfl ?_
        refine g_getf dX11_add_160 fX11_79 m0 rfl ?_
        refine g_iload_n dX11_add_163 rfl rfl ?_
        refine g_iload dX11_add_164 rfl ?_
        refine g_iastN dX11_add_166 m2 (by omega) (by decide) ?_
        rw [upd_nI]
        refine g_aload_n dX11_add_167 rfl rfl ?_
        refine g_iload_n dX11_add_168 rfl rfl ?_
        refine cVv (st := []) dX11_add_169 (c_trim G d n ex (g_up h 157 (.inl (0, 9, .inl (fun k => nI ((va_up Z0 s m) k))))) ⟨g_ne (by decide) m0, g_ne (by decide) m1, g_eq, m3⟩ hs (by rw [va_s]; omega)) sX11_188 (g_ne (by decide) m0) rfl rfl (by simp only [g_rm]; omega) (by simp only [g_rm]; omega) (Nat.le_of_ble_eq_true rfl) ⟨Nat.le_of_ble_eq_true rfl, Nat.le_of_ble_eq_true rfl⟩ (fun h1 fr2 p3 => ?_)
        obtain ⟨Z2, g2, p1, p2, p3, p4⟩ := p3
        have hv2 : bv B (1200 * s) (Z2 s) = a + b := by
          rw [p2, va_s]
          have e : m = i := by omega
          rw [e]
          have := hval
          rw [show c = 0 by omega, mz_v (by omega), mz_v (by omega), q2, k2] at this
          omega
        refine e_v dX11_add_172 rfl ((hf.up (by simp)).tr fr2 (by simp)) (Bn.set hV g2 (fun k hk => (p4 k hk).trans (va_n hk)) hO ⟨bv_len p3 (by rw [hv2]; exact hr), hv2, p3⟩) (by decide) (by decide)
      · have hi9 : i < 1190 := by
          rcases Nat.lt_or_ge i 1190 with q | q
          · exact q
          · have h9 : 65536 ^ 1190 ≤ 65536 ^ i := Nat.pow_le_pow_right (by decide) q
            have h8 := Nat.mul_le_mul_right (65536 ^ i) (show 1 ≤ c by omega)
            have h7 := hval
            rw [mz_v (by omega), mz_v (by omega), q2, k2] at h7
            exact absurd hr (by show ¬ a + b < 65536 ^ 1190; omega)
        refine g_iload_n dX11_add_48 rfl rfl ?_
        refine g_iload dX11_add_49 rfl ?_
        refine g_aload_n dX11_add_51 rfl rfl ?_
        refine g_getf dX11_add_52 fX11_79 m0 rfl ?_
        refine g_iload_n dX11_add_55 rfl rfl ?_
        refine g_ialdN dX11_add_56 m2 (by omega) (by decide) ?_
        refine g_icmp_geN (tgt := 76) dX11_add_57 (by decide) (by omega) (by omega) (fun c57 => ?_) (fun c57 => ?_)
        · refine g_iconst (v := nI 0) dX11_add_76 (by decide) ?_
          refine g_top (show nI 0 = nI (mz B0 (1200 * s) (Z0 s) i) from by rw [mz_o (by omega)]) ?_
          refine g_iaddN dX11_add_77 ?_
          refine g_iload dX11_add_78 rfl ?_
          refine g_aload_n dX11_add_80 rfl rfl ?_
          refine g_getf dX11_add_81 fX11_79 m0 rfl ?_
          refine g_iload_n dX11_add_84 rfl rfl ?_
          refine g_ialdN dX11_add_85 m2 (by omega) (by decide) ?_
          refine g_icmp_geN (tgt := 105) dX11_add_86 (by decide) (by omega) (by omega) (fun c86 => ?_) (fun c86 => ?_)
          · refine g_iconst (v := nI 0) dX11_add_105 (by decide) ?_
            refine g_top (show nI 0 = nI (mz B0 (1200 * u) (Z0 u) i) from by rw [mz_o (by omega)]) ?_
            refine g_iaddN dX11_add_106 ?_
            refine g_istore (ls' := [(6, .int (nI ((c + (mz B0 (1200 * s) (Z0 s) i)) + (mz B0 (1200 * u) (Z0 u) i)))), (5, .int (nI i)), (4, .int (nI m)), (3, .int (nI c)), (0, .ref 142), (1, .int (nI s)), (2, .int (nI u))]) dX11_add_107 (by decide) rfl ?_
            refine g_aload_n dX11_add_109 rfl rfl ?_
            refine g_getf dX11_add_110 fX11_76 m0 rfl ?_
            refine g_sipush (v := nI 1200) dX11_add_113 (by decide) ?_
            refine g_iload_n dX11_add_116 rfl rfl ?_
            refine g_imulN dX11_add_117 ?_
            refine g_iload dX11_add_118 rfl ?_
            refine g_iaddN dX11_add_120 ?_
            refine g_iload dX11_add_121 rfl ?_
            refine g_ldc dX11_add_123 kX11_194 rfl ?_
            refine g_top (show (65535 : Int32) = nI 65535 by decide) ?_
            refine g_iand dX11_add_125 ?_
            refine g_top (show (nI ((c + (mz B0 (1200 * s) (Z0 s) i)) + (mz B0 (1200 * u) (Z0 u) i))) &&& (nI 65535) = nI ((c + mz B0 (1200 * s) (Z0 s) i + mz B0 (1200 * u) (Z0 u) i) % 65536) from nx16 _) ?_
            refine g_iastN dX11_add_126 m1 (by omega) (by decide) ?_
            rw [upd_nI]
            refine g_iload dX11_add_127 rfl ?_
            refine g_bipush (v := nI 16) dX11_add_129 (by decide) ?_
            refine g_ishr dX11_add_131 ?_
            refine g_top (show (nI ((c + (mz B0 (1200 * s) (Z0 s) i)) + (mz B0 (1200 * u) (Z0 u) i))) >>> ((nI 16) &&& 31) = nI ((c + mz B0 (1200 * s) (Z0 s) i + mz B0 (1200 * u) (Z0 u) i) / 65536) from sh16 (by omega)) ?_
            refine g_istore_n (ls' := [(3, .int (nI ((c + mz B0 (1200 * s) (Z0 s) i + mz B0 (1200 * u) (Z0 u) i) / 65536))), (6, .int (nI ((c + (mz B0 (1200 * s) (Z0 s) i)) + (mz B0 (1200 * u) (Z0 u) i)))), (5, .int (nI i)), (4, .int (nI m)), (0, .ref 142), (1, .int (nI s)), (2, .int (nI u))]) dX11_add_132 rfl (by decide) rfl ?_
            refine g_iload dX11_add_133 rfl ?_
            refine g_iconst (v := nI 1) dX11_add_135 (by decide) ?_
            refine g_iaddN dX11_add_136 ?_
            refine g_iload dX11_add_137 rfl ?_
            refine g_icmp_leN (tgt := 149) dX11_add_139 (by decide) (by omega) (by omega) (fun c139 => ?_) (fun c139 => ?_)
            · refine g_iload dX11_add_149 rfl ?_
              refine g_istore (ls' := [(4, .int (nI m)), (3, .int (nI ((c + mz B0 (1200 * s) (Z0 s) i + mz B0 (1200 * u) (Z0 u) i) / 65536))), (6, .int (nI ((c + (mz B0 (1200 * s) (Z0 s) i)) + (mz B0 (1200 * u) (Z0 u) i)))), (5, .int (nI i)), (0, .ref 142), (1, .int (nI s)), (2, .int (nI u))]) dX11_add_151 (by decide) rfl ?_
              refine g_iincN (z := 1) (ls' := [(5, .int (nI (i + 1))), (4, .int (nI m)), (3, .int (nI ((c + mz B0 (1200 * s) (Z0 s) i + mz B0 (1200 * u) (Z0 u) i) / 65536))), (6, .int (nI ((c + (mz B0 (1200 * s) (Z0 s) i)) + (mz B0 (1200 * u) (Z0 u) i)))), (0, .ref 142), (1, .int (nI s)), (2, .int (nI u))]) dX11_add_153 rfl (by decide) rfl ?_
              refine g_goto (tgt := 37) dX11_add_156 (by decide) ?_
              refine g_pick [0, 1, 2, 4, 5, 6] (ls' := [(5, .int (nI (i + 1))), (4, .int (nI m)), (3, .int (nI ((c + mz B0 (1200 * s) (Z0 s) i + mz B0 (1200 * u) (Z0 u) i) / 65536))), (0, .ref 142), (1, .int (nI s)), (2, .int (nI u))]) rfl ?_
              refine ih ((c + mz B0 (1200 * s) (Z0 s) i + mz B0 (1200 * u) (Z0 u) i) / 65536) m (i + 1) (va_up B (1200 * s + i) ((c + mz B0 (1200 * s) (Z0 s) i + mz B0 (1200 * u) (Z0 u) i) % 65536)) _ (by omega) (by omega) (by omega) (by omega) ⟨g_ne (by decide) m0, g_eq, g_ne (by decide) m2, up_b m3 (Nat.mod_lt _ (by decide))⟩ ?_ (fun j h1 h2 => (va_n (by omega)).trans (hB0 j (by omega) h2)) (fun j hj => (va_n (by omega)).trans (hO j hj)) (hf.up (by simp))
              rw [bv_put, Nat.pow_succ]
              show _ = bv (mz B0 (1200 * s) (Z0 s)) 0 i + mz B0 (1200 * s) (Z0 s) (0 + i) * _ + (bv (mz B0 (1200 * u) (Z0 u)) 0 i + mz B0 (1200 * u) (Z0 u) (0 + i) * _)
              rw [Nat.zero_add]
              exact ad_s hval rfl
            · refine g_iload dX11_add_142 rfl ?_
              refine g_iconst (v := nI 1) dX11_add_144 (by decide) ?_
              refine g_iaddN dX11_add_145 ?_
              refine g_goto (tgt := 151) dX11_add_146 (by decide) ?_
              refine g_istore (ls' := [(4, .int (nI (i + 1))), (3, .int (nI ((c + mz B0 (1200 * s) (Z0 s) i + mz B0 (1200 * u) (Z0 u) i) / 65536))), (6, .int (nI ((c + (mz B0 (1200 * s) (Z0 s) i)) + (mz B0 (1200 * u) (Z0 u) i)))), (5, .int (nI i)), (0, .ref 142), (1, .int (nI s)), (2, .int (nI u))]) dX11_add_151 (by decide) rfl ?_
              refine g_iincN (z := 1) (ls' := [(5, .int (nI (i + 1))), (4, .int (nI (i + 1))), (3, .int (nI ((c + mz B0 (1200 * s) (Z0 s) i + mz B0 (1200 * u) (Z0 u) i) / 65536))), (6, .int (nI ((c + (mz B0 (1200 * s) (Z0 s) i)) + (mz B0 (1200 * u) (Z0 u) i)))), (0, .ref 142), (1, .int (nI s)), (2, .int (nI u))]) dX11_add_153 rfl (by decide) rfl ?_
              refine g_goto (tgt := 37) dX11_add_156 (by decide) ?_
              refine g_pick [0, 1, 2, 4, 5, 6] (ls' := [(5, .int (nI (i + 1))), (4, .int (nI (i + 1))), (3, .int (nI ((c + mz B0 (1200 * s) (Z0 s) i + mz B0 (1200 * u) (Z0 u) i) / 65536))), (0, .ref 142), (1, .int (nI s)), (2, .int (nI u))]) rfl ?_
              refine ih ((c + mz B0 (1200 * s) (Z0 s) i + mz B0 (1200 * u) (Z0 u) i) / 65536) (i + 1) (i + 1) (va_up B (1200 * s + i) ((c + mz B0 (1200 * s) (Z0 s) i + mz B0 (1200 * u) (Z0 u) i) % 65536)) _ (by omega) (by omega) (by omega) (by omega) ⟨g_ne (by decide) m0, g_eq, g_ne (by decide) m2, up_b m3 (Nat.mod_lt _ (by decide))⟩ ?_ (fun j h1 h2 => (va_n (by omega)).trans (hB0 j (by omega) h2)) (fun j hj => (va_n (by omega)).trans (hO j hj)) (hf.up (by simp))
              rw [bv_put, Nat.pow_succ]
              show _ = bv (mz B0 (1200 * s) (Z0 s)) 0 i + mz B0 (1200 * s) (Z0 s) (0 + i) * _ + (bv (mz B0 (1200 * u) (Z0 u)) 0 i + mz B0 (1200 * u) (Z0 u) (0 + i) * _)
              rw [Nat.zero_add]
              exact ad_s hval rfl
          · refine g_aload_n dX11_add_89 rfl rfl ?_
            refine g_getf dX11_add_90 fX11_76 m0 rfl ?_
            refine g_sipush (v := nI 1200) dX11_add_93 (by decide) ?_
            refine g_iload_n dX11_add_96 rfl rfl ?_
            refine g_imulN dX11_add_97 ?_
            refine g_iload dX11_add_98 rfl ?_
            refine g_iaddN dX11_add_100 ?_
            refine g_ialdN dX11_add_101 m1 (by omega) (by decide) ?_
            refine g_goto (tgt := 106) dX11_add_102 (by decide) ?_
            refine g_top (show nI (B ((1200 * u) + i)) = nI (mz B0 (1200 * u) (Z0 u) i) from by rw [mz_i (by omega), hO _ (by omega)]) ?_
            refine g_iaddN dX11_add_106 ?_
            refine g_istore (ls' := [(6, .int (nI ((c + (mz B0 (1200 * s) (Z0 s) i)) + (mz B0 (1200 * u) (Z0 u) i)))), (5, .int (nI i)), (4, .int (nI m)), (3, .int (nI c)), (0, .ref 142), (1, .int (nI s)), (2, .int (nI u))]) dX11_add_107 (by decide) rfl ?_
            refine g_aload_n dX11_add_109 rfl rfl ?_
            refine g_getf dX11_add_110 fX11_76 m0 rfl ?_
            refine g_sipush (v := nI 1200) dX11_add_113 (by decide) ?_
            refine g_iload_n dX11_add_116 rfl rfl ?_
            refine g_imulN dX11_add_117 ?_
            refine g_iload dX11_add_118 rfl ?_
            refine g_iaddN dX11_add_120 ?_
            refine g_iload dX11_add_121 rfl ?_
            refine g_ldc dX11_add_123 kX11_194 rfl ?_
            refine g_top (show (65535 : Int32) = nI 65535 by decide) ?_
            refine g_iand dX11_add_125 ?_
            refine g_top (show (nI ((c + (mz B0 (1200 * s) (Z0 s) i)) + (mz B0 (1200 * u) (Z0 u) i))) &&& (nI 65535) = nI ((c + mz B0 (1200 * s) (Z0 s) i + mz B0 (1200 * u) (Z0 u) i) % 65536) from nx16 _) ?_
            refine g_iastN dX11_add_126 m1 (by omega) (by decide) ?_
            rw [upd_nI]
            refine g_iload dX11_add_127 rfl ?_
            refine g_bipush (v := nI 16) dX11_add_129 (by decide) ?_
            refine g_ishr dX11_add_131 ?_
            refine g_top (show (nI ((c + (mz B0 (1200 * s) (Z0 s) i)) + (mz B0 (1200 * u) (Z0 u) i))) >>> ((nI 16) &&& 31) = nI ((c + mz B0 (1200 * s) (Z0 s) i + mz B0 (1200 * u) (Z0 u) i) / 65536) from sh16 (by omega)) ?_
            refine g_istore_n (ls' := [(3, .int (nI ((c + mz B0 (1200 * s) (Z0 s) i + mz B0 (1200 * u) (Z0 u) i) / 65536))), (6, .int (nI ((c + (mz B0 (1200 * s) (Z0 s) i)) + (mz B0 (1200 * u) (Z0 u) i)))), (5, .int (nI i)), (4, .int (nI m)), (0, .ref 142), (1, .int (nI s)), (2, .int (nI u))]) dX11_add_132 rfl (by decide) rfl ?_
            refine g_iload dX11_add_133 rfl ?_
            refine g_iconst (v := nI 1) dX11_add_135 (by decide) ?_
            refine g_iaddN dX11_add_136 ?_
            refine g_iload dX11_add_137 rfl ?_
            refine g_icmp_leN (tgt := 149) dX11_add_139 (by decide) (by omega) (by omega) (fun c139 => ?_) (fun c139 => ?_)
            · refine g_iload dX11_add_149 rfl ?_
              refine g_istore (ls' := [(4, .int (nI m)), (3, .int (nI ((c + mz B0 (1200 * s) (Z0 s) i + mz B0 (1200 * u) (Z0 u) i) / 65536))), (6, .int (nI ((c + (mz B0 (1200 * s) (Z0 s) i)) + (mz B0 (1200 * u) (Z0 u) i)))), (5, .int (nI i)), (0, .ref 142), (1, .int (nI s)), (2, .int (nI u))]) dX11_add_151 (by decide) rfl ?_
              refine g_iincN (z := 1) (ls' := [(5, .int (nI (i + 1))), (4, .int (nI m)), (3, .int (nI ((c + mz B0 (1200 * s) (Z0 s) i + mz B0 (1200 * u) (Z0 u) i) / 65536))), (6, .int (nI ((c + (mz B0 (1200 * s) (Z0 s) i)) + (mz B0 (1200 * u) (Z0 u) i)))), (0, .ref 142), (1, .int (nI s)), (2, .int (nI u))]) dX11_add_153 rfl (by decide) rfl ?_
              refine g_goto (tgt := 37) dX11_add_156 (by decide) ?_
              refine g_pick [0, 1, 2, 4, 5, 6] (ls' := [(5, .int (nI (i + 1))), (4, .int (nI m)), (3, .int (nI ((c + mz B0 (1200 * s) (Z0 s) i + mz B0 (1200 * u) (Z0 u) i) / 65536))), (0, .ref 142), (1, .int (nI s)), (2, .int (nI u))]) rfl ?_
              refine ih ((c + mz B0 (1200 * s) (Z0 s) i + mz B0 (1200 * u) (Z0 u) i) / 65536) m (i + 1) (va_up B (1200 * s + i) ((c + mz B0 (1200 * s) (Z0 s) i + mz B0 (1200 * u) (Z0 u) i) % 65536)) _ (by omega) (by omega) (by omega) (by omega) ⟨g_ne (by decide) m0, g_eq, g_ne (by decide) m2, up_b m3 (Nat.mod_lt _ (by decide))⟩ ?_ (fun j h1 h2 => (va_n (by omega)).trans (hB0 j (by omega) h2)) (fun j hj => (va_n (by omega)).trans (hO j hj)) (hf.up (by simp))
              rw [bv_put, Nat.pow_succ]
              show _ = bv (mz B0 (1200 * s) (Z0 s)) 0 i + mz B0 (1200 * s) (Z0 s) (0 + i) * _ + (bv (mz B0 (1200 * u) (Z0 u)) 0 i + mz B0 (1200 * u) (Z0 u) (0 + i) * _)
              rw [Nat.zero_add]
              exact ad_s hval rfl
            · refine g_iload dX11_add_142 rfl ?_
              refine g_iconst (v := nI 1) dX11_add_144 (by decide) ?_
              refine g_iaddN dX11_add_145 ?_
              refine g_goto (tgt := 151) dX11_add_146 (by decide) ?_
              refine g_istore (ls' := [(4, .int (nI (i + 1))), (3, .int (nI ((c + mz B0 (1200 * s) (Z0 s) i + mz B0 (1200 * u) (Z0 u) i) / 65536))), (6, .int (nI ((c + (mz B0 (1200 * s) (Z0 s) i)) + (mz B0 (1200 * u) (Z0 u) i)))), (5, .int (nI i)), (0, .ref 142), (1, .int (nI s)), (2, .int (nI u))]) dX11_add_151 (by decide) rfl ?_
              refine g_iincN (z := 1) (ls' := [(5, .int (nI (i + 1))), (4, .int (nI (i + 1))), (3, .int (nI ((c + mz B0 (1200 * s) (Z0 s) i + mz B0 (1200 * u) (Z0 u) i) / 65536))), (6, .int (nI ((c + (mz B0 (1200 * s) (Z0 s) i)) + (mz B0 (1200 * u) (Z0 u) i)))), (0, .ref 142), (1, .int (nI s)), (2, .int (nI u))]) dX11_add_153 rfl (by decide) rfl ?_
              refine g_goto (tgt := 37) dX11_add_156 (by decide) ?_
              refine g_pick [0, 1, 2, 4, 5, 6] (ls' := [(5, .int (nI (i + 1))), (4, .int (nI (i + 1))), (3, .int (nI ((c + mz B0 (1200 * s) (Z0 s) i + mz B0 (1200 * u) (Z0 u) i) / 65536))), (0, .ref 142), (1, .int (nI s)), (2, .int (nI u))]) rfl ?_
              refine ih ((c + mz B0 (1200 * s) (Z0 s) i + mz B0 (1200 * u) (Z0 u) i) / 65536) (i + 1) (i + 1) (va_up B (1200 * s + i) ((c + mz B0 (1200 * s) (Z0 s) i + mz B0 (1200 * u) (Z0 u) i) % 65536)) _ (by omega) (by omega) (by omega) (by omega) ⟨g_ne (by decide) m0, g_eq, g_ne (by decide) m2, up_b m3 (Nat.mod_lt _ (by decide))⟩ ?_ (fun j h1 h2 => (va_n (by omega)).trans (hB0 j (by omega) h2)) (fun j hj => (va_n (by omega)).trans (hO j hj)) (hf.up (by simp))
              rw [bv_put, Nat.pow_succ]
              show _ = bv (mz B0 (1200 * s) (Z0 s)) 0 i + mz B0 (1200 * s) (Z0 s) (0 + i) * _ + (bv (mz B0 (1200 * u) (Z0 u)) 0 i + mz B0 (1200 * u) (Z0 u) (0 + i) * _)
              rw [Nat.zero_add]
              exact ad_s hval rfl
        · refine g_aload_n dX11_add_60 rfl rfl ?_
          refine g_getf dX11_add_61 fX11_76 m0 rfl ?_
          refine g_sipush (v := nI 1200) dX11_add_64 (by decide) ?_
          refine g_iload_n dX11_add_67 rfl rfl ?_
          refine g_imulN dX11_add_68 ?_
          refine g_iload dX11_add_69 rfl ?_
          refine g_iaddN dX11_add_71 ?_
          refine g_ialdN dX11_add_72 m1 (by omega) (by decide) ?_
          refine g_goto (tgt := 77) dX11_add_73 (by decide) ?_
          refine g_top (show nI (B ((1200 * s) + i)) = nI (mz B0 (1200 * s) (Z0 s) i) from by rw [mz_i (by omega), hB0 i (Nat.le_refl _) (by omega)]) ?_
          refine g_iaddN dX11_add_77 ?_
          refine g_iload dX11_add_78 rfl ?_
          refine g_aload_n dX11_add_80 rfl rfl ?_
          refine g_getf dX11_add_81 fX11_79 m0 rfl ?_
          refine g_iload_n dX11_add_84 rfl rfl ?_
          refine g_ialdN dX11_add_85 m2 (by omega) (by decide) ?_
          refine g_icmp_geN (tgt := 105) dX11_add_86 (by decide) (by omega) (by omega) (fun c86 => ?_) (fun c86 => ?_)
          · refine g_iconst (v := nI 0) dX11_add_105 (by decide) ?_
            refine g_top (show nI 0 = nI (mz B0 (1200 * u) (Z0 u) i) from by rw [mz_o (by omega)]) ?_
            refine g_iaddN dX11_add_106 ?_
            refine g_istore (ls' := [(6, .int (nI ((c + (mz B0 (1200 * s) (Z0 s) i)) + (mz B0 (1200 * u) (Z0 u) i)))), (5, .int (nI i)), (4, .int (nI m)), (3, .int (nI c)), (0, .ref 142), (1, .int (nI s)), (2, .int (nI u))]) dX11_add_107 (by decide) rfl ?_
            refine g_aload_n dX11_add_109 rfl rfl ?_
            refine g_getf dX11_add_110 fX11_76 m0 rfl ?_
            refine g_sipush (v := nI 1200) dX11_add_113 (by decide) ?_
            refine g_iload_n dX11_add_116 rfl rfl ?_
            refine g_imulN dX11_add_117 ?_
            refine g_iload dX11_add_118 rfl ?_
            refine g_iaddN dX11_add_120 ?_
            refine g_iload dX11_add_121 rfl ?_
            refine g_ldc dX11_add_123 kX11_194 rfl ?_
            refine g_top (show (65535 : Int32) = nI 65535 by decide) ?_
            refine g_iand dX11_add_125 ?_
            refine g_top (show (nI ((c + (mz B0 (1200 * s) (Z0 s) i)) + (mz B0 (1200 * u) (Z0 u) i))) &&& (nI 65535) = nI ((c + mz B0 (1200 * s) (Z0 s) i + mz B0 (1200 * u) (Z0 u) i) % 65536) from nx16 _) ?_
            refine g_iastN dX11_add_126 m1 (by omega) (by decide) ?_
            rw [upd_nI]
            refine g_iload dX11_add_127 rfl ?_
            refine g_bipush (v := nI 16) dX11_add_129 (by decide) ?_
            refine g_ishr dX11_add_131 ?_
            refine g_top (show (nI ((c + (mz B0 (1200 * s) (Z0 s) i)) + (mz B0 (1200 * u) (Z0 u) i))) >>> ((nI 16) &&& 31) = nI ((c + mz B0 (1200 * s) (Z0 s) i + mz B0 (1200 * u) (Z0 u) i) / 65536) from sh16 (by omega)) ?_
            refine g_istore_n (ls' := [(3, .int (nI ((c + mz B0 (1200 * s) (Z0 s) i + mz B0 (1200 * u) (Z0 u) i) / 65536))), (6, .int (nI ((c + (mz B0 (1200 * s) (Z0 s) i)) + (mz B0 (1200 * u) (Z0 u) i)))), (5, .int (nI i)), (4, .int (nI m)), (0, .ref 142), (1, .int (nI s)), (2, .int (nI u))]) dX11_add_132 rfl (by decide) rfl ?_
            refine g_iload dX11_add_133 rfl ?_
            refine g_iconst (v := nI 1) dX11_add_135 (by decide) ?_
            refine g_iaddN dX11_add_136 ?_
            refine g_iload dX11_add_137 rfl ?_
            refine g_icmp_leN (tgt := 149) dX11_add_139 (by decide) (by omega) (by omega) (fun c139 => ?_) (fun c139 => ?_)
            · refine g_iload dX11_add_149 rfl ?_
              refine g_istore (ls' := [(4, .int (nI m)), (3, .int (nI ((c + mz B0 (1200 * s) (Z0 s) i + mz B0 (1200 * u) (Z0 u) i) / 65536))), (6, .int (nI ((c + (mz B0 (1200 * s) (Z0 s) i)) + (mz B0 (1200 * u) (Z0 u) i)))), (5, .int (nI i)), (0, .ref 142), (1, .int (nI s)), (2, .int (nI u))]) dX11_add_151 (by decide) rfl ?_
              refine g_iincN (z := 1) (ls' := [(5, .int (nI (i + 1))), (4, .int (nI m)), (3, .int (nI ((c + mz B0 (1200 * s) (Z0 s) i + mz B0 (1200 * u) (Z0 u) i) / 65536))), (6, .int (nI ((c + (mz B0 (1200 * s) (Z0 s) i)) + (mz B0 (1200 * u) (Z0 u) i)))), (0, .ref 142), (1, .int (nI s)), (2, .int (nI u))]) dX11_add_153 rfl (by decide) rfl ?_
              refine g_goto (tgt := 37) dX11_add_156 (by decide) ?_
              refine g_pick [0, 1, 2, 4, 5, 6] (ls' := [(5, .int (nI (i + 1))), (4, .int (nI m)), (3, .int (nI ((c + mz B0 (1200 * s) (Z0 s) i + mz B0 (1200 * u) (Z0 u) i) / 65536))), (0, .ref 142), (1, .int (nI s)), (2, .int (nI u))]) rfl ?_
              refine ih ((c + mz B0 (1200 * s) (Z0 s) i + mz B0 (1200 * u) (Z0 u) i) / 65536) m (i + 1) (va_up B (1200 * s + i) ((c + mz B0 (1200 * s) (Z0 s) i + mz B0 (1200 * u) (Z0 u) i) % 65536)) _ (by omega) (by omega) (by omega) (by omega) ⟨g_ne (by decide) m0, g_eq, g_ne (by decide) m2, up_b m3 (Nat.mod_lt _ (by decide))⟩ ?_ (fun j h1 h2 => (va_n (by omega)).trans (hB0 j (by omega) h2)) (fun j hj => (va_n (by omega)).trans (hO j hj)) (hf.up (by simp))
              rw [bv_put, Nat.pow_succ]
              show _ = bv (mz B0 (1200 * s) (Z0 s)) 0 i + mz B0 (1200 * s) (Z0 s) (0 + i) * _ + (bv (mz B0 (1200 * u) (Z0 u)) 0 i + mz B0 (1200 * u) (Z0 u) (0 + i) * _)
              rw [Nat.zero_add]
              exact ad_s hval rfl
            · refine g_iload dX11_add_142 rfl ?_
              refine g_iconst (v := nI 1) dX11_add_144 (by decide) ?_
              refine g_iaddN dX11_add_145 ?_
              refine g_goto (tgt := 151) dX11_add_146 (by decide) ?_
              refine g_istore (ls' := [(4, .int (nI (i + 1))), (3, .int (nI ((c + mz B0 (1200 * s) (Z0 s) i + mz B0 (1200 * u) (Z0 u) i) / 65536))), (6, .int (nI ((c + (mz B0 (1200 * s) (Z0 s) i)) + (mz B0 (1200 * u) (Z0 u) i)))), (5, .int (nI i)), (0, .ref 142), (1, .int (nI s)), (2, .int (nI u))]) dX11_add_151 (by decide) rfl ?_
              refine g_iincN (z := 1) (ls' := [(5, .int (nI (i + 1))), (4, .int (nI (i + 1))), (3, .int (nI ((c + mz B0 (1200 * s) (Z0 s) i + mz B0 (1200 * u) (Z0 u) i) / 65536))), (6, .int (nI ((c + (mz B0 (1200 * s) (Z0 s) i)) + (mz B0 (1200 * u) (Z0 u) i)))), (0, .ref 142), (1, .int (nI s)), (2, .int (nI u))]) dX11_add_153 rfl (by decide) rfl ?_
              refine g_goto (tgt := 37) dX11_add_156 (by decide) ?_
              refine g_pick [0, 1, 2, 4, 5, 6] (ls' := [(5, .int (nI (i + 1))), (4, .int (nI (i + 1))), (3, .int (nI ((c + mz B0 (1200 * s) (Z0 s) i + mz B0 (1200 * u) (Z0 u) i) / 65536))), (0, .ref 142), (1, .int (nI s)), (2, .int (nI u))]) rfl ?_
              refine ih ((c + mz B0 (1200 * s) (Z0 s) i + mz B0 (1200 * u) (Z0 u) i) / 65536) (i + 1) (i + 1) (va_up B (1200 * s + i) ((c + mz B0 (1200 * s) (Z0 s) i + mz B0 (1200 * u) (Z0 u) i) % 65536)) _ (by omega) (by omega) (by omega) (by omega) ⟨g_ne (by decide) m0, g_eq, g_ne (by decide) m2, up_b m3 (Nat.mod_lt _ (by decide))⟩ ?_ (fun j h1 h2 => (va_n (by omega)).trans (hB0 j (by omega) h2)) (fun j hj => (va_n (by omega)).trans (hO j hj)) (hf.up (by simp))
              rw [bv_put, Nat.pow_succ]
              show _ = bv (mz B0 (1200 * s) (Z0 s)) 0 i + mz B0 (1200 * s) (Z0 s) (0 + i) * _ + (bv (mz B0 (1200 * u) (Z0 u)) 0 i + mz B0 (1200 * u) (Z0 u) (0 + i) * _)
              rw [Nat.zero_add]
              exact ad_s hval rfl
          · refine g_aload_n dX11_add_89 rfl rfl ?_
            refine g_getf dX11_add_90 fX11_76 m0 rfl ?_
            refine g_sipush (v := nI 1200) dX11_add_93 (by decide) ?_
            refine g_iload_n dX11_add_96 rfl rfl ?_
            refine g_imulN dX11_add_97 ?_
            refine g_iload dX11_add_98 rfl ?_
            refine g_iaddN dX11_add_100 ?_
            refine g_ialdN dX11_add_101 m1 (by omega) (by decide) ?_
            refine g_goto (tgt := 106) dX11_add_102 (by decide) ?_
            refine g_top (show nI (B ((1200 * u) + i)) = nI (mz B0 (1200 * u) (Z0 u) i) from by rw [mz_i (by omega), hO _ (by omega)]) ?_
            refine g_iaddN dX11_add_106 ?_
            refine g_istore (ls' := [(6, .int (nI ((c + (mz B0 (1200 * s) (Z0 s) i)) + (mz B0 (1200 * u) (Z0 u) i)))), (5, .int (nI i)), (4, .int (nI m)), (3, .int (nI c)), (0, .ref 142), (1, .int (nI s)), (2, .int (nI u))]) dX11_add_107 (by decide) rfl ?_
            refine g_aload_n dX11_add_109 rfl rfl ?_
            refine g_getf dX11_add_110 fX11_76 m0 rfl ?_
            refine g_sipush (v := nI 1200) dX11_add_113 (by decide) ?_
            refine g_iload_n dX11_add_116 rfl rfl ?_
            refine g_imulN dX11_add_117 ?_
            refine g_iload dX11_add_118 rfl ?_
            refine g_iaddN dX11_add_120 ?_
            refine g_iload dX11_add_121 rfl ?_
            refine g_ldc dX11_add_123 kX11_194 rfl ?_
            refine g_top (show (65535 : Int32) = nI 65535 by decide) ?_
            refine g_iand dX11_add_125 ?_
            refine g_top (show (nI ((c + (mz B0 (1200 * s) (Z0 s) i)) + (mz B0 (1200 * u) (Z0 u) i))) &&& (nI 65535) = nI ((c + mz B0 (1200 * s) (Z0 s) i + mz B0 (1200 * u) (Z0 u) i) % 65536) from nx16 _) ?_
            refine g_iastN dX11_add_126 m1 (by omega) (by decide) ?_
            rw [upd_nI]
            refine g_iload dX11_add_127 rfl ?_
            refine g_bipush (v := nI 16) dX11_add_129 (by decide) ?_
            refine g_ishr dX11_add_131 ?_
            refine g_top (show (nI ((c + (mz B0 (1200 * s) (Z0 s) i)) + (mz B0 (1200 * u) (Z0 u) i))) >>> ((nI 16) &&& 31) = nI ((c + mz B0 (1200 * s) (Z0 s) i + mz B0 (1200 * u) (Z0 u) i) / 65536) from sh16 (by omega)) ?_
            refine g_istore_n (ls' := [(3, .int (nI ((c + mz B0 (1200 * s) (Z0 s) i + mz B0 (1200 * u) (Z0 u) i) / 65536))), (6, .int (nI ((c + (mz B0 (1200 * s) (Z0 s) i)) + (mz B0 (1200 * u) (Z0 u) i)))), (5, .int (nI i)), (4, .int (nI m)), (0, .ref 142), (1, .int (nI s)), (2, .int (nI u))]) dX11_add_132 rfl (by decide) rfl ?_
            refine g_iload dX11_add_133 rfl ?_
            refine g_iconst (v := nI 1) dX11_add_135 (by decide) ?_
            refine g_iaddN dX11_add_136 ?_
            refine g_iload dX11_add_137 rfl ?_
            refine g_icmp_leN (tgt := 149) dX11_add_139 (by decide) (by omega) (by omega) (fun c139 => ?_) (fun c139 => ?_)
            · refine g_iload dX11_add_149 rfl ?_
              refine g_istore (ls' := [(4, .int (nI m)), (3, .int (nI ((c + mz B0 (1200 * s) (Z0 s) i + mz B0 (1200 * u) (Z0 u) i) / 65536))), (6, .int (nI ((c + (mz B0 (1200 * s) (Z0 s) i)) + (mz B0 (1200 * u) (Z0 u) i)))), (5, .int (nI i)), (0, .ref 142), (1, .int (nI s)), (2, .int (nI u))]) dX11_add_151 (by decide) rfl ?_
              refine g_iincN (z := 1) (ls' := [(5, .int (nI (i + 1))), (4, .int (nI m)), (3, .int (nI ((c + mz B0 (1200 * s) (Z0 s) i + mz B0 (1200 * u) (Z0 u) i) / 65536))), (6, .int (nI ((c + (mz B0 (1200 * s) (Z0 s) i)) + (mz B0 (1200 * u) (Z0 u) i)))), (0, .ref 142), (1, .int (nI s)), (2, .int (nI u))]) dX11_add_153 rfl (by decide) rfl ?_
              refine g_goto (tgt := 37) dX11_add_156 (by decide) ?_
              refine g_pick [0, 1, 2, 4, 5, 6] (ls' := [(5, .int (nI (i + 1))), (4, .int (nI m)), (3, .int (nI ((c + mz B0 (1200 * s) (Z0 s) i + mz B0 (1200 * u) (Z0 u) i) / 65536))), (0, .ref 142), (1, .int (nI s)), (2, .int (nI u))]) rfl ?_
              refine ih ((c + mz B0 (1200 * s) (Z0 s) i + mz B0 (1200 * u) (Z0 u) i) / 65536) m (i + 1) (va_up B (1200 * s + i) ((c + mz B0 (1200 * s) (Z0 s) i + mz B0 (1200 * u) (Z0 u) i) % 65536)) _ (by omega) (by omega) (by omega) (by omega) ⟨g_ne (by decide) m0, g_eq, g_ne (by decide) m2, up_b m3 (Nat.mod_lt _ (by decide))⟩ ?_ (fun j h1 h2 => (va_n (by omega)).trans (hB0 j (by omega) h2)) (fun j hj => (va_n (by omega)).trans (hO j hj)) (hf.up (by simp))
              rw [bv_put, Nat.pow_succ]
              show _ = bv (mz B0 (1200 * s) (Z0 s)) 0 i + mz B0 (1200 * s) (Z0 s) (0 + i) * _ + (bv (mz B0 (1200 * u) (Z0 u)) 0 i + mz B0 (1200 * u) (Z0 u) (0 + i) * _)
              rw [Nat.zero_add]
              exact ad_s hval rfl
            · refine g_iload dX11_add_142 rfl ?_
              refine g_iconst (v := nI 1) dX11_add_144 (by decide) ?_
              refine g_iaddN dX11_add_145 ?_
              refine g_goto (tgt := 151) dX11_add_146 (by decide) ?_
              refine g_istore (ls' := [(4, .int (nI (i + 1))), (3, .int (nI ((c + mz B0 (1200 * s) (Z0 s) i + mz B0 (1200 * u) (Z0 u) i) / 65536))), (6, .int (nI ((c + (mz B0 (1200 * s) (Z0 s) i)) + (mz B0 (1200 * u) (Z0 u) i)))), (5, .int (nI i)), (0, .ref 142), (1, .int (nI s)), (2, .int (nI u))]) dX11_add_151 (by decide) rfl ?_
              refine g_iincN (z := 1) (ls' := [(5, .int (nI (i + 1))), (4, .int (nI (i + 1))), (3, .int (nI ((c + mz B0 (1200 * s) (Z0 s) i + mz B0 (1200 * u) (Z0 u) i) / 65536))), (6, .int (nI ((c + (mz B0 (1200 * s) (Z0 s) i)) + (mz B0 (1200 * u) (Z0 u) i)))), (0, .ref 142), (1, .int (nI s)), (2, .int (nI u))]) dX11_add_153 rfl (by decide) rfl ?_
              refine g_goto (tgt := 37) dX11_add_156 (by decide) ?_
              refine g_pick [0, 1, 2, 4, 5, 6] (ls' := [(5, .int (nI (i + 1))), (4, .int (nI (i + 1))), (3, .int (nI ((c + mz B0 (1200 * s) (Z0 s) i + mz B0 (1200 * u) (Z0 u) i) / 65536))), (0, .ref 142), (1, .int (nI s)), (2, .int (nI u))]) rfl ?_
              refine ih ((c + mz B0 (1200 * s) (Z0 s) i + mz B0 (1200 * u) (Z0 u) i) / 65536) (i + 1) (i + 1) (va_up B (1200 * s + i) ((c + mz B0 (1200 * s) (Z0 s) i + mz B0 (1200 * u) (Z0 u) i) % 65536)) _ (by omega) (by omega) (by omega) (by omega) ⟨g_ne (by decide) m0, g_eq, g_ne (by decide) m2, up_b m3 (Nat.mod_lt _ (by decide))⟩ ?_ (fun j h1 h2 => (va_n (by omega)).trans (hB0 j (by omega) h2)) (fun j hj => (va_n (by omega)).trans (hO j hj)) (hf.up (by simp))
              rw [bv_put, Nat.pow_succ]
              show _ = bv (mz B0 (1200 * s) (Z0 s)) 0 i + mz B0 (1200 * s) (Z0 s) (0 + i) * _ + (bv (mz B0 (1200 * u) (Z0 u)) 0 i + mz B0 (1200 * u) (Z0 u) (0 + i) * _)
              rw [Nat.zero_add]
              exact ad_s hval rfl
set_option maxHeartbeats 4000000 in
set_option maxRecDepth 100000 in
theorem c_madd (G : gG) (d n : Nat) (ex : Bool) (h : gH) {X : Nat → Int32} {V : Nat → Option Nat} {s u a b : Nat} (hN : Bn h X V) (hs : s < 9) (hu : u < 9) (hsu : ¬ s = u) (ha : V s = some a) (hb : V u = some b) (hr : a + b < RM) : g_M G mX11_add (d + 1) 0 0 [.ref 142, .int (nI s), .int (nI u)] n ex h (q_v n ex [156, 157] h (fun h' => Bn h' X (va_up V s (some (a + b))))) := by
  obtain ⟨B, Z, ⟨m0, m1, m2, m3⟩, hV⟩ := hN
  have hVs := hV s hs
  rw [ha] at hVs
  obtain ⟨q1, q2, q3⟩ := hVs
  have hVu := hV u hu
  rw [hb] at hVu
  obtain ⟨k1, k2, k3⟩ := hVu
  refine g_enter (by decide) (Nat.le_of_ble_eq_true rfl) ?_
  show g_W G _ _ _ n ex h 0 0 0 [(0, .ref 142), (1, .int (nI s)), (2, .int (nI u))] []
  refine g_iconst (v := nI 0) dX11_add_0 (by decide) ?_
  refine g_istore_n (ls' := [(3, .int (nI 0)), (0, .ref 142), (1, .int (nI s)), (2, .int (nI u))]) dX11_add_1 rfl (by decide) rfl ?_
  refine g_aload_n dX11_add_2 rfl rfl ?_
  refine g_getf dX11_add_3 fX11_79 m0 rfl ?_
  refine g_iload_n dX11_add_6 rfl rfl ?_
  refine g_ialdN dX11_add_7 m2 (by omega) (by decide) ?_
  refine g_aload_n dX11_add_8 rfl rfl ?_
  refine g_getf dX11_add_9 fX11_79 m0 rfl ?_
  refine g_iload_n dX11_add_12 rfl rfl ?_
  refine g_ialdN dX11_add_13 m2 (by omega) (by decide) ?_
  refine g_icmp_leN (tgt := 26) dX11_add_14 (by decide) (by omega) (by omega) (fun c14 => ?_) (fun c14 => ?_)
  · refine g_aload_n dX11_add_26 rfl rfl ?_
    refine g_getf dX11_add_27 fX11_79 m0 rfl ?_
    refine g_iload_n dX11_add_30 rfl rfl ?_
    refine g_ialdN dX11_add_31 m2 (by omega) (by decide) ?_
    refine g_istore (ls' := [(4, .int (nI (Z u))), (3, .int (nI 0)), (0, .ref 142), (1, .int (nI s)), (2, .int (nI u))]) dX11_add_32 (by decide) rfl ?_
    refine g_iconst (v := nI 0) dX11_add_34 (by decide) ?_
    refine g_istore (ls' := [(5, .int (nI 0)), (4, .int (nI (Z u))), (3, .int (nI 0)), (0, .ref 142), (1, .int (nI s)), (2, .int (nI u))]) dX11_add_35 (by decide) rfl ?_
    refine g_pick [0, 1, 2, 3, 4, 5] (ls' := [(5, .int (nI 0)), (4, .int (nI (Z u))), (3, .int (nI 0)), (0, .ref 142), (1, .int (nI s)), (2, .int (nI u))]) rfl ?_
    exact lp_madd G d n ex h hs hu hsu hr hV m3 q1 q2 k1 k2 1201 0 _ 0 B h (by omega) (by omega) (by omega) (by omega) ⟨m0, m1, m2, m3⟩ (by show 0 + 0 * _ = 0 + 0; omega) (fun _ _ _ => rfl) (fun _ _ => rfl) g_fr.rf
  · refine g_aload_n dX11_add_17 rfl rfl ?_
    refine g_getf dX11_add_18 fX11_79 m0 rfl ?_
    refine g_iload_n dX11_add_21 rfl rfl ?_
    refine g_ialdN dX11_add_22 m2 (by omega) (by decide) ?_
    refine g_goto (tgt := 32) dX11_add_23 (by decide) ?_
    refine g_istore (ls' := [(4, .int (nI (Z s))), (3, .int (nI 0)), (0, .ref 142), (1, .int (nI s)), (2, .int (nI u))]) dX11_add_32 (by decide) rfl ?_
    refine g_iconst (v := nI 0) dX11_add_34 (by decide) ?_
    refine g_istore (ls' := [(5, .int (nI 0)), (4, .int (nI (Z s))), (3, .int (nI 0)), (0, .ref 142), (1, .int (nI s)), (2, .int (nI u))]) dX11_add_35 (by decide) rfl ?_
    refine g_pick [0, 1, 2, 3, 4, 5] (ls' := [(5, .int (nI 0)), (4, .int (nI (Z s))), (3, .int (nI 0)), (0, .ref 142), (1, .int (nI s)), (2, .int (nI u))]) rfl ?_
    exact lp_madd G d n ex h hs hu hsu hr hV m3 q1 q2 k1 k2 1201 0 _ 0 B h (by omega) (by omega) (by omega) (by omega) ⟨m0, m1, m2, m3⟩ (by show 0 + 0 * _ = 0 + 0; omega) (fun _ _ _ => rfl) (fun _ _ => rfl) g_fr.rf
theorem sb_lt {x y c : Nat} (hx : x < 65536) (hy : y < 65536) (hc : c ≤ 1) : nI x - nI y - nI c < 0 ↔ x < y + c := by
  rcases Nat.lt_or_ge x (y + c) with q | q
  · refine ⟨fun _ => q, fun _ => ?_⟩
    have e : nI x - nI y - nI c = -(nI (y + c - x)) := by
      have : nI (y + c) = nI x + nI (y + c - x) := by rw [nI_add]; congr 1; omega
      rw [← nI_add] at this
      have h2 : nI x - nI y - nI c = nI x - (nI y + nI c) := by simp only [Int32.sub_eq_add_neg, Int32.neg_add, Int32.add_assoc]
      rw [h2, this]
      simp only [Int32.sub_eq_add_neg, Int32.neg_add, ← Int32.add_assoc, Int32.add_right_neg, Int32.zero_add]
    rw [e]
    have h3 : ∀ k : Nat, 1 ≤ k → k < 2147483648 → -(nI k) < 0 := fun k h1 h2 => by
      rw [Int32.lt_iff_toInt_lt, Int32.toInt_neg, nI_toInt h2]
      show (-(k : Int)).bmod (2 ^ 32) < 0
      rw [Int.bmod_eq_of_le (by omega) (by omega)]
      omega
    exact h3 _ (by omega) (by omega)
  · rw [pk_sub (show y ≤ x by omega), pk_sub (by omega)]
    exact ⟨fun z => absurd z (nI_pos (by omega)), fun z => absurd z (by omega)⟩
theorem sb_and {x y c : Nat} (hx : x < 65536) (hy : y < 65536) (hc : c ≤ 1) : (nI x - nI y - nI c) &&& nI 65535 = nI ((x + 65536 - y - c) % 65536) := by
  have e : nI x - nI y - nI c = nI (x + 4294967296 - y - c) := by
    have h1 : nI x = nI (x + 4294967296) := un_inj (by rw [un_nIm, un_nIm, Nat.add_mod_right])
    rw [h1, pk_sub (by omega), pk_sub (by omega)]
  rw [e, nx16]
  congr 1; omega
theorem ls_s {x c r p u v b1 b2 : Nat} (h : x + v = u + c * p) (e : r = (b1 + 65536 - b2 - c) % 65536) (h1 : b1 < 65536) (h2 : b2 < 65536) (hc : c ≤ 1) : x + r * p + (v + b2 * p) = u + b1 * p + (if b1 < b2 + c then 1 else 0) * (p * 65536) := by
  have e1 : r + b2 + c = b1 + (if b1 < b2 + c then 1 else 0) * 65536 := by split <;> omega
  have e2 : (r + b2 + c) * p = (b1 + (if b1 < b2 + c then 1 else 0) * 65536) * p := by rw [e1]
  rw [Nat.add_mul, Nat.add_mul, Nat.add_mul, Nat.mul_assoc, Nat.mul_comm 65536 p] at e2
  omega
set_option maxHeartbeats 4000000 in
set_option maxRecDepth 100000 in
theorem lp_mless (G : gG) (d n : Nat) (ex : Bool) (h0 : gH) {X : Nat → Int32} {V : Nat → Option Nat} {B0 Z0 : Nat → Nat} {s u a b : Nat} (hs : s < 9) (hu : u < 9) (hsu : ¬ s = u) (hba : b ≤ a) (hV : ∀ s, s < 9 → Bs B0 Z0 s (V s)) (hB : ∀ j, B0 j < 65536) (q1 : Z0 s ≤ 1190) (q2 : bv B0 (1200 * s) (Z0 s) = a) (hzz : Z0 u ≤ Z0 s) (k2 : bv B0 (1200 * u) (Z0 u) = b) : ∀ (t c i : Nat) (B : Nat → Nat) (h : gH), Z0 s - i < t → i ≤ Z0 s → c ≤ 1 → Bg h X B Z0 → bv B (1200 * s) i + bv (mz B0 (1200 * u) (Z0 u)) 0 i = bv B0 (1200 * s) i + c * 65536 ^ i → (∀ j, i ≤ j → j < 1200 → B (1200 * s + j) = B0 (1200 * s + j)) → (∀ j, (j < 1200 * s ∨ 1200 * s + 1200 ≤ j) → B j = B0 j) → g_fr [156, 157] h0 h →
    g_W G mX11_less (g_rm (d + 1) 0 0) (g_K G (q_v n ex [156, 157] h0 (fun h' => Bn h' X (va_up V s (some (a - b))))) 0 0) n ex h 0 0 5 [(4, .int (nI i)), (3, .int (nI c)), (0, .ref 142), (1, .int (nI s)), (2, .int (nI u))] [] := by
  intro t
  induction t with
  | zero => intro c i B h hm; exact absurd hm (by omega)
  | succ t ih =>
    intro c i B h ht hi hc hg hval hB0 hO hf
    obtain ⟨m0, m1, m2, m3⟩ := id hg
    have w1 := m3 (1200 * s + i)
    have w2 := mz_b hB (1200 * u) (Z0 u) i
    refine g_iload dX11_less_5 rfl ?_
    refine g_aload_n dX11_less_7 rfl rfl ?_
    refine g_getf dX11_less_8 fX11_79 m0 rfl ?_
    refine g_iload_n dX11_less_11 rfl rfl ?_
    refine g_ialdN dX11_less_12 m2 (by omega) (by decide) ?_
    refine g_icmp_geN (tgt := 97) dX11_less_13 (by decide) (by omega) (by omega) (fun c13 => ?_) (fun c13 => ?_)
    · refine g_aload_n dX11_less_97 rfl rfl ?_
      refine g_iload_n dX11_less_98 rfl rfl ?_
      refine cVv (st := []) dX11_less_99 (c_trim G d n ex h ⟨m0, m1, m2, m3⟩ hs (by omega)) sX11_188 m0 rfl rfl (by simp only [g_rm]; omega) (by simp only [g_rm]; omega) (Nat.le_of_ble_eq_true rfl) ⟨Nat.le_of_ble_eq_true rfl, Nat.le_of_ble_eq_true rfl⟩ (fun h1 fr2 p3 => ?_)
      obtain ⟨Z2, g2, p1, p2, p3, p4⟩ := p3
      have hv2 : bv B (1200 * s) (Z2 s) = a - b := by
        rw [p2]
        have e : i = Z0 s := by omega
        subst e
        have h9 := bv_lt m3 (1200 * s) (Z0 s)
        have h8 := hval
        rw [mz_v hzz, q2, k2] at h8
        rcases Nat.eq_zero_or_pos c with z | z
        · rw [z] at h8; omega
        · rw [show c = 1 by omega] at h8; omega
      refine e_v dX11_less_102 rfl ((hf).tr fr2 (by simp)) (Bn.set hV g2 p4 hO ⟨by omega, hv2, p3⟩) (by decide) (by decide)
    · refine g_aload_n dX11_less_16 rfl rfl ?_
      refine g_getf dX11_less_17 fX11_76 m0 rfl ?_
      refine g_sipush (v := nI 1200) dX11_less_20 (by decide) ?_
      refine g_iload_n dX11_less_23 rfl rfl ?_
      refine g_imulN dX11_less_24 ?_
      refine g_iload dX11_less_25 rfl ?_
      refine g_iaddN dX11_less_27 ?_
      refine g_ialdN dX11_less_28 m1 (by omega) (by decide) ?_
      refine g_iload dX11_less_29 rfl ?_
      refine g_aload_n dX11_less_31 rfl rfl ?_
      refine g_getf dX11_less_32 fX11_79 m0 rfl ?_
      refine g_iload_n dX11_less_35 rfl rfl ?_
      refine g_ialdN dX11_less_36 m2 (by omega) (by decide) ?_
      refine g_icmp_geN (tgt := 56) dX11_less_37 (by decide) (by omega) (by omega) (fun c37 => ?_) (fun c37 => ?_)
      · refine g_iconst (v := nI 0) dX11_less_56 (by decide) ?_
        refine g_top (show nI 0 = nI (mz B0 (1200 * u) (Z0 u) i) from by rw [mz_o (by omega)]) ?_
        refine g_isub dX11_less_57 ?_
        refine g_iload_n dX11_less_58 rfl rfl ?_
        refine g_isub dX11_less_59 ?_
        refine g_istore (ls' := [(5, .int (((nI (B ((1200 * s) + i))) - (nI (mz B0 (1200 * u) (Z0 u) i))) - (nI c))), (4, .int (nI i)), (3, .int (nI c)), (0, .ref 142), (1, .int (nI s)), (2, .int (nI u))]) dX11_less_60 (by decide) rfl ?_
        refine g_aload_n dX11_less_62 rfl rfl ?_
        refine g_getf dX11_less_63 fX11_76 m0 rfl ?_
        refine g_sipush (v := nI 1200) dX11_less_66 (by decide) ?_
        refine g_iload_n dX11_less_69 rfl rfl ?_
        refine g_imulN dX11_less_70 ?_
        refine g_iload dX11_less_71 rfl ?_
        refine g_iaddN dX11_less_73 ?_
        refine g_iload dX11_less_74 rfl ?_
        refine g_ldc dX11_less_76 kX11_194 rfl ?_
        refine g_top (show (65535 : Int32) = nI 65535 by decide) ?_
        refine g_iand dX11_less_78 ?_
        refine g_top (show (((nI (B ((1200 * s) + i))) - (nI (mz B0 (1200 * u) (Z0 u) i))) - (nI c)) &&& (nI 65535) = nI ((B (1200 * s + i) + 65536 - mz B0 (1200 * u) (Z0 u) i - c) % 65536) from sb_and w1 w2 hc) ?_
        refine g_iastN dX11_less_79 m1 (by omega) (by decide) ?_
        rw [upd_nI]
        refine g_iload dX11_less_80 rfl ?_
        refine g_if_ge (tgt := 89) dX11_less_82 (by decide) (fun c82 => ?_) (fun c82 => ?_)
        · refine g_iconst (v := nI 0) dX11_less_89 (by decide) ?_
          refine g_istore_n (ls' := [(3, .int (nI 0)), (5, .int (((nI (B ((1200 * s) + i))) - (nI (mz B0 (1200 * u) (Z0 u) i))) - (nI c))), (4, .int (nI i)), (0, .ref 142), (1, .int (nI s)), (2, .int (nI u))]) dX11_less_90 rfl (by decide) rfl ?_
          refine g_iincN (z := 1) (ls' := [(4, .int (nI (i + 1))), (3, .int (nI 0)), (5, .int (((nI (B ((1200 * s) + i))) - (nI (mz B0 (1200 * u) (Z0 u) i))) - (nI c))), (0, .ref 142), (1, .int (nI s)), (2, .int (nI u))]) dX11_less_91 rfl (by decide) rfl ?_
          refine g_goto (tgt := 5) dX11_less_94 (by decide) ?_
          refine g_pick [0, 1, 3, 4, 5] (ls' := [(4, .int (nI (i + 1))), (3, .int (nI 0)), (0, .ref 142), (1, .int (nI s)), (2, .int (nI u))]) rfl ?_
          refine ih 0 (i + 1) (va_up B (1200 * s + i) ((B (1200 * s + i) + 65536 - mz B0 (1200 * u) (Z0 u) i - c) % 65536)) _ (by omega) (by omega) (by omega) ⟨g_ne (by decide) m0, g_eq, g_ne (by decide) m2, up_b m3 (Nat.mod_lt _ (by decide))⟩ ?_ (fun j h1 h2 => (va_n (by omega)).trans (hB0 j (by omega) h2)) (fun j hj => (va_n (by omega)).trans (hO j hj)) (hf.up (by simp))
          rw [bv_put, Nat.pow_succ]
          show _ + (bv (mz B0 (1200 * u) (Z0 u)) 0 i + mz B0 (1200 * u) (Z0 u) (0 + i) * _) = bv B0 (1200 * s) i + B0 (1200 * s + i) * _ + _
          rw [Nat.zero_add, ← hB0 i (Nat.le_refl _) (by omega)]
          have h5 := ls_s hval rfl w1 w2 hc
          rw [if_neg (fun q => absurd ((sb_lt w1 w2 hc).mpr q) (Int32.not_lt.mpr c82))] at h5
          exact h5
        · refine g_iconst (v := nI 1) dX11_less_85 (by decide) ?_
          refine g_goto (tgt := 90) dX11_less_86 (by decide) ?_
          refine g_istore_n (ls' := [(3, .int (nI 1)), (5, .int (((nI (B ((1200 * s) + i))) - (nI (mz B0 (1200 * u) (Z0 u) i))) - (nI c))), (4, .int (nI i)), (0, .ref 142), (1, .int (nI s)), (2, .int (nI u))]) dX11_less_90 rfl (by decide) rfl ?_
          refine g_iincN (z := 1) (ls' := [(4, .int (nI (i + 1))), (3, .int (nI 1)), (5, .int (((nI (B ((1200 * s) + i))) - (nI (mz B0 (1200 * u) (Z0 u) i))) - (nI c))), (0, .ref 142), (1, .int (nI s)), (2, .int (nI u))]) dX11_less_91 rfl (by decide) rfl ?_
          refine g_goto (tgt := 5) dX11_less_94 (by decide) ?_
          refine g_pick [0, 1, 3, 4, 5] (ls' := [(4, .int (nI (i + 1))), (3, .int (nI 1)), (0, .ref 142), (1, .int (nI s)), (2, .int (nI u))]) rfl ?_
          refine ih 1 (i + 1) (va_up B (1200 * s + i) ((B (1200 * s + i) + 65536 - mz B0 (1200 * u) (Z0 u) i - c) % 65536)) _ (by omega) (by omega) (by omega) ⟨g_ne (by decide) m0, g_eq, g_ne (by decide) m2, up_b m3 (Nat.mod_lt _ (by decide))⟩ ?_ (fun j h1 h2 => (va_n (by omega)).trans (hB0 j (by omega) h2)) (fun j hj => (va_n (by omega)).trans (hO j hj)) (hf.up (by simp))
          rw [bv_put, Nat.pow_succ]
          show _ + (bv (mz B0 (1200 * u) (Z0 u)) 0 i + mz B0 (1200 * u) (Z0 u) (0 + i) * _) = bv B0 (1200 * s) i + B0 (1200 * s + i) * _ + _
          rw [Nat.zero_add, ← hB0 i (Nat.le_refl _) (by omega)]
          have h5 := ls_s hval rfl w1 w2 hc
          rw [if_pos ((sb_lt w1 w2 hc).mp (Int32.not_le.mp c82))] at h5
          exact h5
      · refine g_aload_n dX11_less_40 rfl rfl ?_
        refine g_getf dX11_less_41 fX11_76 m0 rfl ?_
        refine g_sipush (v := nI 1200) dX11_less_44 (by decide) ?_
        refine g_iload_n dX11_less_47 rfl rfl ?_
        refine g_imulN dX11_less_48 ?_
        refine g_iload dX11_less_49 rfl ?_
        refine g_iaddN dX11_less_51 ?_
        refine g_ialdN dX11_less_52 m1 (by omega) (by decide) ?_
        refine g_goto (tgt := 57) dX11_less_53 (by decide) ?_
        refine g_top (show nI (B ((1200 * u) + i)) = nI (mz B0 (1200 * u) (Z0 u) i) from by rw [mz_i (by omega), hO _ (by omega)]) ?_
        refine g_isub dX11_less_57 ?_
        refine g_iload_n dX11_less_58 rfl rfl ?_
        refine g_isub dX11_less_59 ?_
        refine g_istore (ls' := [(5, .int (((nI (B ((1200 * s) + i))) - (nI (mz B0 (1200 * u) (Z0 u) i))) - (nI c))), (4, .int (nI i)), (3, .int (nI c)), (0, .ref 142), (1, .int (nI s)), (2, .int (nI u))]) dX11_less_60 (by decide) rfl ?_
        refine g_aload_n dX11_less_62 rfl rfl ?_
        refine g_getf dX11_less_63 fX11_76 m0 rfl ?_
        refine g_sipush (v := nI 1200) dX11_less_66 (by decide) ?_
        refine g_iload_n dX11_less_69 rfl rfl ?_
        refine g_imulN dX11_less_70 ?_
        refine g_iload dX11_less_71 rfl ?_
        refine g_iaddN dX11_less_73 ?_
        refine g_iload dX11_less_74 rfl ?_
        refine g_ldc dX11_less_76 kX11_194 rfl ?_
        refine g_top (show (65535 : Int32) = nI 65535 by decide) ?_
        refine g_iand dX11_less_78 ?_
        refine g_top (show (((nI (B ((1200 * s) + i))) - (nI (mz B0 (1200 * u) (Z0 u) i))) - (nI c)) &&& (nI 65535) = nI ((B (1200 * s + i) + 65536 - mz B0 (1200 * u) (Z0 u) i - c) % 65536) from sb_and w1 w2 hc) ?_
        refine g_iastN dX11_less_79 m1 (by omega) (by decide) ?_
        rw [upd_nI]
        refine g_iload dX11_less_80 rfl ?_
        refine g_if_ge (tgt := 89) dX11_less_82 (by decide) (fun c82 => ?_) (fun c82 => ?_)
        · refine g_iconst (v := nI 0) dX11_less_89 (by decide) ?_
          refine g_istore_n (ls' := [(3, .int (nI 0)), (5, .int (((nI (B ((1200 * s) + i))) - (nI (mz B0 (1200 * u) (Z0 u) i))) - (nI c))), (4, .int (nI i)), (0, .ref 142), (1, .int (nI s)), (2, .int (nI u))]) dX11_less_90 rfl (by decide) rfl ?_
          refine g_iincN (z := 1) (ls' := [(4, .int (nI (i + 1))), (3, .int (nI 0)), (5, .int (((nI (B ((1200 * s) + i))) - (nI (mz B0 (1200 * u) (Z0 u) i))) - (nI c))), (0, .ref 142), (1, .int (nI s)), (2, .int (nI u))]) dX11_less_91 rfl (by decide) rfl ?_
          refine g_goto (tgt := 5) dX11_less_94 (by decide) ?_
          refine g_pick [0, 1, 3, 4, 5] (ls' := [(4, .int (nI (i + 1))), (3, .int (nI 0)), (0, .ref 142), (1, .int (nI s)), (2, .int (nI u))]) rfl ?_
          refine ih 0 (i + 1) (va_up B (1200 * s + i) ((B (1200 * s + i) + 65536 - mz B0 (1200 * u) (Z0 u) i - c) % 65536)) _ (by omega) (by omega) (by omega) ⟨g_ne (by decide) m0, g_eq, g_ne (by decide) m2, up_b m3 (Nat.mod_lt _ (by decide))⟩ ?_ (fun j h1 h2 => (va_n (by omega)).trans (hB0 j (by omega) h2)) (fun j hj => (va_n (by omega)).trans (hO j hj)) (hf.up (by simp))
          rw [bv_put, Nat.pow_succ]
          show _ + (bv (mz B0 (1200 * u) (Z0 u)) 0 i + mz B0 (1200 * u) (Z0 u) (0 + i) * _) = bv B0 (1200 * s) i + B0 (1200 * s + i) * _ + _
          rw [Nat.zero_add, ← hB0 i (Nat.le_refl _) (by omega)]
          have h5 := ls_s hval rfl w1 w2 hc
          rw [if_neg (fun q => absurd ((sb_lt w1 w2 hc).mpr q) (Int32.not_lt.mpr c82))] at h5
          exact h5
        · refine g_iconst (v := nI 1) dX11_less_85 (by decide) ?_
          refine g_goto (tgt := 90) dX11_less_86 (by decide) ?_
          refine g_istore_n (ls' := [(3, .int (nI 1)), (5, .int (((nI (B ((1200 * s) + i))) - (nI (mz B0 (1200 * u) (Z0 u) i))) - (nI c))), (4, .int (nI i)), (0, .ref 142), (1, .int (nI s)), (2, .int (nI u))]) dX11_less_90 rfl (by decide) rfl ?_
          refine g_iincN (z := 1) (ls' := [(4, .int (nI (i + 1))), (3, .int (nI 1)), (5, .int (((nI (B ((1200 * s) + i))) - (nI (mz B0 (1200 * u) (Z0 u) i))) - (nI c))), (0, .ref 142), (1, .int (nI s)), (2, .int (nI u))]) dX11_less_91 rfl (by decide) rfl ?_
          refine g_goto (tgt := 5) dX11_less_94 (by decide) ?_
          refine g_pick [0, 1, 3, 4, 5] (ls' := [(4, .int (nI (i + 1))), (3, .int (nI 1)), (0, .ref 142), (1, .int (nI s)), (2, .int (nI u))]) rfl ?_
          refine ih 1 (i + 1) (va_up B (1200 * s + i) ((B (1200 * s + i) + 65536 - mz B0 (1200 * u) (Z0 u) i - c) % 65536)) _ (by omega) (by omega) (by omega) ⟨g_ne (by decide) m0, g_eq, g_ne (by decide) m2, up_b m3 (Nat.mod_lt _ (by decide))⟩ ?_ (fun j h1 h2 => (va_n (by omega)).trans (hB0 j (by omega) h2)) (fun j hj => (va_n (by omega)).trans (hO j hj)) (hf.up (by simp))
          rw [bv_put, Nat.pow_succ]
          show _ + (bv (mz B0 (1200 * u) (Z0 u)) 0 i + mz B0 (1200 * u) (Z0 u) (0 + i) * _) = bv B0 (1200 * s) i + B0 (1200 * s + i) * _ + _
          rw [Nat.zero_add, ← hB0 i (Nat.le_refl _) (by omega)]
          have h5 := ls_s hval rfl w1 w2 hc
          rw [if_pos ((sb_lt w1 w2 hc).mp (Int32.not_le.mp c82))] at h5
          exact h5
set_option maxHeartbeats 4000000 in
set_option maxRecDepth 100000 in
theorem c_mless (G : gG) (d n : Nat) (ex : Bool) (h : gH) {X : Nat → Int32} {V : Nat → Option Nat} {s u a b : Nat} (hN : Bn h X V) (hs : s < 9) (hu : u < 9) (hsu : ¬ s = u) (ha : V s = some a) (hb : V u = some b) (hba : b ≤ a) : g_M G mX11_less (d + 1) 0 0 [.ref 142, .int (nI s), .int (nI u)] n ex h (q_v n ex [156, 157] h (fun h' => Bn h' X (va_up V s (some (a - b))))) := by
  obtain ⟨B, Z, ⟨m0, m1, m2, m3⟩, hV⟩ := hN
  have hVs := hV s hs
  rw [ha] at hVs
  obtain ⟨q1, q2, q3⟩ := hVs
  have hVu := hV u hu
  rw [hb] at hVu
  obtain ⟨k1, k2, k3⟩ := hVu
  refine g_enter (by decide) (Nat.le_of_ble_eq_true rfl) ?_
  show g_W G _ _ _ n ex h 0 0 0 [(0, .ref 142), (1, .int (nI s)), (2, .int (nI u))] []
  refine g_iconst (v := nI 0) dX11_less_0 (by decide) ?_
  refine g_istore_n (ls' := [(3, .int (nI 0)), (0, .ref 142), (1, .int (nI s)), (2, .int (nI u))]) dX11_less_1 rfl (by decide) rfl ?_
  refine g_iconst (v := nI 0) dX11_less_2 (by decide) ?_
  refine g_istore (ls' := [(4, .int (nI 0)), (3, .int (nI 0)), (0, .ref 142), (1, .int (nI s)), (2, .int (nI u))]) dX11_less_3 (by decide) rfl ?_
  refine g_pick [0, 1, 2, 3, 4] (ls' := [(4, .int (nI 0)), (3, .int (nI 0)), (0, .ref 142), (1, .int (nI s)), (2, .int (nI u))]) rfl ?_
  have hzz : Z u ≤ Z s := by
    rcases Nat.lt_or_ge (Z s) (Z u) with q | q
    · exact absurd (bv_lts (o := 1200 * s) m3 k3 q) (by omega)
    · exact q
  exact lp_mless G d n ex h hs hu hsu hba hV m3 q1 q2 hzz k2 (Z s + 1) 0 0 B h (by omega) (by omega) (by omega) ⟨m0, m1, m2, m3⟩ (by show 0 + 0 = 0 + 0 * _; omega) (fun _ _ _ => rfl) (fun _ _ => rfl) g_fr.rf
