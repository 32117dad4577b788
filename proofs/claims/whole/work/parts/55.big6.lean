theorem dv_q {B : Nat → Nat} (hB : ∀ j, B j < 65536) {o n' D tp q : Nat} (hD : tp * 65536 ^ n' ≤ D) (hq : B (o + (n' + 1)) * 65536 + B (o + n') < (q + 1) * tp) : bv B o (n' + 2) < (q + 1) * D := by
  show bv B o n' + B (o + n') * 65536 ^ n' + B (o + (n' + 1)) * 65536 ^ (n' + 1) < _
  have h1 := bv_lt hB o n'
  rw [Nat.pow_succ, Nat.mul_comm (65536 ^ n') 65536, ← Nat.mul_assoc]
  have h2 := Nat.mul_le_mul_right (65536 ^ n') (show B (o + (n' + 1)) * 65536 + B (o + n') + 1 ≤ (q + 1) * tp by omega)
  rw [Nat.add_mul, Nat.add_mul, Nat.mul_assoc (q + 1)] at h2
  have h3 := Nat.mul_le_mul_left (q + 1) hD
  omega
theorem dv_U {x U D P : Nat} (h : x + U * P < D * (P * 65536)) : U < 65536 * D := by
  have h1 : U * P < 65536 * D * P := by
    rw [Nat.mul_assoc, Nat.mul_comm 65536, Nat.mul_assoc]
    omega
  exact Nat.lt_of_mul_lt_mul_right h1
theorem dv_r {x U D P q r : Nat} (hx : x < P) (e : r + q * D = U) (hq : U < (q + 1) * D) : x + r * P < D * P := by
  rw [Nat.add_mul] at hq
  have := Nat.mul_le_mul_right P (show r + 1 ≤ D by omega)
  rw [Nat.add_mul] at this
  omega
theorem dv_v {x U D P q r Y NN : Nat} (e : r + q * D = U) (h : Y * (P * 65536) * D + (x + U * P) = NN) : (q + Y * 65536) * P * D + (x + r * P) = NN := by
  rw [← h, ← e]
  have e1 : Y * (P * 65536) * D = Y * 65536 * P * D := by rw [Nat.mul_comm P 65536, ← Nat.mul_assoc]
  rw [e1, Nat.add_mul, Nat.add_mul, Nat.add_mul, Nat.mul_assoc q, Nat.mul_assoc q, Nat.mul_comm P D]
  omega
theorem dv_D {B : Nat → Nat} (hB : ∀ j, B j < 65536) {o n' e : Nat} (he : e ≤ 15) (h1 : 32768 ≤ B (o + n') * 2 ^ e) (h2 : B (o + n') * 2 ^ e < 65536) : 32768 * 65536 ^ n' ≤ bv B o (n' + 1) * 2 ^ e ∧ bv B o (n' + 1) * 2 ^ e < 65536 ^ (n' + 1) := by
  show 32768 * 65536 ^ n' ≤ (bv B o n' + B (o + n') * 65536 ^ n') * 2 ^ e ∧ _
  have h3 := bv_lt hB o n'
  have h4 : (B (o + n') + 1) * 2 ^ e ≤ 65536 := by
    generalize B (o + n') = w at h2
    have he16 : e = 0 ∨ e = 1 ∨ e = 2 ∨ e = 3 ∨ e = 4 ∨ e = 5 ∨ e = 6 ∨ e = 7 ∨ e = 8 ∨ e = 9 ∨ e = 10 ∨ e = 11 ∨ e = 12 ∨ e = 13 ∨ e = 14 ∨ e = 15 := by omega
    rcases he16 with rfl | rfl | rfl | rfl | rfl | rfl | rfl | rfl | rfl | rfl | rfl | rfl | rfl | rfl | rfl | rfl <;> omega
  constructor
  · have h5 := Nat.mul_le_mul_right (65536 ^ n') h1
    have h6 : B (o + n') * 2 ^ e * 65536 ^ n' = B (o + n') * 65536 ^ n' * 2 ^ e := by ac_rfl
    rw [Nat.add_mul]
    omega
  · have h5 : (bv B o n' + B (o + n') * 65536 ^ n') * 2 ^ e < (B (o + n') + 1) * 65536 ^ n' * 2 ^ e := Nat.mul_lt_mul_of_pos_right (by rw [Nat.add_mul]; omega) (Nat.two_pow_pos e)
    have h6 := Nat.mul_le_mul_right (65536 ^ n') h4
    have h7 : (B (o + n') + 1) * 2 ^ e * 65536 ^ n' = (B (o + n') + 1) * 65536 ^ n' * 2 ^ e := by ac_rfl
    rw [Nat.pow_succ, Nat.mul_comm (65536 ^ n') 65536]
    exact Nat.lt_of_lt_of_le h5 (by omega)
theorem dv_t {B : Nat → Nat} (hB : ∀ j, B j < 65536) {o n' z D : Nat} (hz : z = 0 ∨ ¬ B (o + z - 1) = 0) (hv : bv B o z = D) (h1 : 32768 * 65536 ^ n' ≤ D) (h2 : D < 65536 ^ (n' + 1)) : z = n' + 1 ∧ 32768 ≤ B (o + n') := by
  have h3 : z ≤ n' + 1 := bv_len hz (by rw [hv]; exact h2)
  have hp : 0 < 65536 ^ n' := Nat.pow_pos (by decide)
  have h4 : z = n' + 1 := by
    rcases Nat.lt_or_ge z (n' + 1) with q | q
    · have h5 := bv_lt hB o z
      have h6 : 65536 ^ z ≤ 65536 ^ n' := Nat.pow_le_pow_right (by decide) (by omega)
      omega
    · omega
  refine ⟨h4, ?_⟩
  subst h4
  have h5 := bv_lt hB o n'
  rcases Nat.lt_or_ge (B (o + n')) 32768 with q | q
  · have h6 := Nat.mul_le_mul_right (65536 ^ n') (show B (o + n') ≤ 32767 by omega)
    have h7 : bv B o n' + B (o + n') * 65536 ^ n' = D := hv
    omega
  · exact q
set_option maxHeartbeats 4000000 in
set_option maxRecDepth 100000 in
theorem lp_ddiv (G : gG) (d n : Nat) (ex : Bool) (h0 : gH) {X : Nat → Int32} {V : Nat → Option Nat} {B0 Z1 : Nat → Nat} {n' nn m s tp D NN : Nat} (P : gH → Prop) (hP : ∀ h', Bn h' X (va_up (va_up V 3 none) s (some (NN / D))) → P h') (hs : s < 9) (hs2 : ¬ s = 2) (hs3 : ¬ s = 3) (hnn : nn = n' + 1) (hmn : m + nn ≤ 1190) (hZs : Z1 s = m + 1) (hV : ∀ u, u < 9 → ¬ u = s → ¬ u = 3 → Bs B0 Z1 u (V u)) (ht1 : 32768 ≤ tp) (ht2 : tp < 65536) (hD1 : tp * 65536 ^ n' ≤ D) (hD2 : D ≤ 65536 ^ nn) : ∀ (j : Nat) (B : Nat → Nat) (h : gH), j ≤ m + 1 → Bg h X B Z1 → bv B 3600 (j + nn) < D * 65536 ^ j → bv B (1200 * s + j) (m + 1 - j) * 65536 ^ j * D + bv B 3600 (j + nn) = NN → bv B 2400 nn = D → B (2400 + n') = tp → (∀ k, (k < 1200 * s ∨ 1200 * s + 1200 ≤ k) → (k < 3600 ∨ 4800 ≤ k) → B k = B0 k) → g_fr [156, 157] h0 h →
    g_W G mX11_divide (g_rm (d + 2) 0 0) (g_K G (q_v n ex [156, 157] h0 P) 0 0) n ex h 0 0 124 [(8, .int (nI j - nI 1)), (6, .long (lN tp)), (3, .int (nI nn)), (0, .ref 142), (1, .int (nI s))] [] := by
  have hp0 : 0 < 65536 ^ n' := Nat.pow_pos (by decide)
  have hD0 : 0 < D := Nat.lt_of_lt_of_le (Nat.mul_pos (by omega) hp0) hD1
  intro j
  induction j with
  | zero =>
    intro B h hj hg hlt hval hD htp hO hf
    obtain ⟨m0, m1, m2, m3⟩ := id hg
    refine g_iload dX11_divide_124 rfl ?_
    refine g_if_lt (tgt := 433) dX11_divide_126 (by decide) (fun c126 => ?_) (fun c126 => ?_)
    · refine g_aload_n dX11_divide_433 rfl rfl ?_
      refine g_iload_n dX11_divide_434 rfl rfl ?_
      refine cVv (st := []) dX11_divide_435 (c_trim G (d + 1) n ex h ⟨m0, m1, m2, m3⟩ hs (by omega)) sX11_188 m0 rfl rfl (by simp only [g_rm]; omega) (by simp only [g_rm]; omega) (Nat.le_of_ble_eq_true rfl) ⟨Nat.le_of_ble_eq_true rfl, Nat.le_of_ble_eq_true rfl⟩ (fun h1 fr2 p3 => ?_)
      obtain ⟨Z2, g2, p1, p2, p3, p4⟩ := p3
      have hv2 : bv B (1200 * s) (Z2 s) = NN / D := by
        rw [p2, hZs]
        rw [Nat.zero_add, Nat.pow_zero, Nat.mul_one, Nat.add_zero, Nat.sub_zero] at hval
        rw [Nat.zero_add, Nat.pow_zero, Nat.mul_one] at hlt
        rw [← hval, Nat.add_comm (_ * D) _, Nat.add_mul_div_right _ _ (by omega), Nat.div_eq_of_lt hlt, Nat.zero_add]
      refine e_v dX11_divide_438 rfl ((hf).tr fr2 (by simp)) (hP _ ⟨B, Z2, g2, fun u hu => ?_⟩) (by decide) (by decide)
      by_cases z : u = s
      · subst z; rw [va_s]; exact ⟨by omega, hv2, p3⟩
      · rw [va_n z]
        by_cases z3 : u = 3
        · subst z3; rw [va_s]; trivial
        · rw [va_n z3]; exact (hV u hu z z3).cg (p4 u z) (fun i hi => hO _ (by omega) (by omega))
    · exact absurd (show nI 0 - nI 1 < 0 by decide) c126
  | succ j ih =>
    intro B h hj hg hlt hval hD htp hO hf
    rw [nI_pr]
    obtain ⟨m0, m1, m2, m3⟩ := id hg
    have eU : bv B 3600 (j + 1 + nn) = bv B 3600 j + bv B (3600 + j) (nn + 1) * 65536 ^ j := by rw [show j + 1 + nn = j + (nn + 1) by omega]; exact bv_split
    have hU : bv B (3600 + j) (nn + 1) < 65536 * D := by
      rw [eU, Nat.pow_succ] at hlt
      exact dv_U hlt
    have w1 := m3 (3600 + j + nn)
    have w2 := m3 (3600 + j + nn - 1)
    have hdv := Nat.div_le_self (B (3600 + j + nn) * 65536 + B (3600 + j + nn - 1)) tp
    refine g_iload dX11_divide_124 rfl ?_
    refine g_if_ltN (tgt := 433) dX11_divide_126 (by decide) (by omega) (fun c126 => ?_) (fun c126 => ?_)
    · exact c126.elim
    · refine g_aload_n dX11_divide_129 rfl rfl ?_
      refine g_getf dX11_divide_130 fX11_76 m0 rfl ?_
      refine g_sipush (v := nI 3600) dX11_divide_133 (by decide) ?_
      refine g_iload dX11_divide_136 rfl ?_
      refine g_iaddN dX11_divide_138 ?_
      refine g_iload_n dX11_divide_139 rfl rfl ?_
      refine g_iaddN dX11_divide_140 ?_
      refine g_ialdN dX11_divide_141 m1 (by omega) (by decide) ?_
      refine g_i2lN dX11_divide_142 (by omega) ?_
      refine g_bipush (v := nI 16) dX11_divide_143 (by decide) ?_
      refine g_lshl dX11_divide_145 ?_
      refine g_topl (show (lN (B ((3600 + j) + nn))) <<< ((nI 16).toInt64 &&& 63) = lN (B (3600 + j + nn) * 65536) from wb_shl _ (by decide)) ?_
      refine g_aload_n dX11_divide_146 rfl rfl ?_
      refine g_getf dX11_divide_147 fX11_76 m0 rfl ?_
      refine g_sipush (v := nI 3600) dX11_divide_150 (by decide) ?_
      refine g_iload dX11_divide_153 rfl ?_
      refine g_iaddN dX11_divide_155 ?_
      refine g_iload_n dX11_divide_156 rfl rfl ?_
      refine g_iaddN dX11_divide_157 ?_
      refine g_iconst (v := nI 1) dX11_divide_158 (by decide) ?_
      refine g_isubN dX11_divide_159 (by omega) ?_
      refine g_ialdN dX11_divide_160 m1 (by omega) (by decide) ?_
      refine g_i2lN dX11_divide_161 (by omega) ?_
      refine g_laddN dX11_divide_162 ?_
      refine g_lstore (ls' := [(9, .long (lN ((B (3600 + j + nn) * 65536) + (B (((3600 + j) + nn) - 1))))), (8, .int (nI j)), (6, .long (lN tp)), (3, .int (nI nn)), (0, .ref 142), (1, .int (nI s))]) dX11_divide_163 (by decide) rfl ?_
      refine g_lload dX11_divide_165 rfl ?_
      refine g_lload dX11_divide_167 rfl ?_
      refine g_ldivN dX11_divide_169 (by omega) (by omega) (by omega) ?_
      refine g_lstore (ls' := [(11, .long (lN (((B (3600 + j + nn) * 65536) + (B (((3600 + j) + nn) - 1))) / tp))), (9, .long (lN ((B (3600 + j + nn) * 65536) + (B (((3600 + j) + nn) - 1))))), (8, .int (nI j)), (6, .long (lN tp)), (3, .int (nI nn)), (0, .ref 142), (1, .int (nI s))]) dX11_divide_170 (by decide) rfl ?_
      refine g_lload dX11_divide_172 rfl ?_
      refine g_ldc2 dX11_divide_174 kX11_186 rfl ?_
      refine g_topl (show (65535 : Int64) = lN 65535 by decide) ?_
      refine g_lc_leN (tgt := 187) dX11_divide_177 dX11_divide_178 (by decide) (by omega) (by omega) (fun c177 => ?_) (fun c177 => ?_)
      · refine g_lload dX11_divide_187 rfl ?_
        refine g_lstore (ls' := [(11, .long (lN (((B (3600 + j + nn) * 65536) + (B (((3600 + j) + nn) - 1))) / tp))), (9, .long (lN ((B (3600 + j + nn) * 65536) + (B (((3600 + j) + nn) - 1))))), (8, .int (nI j)), (6, .long (lN tp)), (3, .int (nI nn)), (0, .ref 142), (1, .int (nI s))]) dX11_divide_189 (by decide) rfl ?_
        refine g_lconst (v := lN 0) dX11_divide_191 (by decide) ?_
        refine g_lstore (ls' := [(13, .long (lN 0)), (11, .long (lN (((B (3600 + j + nn) * 65536) + (B (((3600 + j) + nn) - 1))) / tp))), (9, .long (lN ((B (3600 + j + nn) * 65536) + (B (((3600 + j) + nn) - 1))))), (8, .int (nI j)), (6, .long (lN tp)), (3, .int (nI nn)), (0, .ref 142), (1, .int (nI s))]) dX11_divide_192 (by decide) rfl ?_
        refine g_iconst (v := nI 0) dX11_divide_194 (by decide) ?_
        refine g_istore (ls' := [(15, .int (nI 0)), (13, .long (lN 0)), (11, .long (lN (((B (3600 + j + nn) * 65536) + (B (((3600 + j) + nn) - 1))) / tp))), (9, .long (lN ((B (3600 + j + nn) * 65536) + (B (((3600 + j) + nn) - 1))))), (8, .int (nI j)), (6, .long (lN tp)), (3, .int (nI nn)), (0, .ref 142), (1, .int (nI s))]) dX11_divide_195 (by decide) rfl ?_
        refine g_pick [0, 1, 2, 4, 5, 6, 7, 8] (ls' := [(15, .int (nI 0)), (13, .long (lN 0)), (11, .long (lN (((B (3600 + j + nn) * 65536) + (B (((3600 + j) + nn) - 1))) / tp))), (8, .int (nI j)), (6, .long (lN tp)), (3, .int (nI nn)), (0, .ref 142), (1, .int (nI s))]) rfl ?_
        have hq65 : (((B (3600 + j + nn) * 65536) + (B (((3600 + j) + nn) - 1))) / tp) ≤ 65535 := by omega
        have hqU : bv B (3600 + j) (nn + 1) < ((((B (3600 + j + nn) * 65536) + (B (((3600 + j) + nn) - 1))) / tp) + 1) * D := by rw [hnn]; exact dv_q m3 hD1 (by rw [← hnn]; have := Nat.lt_div_mul_add (a := B (3600 + j + nn) * 65536 + B (3600 + j + nn - 1)) (show 0 < tp by omega); rw [show 3600 + j + n' = 3600 + j + nn - 1 by omega, Nat.add_mul]; omega)
        refine lp_dmul G _ _ n ex h0 (q := (((B (3600 + j + nn) * 65536) + (B (((3600 + j) + nn) - 1))) / tp)) (B0 := B) (Z := Z1) (by omega) hD2 hq65 hqU hD rfl (fun q B' h9 g9 hr9 hq9 hD9 hO9 hf9 => ?_) (nn + 1) 0 0 B _ (by omega) (by omega) (by omega) ⟨m0, m1, m2, m3⟩ (by show 0 + _ * 0 = 0 + 0 * _; omega) (fun _ _ _ => rfl) (fun _ _ => rfl) hf
        have hq16 : q < 65536 := by
          have h5 : q * D < 65536 * D := by omega
          exact Nat.lt_of_mul_lt_mul_right h5
        show g_W G _ _ _ n ex h9 0 0 395 [(15, .long (lN 0)), (11, .long (lN q)), (8, .int (nI j)), (6, .long (lN tp)), (3, .int (nI nn)), (0, .ref 142), (1, .int (nI s))] []
        refine g_aload_n dX11_divide_395 rfl rfl ?_
        refine g_getf dX11_divide_396 fX11_76 g9.1 rfl ?_
        refine g_sipush (v := nI 3600) dX11_divide_399 (by decide) ?_
        refine g_iload dX11_divide_402 rfl ?_
        refine g_iaddN dX11_divide_404 ?_
        refine g_iload_n dX11_divide_405 rfl rfl ?_
        refine g_iaddN dX11_divide_406 ?_
        refine g_lload dX11_divide_407 rfl ?_
        refine g_l2iN dX11_divide_409 ?_
        refine g_iastN dX11_divide_410 g9.2.1 (by omega) (by decide) ?_
        rw [upd_nI]
        refine g_aload_n dX11_divide_411 rfl rfl ?_
        refine g_getf dX11_divide_412 fX11_76 (g_ne (by decide) g9.1) rfl ?_
        refine g_sipush (v := nI 1200) dX11_divide_415 (by decide) ?_
        refine g_iload_n dX11_divide_418 rfl rfl ?_
        refine g_imulN dX11_divide_419 ?_
        refine g_iload dX11_divide_420 rfl ?_
        refine g_iaddN dX11_divide_422 ?_
        refine g_lload dX11_divide_423 rfl ?_
        refine g_l2iN dX11_divide_425 ?_
        refine g_iastN dX11_divide_426 g_eq (by omega) (by decide) ?_
        rw [upd_nI]
        refine g_iinc (v := nI j - nI 1) (ls' := [(8, .int (nI j - nI 1)), (15, .long (lN 0)), (11, .long (lN q)), (6, .long (lN tp)), (3, .int (nI nn)), (0, .ref 142), (1, .int (nI s))]) dX11_divide_427 rfl (nI_dec _) (by decide) rfl ?_
        refine g_goto (tgt := 124) dX11_divide_430 (by decide) ?_
        refine g_pick [0, 3, 4, 5, 6] (ls' := [(8, .int (nI j - nI 1)), (6, .long (lN tp)), (3, .int (nI nn)), (0, .ref 142), (1, .int (nI s))]) rfl ?_
        have e1 : bv (va_up (va_up B' (3600 + j + nn) 0) (1200 * s + j) q) (3600 + j) nn = bv B' (3600 + j) nn := bv_congr (fun k hk => (va_n (by omega)).trans (va_n (by omega)))
        have e2 : bv (va_up (va_up B' (3600 + j + nn) 0) (1200 * s + j) q) 3600 j = bv B 3600 j := bv_congr (fun k hk => ((va_n (by omega)).trans (va_n (by omega))).trans (hO9 _ (by omega)))
        have e3 : bv (va_up (va_up B' (3600 + j + nn) 0) (1200 * s + j) q) 3600 (j + nn) = bv B 3600 j + bv B' (3600 + j) nn * 65536 ^ j := by rw [bv_split, e1, e2]
        refine ih _ _ (by omega) ⟨g_ne (by decide) (g_ne (by decide) g9.1), g_eq, g_ne (by decide) (g_ne (by decide) g9.2.2.1), up_b (up_b g9.2.2.2 (by decide)) (by omega)⟩ ?_ ?_ ?_ ?_ ?_ ((hf9.up (by simp)).up (by simp))
        · rw [e3]; exact dv_r (bv_lt m3 _ _) hr9 hq9
        · rw [e3, show m + 1 - j = m + 1 - (j + 1) + 1 by omega, bv_cons, va_s]
          have e4 : bv (va_up (va_up B' (3600 + j + nn) 0) (1200 * s + j) q) (1200 * s + j + 1) (m + 1 - (j + 1)) = bv B (1200 * s + (j + 1)) (m + 1 - (j + 1)) := bv_congr (fun k hk => by rw [va_n (by omega), va_n (by omega), hO9 _ (by omega)]; congr 1)
          rw [e4]
          refine dv_v hr9 ?_
          rw [← Nat.pow_succ, ← eU]
          exact hval
        · rw [← hD9]; exact bv_congr (fun k hk => (va_n (by omega)).trans (va_n (by omega)))
        · rw [va_n (by omega), va_n (by omega), hO9 _ (by omega)]; exact htp
        · intro k h1 h2; rw [va_n (by omega), va_n (by omega), hO9 _ (by omega)]; exact hO k h1 h2
      · refine g_ldc2 dX11_divide_181 kX11_186 rfl ?_
        refine g_topl (show (65535 : Int64) = lN 65535 by decide) ?_
        refine g_goto (tgt := 189) dX11_divide_184 (by decide) ?_
        refine g_lstore (ls' := [(11, .long (lN 65535)), (9, .long (lN ((B (3600 + j + nn) * 65536) + (B (((3600 + j) + nn) - 1))))), (8, .int (nI j)), (6, .long (lN tp)), (3, .int (nI nn)), (0, .ref 142), (1, .int (nI s))]) dX11_divide_189 (by decide) rfl ?_
        refine g_lconst (v := lN 0) dX11_divide_191 (by decide) ?_
        refine g_lstore (ls' := [(13, .long (lN 0)), (11, .long (lN 65535)), (9, .long (lN ((B (3600 + j + nn) * 65536) + (B (((3600 + j) + nn) - 1))))), (8, .int (nI j)), (6, .long (lN tp)), (3, .int (nI nn)), (0, .ref 142), (1, .int (nI s))]) dX11_divide_192 (by decide) rfl ?_
        refine g_iconst (v := nI 0) dX11_divide_194 (by decide) ?_
        refine g_istore (ls' := [(15, .int (nI 0)), (13, .long (lN 0)), (11, .long (lN 65535)), (9, .long (lN ((B (3600 + j + nn) * 65536) + (B (((3600 + j) + nn) - 1))))), (8, .int (nI j)), (6, .long (lN tp)), (3, .int (nI nn)), (0, .ref 142), (1, .int (nI s))]) dX11_divide_195 (by decide) rfl ?_
        refine g_pick [0, 1, 2, 4, 5, 6, 7, 8] (ls' := [(15, .int (nI 0)), (13, .long (lN 0)), (11, .long (lN 65535)), (8, .int (nI j)), (6, .long (lN tp)), (3, .int (nI nn)), (0, .ref 142), (1, .int (nI s))]) rfl ?_
        have hq65 : 65535 ≤ 65535 := by omega
        have hqU : bv B (3600 + j) (nn + 1) < (65535 + 1) * D := by omega
        refine lp_dmul G _ _ n ex h0 (q := 65535) (B0 := B) (Z := Z1) (by omega) hD2 hq65 hqU hD rfl (fun q B' h9 g9 hr9 hq9 hD9 hO9 hf9 => ?_) (nn + 1) 0 0 B _ (by omega) (by omega) (by omega) ⟨m0, m1, m2, m3⟩ (by show 0 + _ * 0 = 0 + 0 * _; omega) (fun _ _ _ => rfl) (fun _ _ => rfl) hf
        have hq16 : q < 65536 := by
          have h5 : q * D < 65536 * D := by omega
          exact Nat.lt_of_mul_lt_mul_right h5
        show g_W G _ _ _ n ex h9 0 0 395 [(15, .long (lN 0)), (11, .long (lN q)), (8, .int (nI j)), (6, .long (lN tp)), (3, .int (nI nn)), (0, .ref 142), (1, .int (nI s))] []
        refine g_aload_n dX11_divide_395 rfl rfl ?_
        refine g_getf dX11_divide_396 fX11_76 g9.1 rfl ?_
        refine g_sipush (v := nI 3600) dX11_divide_399 (by decide) ?_
        refine g_iload dX11_divide_402 rfl ?_
        refine g_iaddN dX11_divide_404 ?_
        refine g_iload_n dX11_divide_405 rfl rfl ?_
        refine g_iaddN dX11_divide_406 ?_
        refine g_lload dX11_divide_407 rfl ?_
        refine g_l2iN dX11_divide_409 ?_
        refine g_iastN dX11_divide_410 g9.2.1 (by omega) (by decide) ?_
        rw [upd_nI]
        refine g_aload_n dX11_divide_411 rfl rfl ?_
        refine g_getf dX11_divide_412 fX11_76 (g_ne (by decide) g9.1) rfl ?_
        refine g_sipush (v := nI 1200) dX11_divide_415 (by decide) ?_
        refine g_iload_n dX11_divide_418 rfl rfl ?_
        refine g_imulN dX11_divide_419 ?_
        refine g_iload dX11_divide_420 rfl ?_
        refine g_iaddN dX11_divide_422 ?_
        refine g_lload dX11_divide_423 rfl ?_
        refine g_l2iN dX11_divide_425 ?_
        refine g_iastN dX11_divide_426 g_eq (by omega) (by decide) ?_
        rw [upd_nI]
        refine g_iinc (v := nI j - nI 1) (ls' := [(8, .int (nI j - nI 1)), (15, .long (lN 0)), (11, .long (lN q)), (6, .long (lN tp)), (3, .int (nI nn)), (0, .ref 142), (1, .int (nI s))]) dX11_divide_427 rfl (nI_dec _) (by decide) rfl ?_
        refine g_goto (tgt := 124) dX11_divide_430 (by decide) ?_
        refine g_pick [0, 3, 4, 5, 6] (ls' := [(8, .int (nI j - nI 1)), (6, .long (lN tp)), (3, .int (nI nn)), (0, .ref 142), (1, .int (nI s))]) rfl ?_
        have e1 : bv (va_up (va_up B' (3600 + j + nn) 0) (1200 * s + j) q) (3600 + j) nn = bv B' (3600 + j) nn := bv_congr (fun k hk => (va_n (by omega)).trans (va_n (by omega)))
        have e2 : bv (va_up (va_up B' (3600 + j + nn) 0) (1200 * s + j) q) 3600 j = bv B 3600 j := bv_congr (fun k hk => ((va_n (by omega)).trans (va_n (by omega))).trans (hO9 _ (by omega)))
        have e3 : bv (va_up (va_up B' (3600 + j + nn) 0) (1200 * s + j) q) 3600 (j + nn) = bv B 3600 j + bv B' (3600 + j) nn * 65536 ^ j := by rw [bv_split, e1, e2]
        refine ih _ _ (by omega) ⟨g_ne (by decide) (g_ne (by decide) g9.1), g_eq, g_ne (by decide) (g_ne (by decide) g9.2.2.1), up_b (up_b g9.2.2.2 (by decide)) (by omega)⟩ ?_ ?_ ?_ ?_ ?_ ((hf9.up (by simp)).up (by simp))
        · rw [e3]; exact dv_r (bv_lt m3 _ _) hr9 hq9
        · rw [e3, show m + 1 - j = m + 1 - (j + 1) + 1 by omega, bv_cons, va_s]
          have e4 : bv (va_up (va_up B' (3600 + j + nn) 0) (1200 * s + j) q) (1200 * s + j + 1) (m + 1 - (j + 1)) = bv B (1200 * s + (j + 1)) (m + 1 - (j + 1)) := bv_congr (fun k hk => by rw [va_n (by omega), va_n (by omega), hO9 _ (by omega)]; congr 1)
          rw [e4]
          refine dv_v hr9 ?_
          rw [← Nat.pow_succ, ← eU]
          exact hval
        · rw [← hD9]; exact bv_congr (fun k hk => (va_n (by omega)).trans (va_n (by omega)))
        · rw [va_n (by omega), va_n (by omega), hO9 _ (by omega)]; exact htp
        · intro k h1 h2; rw [va_n (by omega), va_n (by omega), hO9 _ (by omega)]; exact hO k h1 h2
set_option maxHeartbeats 4000000 in
set_option maxRecDepth 100000 in
theorem lp_dsh (G : gG) (R : Room) (KK : gK) (n : Nat) (ex : Bool) (h : gH) {X : Nat → Int32} {B Z : Nat → Nat} {s u nn : Nat} (hu : u < 9) (hnn : 1 ≤ nn) (hnn2 : nn ≤ 1190) (hg : Bg h X B Z) (hw0 : ¬ B (1200 * u + nn - 1) = 0)
    (kk : ∀ e, e ≤ 15 → 32768 ≤ B (1200 * u + nn - 1) * 2 ^ e → B (1200 * u + nn - 1) * 2 ^ e < 65536 → g_W G mX11_divide R KK n ex h 0 0 39 [(4, .int (nI e)), (3, .int (nI nn)), (0, .ref 142), (1, .int (nI s)), (2, .int (nI u))] []) : ∀ (t e : Nat), 16 - e < t → e ≤ 15 → B (1200 * u + nn - 1) * 2 ^ e < 65536 →
    g_W G mX11_divide R KK n ex h 0 0 10 [(4, .int (nI e)), (3, .int (nI nn)), (0, .ref 142), (1, .int (nI s)), (2, .int (nI u))] [] := by
  obtain ⟨m0, m1, m2, m3⟩ := id hg
  intro t
  induction t with
  | zero => intro e hm; exact absurd hm (by omega)
  | succ t ih =>
    intro e ht he hw
    refine g_aload_n dX11_divide_10 rfl rfl ?_
    refine g_getf dX11_divide_11 fX11_76 m0 rfl ?_
    refine g_sipush (v := nI 1200) dX11_divide_14 (by decide) ?_
    refine g_iload_n dX11_divide_17 rfl rfl ?_
    refine g_imulN dX11_divide_18 ?_
    refine g_iload_n dX11_divide_19 rfl rfl ?_
    refine g_iaddN dX11_divide_20 ?_
    refine g_iconst (v := nI 1) dX11_divide_21 (by decide) ?_
    refine g_isubN dX11_divide_22 (by omega) ?_
    refine g_ialdN dX11_divide_23 m1 (by omega) (by decide) ?_
    refine g_iload dX11_divide_24 rfl ?_
    refine g_ishl dX11_divide_26 ?_
    refine g_top (show (nI (B (((1200 * u) + nn) - 1))) <<< ((nI e) &&& 31) = nI (B (1200 * u + nn - 1) * 2 ^ e) from shl_nI _ (by omega)) ?_
    refine g_ldc dX11_divide_27 kX11_213 rfl ?_
    refine g_top (show (32768 : Int32) = nI 32768 by decide) ?_
    refine g_iand dX11_divide_29 ?_
    refine g_top (show (nI (B (1200 * u + nn - 1) * 2 ^ e)) &&& (nI 32768) = nI (if B (1200 * u + nn - 1) * 2 ^ e < 32768 then 0 else 32768) from dv_and hw) ?_
    refine g_if_neN (tgt := 39) dX11_divide_30 (by decide) (by split <;> decide) (fun c30 => ?_) (fun c30 => ?_)
    · refine g_pick [0, 1, 2, 3, 4] (ls' := [(4, .int (nI e)), (3, .int (nI nn)), (0, .ref 142), (1, .int (nI s)), (2, .int (nI u))]) rfl ?_
      exact kk e he (Nat.not_lt.mp (fun q => c30 (if_pos q))) hw
    · refine g_iincN (z := 1) (ls' := [(4, .int (nI (e + 1))), (3, .int (nI nn)), (0, .ref 142), (1, .int (nI s)), (2, .int (nI u))]) dX11_divide_33 rfl (by decide) rfl ?_
      refine g_goto (tgt := 10) dX11_divide_36 (by decide) ?_
      refine g_pick [0, 1, 2, 3, 4] (ls' := [(4, .int (nI (e + 1))), (3, .int (nI nn)), (0, .ref 142), (1, .int (nI s)), (2, .int (nI u))]) rfl ?_
      have h9 : B (1200 * u + nn - 1) * 2 ^ e < 32768 := Decidable.byContradiction (fun q => absurd ((if_neg q).symm.trans c30) (by decide))
      have h8 : e + 1 ≤ 15 := by
        rcases Nat.lt_or_ge e 15 with z | z
        · omega
        · have h7 : 2 ^ 15 ≤ 2 ^ e := Nat.pow_le_pow_right (by decide) z
          have h6 := Nat.mul_le_mul_right (2 ^ e) (show 1 ≤ B (1200 * u + nn - 1) by omega)
          omega
      exact ih (e + 1) (by omega) h8 (by rw [Nat.pow_succ, ← Nat.mul_assoc]; omega)
set_option maxHeartbeats 4000000 in
set_option maxRecDepth 100000 in
theorem c_divide (G : gG) (d n : Nat) (ex : Bool) (h : gH) {X : Nat → Int32} {V : Nat → Option Nat} {s u a b : Nat} (hN : Bn h X V) (hs : s < 9) (hu : u < 9) (hs2 : ¬ s = 2) (hs3 : ¬ s = 3) (hu2 : ¬ u = 2) (hu3 : ¬ u = 3) (ha : V s = some a) (hb : V u = some b) (hb0 : ¬ b = 0) (hba : b ≤ a) (hr : a * 2 ^ 15 < RM) : g_M G mX11_divide (d + 2) 0 0 [.ref 142, .int (nI s), .int (nI u)] n ex h (q_v n ex [156, 157] h (fun h' => Bn h' X (va_up (va_up (va_up V 2 none) 3 none) s (some (a / b))))) := by
  obtain ⟨B, Z, ⟨m0, m1, m2, m3⟩, hV⟩ := id hN
  have q1 := 0
  have hVu := hV u hu
  rw [hb] at hVu
  obtain ⟨k1, k2, k3⟩ := hVu
  have hz : ¬ Z u = 0 := fun q => hb0 (k2.symm.trans ((bv_0 k3).mpr q))
  refine g_enter (by decide) (Nat.le_of_ble_eq_true rfl) ?_
  show g_W G _ _ _ n ex h 0 0 0 [(0, .ref 142), (1, .int (nI s)), (2, .int (nI u))] []
  refine g_aload_n dX11_divide_0 rfl rfl ?_
  refine g_getf dX11_divide_1 fX11_79 m0 rfl ?_
  refine g_iload_n dX11_divide_4 rfl rfl ?_
  refine g_ialdN dX11_divide_5 m2 (by omega) (by decide) ?_
  refine g_istore_n (ls' := [(3, .int (nI (Z u))), (0, .ref 142), (1, .int (nI s)), (2, .int (nI u))]) dX11_divide_6 rfl (by decide) rfl ?_
  refine g_iconst (v := nI 0) dX11_divide_7 (by decide) ?_
  refine g_istore (ls' := [(4, .int (nI 0)), (3, .int (nI (Z u))), (0, .ref 142), (1, .int (nI s)), (2, .int (nI u))]) dX11_divide_8 (by decide) rfl ?_
  refine g_pick [0, 1, 2, 3, 4] (ls' := [(4, .int (nI 0)), (3, .int (nI (Z u))), (0, .ref 142), (1, .int (nI s)), (2, .int (nI u))]) rfl ?_
  refine lp_dsh G _ _ n ex h hu (by omega) k1 ⟨m0, m1, m2, m3⟩ (k3.elim (fun q => absurd q hz) (fun q => q)) (fun e he h1 h2 => ?_) 17 0 (by omega) (by omega) (by have := m3 (1200 * u + Z u - 1); omega)
  obtain ⟨n', hnn⟩ : ∃ n', Z u = n' + 1 := ⟨Z u - 1, by omega⟩
  rw [show 1200 * u + Z u - 1 = 1200 * u + n' by omega] at h1 h2
  have hDD := dv_D m3 he h1 h2
  rw [← hnn, k2] at hDD
  have hra : a * 2 ^ e < RM := Nat.lt_of_le_of_lt (Nat.mul_le_mul_left a (Nat.pow_le_pow_right (by decide) he)) hr
  have hrb : b * 2 ^ e < RM := Nat.lt_of_le_of_lt (Nat.mul_le_mul_right _ hba) hra
  generalize hnz : Z u = nn at hnn hDD k1 ⊢
  clear hz hnz k3 k2 h1 h2
  refine g_aload_n dX11_divide_39 rfl rfl ?_
  refine g_iconst (v := nI 2) dX11_divide_40 (by decide) ?_
  refine g_iload_n dX11_divide_41 rfl rfl ?_
  refine cVv (st := []) dX11_divide_42 (c_mcopy G (d + 1) n ex h hN (by decide) hu (Ne.symm hu2) hb) sX11_195 m0 rfl rfl (by simp only [g_rm]; omega) (by simp only [g_rm]; omega) (Nat.le_of_ble_eq_true rfl) ⟨Nat.le_of_ble_eq_true rfl, Nat.le_of_ble_eq_true rfl⟩ (fun h1 fr2 p3 => ?_)
  have hN5 := p3
  refine g_aload_n dX11_divide_45 rfl rfl ?_
  refine g_iconst (v := nI 2) dX11_divide_46 (by decide) ?_
  refine g_lconst (v := lN 1) dX11_divide_47 (by decide) ?_
  refine g_iload dX11_divide_48 rfl ?_
  refine g_lshl dX11_divide_50 ?_
  refine g_topl (show (lN 1) <<< ((nI e).toInt64 &&& 63) = lN (2 ^ e) from by rw [wb_shl _ (by omega), Nat.one_mul]) ?_
  refine cVv (st := []) dX11_divide_51 (c_mtimes G d n ex h1 hN5 (by decide) va_s (F := 2 ^ e) (Nat.lt_of_le_of_lt (Nat.pow_le_pow_right (by decide) he) (by decide)) hrb) sX11_192 hN5.cell rfl rfl (by simp only [g_rm]; omega) (by simp only [g_rm]; omega) (Nat.le_of_ble_eq_true rfl) ⟨Nat.le_of_ble_eq_true rfl, Nat.le_of_ble_eq_true rfl⟩ (fun h6 fr7 p8 => ?_)
  have hN10 := p8
  refine g_aload_n dX11_divide_54 rfl rfl ?_
  refine g_iconst (v := nI 3) dX11_divide_55 (by decide) ?_
  refine g_iload_n dX11_divide_56 rfl rfl ?_
  refine cVv (st := []) dX11_divide_57 (c_mcopy G (d + 1) n ex h6 hN10 (by decide) hs (Ne.symm hs3) (((va_n hs2).trans (va_n hs2)).trans ha)) sX11_195 hN10.cell rfl rfl (by simp only [g_rm]; omega) (by simp only [g_rm]; omega) (Nat.le_of_ble_eq_true rfl) ⟨Nat.le_of_ble_eq_true rfl, Nat.le_of_ble_eq_true rfl⟩ (fun h11 fr12 p13 => ?_)
  have hN15 := p13
  refine g_aload_n dX11_divide_60 rfl rfl ?_
  refine g_iconst (v := nI 3) dX11_divide_61 (by decide) ?_
  refine g_lconst (v := lN 1) dX11_divide_62 (by decide) ?_
  refine g_iload dX11_divide_63 rfl ?_
  refine g_lshl dX11_divide_65 ?_
  refine g_topl (show (lN 1) <<< ((nI e).toInt64 &&& 63) = lN (2 ^ e) from by rw [wb_shl _ (by omega), Nat.one_mul]) ?_
  refine cVv (st := []) dX11_divide_66 (c_mtimes G d n ex h11 hN15 (by decide) va_s (F := 2 ^ e) (Nat.lt_of_le_of_lt (Nat.pow_le_pow_right (by decide) he) (by decide)) hra) sX11_192 hN15.cell rfl rfl (by simp only [g_rm]; omega) (by simp only [g_rm]; omega) (Nat.le_of_ble_eq_true rfl) ⟨Nat.le_of_ble_eq_true rfl, Nat.le_of_ble_eq_true rfl⟩ (fun h16 fr17 p18 => ?_)
  have hN20 := p18
  clear m0 m1 m2 m3 hV q1 k1
  obtain ⟨B, Z, ⟨m0, m1, m2, m3⟩, hV⟩ := hN20
  have y2 := hV 2 (by decide)
  rw [va_n (by decide), va_n (by decide), va_s] at y2
  obtain ⟨y21, y22, y23⟩ := y2
  have y3 := hV 3 (by decide)
  rw [va_s] at y3
  obtain ⟨y31, y32, y33⟩ := y3
  obtain ⟨t1, t2⟩ := dv_t (n' := n') m3 y23 y22 hDD.1 (by rw [← hnn]; exact hDD.2)
  have hz3 : nn ≤ Z 3 := by
    rcases Nat.lt_or_ge (Z 3) nn with z | z
    · have h5 := bv_lt m3 3600 (Z 3)
      have h6 : 65536 ^ (Z 3) ≤ 65536 ^ n' := Nat.pow_le_pow_right (by decide) (by omega)
      have h7 := Nat.mul_le_mul_right (2 ^ e) hba
      have h8 := hDD.1
      have h9 : bv B 3600 (Z 3) = a * 2 ^ e := y32
      have h10 : 0 < 65536 ^ n' := Nat.pow_pos (by decide)
      omega
    · exact z
  have w1 : va_up B (3600 + Z 3) 0 (2400 + nn - 1) < 65536 := up_b m3 (by decide) _
  have t3 : 32768 ≤ B (2400 + n') := t2
  refine g_aload_n dX11_divide_69 rfl rfl ?_
  refine g_getf dX11_divide_70 fX11_79 m0 rfl ?_
  refine g_iconst (v := nI 3) dX11_divide_73 (by decide) ?_
  refine g_ialdN dX11_divide_74 m2 (by omega) (by decide) ?_
  refine g_iload_n dX11_divide_75 rfl rfl ?_
  refine g_isubN dX11_divide_76 (by omega) ?_
  refine g_istore (ls' := [(5, .int (nI ((Z 3) - nn))), (4, .int (nI e)), (3, .int (nI nn)), (0, .ref 142), (1, .int (nI s)), (2, .int (nI u))]) dX11_divide_77 (by decide) rfl ?_
  refine g_aload_n dX11_divide_79 rfl rfl ?_
  refine g_getf dX11_divide_80 fX11_76 m0 rfl ?_
  refine g_sipush (v := nI 3600) dX11_divide_83 (by decide) ?_
  refine g_aload_n dX11_divide_86 rfl rfl ?_
  refine g_getf dX11_divide_87 fX11_79 m0 rfl ?_
  refine g_iconst (v := nI 3) dX11_divide_90 (by decide) ?_
  refine g_ialdN dX11_divide_91 m2 (by omega) (by decide) ?_
  refine g_iaddN dX11_divide_92 ?_
  refine g_iconst (v := nI 0) dX11_divide_93 (by decide) ?_
  refine g_iastN dX11_divide_94 m1 (by omega) (by decide) ?_
  rw [upd_nI]
  refine g_aload_n dX11_divide_95 rfl rfl ?_
  refine g_getf dX11_divide_96 fX11_79 (g_ne (by decide) m0) rfl ?_
  refine g_iload_n dX11_divide_99 rfl rfl ?_
  refine g_iload dX11_divide_100 rfl ?_
  refine g_iconst (v := nI 1) dX11_divide_102 (by decide) ?_
  refine g_iaddN dX11_divide_103 ?_
  refine g_iastN dX11_divide_104 (g_ne (by decide) m2) (by omega) (by decide) ?_
  rw [upd_nI]
  refine g_aload_n dX11_divide_105 rfl rfl ?_
  refine g_getf dX11_divide_106 fX11_76 (g_ne (by decide) (g_ne (by decide) m0)) rfl ?_
  refine g_sipush (v := nI 2400) dX11_divide_109 (by decide) ?_
  refine g_iload_n dX11_divide_112 rfl rfl ?_
  refine g_iaddN dX11_divide_113 ?_
  refine g_iconst (v := nI 1) dX11_divide_114 (by decide) ?_
  refine g_isubN dX11_divide_115 (by omega) ?_
  refine g_ialdN dX11_divide_116 (g_ne (by decide) g_eq) (by omega) (by decide) ?_
  refine g_i2lN dX11_divide_117 (by omega) ?_
  refine g_lstore (ls' := [(6, .long (lN ((va_up B (3600 + (Z 3)) 0) ((2400 + nn) - 1)))), (5, .int (nI ((Z 3) - nn))), (4, .int (nI e)), (3, .int (nI nn)), (0, .ref 142), (1, .int (nI s)), (2, .int (nI u))]) dX11_divide_118 (by decide) rfl ?_
  refine g_iload dX11_divide_120 rfl ?_
  refine g_istore (ls' := [(8, .int (nI ((Z 3) - nn))), (6, .long (lN ((va_up B (3600 + (Z 3)) 0) ((2400 + nn) - 1)))), (5, .int (nI ((Z 3) - nn))), (4, .int (nI e)), (3, .int (nI nn)), (0, .ref 142), (1, .int (nI s)), (2, .int (nI u))]) dX11_divide_122 (by decide) rfl ?_
  refine g_pick [0, 1, 4, 5, 6] (ls' := [(8, .int (nI ((Z 3) - nn))), (6, .long (lN ((va_up B (3600 + (Z 3)) 0) ((2400 + nn) - 1)))), (3, .int (nI nn)), (0, .ref 142), (1, .int (nI s))]) rfl ?_
  have et : va_up B (3600 + Z 3) 0 (2400 + nn - 1) = B (2400 + n') := (va_n (by omega)).trans (by rw [show 2400 + nn - 1 = 2400 + n' by omega])
  rw [et]
  rw [← nI_pr (Z 3 - nn)]
  have hN1 : bv (va_up B (3600 + Z 3) 0) 3600 (Z 3 - nn + 1 + nn) = a * 2 ^ e := by
    rw [show Z 3 - nn + 1 + nn = Z 3 + 1 by omega, bv_put, Nat.zero_mul, Nat.add_zero]
    exact y32
  have hDv : bv (va_up B (3600 + Z 3) 0) 2400 nn = b * 2 ^ e := (bv_congr (fun k hk => va_n (by omega))).trans (by rw [hnn, ← t1]; exact y22)
  refine lp_ddiv G d n ex h (V := va_up (va_up (va_up (va_up V 2 (some b)) 2 (some (b * 2 ^ e))) 3 (some a)) 3 (some (a * 2 ^ e))) (B0 := B) (Z1 := va_up Z s (Z 3 - nn + 1)) (m := Z 3 - nn) (NN := a * 2 ^ e) (D := b * 2 ^ e) (tp := B (2400 + n')) _ (fun h' hh => ?_) hs hs2 hs3 hnn (by omega) va_s (fun u h1 h2 h3 => (hV u h1).cg (va_n h2) (fun _ _ => rfl)) t3 (m3 _) (by rw [← hDv, hnn]; show _ ≤ bv _ 2400 n' + va_up B (3600 + Z 3) 0 (2400 + n') * _; rw [va_n (by omega)]; omega) (Nat.le_of_lt hDD.2) (Z 3 - nn + 1) _ _ (Nat.le_refl _) ⟨g_ne (by decide) (g_ne (by decide) m0), g_ne (by decide) g_eq, g_eq, up_b m3 (by decide)⟩ (by
    rw [hN1]
    have h5 := bv_lt m3 3600 (Z 3)
    have h9 : bv B 3600 (Z 3) = a * 2 ^ e := y32
    have h6 := Nat.mul_le_mul_right (65536 ^ (Z 3 - nn + 1)) (show 65536 ^ n' ≤ b * 2 ^ e by have := hDD.1; omega)
    rw [← Nat.pow_add, show n' + (Z 3 - nn + 1) = Z 3 by omega] at h6
    omega) (by rw [Nat.sub_self]; show 0 * _ * _ + _ = _; rw [Nat.zero_mul, Nat.zero_mul, Nat.zero_add]; exact hN1) hDv (va_n (by omega)) (fun k h1 h2 => va_n (by omega)) (((((((g_fr.rf).tr fr2 (by simp)).tr fr7 (by simp)).tr fr12 (by simp)).tr fr17 (by simp)).up (by simp)).up (by simp))
  rw [Nat.mul_div_mul_right _ _ (Nat.two_pow_pos e)] at hh
  refine hh.le (fun u hu => ?_)
  by_cases z : u = s
  · subst z; exact Or.inl (by rw [va_s, va_s])
  · rw [va_n z, va_n z]
    by_cases z3 : u = 3
    · subst z3; exact Or.inr va_s
    · by_cases z2 : u = 2
      · subst z2; exact Or.inr ((va_n z3).trans va_s)
      · exact Or.inl (by rw [va_n z3, va_n z2, va_n z3, va_n z3, va_n z3, va_n z2, va_n z2])
/-- what lowest leaves: the two in lowest terms, the running product, nothing else -/
def lowV (V : Nat → Option Nat) (A B : Nat) : Nat → Option Nat := fun u => if u = 0 then some (A / Nat.gcd A B) else if u = 1 then some (B / Nat.gcd A B) else if u = 6 ∨ u = 7 then V u else none
set_option maxHeartbeats 4000000 in
set_option maxRecDepth 100000 in
theorem c_lowest (G : gG) (d n : Nat) (ex : Bool) (h : gH) {X : Nat → Int32} {V : Nat → Option Nat} {A B : Nat} (hN : Bn h X V) (hA : V 0 = some A) (hB : V 1 = some B) (hB0 : ¬ B = 0) (hr1 : A * 2 ^ 15 < RM) (hr2 : B * 2 ^ 15 < RM) : g_M G mX11_lowest (d + 4) 0 0 [.ref 142] n ex h (q_v n ex [156, 157] h (fun h' => Bn h' X (lowV V A B))) := by
  obtain ⟨B_, Z, ⟨m0, m1, m2, m3⟩, hV⟩ := id hN
  have hV0 := hV 0 (by decide)
  rw [hA] at hV0
  obtain ⟨q1, q2, q3⟩ := hV0
  refine g_enter (by decide) (Nat.le_of_ble_eq_true rfl) ?_
  show g_W G _ _ _ n ex h 0 0 0 [(0, .ref 142)] []
  refine g_aload_n dX11_lowest_0 rfl rfl ?_
  refine g_getf dX11_lowest_1 fX11_79 m0 rfl ?_
  refine g_iconst (v := nI 0) dX11_lowest_4 (by decide) ?_
  refine g_ialdN dX11_lowest_5 m2 (by omega) (by decide) ?_
  refine g_if_neN (tgt := 16) dX11_lowest_6 (by decide) (by omega) (fun c6 => ?_) (fun c6 => ?_)
  · have hA0 : ¬ A = 0 := fun q => c6 ((bv_0 q3).mp (q2.trans q))
    have hg0 : ¬ Nat.gcd A B = 0 := fun q => hA0 (Nat.gcd_eq_zero_iff.mp q).1
    refine g_aload_n dX11_lowest_16 rfl rfl ?_
    refine cVv (st := []) dX11_lowest_17 (c_common G (d + 0) n ex h hN hA hB hA0 hB0 (Nat.lt_of_le_of_lt (Nat.le_mul_of_pos_right A (Nat.two_pow_pos 15)) hr1)) sX11_214 m0 rfl rfl (by simp only [g_rm]; omega) (by simp only [g_rm]; omega) (Nat.le_of_ble_eq_true rfl) ⟨Nat.le_of_ble_eq_true rfl, Nat.le_of_ble_eq_true rfl⟩ (fun h1 fr2 p3 => ?_)
    have hN5 := p3
    refine g_aload_n dX11_lowest_20 rfl rfl ?_
    refine g_bipush (v := nI 8) dX11_lowest_21 (by decide) ?_
    refine g_iconst (v := nI 4) dX11_lowest_23 (by decide) ?_
    refine cVv (st := []) dX11_lowest_24 (c_mcopy G (d + 3) n ex h1 hN5 (by decide) (by decide) (by decide) (show _ = some (Nat.gcd A B) from by rw [va_n (by decide), va_s])) sX11_195 hN5.cell rfl rfl (by simp only [g_rm]; omega) (by simp only [g_rm]; omega) (Nat.le_of_ble_eq_true rfl) ⟨Nat.le_of_ble_eq_true rfl, Nat.le_of_ble_eq_true rfl⟩ (fun h6 fr7 p8 => ?_)
    have hN10 := p8
    refine g_aload_n dX11_lowest_27 rfl rfl ?_
    refine g_iconst (v := nI 0) dX11_lowest_28 (by decide) ?_
    refine g_bipush (v := nI 8) dX11_lowest_29 (by decide) ?_
    refine cVv (st := []) dX11_lowest_31 (c_divide G (d + 1) n ex h6 hN10 (by decide) (by decide) (by decide) (by decide) (by decide) (by decide) (va_n (by decide) |>.trans (va_n (by decide) |>.trans (va_n (by decide) |>.trans hA))) va_s hg0 (Nat.gcd_le_left _ (Nat.pos_of_ne_zero hA0)) hr1) sX11_217 hN10.cell rfl rfl (by simp only [g_rm]; omega) (by simp only [g_rm]; omega) (Nat.le_of_ble_eq_true rfl) ⟨Nat.le_of_ble_eq_true rfl, Nat.le_of_ble_eq_true rfl⟩ (fun h11 fr12 p13 => ?_)
    have hN15 := p13
    refine g_aload_n dX11_lowest_34 rfl rfl ?_
    refine g_iconst (v := nI 1) dX11_lowest_35 (by decide) ?_
    refine g_bipush (v := nI 8) dX11_lowest_36 (by decide) ?_
    refine cVv (st := []) dX11_lowest_38 (c_divide G (d + 1) n ex h11 hN15 (by decide) (by decide) (by decide) (by decide) (by decide) (by decide) (show _ = some B from by repeat rw [va_n (by decide)]; exact hB) (show _ = some (Nat.gcd A B) from by rw [va_n (by decide), va_n (by decide), va_n (by decide), va_s]) hg0 (Nat.gcd_le_right _ (Nat.pos_of_ne_zero hB0)) hr2) sX11_217 hN15.cell rfl rfl (by simp only [g_rm]; omega) (by simp only [g_rm]; omega) (Nat.le_of_ble_eq_true rfl) ⟨Nat.le_of_ble_eq_true rfl, Nat.le_of_ble_eq_true rfl⟩ (fun h16 fr17 p18 => ?_)
    have hN20 := p18
    exact e_v dX11_lowest_41 rfl (((((g_fr.rf).tr fr2 (by simp)).tr fr7 (by simp)).tr fr12 (by simp)).tr fr17 (by simp)) (hN20.le (fun u hu => by
      unfold lowV
      by_cases z0 : u = 0
      · subst z0; exact Or.inl (by rw [if_pos rfl, va_n (by decide), va_n (by decide), va_n (by decide), va_s])
      · rw [if_neg z0]
        by_cases z1 : u = 1
        · subst z1; exact Or.inl (by rw [if_pos rfl, va_s])
        · rw [if_neg z1]
          split
          · rename_i z; refine Or.inl ?_; repeat rw [va_n (by omega)]
          · exact Or.inr rfl)) (by decide) (by decide)
  · have hA0 : A = 0 := q2.symm.trans ((bv_0 q3).mpr c6)
    refine g_aload_n dX11_lowest_9 rfl rfl ?_
    refine g_iconst (v := nI 1) dX11_lowest_10 (by decide) ?_
    refine g_lconst (v := lN 1) dX11_lowest_11 (by decide) ?_
    refine cVv (st := []) dX11_lowest_12 (c_give G (d + 3) n ex h hN (by decide) (by decide)) sX11_182 m0 rfl rfl (by simp only [g_rm]; omega) (by simp only [g_rm]; omega) (Nat.le_of_ble_eq_true rfl) ⟨Nat.le_of_ble_eq_true rfl, Nat.le_of_ble_eq_true rfl⟩ (fun h21 fr22 p23 => ?_)
    have hN25 := p23
    exact e_v dX11_lowest_15 rfl ((g_fr.rf).tr fr22 (by simp)) (hN25.le (fun u hu => by
      unfold lowV
      by_cases z0 : u = 0
      · subst z0; exact Or.inl (by rw [if_pos rfl, va_n (by decide), hA, hA0, Nat.zero_div])
      · rw [if_neg z0]
        by_cases z1 : u = 1
        · subst z1; exact Or.inl (by rw [if_pos rfl, va_s, hA0, Nat.gcd_zero_left, Nat.div_self (Nat.pos_of_ne_zero hB0)])
        · rw [if_neg z1, va_n z1]
          split
          · exact Or.inl rfl
          · exact Or.inr rfl)) (by decide) (by decide)
