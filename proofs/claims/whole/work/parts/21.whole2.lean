/-- the digits of a row of limbs -/
theorem wv_digit {f : Nat → Int32} {u j : Nat} (hj : j < u) : wv f u / 2 ^ (32 * j) = wv f u / 2 ^ (32 * (j + 1)) * 4294967296 + un (f j) := by
  induction u with
  | zero => omega
  | succ u ih =>
    have hp : 0 < 2 ^ (32 * j) := Nat.two_pow_pos _
    by_cases hju : j = u
    · subst hju
      show (wv f j + un (f j) * 2 ^ (32 * j)) / _ = (wv f j + un (f j) * 2 ^ (32 * j)) / _ * _ + _
      have h1 := wv_lt f j
      have h2 := wv_lt f (j + 1)
      have e1 : (wv f j + un (f j) * 2 ^ (32 * j)) / 2 ^ (32 * j) = un (f j) := by
        rw [Nat.add_mul_div_right _ _ hp, Nat.div_eq_of_lt h1, Nat.zero_add]
      have e2 : (wv f j + un (f j) * 2 ^ (32 * j)) / 2 ^ (32 * (j + 1)) = 0 := Nat.div_eq_of_lt h2
      rw [e1, e2]
      omega
    · have hlt : j < u := by omega
      have e0 := ih hlt
      show (wv f u + un (f u) * 2 ^ (32 * u)) / _ = (wv f u + un (f u) * 2 ^ (32 * u)) / _ * _ + _
      have e1 : un (f u) * 2 ^ (32 * u) = (un (f u) * 2 ^ (32 * (u - (j + 1)))) * 2 ^ (32 * (j + 1)) := by
        rw [Nat.mul_assoc, ← Nat.pow_add, show 32 * (u - (j + 1)) + 32 * (j + 1) = 32 * u by omega]
      have e2 : un (f u) * 2 ^ (32 * u) = (un (f u) * 2 ^ (32 * (u - (j + 1))) * 4294967296) * 2 ^ (32 * j) := by
        rw [e1, p32, Nat.mul_comm (2 ^ (32 * j)) 4294967296, ← Nat.mul_assoc]
      have hp1 : 0 < 2 ^ (32 * (j + 1)) := Nat.two_pow_pos _
      have e3 : (wv f u + un (f u) * 2 ^ (32 * u)) / 2 ^ (32 * j) = wv f u / 2 ^ (32 * j) + un (f u) * 2 ^ (32 * (u - (j + 1))) * 4294967296 := by
        rw [e2, Nat.add_mul_div_right _ _ hp]
      have e4 : (wv f u + un (f u) * 2 ^ (32 * u)) / 2 ^ (32 * (j + 1)) = wv f u / 2 ^ (32 * (j + 1)) + un (f u) * 2 ^ (32 * (u - (j + 1))) := by
        rw [e1, Nat.add_mul_div_right _ _ hp1]
      rw [e3, e4, e0, Nat.add_mul]
      omega
theorem wv_div_top (f : Nat → Int32) (u : Nat) : wv f u / 2 ^ (32 * u) = 0 := Nat.div_eq_of_lt (wv_lt f u)
theorem or16 {b a : Nat} (ha : a < 65536) (hb : b < 281474976710656) : lN (b * 65536) ||| lN a = lN (b * 65536 + a) := g_or (k := 16) (p := 65536) (by decide) ha (by omega)
/-- a limb more below a remainder -/
theorem rem_step (A x D : Nat) : ((A % D * 65536 + x / 65536) % D * 65536 + x % 65536) % D = (A * 4294967296 + x) % D := by
  have e : (A * 4294967296 + x) = (A * 65536 + x / 65536) * 65536 + x % 65536 := by omega
  rw [e, Nat.add_mod ((A * 65536 + x / 65536) * 65536), Nat.mul_mod (A * 65536 + x / 65536), Nat.add_mod (A * 65536), Nat.mul_mod A]
  simp [Nat.add_mod, Nat.mul_mod]
set_option maxHeartbeats 4000000 in
set_option maxRecDepth 100000 in
theorem lp_rem (G : gG) (R : Room) (n : Nat) (ex : Bool) (h : gH) {w a N u D : Nat} {f : Nat → Int32} (hN : N < 2 ^ 31) (hu : u ≤ N) (hD : 2 ≤ D) (hD2 : D < 70368744177664) : ∀ (j : Nat), j ≤ u → h w = some (.inr (9, [.ref a, .int (nI u)])) → h a = some (.inl (0, N, .inl f)) →
    g_W G mX9_remainderBy R (g_K G (q_l n ex [] h (fun r _ => r = lN (wv f u % D))) 0 0) n ex h 0 0 20 [(5, .int (nI j - nI 1)), (3, .long (lN (wv f u / 2 ^ (32 * j) % D))), (0, .ref w), (1, .long (lN D))] [] := by
  intro j
  induction j with
  | zero =>
    intro hj hw ha
    have ne_w_a : w ≠ a := g_ap hw ha (by intro q; cases q)
    refine g_iload dX9_remainderBy_20 rfl ?_
    refine g_if_lt (tgt := 72) dX9_remainderBy_22 (by decide) (fun c22 => ?_) (fun c22 => ?_)
    · refine g_lload_n dX9_remainderBy_72 rfl rfl ?_
      exact e_l dX9_remainderBy_73 rfl g_fr.rf (by rw [show 32 * 0 = 0 by rfl, Nat.pow_zero, Nat.div_one]) (by decide) (by decide)
    · exact absurd (show nI 0 - nI 1 < 0 by decide) c22
  | succ j ih =>
    intro hj hw ha
    rw [nI_pr]
    have hx := un_lt (f j)
    have hr0 : wv f u / 2 ^ (32 * (j + 1)) % D < D := Nat.mod_lt _ (by omega)
    have hr1 : ((wv f u / 2 ^ (32 * (j + 1)) % D * 65536 + un (f j) / 65536) % D) < D := Nat.mod_lt _ (by omega)
    have ne_w_a : w ≠ a := g_ap hw ha (by intro q; cases q)
    refine g_iload dX9_remainderBy_20 rfl ?_
    refine g_if_ltN (tgt := 72) dX9_remainderBy_22 (by decide) (by omega) (fun c22 => ?_) (fun c22 => ?_)
    · exact c22.elim
    · refine g_lload_n dX9_remainderBy_25 rfl rfl ?_
      refine g_bipush (v := nI 16) dX9_remainderBy_26 (by decide) ?_
      refine g_lshl dX9_remainderBy_28 ?_
      refine g_topl (show (lN (wv f u / 2 ^ (32 * (j + 1)) % D)) <<< ((nI 16).toInt64 &&& 63) = lN (wv f u / 2 ^ (32 * (j + 1)) % D * 65536) from wb_shl _ (by decide)) ?_
      refine g_aload_n dX9_remainderBy_29 rfl rfl ?_
      refine g_getf dX9_remainderBy_30 fX9_9 hw rfl ?_
      refine g_iload dX9_remainderBy_33 rfl ?_
      refine g_ialdN dX9_remainderBy_35 ha (by omega) (by omega) ?_
      refine g_bipush (v := nI 16) dX9_remainderBy_36 (by decide) ?_
      refine g_iushr dX9_remainderBy_38 ?_
      refine g_top (show ((f j).toUInt32 >>> ((nI 16).toUInt32 &&& Int32.toUInt32 31)).toInt32 = nI (un (f j) / 65536) from un_hi16 _) ?_
      refine g_i2lN dX9_remainderBy_39 (by omega) ?_
      refine g_lor dX9_remainderBy_40 ?_
      refine g_topl (show (lN (wv f u / 2 ^ (32 * (j + 1)) % D * 65536)) ||| (lN (un (f j) / 65536)) = lN (wv f u / 2 ^ (32 * (j + 1)) % D * 65536 + un (f j) / 65536) from or16 (by omega) (by omega)) ?_
      refine g_lload_n dX9_remainderBy_41 rfl rfl ?_
      refine g_lremN dX9_remainderBy_42 (by omega) (by omega) (by omega) ?_
      refine g_lstore (ls' := [(6, .long (lN ((wv f u / 2 ^ (32 * (j + 1)) % D * 65536 + un (f j) / 65536) % D))), (5, .int (nI j)), (3, .long (lN (wv f u / 2 ^ (32 * (j + 1)) % D))), (0, .ref w), (1, .long (lN D))]) dX9_remainderBy_43 (by decide) rfl ?_
      refine g_lload dX9_remainderBy_45 rfl ?_
      refine g_bipush (v := nI 16) dX9_remainderBy_47 (by decide) ?_
      refine g_lshl dX9_remainderBy_49 ?_
      refine g_topl (show (lN ((wv f u / 2 ^ (32 * (j + 1)) % D * 65536 + un (f j) / 65536) % D)) <<< ((nI 16).toInt64 &&& 63) = lN (((wv f u / 2 ^ (32 * (j + 1)) % D * 65536 + un (f j) / 65536) % D) * 65536) from wb_shl _ (by decide)) ?_
      refine g_aload_n dX9_remainderBy_50 rfl rfl ?_
      refine g_getf dX9_remainderBy_51 fX9_9 hw rfl ?_
      refine g_iload dX9_remainderBy_54 rfl ?_
      refine g_ialdN dX9_remainderBy_56 ha (by omega) (by omega) ?_
      refine g_i2l dX9_remainderBy_57 ?_
      refine g_ldc2 dX9_remainderBy_58 kX9_36 rfl ?_
      refine g_topl (show (65535 : Int64) = lN 65535 by decide) ?_
      refine g_land dX9_remainderBy_61 ?_
      refine g_topl (show ((f j).toInt64) &&& (lN 65535) = lN (un (f j) % 65536) from un_low16 _) ?_
      refine g_lor dX9_remainderBy_62 ?_
      refine g_topl (show (lN (((wv f u / 2 ^ (32 * (j + 1)) % D * 65536 + un (f j) / 65536) % D) * 65536)) ||| (lN (un (f j) % 65536)) = lN (((wv f u / 2 ^ (32 * (j + 1)) % D * 65536 + un (f j) / 65536) % D) * 65536 + un (f j) % 65536) from or16 (by omega) (by omega)) ?_
      refine g_lload_n dX9_remainderBy_63 rfl rfl ?_
      refine g_lremN dX9_remainderBy_64 (by omega) (by omega) (by omega) ?_
      refine g_lstore_n (ls' := [(3, .long (lN ((((wv f u / 2 ^ (32 * (j + 1)) % D * 65536 + un (f j) / 65536) % D) * 65536 + un (f j) % 65536) % D))), (6, .long (lN ((wv f u / 2 ^ (32 * (j + 1)) % D * 65536 + un (f j) / 65536) % D))), (5, .int (nI j)), (0, .ref w), (1, .long (lN D))]) dX9_remainderBy_65 rfl (by decide) rfl ?_
      refine g_iinc (v := nI j - nI 1) (ls' := [(5, .int (nI j - nI 1)), (3, .long (lN ((((wv f u / 2 ^ (32 * (j + 1)) % D * 65536 + un (f j) / 65536) % D) * 65536 + un (f j) % 65536) % D))), (6, .long (lN ((wv f u / 2 ^ (32 * (j + 1)) % D * 65536 + un (f j) / 65536) % D))), (0, .ref w), (1, .long (lN D))]) dX9_remainderBy_66 rfl (nI_dec _) (by decide) rfl ?_
      refine g_goto (tgt := 20) dX9_remainderBy_69 (by decide) ?_
      refine g_pick [0, 1, 3, 4] (ls' := [(5, .int (nI j - nI 1)), (3, .long (lN ((((wv f u / 2 ^ (32 * (j + 1)) % D * 65536 + un (f j) / 65536) % D) * 65536 + un (f j) % 65536) % D))), (0, .ref w), (1, .long (lN D))]) rfl ?_
      rw [show (((wv f u / 2 ^ (32 * (j + 1)) % D * 65536 + un (f j) / 65536) % D) * 65536 + un (f j) % 65536) % D = wv f u / 2 ^ (32 * j) % D by rw [wv_digit (f := f) (show j < u by omega)]; exact rem_step _ _ _]
      exact ih (by omega) hw ha
set_option maxHeartbeats 4000000 in
set_option maxRecDepth 100000 in
theorem c_remainderBy (G : gG) (d n : Nat) (ex : Bool) (h : gH) {w a N V D : Nat} (hq : Wh h w a N V) (hN : N < 2 ^ 31) (hD : 1 ≤ D) (hD2 : D < 70368744177664) : g_M G mX9_remainderBy d 0 0 [.ref w, .long (lN D)] n ex h (q_l n ex [] h (fun r _ => r = lN (V % D))) := by
  obtain ⟨u, f, hw, ha, hu, hV, hn⟩ := hq
  rw [← hV]
  refine g_enter (by decide) (Nat.le_of_ble_eq_true rfl) ?_
  show g_W G _ _ _ n ex h 0 0 0 [(0, .ref w), (1, .long (lN D))] []
  have ne_w_a : w ≠ a := g_ap hw ha (by intro q; cases q)
  refine g_lload_n dX9_remainderBy_0 rfl rfl ?_
  refine g_ldc2 dX9_remainderBy_1 kX9_38 rfl ?_
  refine g_topl (show (2 : Int64) = lN 2 by decide) ?_
  refine g_lc_geN (tgt := 10) dX9_remainderBy_4 dX9_remainderBy_5 (by decide) (by omega) (by omega) (fun c4 => ?_) (fun c4 => ?_)
  · refine g_lconst (v := lN 0) dX9_remainderBy_10 (by decide) ?_
    refine g_lstore_n (ls' := [(3, .long (lN 0)), (0, .ref w), (1, .long (lN D))]) dX9_remainderBy_11 rfl (by decide) rfl ?_
    refine g_aload_n dX9_remainderBy_12 rfl rfl ?_
    refine g_getf dX9_remainderBy_13 fX9_15 hw rfl ?_
    refine g_iconst (v := nI 1) dX9_remainderBy_16 (by decide) ?_
    refine g_isub dX9_remainderBy_17 ?_
    refine g_istore (ls' := [(5, .int ((nI u) - (nI 1))), (3, .long (lN 0)), (0, .ref w), (1, .long (lN D))]) dX9_remainderBy_18 (by decide) rfl ?_
    refine g_pick [0, 1, 2, 3] (ls' := [(5, .int ((nI u) - (nI 1))), (3, .long (lN 0)), (0, .ref w), (1, .long (lN D))]) rfl ?_
    have e0 : lN 0 = lN (wv f u / 2 ^ (32 * u) % D) := by rw [wv_div_top, Nat.zero_mod]
    rw [e0]
    exact lp_rem G _ n ex h hN hu c4 hD2 u (Nat.le_refl _) hw ha
  · refine g_lconst (v := lN 0) dX9_remainderBy_8 (by decide) ?_
    exact e_l dX9_remainderBy_9 rfl g_fr.rf (by rw [show D = 1 by omega, Nat.mod_one]) (by decide) (by decide)
theorem wv_upd_in {g : Nat → Int32} {u j : Nat} {x : Int32} (hj : j < u) : wv (upd g j x) u + un (g j) * 2 ^ (32 * j) = wv g u + un x * 2 ^ (32 * j) := by
  induction u with
  | zero => omega
  | succ u ih =>
    show wv (upd g j x) u + un (upd g j x u) * 2 ^ (32 * u) + _ = wv g u + un (g u) * 2 ^ (32 * u) + _
    by_cases hju : j = u
    · subst hju
      rw [wv_upd (Nat.le_refl _), pk_us]
      omega
    · have := ih (by omega)
      rw [pk_un (fun q => hju q.symm)]
      omega
theorem wv_mod {f : Nat → Int32} {u j : Nat} (hj : j < u) : wv f u % 2 ^ (32 * (j + 1)) = un (f j) * 2 ^ (32 * j) + wv f u % 2 ^ (32 * j) := by
  have h1 := Nat.div_add_mod (wv f u) (2 ^ (32 * j))
  have h2 := Nat.div_add_mod (wv f u) (2 ^ (32 * (j + 1)))
  have h3 := wv_digit (f := f) hj
  rw [h3, Nat.mul_add, Nat.mul_comm _ (un (f j))] at h1
  have e : 2 ^ (32 * j) * (wv f u / 2 ^ (32 * (j + 1)) * 4294967296) = 2 ^ (32 * (j + 1)) * (wv f u / 2 ^ (32 * (j + 1))) := by
    rw [p32, Nat.mul_assoc, Nat.mul_comm 4294967296]
  omega
theorem div_step {A x D hi lo : Nat} (hD : 0 < D) (hx : x < 4294967296) (eh : hi = A % D * 65536 + x / 65536) (el : lo = hi % D * 65536 + x % 65536) :
    hi / D < 65536 ∧ lo / D < 65536 ∧ (A * 4294967296 + x) / D = A / D * 4294967296 + (hi / D * 65536 + lo / D) := by
  have a0 : A % D < D := Nat.mod_lt _ hD
  have h0 : hi % D < D := Nat.mod_lt _ hD
  have l0 : lo % D < D := Nat.mod_lt _ hD
  have E1 := Nat.div_add_mod A D
  have E2 := Nat.div_add_mod hi D
  have E3 := Nat.div_add_mod lo D
  have b1 : hi < D * 65536 := by omega
  have b2 : lo < D * 65536 := by omega
  refine ⟨Nat.div_lt_of_lt_mul b1, Nat.div_lt_of_lt_mul b2, ?_⟩
  have key : A * 4294967296 + x = D * (A / D * 4294967296 + (hi / D * 65536 + lo / D)) + lo % D := by
    rw [Nat.mul_add, Nat.mul_add, ← Nat.mul_assoc, ← Nat.mul_assoc]
    omega
  rw [key, Nat.mul_add_div hD, Nat.div_eq_of_lt l0, Nat.add_zero]
theorem div_inv {f g : Nat → Int32} {u j D q : Nat} (hj : j < u) (hg : g j = f j) (hq : q < 4294967296) (hI : wv g u = wv f u / 2 ^ (32 * (j + 1)) / D * 2 ^ (32 * (j + 1)) + wv f u % 2 ^ (32 * (j + 1))) (hE : wv f u / 2 ^ (32 * j) / D = wv f u / 2 ^ (32 * (j + 1)) / D * 4294967296 + q) : wv (upd g j (nI q)) u = wv f u / 2 ^ (32 * j) / D * 2 ^ (32 * j) + wv f u % 2 ^ (32 * j) := by
  have h1 := wv_upd_in (g := g) (x := nI q) hj
  have h2 := wv_mod (f := f) hj
  rw [un_nI hq, hg] at h1
  rw [hE, Nat.add_mul]
  have e : wv f u / 2 ^ (32 * (j + 1)) / D * 2 ^ (32 * (j + 1)) = wv f u / 2 ^ (32 * (j + 1)) / D * 4294967296 * 2 ^ (32 * j) := by
    rw [p32, Nat.mul_comm (2 ^ (32 * j)) 4294967296, Nat.mul_assoc]
  omega
set_option maxHeartbeats 4000000 in
set_option maxRecDepth 100000 in
theorem lp_div95 (G : gG) (R : Room) (n : Nat) (ex : Bool) (h0 : gH) {w a N Q : Nat} {g : Nat → Int32} (hN : N < 2 ^ 31) : ∀ (m u : Nat) (h : gH), u < m → u ≤ N → wv g u = Q → h w = some (.inr (9, [.ref a, .int (nI u)])) → h a = some (.inl (0, N, .inl g)) → g_fr [w, a] h0 h →
    g_W G mX9_divideBy R (g_K G (q_v n ex [w, a] h0 (fun h' => Wh h' w a N Q)) 0 0) n ex h 0 0 95 [(0, .ref w)] [] := by
  intro m
  induction m with
  | zero => intro u h hm; exact absurd hm (by omega)
  | succ m ih =>
    intro u h hm hu hQ hw ha hf
    have ne_w_a : w ≠ a := g_ap hw ha (by intro q; cases q)
    refine g_aload_n dX9_divideBy_95 rfl rfl ?_
    refine g_getf dX9_divideBy_96 fX9_15 hw rfl ?_
    refine g_if_leN (tgt := 129) dX9_divideBy_99 (by decide) (by omega) (fun c99 => ?_) (fun c99 => ?_)
    · exact e_v dX9_divideBy_129 rfl hf ⟨u, g, hw, ha, hu, hQ, by first | exact Or.inl c99 | exact Or.inr c113⟩ (by decide) (by decide)
    · refine g_aload_n dX9_divideBy_102 rfl rfl ?_
      refine g_getf dX9_divideBy_103 fX9_9 hw rfl ?_
      refine g_aload_n dX9_divideBy_106 rfl rfl ?_
      refine g_getf dX9_divideBy_107 fX9_15 hw rfl ?_
      refine g_iconst (v := nI 1) dX9_divideBy_110 (by decide) ?_
      refine g_isubN dX9_divideBy_111 (by omega) ?_
      refine g_ialdN dX9_divideBy_112 ha (by omega) (by omega) ?_
      refine g_if_ne (tgt := 129) dX9_divideBy_113 (by decide) (fun c113 => ?_) (fun c113 => ?_)
      · exact e_v dX9_divideBy_129 rfl hf ⟨u, g, hw, ha, hu, hQ, by first | exact Or.inl c99 | exact Or.inr c113⟩ (by decide) (by decide)
      · refine g_aload_n dX9_divideBy_116 rfl rfl ?_
        refine g_dup dX9_divideBy_117 rfl ?_
        refine g_getf dX9_divideBy_118 fX9_15 hw rfl ?_
        refine g_iconst (v := nI 1) dX9_divideBy_121 (by decide) ?_
        refine g_isubN dX9_divideBy_122 (by omega) ?_
        refine g_put (fs' := [.ref a, .int (nI (u - 1))]) dX9_divideBy_123 fX9_15 hw (Nat.le_of_ble_eq_true rfl) rfl rfl rfl ?_
        refine g_goto (tgt := 95) dX9_divideBy_126 (by decide) ?_
        exact ih (u - 1) _ (by omega) (by omega) (by rw [← hQ]; obtain ⟨v, rfl⟩ : ∃ v, u = v + 1 := ⟨u - 1, by omega⟩; show wv g v = wv g v + un (g v) * _; rw [show g v = 0 from c113, show un (0 : Int32) = 0 from rfl, Nat.zero_mul, Nat.add_zero]) g_eq (g_ne (Ne.symm ne_w_a) ha) (hf.up (by simp))
set_option maxHeartbeats 4000000 in
set_option maxRecDepth 100000 in
theorem lp_div (G : gG) (R : Room) (n : Nat) (ex : Bool) (h0 : gH) {w a N u D : Nat} {f : Nat → Int32} (hN : N < 2 ^ 31) (hu : u ≤ N) (hD : 2 ≤ D) (hD2 : D < 70368744177664) : ∀ (j : Nat) (g : Nat → Int32) (h : gH), j ≤ u → wv g u = wv f u / 2 ^ (32 * j) / D * 2 ^ (32 * j) + wv f u % 2 ^ (32 * j) → (∀ i, i < j → g i = f i) → h w = some (.inr (9, [.ref a, .int (nI u)])) → h a = some (.inl (0, N, .inl g)) → g_fr [w, a] h0 h →
    g_W G mX9_divideBy R (g_K G (q_v n ex [w, a] h0 (fun h' => Wh h' w a N (wv f u / D))) 0 0) n ex h 0 0 19 [(5, .int (nI j - nI 1)), (3, .long (lN (wv f u / 2 ^ (32 * j) % D))), (0, .ref w), (1, .long (lN D))] [] := by
  intro j
  induction j with
  | zero =>
    intro g h hj hI hg hw ha hf
    have ne_w_a : w ≠ a := g_ap hw ha (by intro q; cases q)
    refine g_iload dX9_divideBy_19 rfl ?_
    refine g_if_lt (tgt := 95) dX9_divideBy_21 (by decide) (fun c21 => ?_) (fun c21 => ?_)
    · refine g_pick [2] (ls' := [(0, .ref w)]) rfl ?_
      exact lp_div95 G _ n ex h0 hN (u + 1) u h (by omega) hu (by rw [hI]; show wv f u / 1 / D * 1 + wv f u % 1 = _; rw [Nat.div_one, Nat.mul_one, Nat.mod_one, Nat.add_zero]) hw ha hf
    · exact absurd (show nI 0 - nI 1 < 0 by decide) c21
  | succ j ih =>
    intro g h hj hI hg hw ha hf
    rw [nI_pr]
    have hx := un_lt (g j)
    have hr0 : wv f u / 2 ^ (32 * (j + 1)) % D < D := Nat.mod_lt _ (by omega)
    have hr1 : ((wv f u / 2 ^ (32 * (j + 1)) % D * 65536 + un (g j) / 65536) % D) < D := Nat.mod_lt _ (by omega)
    obtain ⟨dh, dl, dq⟩ := div_step (A := wv f u / 2 ^ (32 * (j + 1))) (show 0 < D by omega) hx rfl rfl
    have ne_w_a : w ≠ a := g_ap hw ha (by intro q; cases q)
    refine g_iload dX9_divideBy_19 rfl ?_
    refine g_if_ltN (tgt := 95) dX9_divideBy_21 (by decide) (by omega) (fun c21 => ?_) (fun c21 => ?_)
    · exact c21.elim
    · refine g_lload_n dX9_divideBy_24 rfl rfl ?_
      refine g_bipush (v := nI 16) dX9_divideBy_25 (by decide) ?_
      refine g_lshl dX9_divideBy_27 ?_
      refine g_topl (show (lN (wv f u / 2 ^ (32 * (j + 1)) % D)) <<< ((nI 16).toInt64 &&& 63) = lN (wv f u / 2 ^ (32 * (j + 1)) % D * 65536) from wb_shl _ (by decide)) ?_
      refine g_aload_n dX9_divideBy_28 rfl rfl ?_
      refine g_getf dX9_divideBy_29 fX9_9 hw rfl ?_
      refine g_iload dX9_divideBy_32 rfl ?_
      refine g_ialdN dX9_divideBy_34 ha (by omega) (by omega) ?_
      refine g_bipush (v := nI 16) dX9_divideBy_35 (by decide) ?_
      refine g_iushr dX9_divideBy_37 ?_
      refine g_top (show ((g j).toUInt32 >>> ((nI 16).toUInt32 &&& Int32.toUInt32 31)).toInt32 = nI (un (g j) / 65536) from un_hi16 _) ?_
      refine g_i2lN dX9_divideBy_38 (by omega) ?_
      refine g_lor dX9_divideBy_39 ?_
      refine g_topl (show (lN (wv f u / 2 ^ (32 * (j + 1)) % D * 65536)) ||| (lN (un (g j) / 65536)) = lN (wv f u / 2 ^ (32 * (j + 1)) % D * 65536 + un (g j) / 65536) from or16 (by omega) (by omega)) ?_
      refine g_lstore (ls' := [(6, .long (lN (wv f u / 2 ^ (32 * (j + 1)) % D * 65536 + un (g j) / 65536))), (5, .int (nI j)), (3, .long (lN (wv f u / 2 ^ (32 * (j + 1)) % D))), (0, .ref w), (1, .long (lN D))]) dX9_divideBy_40 (by decide) rfl ?_
      refine g_lload dX9_divideBy_42 rfl ?_
      refine g_lload_n dX9_divideBy_44 rfl rfl ?_
      refine g_lremN dX9_divideBy_45 (by omega) (by omega) (by omega) ?_
      refine g_bipush (v := nI 16) dX9_divideBy_46 (by decide) ?_
      refine g_lshl dX9_divideBy_48 ?_
      refine g_topl (show (lN ((wv f u / 2 ^ (32 * (j + 1)) % D * 65536 + un (g j) / 65536) % D)) <<< ((nI 16).toInt64 &&& 63) = lN (((wv f u / 2 ^ (32 * (j + 1)) % D * 65536 + un (g j) / 65536) % D) * 65536) from wb_shl _ (by decide)) ?_
      refine g_aload_n dX9_divideBy_49 rfl rfl ?_
      refine g_getf dX9_divideBy_50 fX9_9 hw rfl ?_
      refine g_iload dX9_divideBy_53 rfl ?_
      refine g_ialdN dX9_divideBy_55 ha (by omega) (by omega) ?_
      refine g_i2l dX9_divideBy_56 ?_
      refine g_ldc2 dX9_divideBy_57 kX9_36 rfl ?_
      refine g_topl (show (65535 : Int64) = lN 65535 by decide) ?_
      refine g_land dX9_divideBy_60 ?_
      refine g_topl (show ((g j).toInt64) &&& (lN 65535) = lN (un (g j) % 65536) from un_low16 _) ?_
      refine g_lor dX9_divideBy_61 ?_
      refine g_topl (show (lN (((wv f u / 2 ^ (32 * (j + 1)) % D * 65536 + un (g j) / 65536) % D) * 65536)) ||| (lN (un (g j) % 65536)) = lN (((wv f u / 2 ^ (32 * (j + 1)) % D * 65536 + un (g j) / 65536) % D) * 65536 + un (g j) % 65536) from or16 (by omega) (by omega)) ?_
      refine g_lstore (ls' := [(8, .long (lN (((wv f u / 2 ^ (32 * (j + 1)) % D * 65536 + un (g j) / 65536) % D) * 65536 + un (g j) % 65536))), (6, .long (lN (wv f u / 2 ^ (32 * (j + 1)) % D * 65536 + un (g j) / 65536))), (5, .int (nI j)), (3, .long (lN (wv f u / 2 ^ (32 * (j + 1)) % D))), (0, .ref w), (1, .long (lN D))]) dX9_divideBy_62 (by decide) rfl ?_
      refine g_aload_n dX9_divideBy_64 rfl rfl ?_
      refine g_getf dX9_divideBy_65 fX9_9 hw rfl ?_
      refine g_iload dX9_divideBy_68 rfl ?_
      refine g_lload dX9_divideBy_70 rfl ?_
      refine g_lload_n dX9_divideBy_72 rfl rfl ?_
      refine g_ldivN dX9_divideBy_73 (by omega) (by omega) (by omega) ?_
      refine g_bipush (v := nI 16) dX9_divideBy_74 (by decide) ?_
      refine g_lshl dX9_divideBy_76 ?_
      refine g_topl (show (lN ((wv f u / 2 ^ (32 * (j + 1)) % D * 65536 + un (g j) / 65536) / D)) <<< ((nI 16).toInt64 &&& 63) = lN ((wv f u / 2 ^ (32 * (j + 1)) % D * 65536 + un (g j) / 65536) / D * 65536) from wb_shl _ (by decide)) ?_
      refine g_lload dX9_divideBy_77 rfl ?_
      refine g_lload_n dX9_divideBy_79 rfl rfl ?_
      refine g_ldivN dX9_divideBy_80 (by omega) (by omega) (by omega) ?_
      refine g_lor dX9_divideBy_81 ?_
      refine g_topl (show (lN ((wv f u / 2 ^ (32 * (j + 1)) % D * 65536 + un (g j) / 65536) / D * 65536)) ||| (lN ((((wv f u / 2 ^ (32 * (j + 1)) % D * 65536 + un (g j) / 65536) % D) * 65536 + un (g j) % 65536) / D)) = lN ((wv f u / 2 ^ (32 * (j + 1)) % D * 65536 + un (g j) / 65536) / D * 65536 + (((wv f u / 2 ^ (32 * (j + 1)) % D * 65536 + un (g j) / 65536) % D) * 65536 + un (g j) % 65536) / D) from or16 dl (Nat.lt_trans dh (by decide))) ?_
      refine g_l2iN dX9_divideBy_82 ?_
      refine g_iastN dX9_divideBy_83 ha (by omega) (by omega) ?_
      refine g_lload dX9_divideBy_84 rfl ?_
      refine g_lload_n dX9_divideBy_86 rfl rfl ?_
      refine g_lremN dX9_divideBy_87 (by omega) (by omega) (by omega) ?_
      refine g_lstore_n (ls' := [(3, .long (lN ((((wv f u / 2 ^ (32 * (j + 1)) % D * 65536 + un (g j) / 65536) % D) * 65536 + un (g j) % 65536) % D))), (8, .long (lN (((wv f u / 2 ^ (32 * (j + 1)) % D * 65536 + un (g j) / 65536) % D) * 65536 + un (g j) % 65536))), (6, .long (lN (wv f u / 2 ^ (32 * (j + 1)) % D * 65536 + un (g j) / 65536))), (5, .int (nI j)), (0, .ref w), (1, .long (lN D))]) dX9_divideBy_88 rfl (by decide) rfl ?_
      refine g_iinc (v := nI j - nI 1) (ls' := [(5, .int (nI j - nI 1)), (3, .long (lN ((((wv f u / 2 ^ (32 * (j + 1)) % D * 65536 + un (g j) / 65536) % D) * 65536 + un (g j) % 65536) % D))), (8, .long (lN (((wv f u / 2 ^ (32 * (j + 1)) % D * 65536 + un (g j) / 65536) % D) * 65536 + un (g j) % 65536))), (6, .long (lN (wv f u / 2 ^ (32 * (j + 1)) % D * 65536 + un (g j) / 65536))), (0, .ref w), (1, .long (lN D))]) dX9_divideBy_89 rfl (nI_dec _) (by decide) rfl ?_
      refine g_goto (tgt := 19) dX9_divideBy_92 (by decide) ?_
      refine g_pick [0, 1, 4, 5] (ls' := [(5, .int (nI j - nI 1)), (3, .long (lN ((((wv f u / 2 ^ (32 * (j + 1)) % D * 65536 + un (g j) / 65536) % D) * 65536 + un (g j) % 65536) % D))), (0, .ref w), (1, .long (lN D))]) rfl ?_
      have eR : (((wv f u / 2 ^ (32 * (j + 1)) % D * 65536 + un (g j) / 65536) % D) * 65536 + un (g j) % 65536) % D = wv f u / 2 ^ (32 * j) % D := by rw [wv_digit (f := f) (show j < u by omega), ← hg j (Nat.lt_succ_self j)]; exact rem_step _ _ _
      rw [eR]
      exact ih (upd g j (nI ((wv f u / 2 ^ (32 * (j + 1)) % D * 65536 + un (g j) / 65536) / D * 65536 + (((wv f u / 2 ^ (32 * (j + 1)) % D * 65536 + un (g j) / 65536) % D) * 65536 + un (g j) % 65536) / D))) _ (by omega) (div_inv (by omega) (hg j (Nat.lt_succ_self j)) (by omega) hI (by rw [wv_digit (f := f) (show j < u by omega), ← hg j (Nat.lt_succ_self j)]; exact dq)) (fun i hi => by rw [pk_un (by omega)]; exact hg i (by omega)) (g_ne ne_w_a hw) g_eq (hf.up (by simp))
set_option maxHeartbeats 4000000 in
set_option maxRecDepth 100000 in
theorem c_divideBy (G : gG) (d n : Nat) (ex : Bool) (h : gH) {w a N V D : Nat} (hq : Wh h w a N V) (hN : N < 2 ^ 31) (hD : 1 ≤ D) (hD2 : D < 70368744177664) : g_M G mX9_divideBy d 0 0 [.ref w, .long (lN D)] n ex h (q_v n ex [w, a] h (fun h' => Wh h' w a N (V / D))) := by
  obtain ⟨u, f, hw, ha, hu, hV, hn⟩ := hq
  rw [← hV]
  refine g_enter (by decide) (Nat.le_of_ble_eq_true rfl) ?_
  show g_W G _ _ _ n ex h 0 0 0 [(0, .ref w), (1, .long (lN D))] []
  have ne_w_a : w ≠ a := g_ap hw ha (by intro q; cases q)
  refine g_lload_n dX9_divideBy_0 rfl rfl ?_
  refine g_ldc2 dX9_divideBy_1 kX9_38 rfl ?_
  refine g_topl (show (2 : Int64) = lN 2 by decide) ?_
  refine g_lc_geN (tgt := 9) dX9_divideBy_4 dX9_divideBy_5 (by decide) (by omega) (by omega) (fun c4 => ?_) (fun c4 => ?_)
  · refine g_lconst (v := lN 0) dX9_divideBy_9 (by decide) ?_
    refine g_lstore_n (ls' := [(3, .long (lN 0)), (0, .ref w), (1, .long (lN D))]) dX9_divideBy_10 rfl (by decide) rfl ?_
    refine g_aload_n dX9_divideBy_11 rfl rfl ?_
    refine g_getf dX9_divideBy_12 fX9_15 hw rfl ?_
    refine g_iconst (v := nI 1) dX9_divideBy_15 (by decide) ?_
    refine g_isub dX9_divideBy_16 ?_
    refine g_istore (ls' := [(5, .int ((nI u) - (nI 1))), (3, .long (lN 0)), (0, .ref w), (1, .long (lN D))]) dX9_divideBy_17 (by decide) rfl ?_
    refine g_pick [0, 1, 2, 3] (ls' := [(5, .int ((nI u) - (nI 1))), (3, .long (lN 0)), (0, .ref w), (1, .long (lN D))]) rfl ?_
    have e0 : lN 0 = lN (wv f u / 2 ^ (32 * u) % D) := by rw [wv_div_top, Nat.zero_mod]
    rw [e0]
    exact lp_div G _ n ex h hN hu c4 hD2 u f h (Nat.le_refl _) (by rw [wv_div_top, Nat.zero_div, Nat.zero_mul, Nat.zero_add, Nat.mod_eq_of_lt (wv_lt f u)]) (fun _ _ => rfl) hw ha g_fr.rf
  · exact e_v dX9_divideBy_8 rfl g_fr.rf ⟨u, f, hw, ha, hu, by rw [show D = 1 by omega, Nat.div_one], hn⟩ (by decide) (by decide)
