set_option maxHeartbeats 4000000 in
set_option maxRecDepth 100000 in
theorem c_growRows (G : gG) (d n : Nat) (ex : Bool) (h : gH) {su : Nat → Nat → Bool} {lf : Nat → Int32} {r : Nat → Nat} {m x y S0 nn : Nat} (hlf : Lf lf su nn (nn + 1)) (hm : m ≤ nn) (hnn : nn ≤ 30) (hx : x ≤ 20000) (hy : y ≤ 20000) (hr : ∀ j, r j ≤ 536870912) (hB : S0 + hd_ (wt su r m x y) (m + 1) < 2 ^ (32 * 40)) {f : Nat → Int32} (o1 : h 123 = some (.inr (4, OdO))) (o2 : h 124 = some (.inl (0, 31, .inl lf))) (o3 : h 125 = some (.inl (0, 31, .inl f))) (hlo : ∀ j, j < m → f j = nI (r j)) (hs0 : Wh h 131 132 40 S0) (hterm : Wr h 133 134 40) : g_M G mX4_growRows (d + 3) 0 0 [.ref 123, .int (nI m), .int (nI x), .int (nI y)] n ex h (q_v n ex [125, 131, 132, 133, 134] h (fun h' => Wr h' 133 134 40 ∧ Wh h' 131 132 40 (S0 + hd_ (wt su r m x y) (m + 1)) ∧ ∃ f', h' 125 = some (.inl (0, 31, .inl f')) ∧ ∀ a, a ≤ m → f' a = nI (gr su r m a))) := by
  refine g_enter (by decide) (Nat.le_of_ble_eq_true rfl) ?_
  show g_W G _ _ _ n ex h 0 0 0 [(0, .ref 123), (1, .int (nI m)), (2, .int (nI x)), (3, .int (nI y))] []
  refine g_iload_n dX4_growRows_0 rfl rfl ?_
  refine g_istore (ls' := [(4, .int (nI m)), (0, .ref 123), (1, .int (nI m)), (2, .int (nI x)), (3, .int (nI y))]) dX4_growRows_1 (by decide) rfl ?_
  refine g_pick [0, 1, 2, 3, 4] (ls' := [(4, .int (nI m)), (0, .ref 123), (1, .int (nI m)), (2, .int (nI x)), (3, .int (nI y))]) rfl ?_
  have := lp_grow G d n ex h hlf hm hnn hx hy hr hB (m + 1) S0 f h (Nat.le_refl _) o1 o2 o3 (fun j h1 h2 => hlo j h2) (fun j h1 h2 => absurd h1 (by omega)) hs0 rfl hterm g_fr.rf
  rw [nI_pr] at this
  exact this
theorem od_S {su : Nat → Nat → Bool} {x y m : Nat} (hxy : x + y ≤ 20000) (hm : m ≤ 30) : Sx su x y m < 2 ^ (32 * 40) := by
  have h1 := Sx_le su hxy hm
  have h2 : 64 * 40000 ^ m ≤ 64 * 40000 ^ 30 := Nat.mul_le_mul_left _ (Nat.pow_le_pow_right (by decide) hm)
  exact Nat.lt_of_le_of_lt (Nat.le_trans h1 h2) (by decide +kernel)
theorem od_T {su : Nat → Nat → Bool} {n x y o m k : Nat} (hxy : x + y ≤ 20000) (hn : n ≤ 30) (hm : m ≤ 30) (ho : o ≤ 20000) (hk : k ≤ 30) : Sx su x y m * bn n m * o ^ k ≤ 64 * 40000 ^ 30 * 2 ^ 30 * 20000 ^ 30 := by
  have h1 := Sx_le su hxy hm
  have h2 : 64 * 40000 ^ m ≤ 64 * 40000 ^ 30 := Nat.mul_le_mul_left _ (Nat.pow_le_pow_right (by decide) hm)
  have h3 := Nat.le_trans (bn_le n m) (Nat.pow_le_pow_right (show 0 < 2 by decide) hn)
  have h4 : o ^ k ≤ 20000 ^ 30 := Nat.le_trans (Nat.pow_le_pow_left ho k) (Nat.pow_le_pow_right (by decide) hk)
  exact Nat.mul_le_mul (Nat.mul_le_mul (Nat.le_trans h1 h2) h3) h4
theorem od_Tt {su : Nat → Nat → Bool} {n x y o m : Nat} (hxy : x + y ≤ 20000) (hn : n ≤ 30) (hm : m ≤ 30) (ho : o ≤ 20000) : Tt su n x y o m ≤ m * (64 * 40000 ^ 30 * 2 ^ 30 * 20000 ^ 30) := by
  induction m with
  | zero => exact Nat.zero_le _
  | succ m ih =>
    have h1 := ih (by omega)
    have h2 := od_T (su := su) (n := n) (o := o) (m := m + 1) (k := n - (m + 1)) hxy hn hm ho (by omega)
    have e : (m + 1) * (64 * 40000 ^ 30 * 2 ^ 30 * 20000 ^ 30) = m * (64 * 40000 ^ 30 * 2 ^ 30 * 20000 ^ 30) + 64 * 40000 ^ 30 * 2 ^ 30 * 20000 ^ 30 := Nat.succ_mul _ _
    rw [e]
    exact Nat.add_le_add h1 h2
theorem od_room {a : Nat} (h : a ≤ 30 * (64 * 40000 ^ 30 * 2 ^ 30 * 20000 ^ 30)) : a < 2 ^ (32 * 40) := Nat.lt_of_le_of_lt h (by decide +kernel)
theorem od_30 {a m : Nat} (h : a ≤ m * (64 * 40000 ^ 30 * 2 ^ 30 * 20000 ^ 30)) (hm : m ≤ 30) : a < 2 ^ (32 * 40) := od_room (Nat.le_trans h (Nat.mul_le_mul_right _ hm))
theorem od_T1 {a : Nat} (h : a ≤ 64 * 40000 ^ 30 * 2 ^ 30 * 20000 ^ 30) : a < 2 ^ (32 * 40) := Nat.lt_of_le_of_lt h (by decide +kernel)
theorem rwf_b (su : Nat → Nat → Bool) {m : Nat} (h : m ≤ 29) (a : Nat) : rwf su m a ≤ 536870912 := Nat.le_trans (rwf_le su m a) (Nat.pow_le_pow_right (show 0 < 2 by decide) h)
set_option maxHeartbeats 4000000 in
set_option maxRecDepth 100000 in
theorem lp_weigh (G : gG) (d n : Nat) (ex : Bool) (h0 : gH) {su : Nat → Nat → Bool} {lf : Nat → Int32} {x y z nn : Nat} (hlf : Lf lf su nn (nn + 1)) (hnn : nn ≤ 30) (hxy : x + y ≤ z) (hz : z ≤ 20000) : ∀ (t j : Nat) (f : Nat → Int32) (h : gH), nn - j < t → j ≤ nn → h 123 = some (.inr (4, OdO)) → h 124 = some (.inl (0, 31, .inl lf)) → h 125 = some (.inl (0, 31, .inl f)) → (∀ a, a ≤ j → f a = nI (rwf su j a)) → Wh h 131 132 40 (Sx su x y j) → Wr h 133 134 40 → Wh h 135 136 40 (Tt su nn x y (z - x - y) j) → g_fr [125, 131, 132, 133, 134, 135, 136] h0 h →
    g_W G mX4_weigh (g_rm (d + 4) 0 0) (g_K G (q_v n ex [125, 131, 132, 133, 134, 135, 136] h0 (fun h' => Wh h' 135 136 40 (Tt su nn x y (z - x - y) nn) ∧ Wr h' 131 132 40 ∧ Wr h' 133 134 40 ∧ ∃ f', h' 125 = some (.inl (0, 31, .inl f')))) 0 0) n ex h 0 0 29 [(7, .int (nI (j + 1))), (5, .long (lN (bn nn j))), (0, .ref 123), (1, .int (nI nn)), (2, .int (nI x)), (3, .int (nI y)), (4, .int (nI z))] [] := by
  intro t
  induction t with
  | zero => intro j f h hm; exact absurd hm (by omega)
  | succ t ih =>
    intro j f h ht hj o1 o2 o3 hrow hs0 ht0 hz0 hf
    refine g_iload dX4_weigh_29 rfl ?_
    refine g_iload_n dX4_weigh_31 rfl rfl ?_
    refine g_icmp_gtN (tgt := 121) dX4_weigh_32 (by decide) (by omega) (by omega) (fun c32 => ?_) (fun c32 => ?_)
    · have e : j = nn := by omega
      subst e
      exact e_v dX4_weigh_121 rfl hf ⟨hz0, hs0.r, ht0, f, o3⟩ (by decide) (by decide)
    · have hb1 : Sx su x y j * (x + y) < 2 ^ (32 * 40) := Nat.lt_of_le_of_lt (Nat.le_add_right _ _) (od_S (su := su) (x := x) (y := y) (m := j + 1) (by omega) (by omega))
      have hbj := Nat.le_trans (bn_le nn j) (Nat.pow_le_pow_right (show 0 < 2 by decide) hnn)
      have hbj1 := Nat.le_trans (bn_le nn (j + 1)) (Nat.pow_le_pow_right (show 0 < 2 by decide) hnn)
      have hbn46 : bn nn (j + 1) < 70368744177664 := Nat.lt_of_le_of_lt hbj1 (by decide)
      have hb2 : Sx su x y (j + 1) * bn nn (j + 1) < 2 ^ (32 * 40) := by
        have := od_T (su := su) (x := x) (y := y) (n := nn) (m := j + 1) (o := 1) (k := 0) (by omega) hnn (by omega) (by decide) (by decide)
        rw [Nat.pow_zero, Nat.mul_one] at this
        exact od_T1 this
      have hmulb : bn nn j * (nn - (j + 1) + 1) < 2 ^ 63 := Nat.lt_of_le_of_lt (Nat.mul_le_mul hbj (show nn - (j + 1) + 1 ≤ 31 by omega)) (by decide)
      refine g_aload_n dX4_weigh_35 rfl rfl ?_
      refine g_getf dX4_weigh_36 fX4_30 o1 rfl ?_
      refine g_iload_n dX4_weigh_39 rfl rfl ?_
      refine g_iload_n dX4_weigh_40 rfl rfl ?_
      refine g_iaddN dX4_weigh_41 ?_
      refine g_i2lN dX4_weigh_42 (by omega) ?_
      refine cVvE (st := []) dX4_weigh_43 (c_multiplyBy G (d + 2) n ex h hs0 (by decide) (by omega) hb1) sX4_66 hs0.cell rfl rfl (by simp only [g_rm]; omega) (by simp only [g_rm]; omega) (Nat.le_of_ble_eq_true rfl) ⟨Nat.le_of_ble_eq_true rfl, Nat.le_of_ble_eq_true rfl⟩ (fun h1 fr2 p3 => ?_)
      have hs1 := p3
      have ht1 := ht0.fr fr2 (by intro q; simp only [List.mem_cons, List.not_mem_nil, or_false] at q; omega) (by intro q; simp only [List.mem_cons, List.not_mem_nil, or_false] at q; omega)
      have hz1 := hz0.fr fr2 (by intro q; simp only [List.mem_cons, List.not_mem_nil, or_false] at q; omega) (by intro q; simp only [List.mem_cons, List.not_mem_nil, or_false] at q; omega)
      refine g_aload_n dX4_weigh_46 rfl rfl ?_
      refine g_iload dX4_weigh_47 rfl ?_
      refine g_iload_n dX4_weigh_49 rfl rfl ?_
      refine g_iload_n dX4_weigh_50 rfl rfl ?_
      refine cVv (st := []) dX4_weigh_51 (c_growRows G d n ex h1 (su := su) (r := rwf su j) (S0 := Sx su x y j * (x + y)) hlf (by omega) hnn (by omega) (by omega) (rwf_b su (by omega)) (od_S (su := su) (m := j + 1) (by omega) (by omega)) (fr2.at (by intro q; simp only [List.mem_cons, List.not_mem_nil, or_false] at q; omega) o1) (fr2.at (by intro q; simp only [List.mem_cons, List.not_mem_nil, or_false] at q; omega) o2) (fr2.at (by intro q; simp only [List.mem_cons, List.not_mem_nil, or_false] at q; omega) o3) (fun a ha => hrow a (by omega)) hs1 ht1) sX4_69 (fr2.at (by intro q; simp only [List.mem_cons, List.not_mem_nil, or_false] at q; omega) o1) rfl rfl (by simp only [g_rm]; omega) (by simp only [g_rm]; omega) (Nat.le_of_ble_eq_true rfl) ⟨Nat.le_of_ble_eq_true rfl, Nat.le_of_ble_eq_true rfl⟩ (fun h5 fr6 p7 => ?_)
      obtain ⟨ht2r, hs2r, f2, o3b, hrow2⟩ := p7
      have hz2r := hz1.fr fr6 (by intro q; simp only [List.mem_cons, List.not_mem_nil, or_false] at q; omega) (by intro q; simp only [List.mem_cons, List.not_mem_nil, or_false] at q; omega)
      have hs2r' : Wh h5 131 132 40 (Sx su x y (j + 1)) := hs2r
      refine g_lload dX4_weigh_54 rfl ?_
      refine g_iload_n dX4_weigh_56 rfl rfl ?_
      refine g_iload dX4_weigh_57 rfl ?_
      refine g_isubN dX4_weigh_59 (by omega) ?_
      refine g_iconst (v := nI 1) dX4_weigh_60 (by decide) ?_
      refine g_iaddN dX4_weigh_61 ?_
      refine g_i2lN dX4_weigh_62 (by omega) ?_
      refine g_lmulN dX4_weigh_63 ?_
      refine g_iload dX4_weigh_64 rfl ?_
      refine g_i2lN dX4_weigh_66 (by omega) ?_
      refine g_ldivN dX4_weigh_67 (by omega) (by omega) (by omega) ?_
      refine g_topl (show lN (((bn nn j) * ((nn - (j + 1)) + 1)) / (j + 1)) = lN (bn nn (j + 1)) from (by rw [bn_div (by omega)])) ?_
      refine g_lstore (ls' := [(5, .long (lN (bn nn (j + 1)))), (7, .int (nI (j + 1))), (0, .ref 123), (1, .int (nI nn)), (2, .int (nI x)), (3, .int (nI y)), (4, .int (nI z))]) dX4_weigh_68 (by decide) rfl ?_
      refine g_aload_n dX4_weigh_70 rfl rfl ?_
      refine g_getf dX4_weigh_71 fX4_34 (fr6.at (by intro q; simp only [List.mem_cons, List.not_mem_nil, or_false] at q; omega) (fr2.at (by intro q; simp only [List.mem_cons, List.not_mem_nil, or_false] at q; omega) o1)) rfl ?_
      refine g_aload_n dX4_weigh_74 rfl rfl ?_
      refine g_getf dX4_weigh_75 fX4_30 (fr6.at (by intro q; simp only [List.mem_cons, List.not_mem_nil, or_false] at q; omega) (fr2.at (by intro q; simp only [List.mem_cons, List.not_mem_nil, or_false] at q; omega) o1)) rfl ?_
      refine cVvE (st := []) dX4_weigh_78 (c_becomeCopyOf G (d + 2) n ex h5 ht2r hs2r' (by decide) (by decide) (od_S (by omega) (by omega)) (by decide) (by decide)) sX4_73 ht2r.cell rfl rfl (by simp only [g_rm]; omega) (by simp only [g_rm]; omega) (Nat.le_of_ble_eq_true rfl) ⟨Nat.le_of_ble_eq_true rfl, Nat.le_of_ble_eq_true rfl⟩ (fun h9 fr10 p11 => ?_)
      have ht2 := p11
      have hs2 := hs2r'.fr fr10 (by intro q; simp only [List.mem_cons, List.not_mem_nil, or_false] at q; omega) (by intro q; simp only [List.mem_cons, List.not_mem_nil, or_false] at q; omega)
      have hz2 := hz2r.fr fr10 (by intro q; simp only [List.mem_cons, List.not_mem_nil, or_false] at q; omega) (by intro q; simp only [List.mem_cons, List.not_mem_nil, or_false] at q; omega)
      refine g_aload_n dX4_weigh_81 rfl rfl ?_
      refine g_getf dX4_weigh_82 fX4_34 (fr10.at (by intro q; simp only [List.mem_cons, List.not_mem_nil, or_false] at q; omega) (fr6.at (by intro q; simp only [List.mem_cons, List.not_mem_nil, or_false] at q; omega) (fr2.at (by intro q; simp only [List.mem_cons, List.not_mem_nil, or_false] at q; omega) o1))) rfl ?_
      refine g_lload dX4_weigh_85 rfl ?_
      refine cVvE (st := []) dX4_weigh_87 (c_multiplyBy G (d + 2) n ex h9 ht2 (by decide) hbn46 hb2) sX4_66 ht2.cell rfl rfl (by simp only [g_rm]; omega) (by simp only [g_rm]; omega) (Nat.le_of_ble_eq_true rfl) ⟨Nat.le_of_ble_eq_true rfl, Nat.le_of_ble_eq_true rfl⟩ (fun h13 fr14 p15 => ?_)
      have ht3 := p15
      have hs3 := hs2.fr fr14 (by intro q; simp only [List.mem_cons, List.not_mem_nil, or_false] at q; omega) (by intro q; simp only [List.mem_cons, List.not_mem_nil, or_false] at q; omega)
      have hz3 := hz2.fr fr14 (by intro q; simp only [List.mem_cons, List.not_mem_nil, or_false] at q; omega) (by intro q; simp only [List.mem_cons, List.not_mem_nil, or_false] at q; omega)
      refine g_aload_n dX4_weigh_90 rfl rfl ?_
      refine g_iload dX4_weigh_91 rfl ?_
      refine g_iload_n dX4_weigh_93 rfl rfl ?_
      refine g_isubN dX4_weigh_94 (by omega) ?_
      refine g_iload_n dX4_weigh_95 rfl rfl ?_
      refine g_isubN dX4_weigh_96 (by omega) ?_
      refine g_iload_n dX4_weigh_97 rfl rfl ?_
      refine g_iload dX4_weigh_98 rfl ?_
      refine g_isubN dX4_weigh_100 (by omega) ?_
      refine cVv (st := []) dX4_weigh_101 (c_multiplyTerm G (d + 1) n ex h13 (V := Sx su x y (j + 1) * bn nn (j + 1)) (F := z - x - y) (t := nn - (j + 1)) (by omega) (by omega) (fun q hq => od_T1 (od_T (by omega) hnn (by omega) (by omega) (by omega))) (fr14.at (by intro q; simp only [List.mem_cons, List.not_mem_nil, or_false] at q; omega) (fr10.at (by intro q; simp only [List.mem_cons, List.not_mem_nil, or_false] at q; omega) (fr6.at (by intro q; simp only [List.mem_cons, List.not_mem_nil, or_false] at q; omega) (fr2.at (by intro q; simp only [List.mem_cons, List.not_mem_nil, or_false] at q; omega) o1)))) ht3) sX4_77 (fr14.at (by intro q; simp only [List.mem_cons, List.not_mem_nil, or_false] at q; omega) (fr10.at (by intro q; simp only [List.mem_cons, List.not_mem_nil, or_false] at q; omega) (fr6.at (by intro q; simp only [List.mem_cons, List.not_mem_nil, or_false] at q; omega) (fr2.at (by intro q; simp only [List.mem_cons, List.not_mem_nil, or_false] at q; omega) o1)))) rfl rfl (by simp only [g_rm]; omega) (by simp only [g_rm]; omega) (Nat.le_of_ble_eq_true rfl) ⟨Nat.le_of_ble_eq_true rfl, Nat.le_of_ble_eq_true rfl⟩ (fun h17 fr18 p19 => ?_)
      have ht4 := p19
      have hs4 := hs3.fr fr18 (by intro q; simp only [List.mem_cons, List.not_mem_nil, or_false] at q; omega) (by intro q; simp only [List.mem_cons, List.not_mem_nil, or_false] at q; omega)
      have hz4 := hz3.fr fr18 (by intro q; simp only [List.mem_cons, List.not_mem_nil, or_false] at q; omega) (by intro q; simp only [List.mem_cons, List.not_mem_nil, or_false] at q; omega)
      refine g_aload_n dX4_weigh_104 rfl rfl ?_
      refine g_getf dX4_weigh_105 fX4_37 (fr18.at (by intro q; simp only [List.mem_cons, List.not_mem_nil, or_false] at q; omega) (fr14.at (by intro q; simp only [List.mem_cons, List.not_mem_nil, or_false] at q; omega) (fr10.at (by intro q; simp only [List.mem_cons, List.not_mem_nil, or_false] at q; omega) (fr6.at (by intro q; simp only [List.mem_cons, List.not_mem_nil, or_false] at q; omega) (fr2.at (by intro q; simp only [List.mem_cons, List.not_mem_nil, or_false] at q; omega) o1))))) rfl ?_
      refine g_aload_n dX4_weigh_108 rfl rfl ?_
      refine g_getf dX4_weigh_109 fX4_34 (fr18.at (by intro q; simp only [List.mem_cons, List.not_mem_nil, or_false] at q; omega) (fr14.at (by intro q; simp only [List.mem_cons, List.not_mem_nil, or_false] at q; omega) (fr10.at (by intro q; simp only [List.mem_cons, List.not_mem_nil, or_false] at q; omega) (fr6.at (by intro q; simp only [List.mem_cons, List.not_mem_nil, or_false] at q; omega) (fr2.at (by intro q; simp only [List.mem_cons, List.not_mem_nil, or_false] at q; omega) o1))))) rfl ?_
      refine cVvE (st := []) dX4_weigh_112 (c_add G (d + 2) n ex h17 hz4 ht4 (by decide) (by decide) (od_30 (od_Tt (m := j + 1) (su := su) (n := nn) (o := z - x - y) (by omega) hnn (by omega) (by omega)) (by omega)) (by decide) (by decide)) sX4_81 hz4.cell rfl rfl (by simp only [g_rm]; omega) (by simp only [g_rm]; omega) (Nat.le_of_ble_eq_true rfl) ⟨Nat.le_of_ble_eq_true rfl, Nat.le_of_ble_eq_true rfl⟩ (fun h21 fr22 p23 => ?_)
      have hz5 := p23
      have ht5 := ht4.fr fr22 (by intro q; simp only [List.mem_cons, List.not_mem_nil, or_false] at q; omega) (by intro q; simp only [List.mem_cons, List.not_mem_nil, or_false] at q; omega)
      have hs5 := hs4.fr fr22 (by intro q; simp only [List.mem_cons, List.not_mem_nil, or_false] at q; omega) (by intro q; simp only [List.mem_cons, List.not_mem_nil, or_false] at q; omega)
      refine g_iincN (z := 1) (ls' := [(7, .int (nI ((j + 1) + 1))), (5, .long (lN (bn nn (j + 1)))), (0, .ref 123), (1, .int (nI nn)), (2, .int (nI x)), (3, .int (nI y)), (4, .int (nI z))]) dX4_weigh_115 rfl (by decide) rfl ?_
      refine g_goto (tgt := 29) dX4_weigh_118 (by decide) ?_
      refine g_pick [0, 1, 2, 3, 4, 5, 6] (ls' := [(7, .int (nI ((j + 1) + 1))), (5, .long (lN (bn nn (j + 1)))), (0, .ref 123), (1, .int (nI nn)), (2, .int (nI x)), (3, .int (nI y)), (4, .int (nI z))]) rfl ?_
      exact ih (j + 1) f2 _ (by omega) (by omega) (fr22.at (by intro q; simp only [List.mem_cons, List.not_mem_nil, or_false] at q; omega) (fr18.at (by intro q; simp only [List.mem_cons, List.not_mem_nil, or_false] at q; omega) (fr14.at (by intro q; simp only [List.mem_cons, List.not_mem_nil, or_false] at q; omega) (fr10.at (by intro q; simp only [List.mem_cons, List.not_mem_nil, or_false] at q; omega) (fr6.at (by intro q; simp only [List.mem_cons, List.not_mem_nil, or_false] at q; omega) (fr2.at (by intro q; simp only [List.mem_cons, List.not_mem_nil, or_false] at q; omega) o1)))))) (fr22.at (by intro q; simp only [List.mem_cons, List.not_mem_nil, or_false] at q; omega) (fr18.at (by intro q; simp only [List.mem_cons, List.not_mem_nil, or_false] at q; omega) (fr14.at (by intro q; simp only [List.mem_cons, List.not_mem_nil, or_false] at q; omega) (fr10.at (by intro q; simp only [List.mem_cons, List.not_mem_nil, or_false] at q; omega) (fr6.at (by intro q; simp only [List.mem_cons, List.not_mem_nil, or_false] at q; omega) (fr2.at (by intro q; simp only [List.mem_cons, List.not_mem_nil, or_false] at q; omega) o2)))))) (fr22.at (by intro q; simp only [List.mem_cons, List.not_mem_nil, or_false] at q; omega) (fr18.at (by intro q; simp only [List.mem_cons, List.not_mem_nil, or_false] at q; omega) (fr14.at (by intro q; simp only [List.mem_cons, List.not_mem_nil, or_false] at q; omega) (fr10.at (by intro q; simp only [List.mem_cons, List.not_mem_nil, or_false] at q; omega) o3b)))) hrow2 hs5 ht5.r hz5 (((((((hf).tr fr2 (by simp)).tr fr6 (by simp)).tr fr10 (by simp)).tr fr14 (by simp)).tr fr18 (by simp)).tr fr22 (by simp))
set_option maxHeartbeats 4000000 in
set_option maxRecDepth 100000 in
theorem c_weigh (G : gG) (d n : Nat) (ex : Bool) (h : gH) {su : Nat → Nat → Bool} {lf : Nat → Int32} {x y z nn : Nat} (hlf : Lf lf su nn (nn + 1)) (hnn : nn ≤ 30) (hxy : x + y ≤ z) (hz : z ≤ 20000) {f : Nat → Int32} (o1 : h 123 = some (.inr (4, OdO))) (o2 : h 124 = some (.inl (0, 31, .inl lf))) (o3 : h 125 = some (.inl (0, 31, .inl f))) (hsr : Wr h 131 132 40) (hterm : Wr h 133 134 40) (hzr : Wr h 135 136 40) : g_M G mX4_weigh (d + 4) 0 0 [.ref 123, .int (nI nn), .int (nI x), .int (nI y), .int (nI z)] n ex h (q_v n ex [125, 131, 132, 133, 134, 135, 136] h (fun h' => Wh h' 135 136 40 (Tt su nn x y (z - x - y) nn) ∧ Wr h' 131 132 40 ∧ Wr h' 133 134 40 ∧ ∃ f', h' 125 = some (.inl (0, 31, .inl f')))) := by
  refine g_enter (by decide) (Nat.le_of_ble_eq_true rfl) ?_
  show g_W G _ _ _ n ex h 0 0 0 [(0, .ref 123), (1, .int (nI nn)), (2, .int (nI x)), (3, .int (nI y)), (4, .int (nI z))] []
  refine g_aload_n dX4_weigh_0 rfl rfl ?_
  refine g_getf dX4_weigh_1 fX4_15 o1 rfl ?_
  refine g_iconst (v := nI 0) dX4_weigh_4 (by decide) ?_
  refine g_iconst (v := nI 1) dX4_weigh_5 (by decide) ?_
  refine g_iastN dX4_weigh_6 o3 (by decide) (by decide) ?_
  have hup : g_fr [125] h (g_up h 125 (.inl (0, 31, .inl (upd f 0 (nI 1))))) := g_fr.rf.up (by simp)
  obtain ⟨x1, g1, hw1, ha1⟩ := hsr.fr hup (by intro q; simp only [List.mem_cons, List.not_mem_nil, or_false] at q; omega) (by intro q; simp only [List.mem_cons, List.not_mem_nil, or_false] at q; omega)
  have hsr : Wr (g_up h 125 (.inl (0, 31, .inl (upd f 0 (nI 1))))) 131 132 40 := ⟨x1, g1, hw1, ha1⟩
  have hzr := hzr.fr hup (by intro q; simp only [List.mem_cons, List.not_mem_nil, or_false] at q; omega) (by intro q; simp only [List.mem_cons, List.not_mem_nil, or_false] at q; omega)
  have hterm := hterm.fr hup (by intro q; simp only [List.mem_cons, List.not_mem_nil, or_false] at q; omega) (by intro q; simp only [List.mem_cons, List.not_mem_nil, or_false] at q; omega)
  refine g_aload_n dX4_weigh_7 rfl rfl ?_
  refine g_getf dX4_weigh_8 fX4_30 (g_ne (by decide) o1) rfl ?_
  refine g_lconst (v := lN 0) dX4_weigh_11 (by decide) ?_
  refine cVvE (st := []) dX4_weigh_12 (c_become G (d + 2) n ex (g_up h 125 (.inl (0, 31, .inl (upd f 0 (nI 1))))) hw1 ha1 (by decide) (by decide) (by decide +kernel)) sX4_63 hsr.cell rfl rfl (by simp only [g_rm]; omega) (by simp only [g_rm]; omega) (Nat.le_of_ble_eq_true rfl) ⟨Nat.le_of_ble_eq_true rfl, Nat.le_of_ble_eq_true rfl⟩ (fun h1 fr2 p3 => ?_)
  have hs0 := p3
  obtain ⟨x2, g2, hw2, ha2⟩ := hzr.fr fr2 (by intro q; simp only [List.mem_cons, List.not_mem_nil, or_false] at q; omega) (by intro q; simp only [List.mem_cons, List.not_mem_nil, or_false] at q; omega)
  have hzr : Wr h1 135 136 40 := ⟨x2, g2, hw2, ha2⟩
  have hterm := hterm.fr fr2 (by intro q; simp only [List.mem_cons, List.not_mem_nil, or_false] at q; omega) (by intro q; simp only [List.mem_cons, List.not_mem_nil, or_false] at q; omega)
  refine g_aload_n dX4_weigh_15 rfl rfl ?_
  refine g_getf dX4_weigh_16 fX4_37 (fr2.at (by intro q; simp only [List.mem_cons, List.not_mem_nil, or_false] at q; omega) (g_ne (by decide) o1)) rfl ?_
  refine g_lconst (v := lN 0) dX4_weigh_19 (by decide) ?_
  refine cVvE (st := []) dX4_weigh_20 (c_become G (d + 2) n ex h1 hw2 ha2 (by decide) (by decide) (by decide +kernel)) sX4_63 hzr.cell rfl rfl (by simp only [g_rm]; omega) (by simp only [g_rm]; omega) (Nat.le_of_ble_eq_true rfl) ⟨Nat.le_of_ble_eq_true rfl, Nat.le_of_ble_eq_true rfl⟩ (fun h5 fr6 p7 => ?_)
  have hz0 := p7
  have hs0 := hs0.fr fr6 (by intro q; simp only [List.mem_cons, List.not_mem_nil, or_false] at q; omega) (by intro q; simp only [List.mem_cons, List.not_mem_nil, or_false] at q; omega)
  have hterm := hterm.fr fr6 (by intro q; simp only [List.mem_cons, List.not_mem_nil, or_false] at q; omega) (by intro q; simp only [List.mem_cons, List.not_mem_nil, or_false] at q; omega)
  refine g_lconst (v := lN 1) dX4_weigh_23 (by decide) ?_
  refine g_lstore (ls' := [(5, .long (lN 1)), (0, .ref 123), (1, .int (nI nn)), (2, .int (nI x)), (3, .int (nI y)), (4, .int (nI z))]) dX4_weigh_24 (by decide) rfl ?_
  refine g_iconst (v := nI 1) dX4_weigh_26 (by decide) ?_
  refine g_istore (ls' := [(7, .int (nI 1)), (5, .long (lN 1)), (0, .ref 123), (1, .int (nI nn)), (2, .int (nI x)), (3, .int (nI y)), (4, .int (nI z))]) dX4_weigh_27 (by decide) rfl ?_
  refine g_pick [0, 1, 2, 3, 4, 5, 6] (ls' := [(7, .int (nI 1)), (5, .long (lN 1)), (0, .ref 123), (1, .int (nI nn)), (2, .int (nI x)), (3, .int (nI y)), (4, .int (nI z))]) rfl ?_
  rw [show lN 1 = lN (bn nn 0) by rw [bn_00]]
  exact lp_weigh G d n ex h hlf hnn hxy hz (nn + 1) 0 _ _ (by omega) (by omega) (fr6.at (by intro q; simp only [List.mem_cons, List.not_mem_nil, or_false] at q; omega) (fr2.at (by intro q; simp only [List.mem_cons, List.not_mem_nil, or_false] at q; omega) (g_ne (by decide) o1))) (fr6.at (by intro q; simp only [List.mem_cons, List.not_mem_nil, or_false] at q; omega) (fr2.at (by intro q; simp only [List.mem_cons, List.not_mem_nil, or_false] at q; omega) (g_ne (by decide) o2))) (fr6.at (by intro q; simp only [List.mem_cons, List.not_mem_nil, or_false] at q; omega) (fr2.at (by intro q; simp only [List.mem_cons, List.not_mem_nil, or_false] at q; omega) g_eq)) (fun a ha => (by rw [show a = 0 by omega]; rfl)) hs0 hterm hz0 (((g_fr.rf.up (by simp)).tr fr2 (by simp)).tr fr6 (by simp))
