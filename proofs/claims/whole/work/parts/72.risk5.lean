def k_risk (sg mm : Nat) (i n x y z : Int32) : Nat := if sg = 0 then 1 else if ¬ (0 ≤ i ∧ i < nI mm) then 2 else if ¬ (nI 0 ≤ n ∧ n ≤ nI 30) then 3 else if ¬ (nI 1 ≤ z ∧ z ≤ nI 20000) then 3 else if ¬ (nI 0 ≤ x ∧ x ≤ z) then 3 else if ¬ (nI 0 ≤ y ∧ y ≤ z - x) then 3 else 0
theorem dec1 (b : Bool) : (if b = true then (1 : Nat) else 0) ≤ 1 := by cases b <;> decide
theorem ri_room {z j n : Nat} (hz : z ≤ 20000) (hj : j ≤ 31) : z ^ j * 40000 ≤ 40000 ^ 32 := by
  have h1 : z ^ j ≤ 40000 ^ 31 := Nat.le_trans (Nat.pow_le_pow_left (by omega) j) (Nat.pow_le_pow_right (by decide) hj)
  exact Nat.mul_le_mul_right 40000 h1
theorem zp_ {z j : Nat} (hz : z ≤ 20000) (hj : j ≤ 30) : z * z ^ j < 65536 ^ 40 := by
  have h1 : z * z ^ j ≤ 20000 * 20000 ^ 30 := Nat.mul_le_mul hz (Nat.le_trans (Nat.pow_le_pow_left hz j) (Nat.pow_le_pow_right (by decide) hj))
  exact Nat.lt_of_le_of_lt h1 (by decide +kernel)
theorem AA_room {su : Nat → Nat → Bool} {o x y n j : Nat} (hz : o + x + y ≤ 20000) (hn : n ≤ 30) (hj : j ≤ 30) : AA su o x y (o + x + y) n j ≤ 40000 ^ 32 ∧ AA su o x y (o + x + y) n j * (o + x + y) + 1000 * ((o + x + y) * (o + x + y) ^ j) ≤ 40000 ^ 34 := by
  have h1 := AA_le su o x y n j hn
  have h2 : (o + x + y) ^ j ≤ 20000 ^ 30 := Nat.le_trans (Nat.pow_le_pow_left hz j) (Nat.pow_le_pow_right (by decide) hj)
  have h3 : j * (961 * (o + x + y) ^ j) ≤ 30 * (961 * 20000 ^ 30) := Nat.mul_le_mul hj (Nat.mul_le_mul_left _ h2)
  have h4 : AA su o x y (o + x + y) n j ≤ 30 * (961 * 20000 ^ 30) := Nat.le_trans h1 h3
  have h5 : AA su o x y (o + x + y) n j * (o + x + y) ≤ 30 * (961 * 20000 ^ 30) * 20000 := Nat.mul_le_mul h4 hz
  have h6 : (o + x + y) * (o + x + y) ^ j ≤ 20000 * 20000 ^ 30 := Nat.mul_le_mul hz h2
  have h7 : 30 * (961 * 20000 ^ 30) ≤ 40000 ^ 32 := by decide +kernel
  have h8 : 30 * (961 * 20000 ^ 30) * 20000 + 1000 * (20000 * 20000 ^ 30) ≤ 40000 ^ 34 := by decide +kernel
  exact ⟨Nat.le_trans h4 h7, Nat.le_trans (Nat.add_le_add h5 (Nat.mul_le_mul_left 1000 h6)) h8⟩
set_option maxHeartbeats 4000000 in
set_option maxRecDepth 100000 in
theorem lp_ri1 (G : gG) (d : Nat) (KK : gK) (n : Nat) (ex : Bool) (h0 : gH) {cd wt : Int32} {s : Nat → Nat} {k m sg cm sd mm dr dd bk rt : Nat} {v w l : Nat → Nat} {V : Nat → Option Nat} {ii nn x y z : Nat} {a : Nat} (hnn : nn ≤ 30) (hii : ii < mm) (hmm : mm ≤ 16) (hwl : ∀ k, k < mm → w k < 8 ∧ l k < 8) (hV : ∀ k, k < mm → v (l k) < v (w k) ∧ v (w k) ≤ 20000) (hl1 : s 9 ≤ 1000000) (hl2 : s 10 ≤ 1000000) (ha : a ≤ nn) (kk : ∀ (h : gH) (V1 : Nat → Option Nat) (S : Nat → Nat), Bn h (MX cd s k m sg cm sd mm dr dd bk rt wt) V1 → (∀ u, ¬ u = 2 → ¬ u = 3 → V1 u = V u) → h 143 = some (.inl (0, 8, .inl (fun k => nI (v k)))) → h 149 = some (.inl (0, 16, .inl (fun k => nI (w k)))) → h 150 = some (.inl (0, 16, .inl (fun k => nI (l k)))) → h 166 = some (.inl (2, 961, .inl (fun k => nI (S k)))) → (∀ j, S j ≤ 1) → (∀ p q, p + q ≤ nn → (p < a ∨ (p = a ∧ q < (nn + 1 - a))) → S (31 * p + q) = if (fun a b => decide (t_ge v (s 9) (s 10) (w ii) (l ii) a b)) p q then 1 else 0) → g_fr [156, 157, 166] h0 h → g_W G mX11_risk (g_rm (d + 4) 0 0) KK n ex h 0 0 154 [(8, .int (nI (nn + 1 - a))), (7, .int (nI a)), (0, .ref 142), (1, .int (nI ii)), (2, .int (nI nn)), (3, .int (nI x)), (4, .int (nI y)), (5, .int (nI z))] []) : ∀ (t b : Nat) (h : gH) (V1 : Nat → Option Nat) (S : Nat → Nat), nn + 1 - a - b < t → a + b ≤ nn + 1 → Bn h (MX cd s k m sg cm sd mm dr dd bk rt wt) V1 → (∀ u, ¬ u = 2 → ¬ u = 3 → V1 u = V u) → h 143 = some (.inl (0, 8, .inl (fun k => nI (v k)))) → h 149 = some (.inl (0, 16, .inl (fun k => nI (w k)))) → h 150 = some (.inl (0, 16, .inl (fun k => nI (l k)))) → h 166 = some (.inl (2, 961, .inl (fun k => nI (S k)))) → (∀ j, S j ≤ 1) → (∀ p q, p + q ≤ nn → (p < a ∨ (p = a ∧ q < b)) → S (31 * p + q) = if (fun a b => decide (t_ge v (s 9) (s 10) (w ii) (l ii) a b)) p q then 1 else 0) → g_fr [156, 157, 166] h0 h →
    g_W G mX11_risk (g_rm (d + 4) 0 0) KK n ex h 0 0 117 [(8, .int (nI b)), (7, .int (nI a)), (0, .ref 142), (1, .int (nI ii)), (2, .int (nI nn)), (3, .int (nI x)), (4, .int (nI y)), (5, .int (nI z))] [] := by
  intro t
  induction t with
  | zero => intro b h V1 S hm; exact absurd hm (by omega)
  | succ t ih =>
    intro b h V1 S ht hb hN hVV a3 a9 a10 e16 hS hs hf
    have m0 : Mc h cd s k m sg cm sd mm dr dd bk rt wt := hN.cell
    refine g_iload dX11_risk_117 rfl ?_
    refine g_iload dX11_risk_119 rfl ?_
    refine g_iaddN dX11_risk_121 ?_
    refine g_iload_n dX11_risk_122 rfl rfl ?_
    refine g_icmp_gtN (tgt := 154) dX11_risk_123 (by decide) (by omega) (by omega) (fun c123 => ?_) (fun c123 => ?_)
    · refine g_pick [0, 1, 2, 3, 4, 5, 6, 7] (ls' := [(8, .int (nI b)), (7, .int (nI a)), (0, .ref 142), (1, .int (nI ii)), (2, .int (nI nn)), (3, .int (nI x)), (4, .int (nI y)), (5, .int (nI z))]) rfl ?_
      have e : b = nn + 1 - a := by omega
      subst e
      exact kk _ V1 S hN hVV a3 a9 a10 e16 hS hs hf
    · refine g_aload_n dX11_risk_126 rfl rfl ?_
      refine g_getf (v := .ref 166) dX11_risk_127 fX11_179 m0 rfl ?_
      refine g_bipush (v := nI 31) dX11_risk_130 (by decide) ?_
      refine g_iload dX11_risk_132 rfl ?_
      refine g_imulN dX11_risk_134 ?_
      refine g_iload dX11_risk_135 rfl ?_
      refine g_iaddN dX11_risk_137 ?_
      refine g_aload_n dX11_risk_138 rfl rfl ?_
      refine g_iload_n dX11_risk_139 rfl rfl ?_
      refine g_iload dX11_risk_140 rfl ?_
      refine g_iload dX11_risk_142 rfl ?_
      refine cVi (st := [.int (nI ((31 * a) + b)), .ref 166]) dX11_risk_144 (c_isSure G d n ex h hN a3 a9 a10 hmm hwl hV (i := ii) (a := a) (b := b) hii (by omega) (by omega) hl1 hl2) sX11_321 m0 rfl rfl (by simp only [g_rm]; omega) (by simp only [g_rm]; omega) (Nat.le_of_ble_eq_true rfl) ⟨Nat.le_of_ble_eq_true rfl, Nat.le_of_ble_eq_true rfl⟩ (fun r4 h1 fr2 p3 => ?_)
      obtain ⟨e9, hN9⟩ := p3
      subst e9
      refine g_zastN dX11_risk_147 (fr2.at (by intro q; simp only [List.mem_cons, List.not_mem_nil, or_false] at q; omega) e16) (by omega) (by decide) ?_
      rw [nar_z (by split <;> decide), upd_nI]
      refine g_iincN (z := 1) (ls' := [(8, .int (nI (b + 1))), (7, .int (nI a)), (0, .ref 142), (1, .int (nI ii)), (2, .int (nI nn)), (3, .int (nI x)), (4, .int (nI y)), (5, .int (nI z))]) dX11_risk_148 rfl (by decide) rfl ?_
      refine g_goto (tgt := 117) dX11_risk_151 (by decide) ?_
      refine g_pick [0, 1, 2, 3, 4, 5, 6, 7] (ls' := [(8, .int (nI (b + 1))), (7, .int (nI a)), (0, .ref 142), (1, .int (nI ii)), (2, .int (nI nn)), (3, .int (nI x)), (4, .int (nI y)), (5, .int (nI z))]) rfl ?_
      refine ih (b + 1) _ _ (va_up S ((31 * a) + b) (if t_ge v (s 9) (s 10) (w ii) (l ii) a b then 1 else 0)) (by omega) (by omega) (hN9.fr (S := [166]) (g_fr.rf.up (by simp)) (by simp) (by simp) (by simp)) (fun u h2 h3 => (va_n h3).trans ((va_n h2).trans (hVV u h2 h3))) (g_ne (by decide) (fr2.at (by intro q; simp only [List.mem_cons, List.not_mem_nil, or_false] at q; omega) a3)) (g_ne (by decide) (fr2.at (by intro q; simp only [List.mem_cons, List.not_mem_nil, or_false] at q; omega) a9)) (g_ne (by decide) (fr2.at (by intro q; simp only [List.mem_cons, List.not_mem_nil, or_false] at q; omega) a10)) g_eq (up_le hS (by split <;> decide)) (fun p q hpq hc => ?_) (((hf).tr fr2 (by simp)).up (by simp))
      by_cases zz : p = a ∧ q = b
      · obtain ⟨rfl, rfl⟩ := zz; rw [va_s]; simp only [decide_eq_true_eq]
      · rw [va_n (by omega)]; exact hs p q hpq (by omega)
set_option maxHeartbeats 4000000 in
set_option maxRecDepth 100000 in
theorem lp_ri2 (G : gG) (d : Nat) (KK : gK) (n : Nat) (ex : Bool) (h0 : gH) {cd wt : Int32} {s : Nat → Nat} {k m sg cm sd mm dr dd bk rt : Nat} {v w l : Nat → Nat} {V : Nat → Option Nat} {ii nn x y z : Nat} (hnn : nn ≤ 30) (hii : ii < mm) (hmm : mm ≤ 16) (hwl : ∀ k, k < mm → w k < 8 ∧ l k < 8) (hV : ∀ k, k < mm → v (l k) < v (w k) ∧ v (w k) ≤ 20000) (hl1 : s 9 ≤ 1000000) (hl2 : s 10 ≤ 1000000) (kk : ∀ (h : gH) (V1 : Nat → Option Nat) (S : Nat → Nat), Bn h (MX cd s k m sg cm sd mm dr dd bk rt wt) V1 → (∀ u, ¬ u = 2 → ¬ u = 3 → V1 u = V u) → h 143 = some (.inl (0, 8, .inl (fun k => nI (v k)))) → h 149 = some (.inl (0, 16, .inl (fun k => nI (w k)))) → h 150 = some (.inl (0, 16, .inl (fun k => nI (l k)))) → h 166 = some (.inl (2, 961, .inl (fun k => nI (S k)))) → (∀ j, S j ≤ 1) → (∀ p q, p + q ≤ nn → S (31 * p + q) = if (fun a b => decide (t_ge v (s 9) (s 10) (w ii) (l ii) a b)) p q then 1 else 0) → g_fr [156, 157, 166] h0 h → g_W G mX11_risk (g_rm (d + 4) 0 0) KK n ex h 0 0 160 [(7, .int (nI (nn + 1))), (0, .ref 142), (1, .int (nI ii)), (2, .int (nI nn)), (3, .int (nI x)), (4, .int (nI y)), (5, .int (nI z))] []) : ∀ (t a : Nat) (h : gH) (V1 : Nat → Option Nat) (S : Nat → Nat), nn + 1 - a < t → a ≤ nn + 1 → Bn h (MX cd s k m sg cm sd mm dr dd bk rt wt) V1 → (∀ u, ¬ u = 2 → ¬ u = 3 → V1 u = V u) → h 143 = some (.inl (0, 8, .inl (fun k => nI (v k)))) → h 149 = some (.inl (0, 16, .inl (fun k => nI (w k)))) → h 150 = some (.inl (0, 16, .inl (fun k => nI (l k)))) → h 166 = some (.inl (2, 961, .inl (fun k => nI (S k)))) → (∀ j, S j ≤ 1) → (∀ p q, p + q ≤ nn → (p < a ∨ (p = a ∧ q < 0)) → S (31 * p + q) = if (fun a b => decide (t_ge v (s 9) (s 10) (w ii) (l ii) a b)) p q then 1 else 0) → g_fr [156, 157, 166] h0 h →
    g_W G mX11_risk (g_rm (d + 4) 0 0) KK n ex h 0 0 108 [(7, .int (nI a)), (0, .ref 142), (1, .int (nI ii)), (2, .int (nI nn)), (3, .int (nI x)), (4, .int (nI y)), (5, .int (nI z))] [] := by
  intro t
  induction t with
  | zero => intro a h V1 S hm; exact absurd hm (by omega)
  | succ t ih =>
    intro a h V1 S ht ha hN hVV a3 a9 a10 e16 hS hs hf
    refine g_iload dX11_risk_108 rfl ?_
    refine g_iload_n dX11_risk_110 rfl rfl ?_
    refine g_icmp_gtN (tgt := 160) dX11_risk_111 (by decide) (by omega) (by omega) (fun c111 => ?_) (fun c111 => ?_)
    · refine g_pick [0, 1, 2, 3, 4, 5, 6] (ls' := [(7, .int (nI a)), (0, .ref 142), (1, .int (nI ii)), (2, .int (nI nn)), (3, .int (nI x)), (4, .int (nI y)), (5, .int (nI z))]) rfl ?_
      have e : a = nn + 1 := by omega
      subst e
      exact kk _ V1 S hN hVV a3 a9 a10 e16 hS (fun p q hpq => hs p q hpq (by omega)) hf
    · refine g_iconst (v := nI 0) dX11_risk_114 (by decide) ?_
      refine g_istore (ls' := [(8, .int (nI 0)), (7, .int (nI a)), (0, .ref 142), (1, .int (nI ii)), (2, .int (nI nn)), (3, .int (nI x)), (4, .int (nI y)), (5, .int (nI z))]) dX11_risk_115 (by decide) rfl ?_
      refine g_pick [0, 1, 2, 3, 4, 5, 6, 7] (ls' := [(8, .int (nI 0)), (7, .int (nI a)), (0, .ref 142), (1, .int (nI ii)), (2, .int (nI nn)), (3, .int (nI x)), (4, .int (nI y)), (5, .int (nI z))]) rfl ?_
      refine lp_ri1 G d _ n ex h0 hnn hii hmm hwl hV hl1 hl2 (by omega) (fun h2 V2 S2 x1 x2 x3 x4 x5 x6 x7 x8 x9 => ?_) (nn + 2) 0 h V1 S (by omega) (by omega) hN hVV a3 a9 a10 e16 hS hs hf
      refine g_iincN (z := 1) (ls' := [(7, .int (nI (a + 1))), (8, .int (nI (nn + 1 - a))), (0, .ref 142), (1, .int (nI ii)), (2, .int (nI nn)), (3, .int (nI x)), (4, .int (nI y)), (5, .int (nI z))]) dX11_risk_154 rfl (by decide) rfl ?_
      refine g_goto (tgt := 108) dX11_risk_157 (by decide) ?_
      refine g_pick [0, 2, 3, 4, 5, 6, 7] (ls' := [(7, .int (nI (a + 1))), (0, .ref 142), (1, .int (nI ii)), (2, .int (nI nn)), (3, .int (nI x)), (4, .int (nI y)), (5, .int (nI z))]) rfl ?_
      exact ih (a + 1) h2 V2 S2 (by omega) (by omega) x1 x2 x3 x4 x5 x6 x7 (fun p q hpq hc => x8 p q hpq (by omega)) x9
set_option maxHeartbeats 4000000 in
set_option maxRecDepth 100000 in
theorem lp_ri3 (G : gG) (R : Room) (KK : gK) (n : Nat) (ex : Bool) (h0 : gH) {cd wt : Int32} {s : Nat → Nat} {k m sg cm sd mm dr dd bk rt : Nat} {ii nn x y z : Nat} (kk : ∀ (h : gH) (B : Nat → Nat), Mc h cd s k m sg cm sd mm dr dd bk rt wt → h 158 = some (.inl (0, 77000, .inl (fun k => nI (B k)))) → (∀ j, B j < 65536) → (∀ k, k < 38440 → B k = 0) → g_fr [158] h0 h → g_W G mX11_risk R KK n ex h 0 0 185 [(7, .int (nI 38440)), (0, .ref 142), (1, .int (nI ii)), (2, .int (nI nn)), (3, .int (nI x)), (4, .int (nI y)), (5, .int (nI z))] []) : ∀ (t i : Nat) (h : gH) (B : Nat → Nat), 38440 - i < t → i ≤ 38440 → Mc h cd s k m sg cm sd mm dr dd bk rt wt → h 158 = some (.inl (0, 77000, .inl (fun k => nI (B k)))) → (∀ j, B j < 65536) → (∀ k, k < i → B k = 0) → g_fr [158] h0 h →
    g_W G mX11_risk R KK n ex h 0 0 163 [(7, .int (nI i)), (0, .ref 142), (1, .int (nI ii)), (2, .int (nI nn)), (3, .int (nI x)), (4, .int (nI y)), (5, .int (nI z))] [] := by
  intro t
  induction t with
  | zero => intro i h B hm; exact absurd hm (by omega)
  | succ t ih =>
    intro i h B ht hi m0 e8 hB hz hf
    refine g_iload dX11_risk_163 rfl ?_
    refine g_ldcw dX11_risk_165 kX11_314 rfl ?_
    refine g_top (show (38440 : Int32) = nI 38440 by decide) ?_
    refine g_icmp_geN (tgt := 185) dX11_risk_168 (by decide) (by omega) (by decide) (fun c168 => ?_) (fun c168 => ?_)
    · refine g_pick [0, 1, 2, 3, 4, 5, 6] (ls' := [(7, .int (nI i)), (0, .ref 142), (1, .int (nI ii)), (2, .int (nI nn)), (3, .int (nI x)), (4, .int (nI y)), (5, .int (nI z))]) rfl ?_
      have e : i = 38440 := by omega
      subst e
      exact kk _ B m0 e8 hB hz hf
    · refine g_aload_n dX11_risk_171 rfl rfl ?_
      refine g_getf (v := .ref 158) dX11_risk_172 fX11_83 m0 rfl ?_
      refine g_iload dX11_risk_175 rfl ?_
      refine g_iconst (v := nI 0) dX11_risk_177 (by decide) ?_
      refine g_iastN dX11_risk_178 e8 (by omega) (by decide) ?_
      rw [upd_nI]
      refine g_iincN (z := 1) (ls' := [(7, .int (nI (i + 1))), (0, .ref 142), (1, .int (nI ii)), (2, .int (nI nn)), (3, .int (nI x)), (4, .int (nI y)), (5, .int (nI z))]) dX11_risk_179 rfl (by decide) rfl ?_
      refine g_goto (tgt := 163) dX11_risk_182 (by decide) ?_
      refine g_pick [0, 1, 2, 3, 4, 5, 6] (ls' := [(7, .int (nI (i + 1))), (0, .ref 142), (1, .int (nI ii)), (2, .int (nI nn)), (3, .int (nI x)), (4, .int (nI y)), (5, .int (nI z))]) rfl ?_
      exact ih (i + 1) _ (va_up B i 0) (by omega) (by omega) (g_ne (by decide) m0) g_eq (up_b hB (by decide)) (fun k hk => by by_cases q : k = i; (rw [q, va_s]); (rw [va_n q]; exact hz k (by omega))) (hf.up (by simp))
set_option maxHeartbeats 4000000 in
set_option maxRecDepth 100000 in
theorem lp_ri4 (G : gG) (d : Nat) (KK : gK) (n : Nat) (ex : Bool) (h0 : gH) {cd wt : Int32} {s : Nat → Nat} {k m sg cm sd mm dr dd bk rt : Nat} {su : Nat → Nat → Bool} {S : Nat → Nat} {V : Nat → Option Nat} {ii nn x y z : Nat} (hnn : nn ≤ 30) (hz1 : 1 ≤ z) (hz2 : z ≤ 20000) (hxz : x ≤ z) (hyz : y ≤ z - x) (hS : ∀ j, S j ≤ 1) (hSs : ∀ p q, p + q ≤ nn → S (31 * p + q) = if su p q then 1 else 0) (kk : ∀ (h : gH) (V1 : Nat → Option Nat) (O B : Nat → Nat), Bn h (MX cd s k m sg cm sd mm dr dd bk rt wt) V1 → V1 0 = some (AA su (z - x - y) x y (z - x - y + x + y) nn nn) → V1 1 = some (z ^ nn) → (∀ u, ¬ u = 0 → ¬ u = 1 → ¬ u = 2 → ¬ u = 3 → V1 u = V u) → h 158 = some (.inl (0, 77000, .inl (fun k => nI (O k)))) → h 159 = some (.inl (0, 77000, .inl (fun k => nI (B k)))) → h 166 = some (.inl (2, 961, .inl (fun k => nI (S k)))) → (∀ j, O j < 65536) → (∀ j, B j < 65536) → (∀ p q, p + q ≤ nn → bv O (40 * (31 * p + q)) 40 = (UU su (z - x - y) x y nn) p q) → g_fr [156, 157, 158, 159] h0 h → g_W G mX11_risk (g_rm (d + 4) 0 0) KK n ex h 0 0 250 [(7, .int (nI nn)), (0, .ref 142), (1, .int (nI ii)), (2, .int (nI nn)), (3, .int (nI x)), (4, .int (nI y)), (5, .int (nI z))] []) : ∀ (t j : Nat) (h : gH) (V1 : Nat → Option Nat) (O B : Nat → Nat), nn - j < t → j ≤ nn → Bn h (MX cd s k m sg cm sd mm dr dd bk rt wt) V1 → V1 0 = some (AA su (z - x - y) x y (z - x - y + x + y) nn j) → V1 1 = some (z ^ j) → (∀ u, ¬ u = 0 → ¬ u = 1 → ¬ u = 2 → ¬ u = 3 → V1 u = V u) → h 158 = some (.inl (0, 77000, .inl (fun k => nI (O k)))) → h 159 = some (.inl (0, 77000, .inl (fun k => nI (B k)))) → h 166 = some (.inl (2, 961, .inl (fun k => nI (S k)))) → (∀ j, O j < 65536) → (∀ j, B j < 65536) → (∀ p q, p + q ≤ nn → bv O (40 * (31 * p + q)) 40 = (UU su (z - x - y) x y j) p q) → g_fr [156, 157, 158, 159] h0 h →
    g_W G mX11_risk (g_rm (d + 4) 0 0) KK n ex h 0 0 207 [(7, .int (nI j)), (0, .ref 142), (1, .int (nI ii)), (2, .int (nI nn)), (3, .int (nI x)), (4, .int (nI y)), (5, .int (nI z))] [] := by
  have ez : z - x - y + x + y = z := by omega
  intro t
  induction t with
  | zero => intro j h V1 O B hm; exact absurd hm (by omega)
  | succ t ih =>
    intro j h V1 O B ht hj hN hv0 hv1 hVV e8 e9 e16 hO hB hu hf
    have m0 : Mc h cd s k m sg cm sd mm dr dd bk rt wt := hN.cell
    refine g_iload dX11_risk_207 rfl ?_
    refine g_iload_n dX11_risk_209 rfl rfl ?_
    refine g_icmp_geN (tgt := 250) dX11_risk_210 (by decide) (by omega) (by omega) (fun c210 => ?_) (fun c210 => ?_)
    · refine g_pick [0, 1, 2, 3, 4, 5, 6] (ls' := [(7, .int (nI j)), (0, .ref 142), (1, .int (nI ii)), (2, .int (nI nn)), (3, .int (nI x)), (4, .int (nI y)), (5, .int (nI z))]) rfl ?_
      have e : j = nn := by omega
      subst e
      exact kk _ V1 O B hN hv0 hv1 hVV e8 e9 e16 hO hB hu hf
    · have hra := AA_room (su := su) (o := z - x - y) (x := x) (y := y) (n := nn) (j := j) (by omega) hnn (by omega)
      rw [ez] at hra
      have rm2 : (AA su (z - x - y) x y (z - x - y + x + y) nn j) * z + 1000 * (z * z ^ j) < RM := pr_room (by rw [ez]; exact hra.2) (by decide)
      have rm0 : (AA su (z - x - y) x y (z - x - y + x + y) nn j) * z < RM := by omega
      have rm1 : z ^ j * z < RM := pr_room (e := 32) (by rw [← Nat.pow_succ]; exact Nat.le_trans (Nat.pow_le_pow_left (show z ≤ 40000 by omega) _) (Nat.pow_le_pow_right (by decide) (by omega))) (by decide)
      refine g_aload_n dX11_risk_213 rfl rfl ?_
      refine g_iconst (v := nI 0) dX11_risk_214 (by decide) ?_
      refine g_iload dX11_risk_215 rfl ?_
      refine g_i2lN dX11_risk_217 (by omega) ?_
      refine cVv (st := []) dX11_risk_218 (c_mtimes G (d + 2) n ex h hN (s := 0) (F := z) (by decide) hv0 (by omega) rm0) sX11_192 m0 rfl rfl (by simp only [g_rm]; omega) (by simp only [g_rm]; omega) (Nat.le_of_ble_eq_true rfl) ⟨Nat.le_of_ble_eq_true rfl, Nat.le_of_ble_eq_true rfl⟩ (fun h1 fr2 p3 => ?_)
      have hN5 := p3
      refine g_aload_n dX11_risk_221 rfl rfl ?_
      refine g_iconst (v := nI 1) dX11_risk_222 (by decide) ?_
      refine g_iload dX11_risk_223 rfl ?_
      refine g_i2lN dX11_risk_225 (by omega) ?_
      refine cVv (st := []) dX11_risk_226 (c_mtimes G (d + 2) n ex h1 hN5 (s := 1) (F := z) (by decide) ((va_n (by decide)).trans hv1) (by omega) rm1) sX11_192 (fr2.at (by intro q; simp only [List.mem_cons, List.not_mem_nil, or_false] at q; omega) m0) rfl rfl (by simp only [g_rm]; omega) (by simp only [g_rm]; omega) (Nat.le_of_ble_eq_true rfl) ⟨Nat.le_of_ble_eq_true rfl, Nat.le_of_ble_eq_true rfl⟩ (fun h6 fr7 p8 => ?_)
      have hN10 := p8
      refine g_aload_n dX11_risk_229 rfl rfl ?_
      refine g_iload_n dX11_risk_230 rfl rfl ?_
      refine g_iload_n dX11_risk_231 rfl rfl ?_
      refine g_iload dX11_risk_232 rfl ?_
      refine g_iload dX11_risk_234 rfl ?_
      refine g_iload_n dX11_risk_236 rfl rfl ?_
      refine g_isubN dX11_risk_237 (by omega) ?_
      refine g_iload dX11_risk_238 rfl ?_
      refine g_isubN dX11_risk_240 (by omega) ?_
      refine cVv (st := []) dX11_risk_241 (c_goOn G (d + 1) n ex h6 (nn := nn) (x := x) (y := y) (o := z - x - y) (Z := z ^ j) (A := (AA su (z - x - y) x y (z - x - y + x + y) nn j) * z) (u := (UU su (z - x - y) x y j)) (su := su) (S := S) hnn (by omega) hO hB hu (fun p q => by have := UU_le su (z - x - y) x y j p q; rw [ez] at this; exact this) (by rw [ez]; exact zp_ hz2 (by omega)) hS hSs (by have h9 := rm2; rw [ez] at h9 ⊢; exact h9) hN10 ((va_n (by decide)).trans va_s) (fr7.at (by intro q; simp only [List.mem_cons, List.not_mem_nil, or_false] at q; omega) (fr2.at (by intro q; simp only [List.mem_cons, List.not_mem_nil, or_false] at q; omega) e8)) (fr7.at (by intro q; simp only [List.mem_cons, List.not_mem_nil, or_false] at q; omega) (fr2.at (by intro q; simp only [List.mem_cons, List.not_mem_nil, or_false] at q; omega) e9)) (fr7.at (by intro q; simp only [List.mem_cons, List.not_mem_nil, or_false] at q; omega) (fr2.at (by intro q; simp only [List.mem_cons, List.not_mem_nil, or_false] at q; omega) e16))) sX11_325 (fr7.at (by intro q; simp only [List.mem_cons, List.not_mem_nil, or_false] at q; omega) (fr2.at (by intro q; simp only [List.mem_cons, List.not_mem_nil, or_false] at q; omega) m0)) rfl rfl (by simp only [g_rm]; omega) (by simp only [g_rm]; omega) (Nat.le_of_ble_eq_true rfl) ⟨Nat.le_of_ble_eq_true rfl, Nat.le_of_ble_eq_true rfl⟩ (fun h11 fr12 p13 => ?_)
      obtain ⟨O9, B9, V9, y1, y2, y3, y4, y5, y6, y7, y8⟩ := p13
      refine g_iincN (z := 1) (ls' := [(7, .int (nI (j + 1))), (0, .ref 142), (1, .int (nI ii)), (2, .int (nI nn)), (3, .int (nI x)), (4, .int (nI y)), (5, .int (nI z))]) dX11_risk_244 rfl (by decide) rfl ?_
      refine g_goto (tgt := 207) dX11_risk_247 (by decide) ?_
      refine g_pick [0, 1, 2, 3, 4, 5, 6] (ls' := [(7, .int (nI (j + 1))), (0, .ref 142), (1, .int (nI ii)), (2, .int (nI nn)), (3, .int (nI x)), (4, .int (nI y)), (5, .int (nI z))]) rfl ?_
      exact ih (j + 1) h11 V9 O9 B9 (by omega) (by omega) y6 (by rw [y7]; show _ = some ((AA su (z - x - y) x y (z - x - y + x + y) nn j) * (z - x - y + x + y) + _); rw [ez]) (by rw [y8 1 (by decide) (by decide), va_s, Nat.pow_succ]) (fun u h0 h1 h2 h3 => (y8 u h0 h2).trans ((va_n h1).trans ((va_n h0).trans (hVV u h0 h1 h2 h3)))) y1 y4 (fr12.at (by intro q; simp only [List.mem_cons, List.not_mem_nil, or_false] at q; omega) (fr7.at (by intro q; simp only [List.mem_cons, List.not_mem_nil, or_false] at q; omega) (fr2.at (by intro q; simp only [List.mem_cons, List.not_mem_nil, or_false] at q; omega) e16))) y2 y5 y3 ((((hf).tr fr2 (by simp)).tr fr7 (by simp)).tr fr12 (by simp))
theorem Bv.le {h : gH} {V V' : Nat → Option Nat} (z : Bv h V) (hv : ∀ s, s < 9 → V' s = V s ∨ V' s = none) : Bv h V' := by
  obtain ⟨B, Z, z1, z2, z3, z4⟩ := z
  refine ⟨B, Z, z1, z2, z3, fun s hs => ?_⟩
  rcases hv s hs with q | q
  · rw [q]; exact z4 s hs
  · rw [q]; trivial
set_option maxHeartbeats 4000000 in
set_option maxRecDepth 100000 in
theorem c_mrisk (G : gG) (d n : Nat) (ex : Bool) (h : gH) {cd wt : Int32} {s : Nat → Nat} {k m sg cm sd mm dr dd bk rt : Nat} {v w l O Bx S0 : Nat → Nat} {V : Nat → Option Nat} {i_ n_ x_ y_ z_ : Int32} (m0 : Mc h cd s k m sg cm sd mm dr dd bk rt wt) (hBv : Bv h V) (a3 : h 143 = some (.inl (0, 8, .inl (fun k => nI (v k))))) (a9 : h 149 = some (.inl (0, 16, .inl (fun k => nI (w k))))) (a10 : h 150 = some (.inl (0, 16, .inl (fun k => nI (l k))))) (e8 : h 158 = some (.inl (0, 77000, .inl (fun k => nI (O k))))) (e9 : h 159 = some (.inl (0, 77000, .inl (fun k => nI (Bx k))))) (e16 : h 166 = some (.inl (2, 961, .inl (fun k => nI (S0 k))))) (hO : ∀ j, O j < 65536) (hBx : ∀ j, Bx j < 65536) (hS0 : ∀ j, S0 j ≤ 1) (hmm : mm ≤ 16) (hwl : ∀ k, k < mm → w k < 8 ∧ l k < 8) (hV : ∀ k, k < mm → v (l k) < v (w k) ∧ v (w k) ≤ 20000) (hl1 : s 9 ≤ 1000000) (hl2 : s 10 ≤ 1000000) (hll : s 9 < s 10) (hsg : sg < 2 ^ 31) : g_M G mX11_risk (d + 5) 0 0 [.ref 142, .int i_, .int n_, .int x_, .int y_, .int z_] n ex h (q_i n ex [142, 156, 157, 158, 159, 166] h (fun r h' => (¬ k_risk sg mm i_ n_ x_ y_ z_ = 0 ∧ Mc h' (nI (k_risk sg mm i_ n_ x_ y_ z_)) s k m sg cm sd mm dr dd bk rt wt ∧ g_fr [142] h h') ∨ (k_risk sg mm i_ n_ x_ y_ z_ = 0 ∧ r = nI (if (un z_) ^ (un n_) * s 9 < (Tt (fun a b => decide (t_ge v (s 9) (s 10) (w (un i_)) (l (un i_)) a b)) (un n_) (un x_) (un y_) (un z_ - un x_ - un y_) (un n_)) * s 10 then 1 else 0) ∧ Mc h' (nI (k_risk sg mm i_ n_ x_ y_ z_)) s k m sg cm sd mm dr dd bk rt wt ∧ Bv h' (lowV V (Tt (fun a b => decide (t_ge v (s 9) (s 10) (w (un i_)) (l (un i_)) a b)) (un n_) (un x_) (un y_) (un z_ - un x_ - un y_) (un n_)) ((un z_) ^ (un n_))) ∧ (∃ S : Nat → Nat, h' 166 = some (.inl (2, 961, .inl (fun k => nI (S k)))) ∧ ∀ j, S j ≤ 1) ∧ (∃ O : Nat → Nat, h' 158 = some (.inl (0, 77000, .inl (fun k => nI (O k)))) ∧ ∀ j, O j < 65536) ∧ ∃ O : Nat → Nat, h' 159 = some (.inl (0, 77000, .inl (fun k => nI (O k)))) ∧ ∀ j, O j < 65536))) := by
  refine g_enter (by decide) (Nat.le_of_ble_eq_true rfl) ?_
  show g_W G _ _ _ n ex h 0 0 0 [(0, .ref 142), (1, .int i_), (2, .int n_), (3, .int x_), (4, .int y_), (5, .int z_)] []
  refine g_iload_n dX11_risk_0 rfl rfl ?_
  refine g_if_lt (tgt := 52) dX11_risk_1 (by decide) (fun c1 => ?_) (fun c1 => ?_)
  · refine g_iconst (v := nI 0) dX11_risk_52 (by decide) ?_
    refine g_istore (ls' := [(6, .int (nI 0)), (0, .ref 142), (1, .int i_), (2, .int n_), (3, .int x_), (4, .int y_), (5, .int z_)]) dX11_risk_53 (by decide) rfl ?_
    refine g_aload_n dX11_risk_55 rfl rfl ?_
    refine g_aload_n dX11_risk_56 rfl rfl ?_
    refine g_getf (v := .int (nI sg)) dX11_risk_57 fX11_231 m0 rfl ?_
    refine g_if_neN (tgt := 67) dX11_risk_60 (by decide) (by omega) (fun c60 => ?_) (fun c60 => ?_)
    · refine g_iload_n dX11_risk_67 rfl rfl ?_
      refine g_if_lt (tgt := 79) dX11_risk_68 (by decide) (fun c68 => ?_) (fun c68 => ?_)
      · refine g_iconst (v := nI 2) dX11_risk_79 (by decide) ?_
        refine g_goto (tgt := 93) dX11_risk_80 (by decide) ?_
        refine g_put (fs' := [.int (nI 2), .ref 143, .int (nI (s 4)), .int (nI (s 7)), .int (nI (s 8)), .ref 144, .int (nI (s 5)), .int (nI (s 6)), .ref 145, .int (nI (s 9)), .int (nI (s 10)), .int (nI (s 11)), .int (nI (s 12)), .ref 146, .int (nI k), .ref 147, .int (nI m), .int (nI sg), .int (nI cm), .int (nI sd), .ref 148, .ref 149, .ref 150, .ref 151, .int (nI mm), .ref 152, .ref 153, .ref 154, .int (nI dr), .int (nI dd), .int (nI bk), .int wt, .ref 155, .int (nI rt), .ref 156, .ref 157, .ref 158, .ref 159, .ref 160, .ref 161, .ref 162, .ref 163, .ref 164, .ref 165, .ref 166]) dX11_risk_93 fX11_1 m0 (Nat.le_of_ble_eq_true rfl) rfl rfl rfl ?_
        refine g_aload_n dX11_risk_96 rfl rfl ?_
        refine g_getf (v := .int (nI 2)) dX11_risk_97 fX11_1 g_eq rfl ?_
        refine g_if_leN (tgt := 105) dX11_risk_100 (by decide) (by decide) (fun c100 => ?_) (fun c100 => ?_)
        · exact absurd c100 (by decide)
        · refine g_iconst (v := nI 0) dX11_risk_103 (by decide) ?_
          have ek : k_risk sg mm i_ n_ x_ y_ z_ = 2 := (by unfold k_risk; (repeat' split) <;> first | rfl | (exfalso; simp only [i_lt, i_le, i_eq, it0, itm, ifp, nI_toInt (show 0 < 2147483648 by first | decide | omega), nI_toInt (show 1 < 2147483648 by first | decide | omega), nI_toInt (show 30 < 2147483648 by first | decide | omega), nI_toInt (show 20000 < 2147483648 by first | decide | omega), nI_toInt (show mm < 2147483648 by first | decide | omega)] at * <;> omega))
          exact e_i dX11_risk_104 rfl rfl (g_fr.rf.up (by simp)) (Or.inl ⟨by rw [ek]; decide, by rw [ek]; exact g_eq, g_fr.rf.up (by simp)⟩) (by decide) (by decide)
      · refine g_iload_n dX11_risk_71 rfl rfl ?_
        refine g_aload_n dX11_risk_72 rfl rfl ?_
        refine g_getf (v := .int (nI mm)) dX11_risk_73 fX11_250 m0 rfl ?_
        refine g_icmp_lt (tgt := 83) dX11_risk_76 (by decide) (fun c76 => ?_) (fun c76 => ?_)
        · refine g_iload dX11_risk_83 rfl ?_
          refine g_if_neN (tgt := 92) dX11_risk_85 (by decide) (by decide) (fun c85 => ?_) (fun c85 => ?_)
          · exact absurd c85 (by decide)
          · refine g_iconst (v := nI 3) dX11_risk_88 (by decide) ?_
            refine g_goto (tgt := 93) dX11_risk_89 (by decide) ?_
            refine g_put (fs' := [.int (nI 3), .ref 143, .int (nI (s 4)), .int (nI (s 7)), .int (nI (s 8)), .ref 144, .int (nI (s 5)), .int (nI (s 6)), .ref 145, .int (nI (s 9)), .int (nI (s 10)), .int (nI (s 11)), .int (nI (s 12)), .ref 146, .int (nI k), .ref 147, .int (nI m), .int (nI sg), .int (nI cm), .int (nI sd), .ref 148, .ref 149, .ref 150, .ref 151, .int (nI mm), .ref 152, .ref 153, .ref 154, .int (nI dr), .int (nI dd), .int (nI bk), .int wt, .ref 155, .int (nI rt), .ref 156, .ref 157, .ref 158, .ref 159, .ref 160, .ref 161, .ref 162, .ref 163, .ref 164, .ref 165, .ref 166]) dX11_risk_93 fX11_1 m0 (Nat.le_of_ble_eq_true rfl) rfl rfl rfl ?_
            refine g_aload_n dX11_risk_96 rfl rfl ?_
            refine g_getf (v := .int (nI 3)) dX11_risk_97 fX11_1 g_eq rfl ?_
            refine g_if_leN (tgt := 105) dX11_risk_100 (by decide) (by decide) (fun c100 => ?_) (fun c100 => ?_)
            · exact absurd c100 (by decide)
            · refine g_iconst (v := nI 0) dX11_risk_103 (by decide) ?_
              have ek : k_risk sg mm i_ n_ x_ y_ z_ = 3 := (by unfold k_risk; (repeat' split) <;> first | rfl | (exfalso; simp only [i_lt, i_le, i_eq, it0, itm, ifp, nI_toInt (show 0 < 2147483648 by first | decide | omega), nI_toInt (show 1 < 2147483648 by first | decide | omega), nI_toInt (show 30 < 2147483648 by first | decide | omega), nI_toInt (show 20000 < 2147483648 by first | decide | omega), nI_toInt (show mm < 2147483648 by first | decide | omega)] at * <;> omega))
              exact e_i dX11_risk_104 rfl rfl (g_fr.rf.up (by simp)) (Or.inl ⟨by rw [ek]; decide, by rw [ek]; exact g_eq, g_fr.rf.up (by simp)⟩) (by decide) (by decide)
        · refine g_iconst (v := nI 2) dX11_risk_79 (by decide) ?_
          refine g_goto (tgt := 93) dX11_risk_80 (by decide) ?_
          refine g_put (fs' := [.int (nI 2), .ref 143, .int (nI (s 4)), .int (nI (s 7)), .int (nI (s 8)), .ref 144, .int (nI (s 5)), .int (nI (s 6)), .ref 145, .int (nI (s 9)), .int (nI (s 10)), .int (nI (s 11)), .int (nI (s 12)), .ref 146, .int (nI k), .ref 147, .int (nI m), .int (nI sg), .int (nI cm), .int (nI sd), .ref 148, .ref 149, .ref 150, .ref 151, .int (nI mm), .ref 152, .ref 153, .ref 154, .int (nI dr), .int (nI dd), .int (nI bk), .int wt, .ref 155, .int (nI rt), .ref 156, .ref 157, .ref 158, .ref 159, .ref 160, .ref 161, .ref 162, .ref 163, .ref 164, .ref 165, .ref 166]) dX11_risk_93 fX11_1 m0 (Nat.le_of_ble_eq_true rfl) rfl rfl rfl ?_
          refine g_aload_n dX11_risk_96 rfl rfl ?_
          refine g_getf (v := .int (nI 2)) dX11_risk_97 fX11_1 g_eq rfl ?_
          refine g_if_leN (tgt := 105) dX11_risk_100 (by decide) (by decide) (fun c100 => ?_) (fun c100 => ?_)
          · exact absurd c100 (by decide)
          · refine g_iconst (v := nI 0) dX11_risk_103 (by decide) ?_
            have ek : k_risk sg mm i_ n_ x_ y_ z_ = 2 := (by unfold k_risk; (repeat' split) <;> first | rfl | (exfalso; simp only [i_lt, i_le, i_eq, it0, itm, ifp, nI_toInt (show 0 < 2147483648 by first | decide | omega), nI_toInt (show 1 < 2147483648 by first | decide | omega), nI_toInt (show 30 < 2147483648 by first | decide | omega), nI_toInt (show 20000 < 2147483648 by first | decide | omega), nI_toInt (show mm < 2147483648 by first | decide | omega)] at * <;> omega))
            exact e_i dX11_risk_104 rfl rfl (g_fr.rf.up (by simp)) (Or.inl ⟨by rw [ek]; decide, by rw [ek]; exact g_eq, g_fr.rf.up (by simp)⟩) (by decide) (by decide)
    · refine g_iconst (v := nI 1) dX11_risk_63 (by decide) ?_
      refine g_goto (tgt := 93) dX11_risk_64 (by decide) ?_
      refine g_put (fs' := [.int (nI 1), .ref 143, .int (nI (s 4)), .int (nI (s 7)), .int (nI (s 8)), .ref 144, .int (nI (s 5)), .int (nI (s 6)), .ref 145, .int (nI (s 9)), .int (nI (s 10)), .int (nI (s 11)), .int (nI (s 12)), .ref 146, .int (nI k), .ref 147, .int (nI m), .int (nI sg), .int (nI cm), .int (nI sd), .ref 148, .ref 149, .ref 150, .ref 151, .int (nI mm), .ref 152, .ref 153, .ref 154, .int (nI dr), .int (nI dd), .int (nI bk), .int wt, .ref 155, .int (nI rt), .ref 156, .ref 157, .ref 158, .ref 159, .ref 160, .ref 161, .ref 162, .ref 163, .ref 164, .ref 165, .ref 166]) dX11_risk_93 fX11_1 m0 (Nat.le_of_ble_eq_true rfl) rfl rfl rfl ?_
      refine g_aload_n dX11_risk_96 rfl rfl ?_
      refine g_getf (v := .int (nI 1)) dX11_risk_97 fX11_1 g_eq rfl ?_
      refine g_if_leN (tgt := 105) dX11_risk_100 (by decide) (by decide) (fun c100 => ?_) (fun c100 => ?_)
      · exact absurd c100 (by decide)
      · refine g_iconst (v := nI 0) dX11_risk_103 (by decide) ?_
        have ek : k_risk sg mm i_ n_ x_ y_ z_ = 1 := (by unfold k_risk; (repeat' split) <;> first | rfl | (exfalso; simp only [i_lt, i_le, i_eq, it0, itm, ifp, nI_toInt (show 0 < 2147483648 by first | decide | omega), nI_toInt (show 1 < 2147483648 by first | decide | omega), nI_toInt (show 30 < 2147483648 by first | decide | omega), nI_toInt (show 20000 < 2147483648 by first | decide | omega), nI_toInt (show mm < 2147483648 by first | decide | omega)] at * <;> omega))
        exact e_i dX11_risk_104 rfl rfl (g_fr.rf.up (by simp)) (Or.inl ⟨by rw [ek]; decide, by rw [ek]; exact g_eq, g_fr.rf.up (by simp)⟩) (by decide) (by decide)
  · refine g_iload_n dX11_risk_4 rfl rfl ?_
    refine g_bipush (v := nI 30) dX11_risk_5 (by decide) ?_
    refine g_icmp_gt (tgt := 52) dX11_risk_7 (by decide) (fun c7 => ?_) (fun c7 => ?_)
    · refine g_iconst (v := nI 0) dX11_risk_52 (by decide) ?_
      refine g_istore (ls' := [(6, .int (nI 0)), (0, .ref 142), (1, .int i_), (2, .int n_), (3, .int x_), (4, .int y_), (5, .int z_)]) dX11_risk_53 (by decide) rfl ?_
      refine g_aload_n dX11_risk_55 rfl rfl ?_
      refine g_aload_n dX11_risk_56 rfl rfl ?_
      refine g_getf (v := .int (nI sg)) dX11_risk_57 fX11_231 m0 rfl ?_
      refine g_if_neN (tgt := 67) dX11_risk_60 (by decide) (by omega) (fun c60 => ?_) (fun c60 => ?_)
      · refine g_iload_n dX11_risk_67 rfl rfl ?_
        refine g_if_lt (tgt := 79) dX11_risk_68 (by decide) (fun c68 => ?_) (fun c68 => ?_)
        · refine g_iconst (v := nI 2) dX11_risk_79 (by decide) ?_
          refine g_goto (tgt := 93) dX11_risk_80 (by decide) ?_
          refine g_put (fs' := [.int (nI 2), .ref 143, .int (nI (s 4)), .int (nI (s 7)), .int (nI (s 8)), .ref 144, .int (nI (s 5)), .int (nI (s 6)), .ref 145, .int (nI (s 9)), .int (nI (s 10)), .int (nI (s 11)), .int (nI (s 12)), .ref 146, .int (nI k), .ref 147, .int (nI m), .int (nI sg), .int (nI cm), .int (nI sd), .ref 148, .ref 149, .ref 150, .ref 151, .int (nI mm), .ref 152, .ref 153, .ref 154, .int (nI dr), .int (nI dd), .int (nI bk), .int wt, .ref 155, .int (nI rt), .ref 156, .ref 157, .ref 158, .ref 159, .ref 160, .ref 161, .ref 162, .ref 163, .ref 164, .ref 165, .ref 166]) dX11_risk_93 fX11_1 m0 (Nat.le_of_ble_eq_true rfl) rfl rfl rfl ?_
          refine g_aload_n dX11_risk_96 rfl rfl ?_
          refine g_getf (v := .int (nI 2)) dX11_risk_97 fX11_1 g_eq rfl ?_
          refine g_if_leN (tgt := 105) dX11_risk_100 (by decide) (by decide) (fun c100 => ?_) (fun c100 => ?_)
          · exact absurd c100 (by decide)
          · refine g_iconst (v := nI 0) dX11_risk_103 (by decide) ?_
            have ek : k_risk sg mm i_ n_ x_ y_ z_ = 2 := (by unfold k_risk; (repeat' split) <;> first | rfl | (exfalso; simp only [i_lt, i_le, i_eq, it0, itm, ifp, nI_toInt (show 0 < 2147483648 by first | decide | omega), nI_toInt (show 1 < 2147483648 by first | decide | omega), nI_toInt (show 30 < 2147483648 by first | decide | omega), nI_toInt (show 20000 < 2147483648 by first | decide | omega), nI_toInt (show mm < 2147483648 by first | decide | omega)] at * <;> omega))
            exact e_i dX11_risk_104 rfl rfl (g_fr.rf.up (by simp)) (Or.inl ⟨by rw [ek]; decide, by rw [ek]; exact g_eq, g_fr.rf.up (by simp)⟩) (by decide) (by decide)
        · refine g_iload_n dX11_risk_71 rfl rfl ?_
          refine g_aload_n dX11_risk_72 rfl rfl ?_
          refine g_getf (v := .int (nI mm)) dX11_risk_73 fX11_250 m0 rfl ?_
          refine g_icmp_lt (tgt := 83) dX11_risk_76 (by decide) (fun c76 => ?_) (fun c76 => ?_)
          · refine g_iload dX11_risk_83 rfl ?_
            refine g_if_neN (tgt := 92) dX11_risk_85 (by decide) (by decide) (fun c85 => ?_) (fun c85 => ?_)
            · exact absurd c85 (by decide)
            · refine g_iconst (v := nI 3) dX11_risk_88 (by decide) ?_
              refine g_goto (tgt := 93) dX11_risk_89 (by decide) ?_
              refine g_put (fs' := [.int (nI 3), .ref 143, .int (nI (s 4)), .int (nI (s 7)), .int (nI (s 8)), .ref 144, .int (nI (s 5)), .int (nI (s 6)), .ref 145, .int (nI (s 9)), .int (nI (s 10)), .int (nI (s 11)), .int (nI (s 12)), .ref 146, .int (nI k), .ref 147, .int (nI m), .int (nI sg), .int (nI cm), .int (nI sd), .ref 148, .ref 149, .ref 150, .ref 151, .int (nI mm), .ref 152, .ref 153, .ref 154, .int (nI dr), .int (nI dd), .int (nI bk), .int wt, .ref 155, .int (nI rt), .ref 156, .ref 157, .ref 158, .ref 159, .ref 160, .ref 161, .ref 162, .ref 163, .ref 164, .ref 165, .ref 166]) dX11_risk_93 fX11_1 m0 (Nat.le_of_ble_eq_true rfl) rfl rfl rfl ?_
              refine g_aload_n dX11_risk_96 rfl rfl ?_
              refine g_getf (v := .int (nI 3)) dX11_risk_97 fX11_1 g_eq rfl ?_
              refine g_if_leN (tgt := 105) dX11_risk_100 (by decide) (by decide) (fun c100 => ?_) (fun c100 => ?_)
              · exact absurd c100 (by decide)
              · refine g_iconst (v := nI 0) dX11_risk_103 (by decide) ?_
                have ek : k_risk sg mm i_ n_ x_ y_ z_ = 3 := (by unfold k_risk; (repeat' split) <;> first | rfl | (exfalso; simp only [i_lt, i_le, i_eq, it0, itm, ifp, nI_toInt (show 0 < 2147483648 by first | decide | omega), nI_toInt (show 1 < 2147483648 by first | decide | omega), nI_toInt (show 30 < 2147483648 by first | decide | omega), nI_toInt (show 20000 < 2147483648 by first | decide | omega), nI_toInt (show mm < 2147483648 by first | decide | omega)] at * <;> omega))
                exact e_i dX11_risk_104 rfl rfl (g_fr.rf.up (by simp)) (Or.inl ⟨by rw [ek]; decide, by rw [ek]; exact g_eq, g_fr.rf.up (by simp)⟩) (by decide) (by decide)
          · refine g_iconst (v := nI 2) dX11_risk_79 (by decide) ?_
            refine g_goto (tgt := 93) dX11_risk_80 (by decide) ?_
            refine g_put (fs' := [.int (nI 2), .ref 143, .int (nI (s 4)), .int (nI (s 7)), .int (nI (s 8)), .ref 144, .int (nI (s 5)), .int (nI (s 6)), .ref 145, .int (nI (s 9)), .int (nI (s 10)), .int (nI (s 11)), .int (nI (s 12)), .ref 146, .int (nI k), .ref 147, .int (nI m), .int (nI sg), .int (nI cm), .int (nI sd), .ref 148, .ref 149, .ref 150, .ref 151, .int (nI mm), .ref 152, .ref 153, .ref 154, .int (nI dr), .int (nI dd), .int (nI bk), .int wt, .ref 155, .int (nI rt), .ref 156, .ref 157, .ref 158, .ref 159, .ref 160, .ref 161, .ref 162, .ref 163, .ref 164, .ref 165, .ref 166]) dX11_risk_93 fX11_1 m0 (Nat.le_of_ble_eq_true rfl) rfl rfl rfl ?_
            refine g_aload_n dX11_risk_96 rfl rfl ?_
            refine g_getf (v := .int (nI 2)) dX11_risk_97 fX11_1 g_eq rfl ?_
            refine g_if_leN (tgt := 105) dX11_risk_100 (by decide) (by decide) (fun c100 => ?_) (fun c100 => ?_)
            · exact absurd c100 (by decide)
            · refine g_iconst (v := nI 0) dX11_risk_103 (by decide) ?_
              have ek : k_risk sg mm i_ n_ x_ y_ z_ = 2 := (by unfold k_risk; (repeat' split) <;> first | rfl | (exfalso; simp only [i_lt, i_le, i_eq, it0, itm, ifp, nI_toInt (show 0 < 2147483648 by first | decide | omega), nI_toInt (show 1 < 2147483648 by first | decide | omega), nI_toInt (show 30 < 2147483648 by first | decide | omega), nI_toInt (show 20000 < 2147483648 by first | decide | omega), nI_toInt (show mm < 2147483648 by first | decide | omega)] at * <;> omega))
              exact e_i dX11_risk_104 rfl rfl (g_fr.rf.up (by simp)) (Or.inl ⟨by rw [ek]; decide, by rw [ek]; exact g_eq, g_fr.rf.up (by simp)⟩) (by decide) (by decide)
      · refine g_iconst (v := nI 1) dX11_risk_63 (by decide) ?_
        refine g_goto (tgt := 93) dX11_risk_64 (by decide) ?_
        refine g_put (fs' := [.int (nI 1), .ref 143, .int (nI (s 4)), .int (nI (s 7)), .int (nI (s 8)), .ref 144, .int (nI (s 5)), .int (nI (s 6)), .ref 145, .int (nI (s 9)), .int (nI (s 10)), .int (nI (s 11)), .int (nI (s 12)), .ref 146, .int (nI k), .ref 147, .int (nI m), .int (nI sg), .int (nI cm), .int (nI sd), .ref 148, .ref 149, .ref 150, .ref 151, .int (nI mm), .ref 152, .ref 153, .ref 154, .int (nI dr), .int (nI dd), .int (nI bk), .int wt, .ref 155, .int (nI rt), .ref 156, .ref 157, .ref 158, .ref 159, .ref 160, .ref 161, .ref 162, .ref 163, .ref 164, .ref 165, .ref 166]) dX11_risk_93 fX11_1 m0 (Nat.le_of_ble_eq_true rfl) rfl rfl rfl ?_
        refine g_aload_n dX11_risk_96 rfl rfl ?_
        refine g_getf (v := .int (nI 1)) dX11_risk_97 fX11_1 g_eq rfl ?_
        refine g_if_leN (tgt := 105) dX11_risk_100 (by decide) (by decide) (fun c100 => ?_) (fun c100 => ?_)
        · exact absurd c100 (by decide)
        · refine g_iconst (v := nI 0) dX11_risk_103 (by decide) ?_
          have ek : k_risk sg mm i_ n_ x_ y_ z_ = 1 := (by unfold k_risk; (repeat' split) <;> first | rfl | (exfalso; simp only [i_lt, i_le, i_eq, it0, itm, ifp, nI_toInt (show 0 < 2147483648 by first | decide | omega), nI_toInt (show 1 < 2147483648 by first | decide | omega), nI_toInt (show 30 < 2147483648 by first | decide | omega), nI_toInt (show 20000 < 2147483648 by first | decide | omega), nI_toInt (show mm < 2147483648 by first | decide | omega)] at * <;> omega))
          exact e_i dX11_risk_104 rfl rfl (g_fr.rf.up (by simp)) (Or.inl ⟨by rw [ek]; decide, by rw [ek]; exact g_eq, g_fr.rf.up (by simp)⟩) (by decide) (by decide)
    · refine g_iload dX11_risk_10 rfl ?_
      refine g_iconst (v := nI 1) dX11_risk_12 (by decide) ?_
      refine g_icmp_lt (tgt := 52) dX11_risk_13 (by decide) (fun c13 => ?_) (fun c13 => ?_)
      · refine g_iconst (v := nI 0) dX11_risk_52 (by decide) ?_
        refine g_istore (ls' := [(6, .int (nI 0)), (0, .ref 142), (1, .int i_), (2, .int n_), (3, .int x_), (4, .int y_), (5, .int z_)]) dX11_risk_53 (by decide) rfl ?_
        refine g_aload_n dX11_risk_55 rfl rfl ?_
        refine g_aload_n dX11_risk_56 rfl rfl ?_
        refine g_getf (v := .int (nI sg)) dX11_risk_57 fX11_231 m0 rfl ?_
        refine g_if_neN (tgt := 67) dX11_risk_60 (by decide) (by omega) (fun c60 => ?_) (fun c60 => ?_)
        · refine g_iload_n dX11_risk_67 rfl rfl ?_
          refine g_if_lt (tgt := 79) dX11_risk_68 (by decide) (fun c68 => ?_) (fun c68 => ?_)
          · refine g_iconst (v := nI 2) dX11_risk_79 (by decide) ?_
            refine g_goto (tgt := 93) dX11_risk_80 (by decide) ?_
            refine g_put (fs' := [.int (nI 2), .ref 143, .int (nI (s 4)), .int (nI (s 7)), .int (nI (s 8)), .ref 144, .int (nI (s 5)), .int (nI (s 6)), .ref 145, .int (nI (s 9)), .int (nI (s 10)), .int (nI (s 11)), .int (nI (s 12)), .ref 146, .int (nI k), .ref 147, .int (nI m), .int (nI sg), .int (nI cm), .int (nI sd), .ref 148, .ref 149, .ref 150, .ref 151, .int (nI mm), .ref 152, .ref 153, .ref 154, .int (nI dr), .int (nI dd), .int (nI bk), .int wt, .ref 155, .int (nI rt), .ref 156, .ref 157, .ref 158, .ref 159, .ref 160, .ref 161, .ref 162, .ref 163, .ref 164, .ref 165, .ref 166]) dX11_risk_93 fX11_1 m0 (Nat.le_of_ble_eq_true rfl) rfl rfl rfl ?_
            refine g_aload_n dX11_risk_96 rfl rfl ?_
            refine g_getf (v := .int (nI 2)) dX11_risk_97 fX11_1 g_eq rfl ?_
            refine g_if_leN (tgt := 105) dX11_risk_100 (by decide) (by decide) (fun c100 => ?_) (fun c100 => ?_)
            · exact absurd c100 (by decide)
            · refine g_iconst (v := nI 0) dX11_risk_103 (by decide) ?_
              have ek : k_risk sg mm i_ n_ x_ y_ z_ = 2 := (by unfold k_risk; (repeat' split) <;> first | rfl | (exfalso; simp only [i_lt, i_le, i_eq, it0, itm, ifp, nI_toInt (show 0 < 2147483648 by first | decide | omega), nI_toInt (show 1 < 2147483648 by first | decide | omega), nI_toInt (show 30 < 2147483648 by first | decide | omega), nI_toInt (show 20000 < 2147483648 by first | decide | omega), nI_toInt (show mm < 2147483648 by first | decide | omega)] at * <;> omega))
              exact e_i dX11_risk_104 rfl rfl (g_fr.rf.up (by simp)) (Or.inl ⟨by rw [ek]; decide, by rw [ek]; exact g_eq, g_fr.rf.up (by simp)⟩) (by decide) (by decide)
          · refine g_iload_n dX11_risk_71 rfl rfl ?_
            refine g_aload_n dX11_risk_72 rfl rfl ?_
            refine g_getf (v := .int (nI mm)) dX11_risk_73 fX11_250 m0 rfl ?_
            refine g_icmp_lt (tgt := 83) dX11_risk_76 (by decide) (fun c76 => ?_) (fun c76 => ?_)
            · refine g_iload dX11_risk_83 rfl ?_
              refine g_if_neN (tgt := 92) dX11_risk_85 (by decide) (by decide) (fun c85 => ?_) (fun c85 => ?_)
              · exact absurd c85 (by decide)
              · refine g_iconst (v := nI 3) dX11_risk_88 (by decide) ?_
                refine g_goto (tgt := 93) dX11_risk_89 (by decide) ?_
                refine g_put (fs' := [.int (nI 3), .ref 143, .int (nI (s 4)), .int (nI (s 7)), .int (nI (s 8)), .ref 144, .int (nI (s 5)), .int (nI (s 6)), .ref 145, .int (nI (s 9)), .int (nI (s 10)), .int (nI (s 11)), .int (nI (s 12)), .ref 146, .int (nI k), .ref 147, .int (nI m), .int (nI sg), .int (nI cm), .int (nI sd), .ref 148, .ref 149, .ref 150, .ref 151, .int (nI mm), .ref 152, .ref 153, .ref 154, .int (nI dr), .int (nI dd), .int (nI bk), .int wt, .ref 155, .int (nI rt), .ref 156, .ref 157, .ref 158, .ref 159, .ref 160, .ref 161, .ref 162, .ref 163, .ref 164, .ref 165, .ref 166]) dX11_risk_93 fX11_1 m0 (Nat.le_of_ble_eq_true rfl) rfl rfl rfl ?_
                refine g_aload_n dX11_risk_96 rfl rfl ?_
                refine g_getf (v := .int (nI 3)) dX11_risk_97 fX11_1 g_eq rfl ?_
                refine g_if_leN (tgt := 105) dX11_risk_100 (by decide) (by decide) (fun c100 => ?_) (fun c100 => ?_)
                · exact absurd c100 (by decide)
                · refine g_iconst (v := nI 0) dX11_risk_103 (by decide) ?_
                  have ek : k_risk sg mm i_ n_ x_ y_ z_ = 3 := (by unfold k_risk; (repeat' split) <;> first | rfl | (exfalso; simp only [i_lt, i_le, i_eq, it0, itm, ifp, nI_toInt (show 0 < 2147483648 by first | decide | omega), nI_toInt (show 1 < 2147483648 by first | decide | omega), nI_toInt (show 30 < 2147483648 by first | decide | omega), nI_toInt (show 20000 < 2147483648 by first | decide | omega), nI_toInt (show mm < 2147483648 by first | decide | omega)] at * <;> omega))
                  exact e_i dX11_risk_104 rfl rfl (g_fr.rf.up (by simp)) (Or.inl ⟨by rw [ek]; decide, by rw [ek]; exact g_eq, g_fr.rf.up (by simp)⟩) (by decide) (by decide)
            · refine g_iconst (v := nI 2) dX11_risk_79 (by decide) ?_
              refine g_goto (tgt := 93) dX11_risk_80 (by decide) ?_
              refine g_put (fs' := [.int (nI 2), .ref 143, .int (nI (s 4)), .int (nI (s 7)), .int (nI (s 8)), .ref 144, .int (nI (s 5)), .int (nI (s 6)), .ref 145, .int (nI (s 9)), .int (nI (s 10)), .int (nI (s 11)), .int (nI (s 12)), .ref 146, .int (nI k), .ref 147, .int (nI m), .int (nI sg), .int (nI cm), .int (nI sd), .ref 148, .ref 149, .ref 150, .ref 151, .int (nI mm), .ref 152, .ref 153, .ref 154, .int (nI dr), .int (nI dd), .int (nI bk), .int wt, .ref 155, .int (nI rt), .ref 156, .ref 157, .ref 158, .ref 159, .ref 160, .ref 161, .ref 162, .ref 163, .ref 164, .ref 165, .ref 166]) dX11_risk_93 fX11_1 m0 (Nat.le_of_ble_eq_true rfl) rfl rfl rfl ?_
              refine g_aload_n dX11_risk_96 rfl rfl ?_
              refine g_getf (v := .int (nI 2)) dX11_risk_97 fX11_1 g_eq rfl ?_
              refine g_if_leN (tgt := 105) dX11_risk_100 (by decide) (by decide) (fun c100 => ?_) (fun c100 => ?_)
              · exact absurd c100 (by decide)
              · refine g_iconst (v := nI 0) dX11_risk_103 (by decide) ?_
                have ek : k_risk sg mm i_ n_ x_ y_ z_ = 2 := (by unfold k_risk; (repeat' split) <;> first | rfl | (exfalso; simp only [i_lt, i_le, i_eq, it0, itm, ifp, nI_toInt (show 0 < 2147483648 by first | decide | omega), nI_toInt (show 1 < 2147483648 by first | decide | omega), nI_toInt (show 30 < 2147483648 by first | decide | omega), nI_toInt (show 20000 < 2147483648 by first | decide | omega), nI_toInt (show mm < 2147483648 by first | decide | omega)] at * <;> omega))
                exact e_i dX11_risk_104 rfl rfl (g_fr.rf.up (by simp)) (Or.inl ⟨by rw [ek]; decide, by rw [ek]; exact g_eq, g_fr.rf.up (by simp)⟩) (by decide) (by decide)
        · refine g_iconst (v := nI 1) dX11_risk_63 (by decide) ?_
          refine g_goto (tgt := 93) dX11_risk_64 (by decide) ?_
          refine g_put (fs' := [.int (nI 1), .ref 143, .int (nI (s 4)), .int (nI (s 7)), .int (nI (s 8)), .ref 144, .int (nI (s 5)), .int (nI (s 6)), .ref 145, .int (nI (s 9)), .int (nI (s 10)), .int (nI (s 11)), .int (nI (s 12)), .ref 146, .int (nI k), .ref 147, .int (nI m), .int (nI sg), .int (nI cm), .int (nI sd), .ref 148, .ref 149, .ref 150, .ref 151, .int (nI mm), .ref 152, .ref 153, .ref 154, .int (nI dr), .int (nI dd), .int (nI bk), .int wt, .ref 155, .int (nI rt), .ref 156, .ref 157, .ref 158, .ref 159, .ref 160, .ref 161, .ref 162, .ref 163, .ref 164, .ref 165, .ref 166]) dX11_risk_93 fX11_1 m0 (Nat.le_of_ble_eq_true rfl) rfl rfl rfl ?_
          refine g_aload_n dX11_risk_96 rfl rfl ?_
          refine g_getf (v := .int (nI 1)) dX11_risk_97 fX11_1 g_eq rfl ?_
          refine g_if_leN (tgt := 105) dX11_risk_100 (by decide) (by decide) (fun c100 => ?_) (fun c100 => ?_)
          · exact absurd c100 (by decide)
          · refine g_iconst (v := nI 0) dX11_risk_103 (by decide) ?_
            have ek : k_risk sg mm i_ n_ x_ y_ z_ = 1 := (by unfold k_risk; (repeat' split) <;> first | rfl | (exfalso; simp only [i_lt, i_le, i_eq, it0, itm, ifp, nI_toInt (show 0 < 2147483648 by first | decide | omega), nI_toInt (show 1 < 2147483648 by first | decide | omega), nI_toInt (show 30 < 2147483648 by first | decide | omega), nI_toInt (show 20000 < 2147483648 by first | decide | omega), nI_toInt (show mm < 2147483648 by first | decide | omega)] at * <;> omega))
            exact e_i dX11_risk_104 rfl rfl (g_fr.rf.up (by simp)) (Or.inl ⟨by rw [ek]; decide, by rw [ek]; exact g_eq, g_fr.rf.up (by simp)⟩) (by decide) (by decide)
      · refine g_iload dX11_risk_16 rfl ?_
        refine g_sipush (v := nI 20000) dX11_risk_18 (by decide) ?_
        refine g_icmp_gt (tgt := 52) dX11_risk_21 (by decide) (fun c21 => ?_) (fun c21 => ?_)
        · refine g_iconst (v := nI 0) dX11_risk_52 (by decide) ?_
          refine g_istore (ls' := [(6, .int (nI 0)), (0, .ref 142), (1, .int i_), (2, .int n_), (3, .int x_), (4, .int y_), (5, .int z_)]) dX11_risk_53 (by decide) rfl ?_
          refine g_aload_n dX11_risk_55 rfl rfl ?_
          refine g_aload_n dX11_risk_56 rfl rfl ?_
          refine g_getf (v := .int (nI sg)) dX11_risk_57 fX11_231 m0 rfl ?_
          refine g_if_neN (tgt := 67) dX11_risk_60 (by decide) (by omega) (fun c60 => ?_) (fun c60 => ?_)
          · refine g_iload_n dX11_risk_67 rfl rfl ?_
            refine g_if_lt (tgt := 79) dX11_risk_68 (by decide) (fun c68 => ?_) (fun c68 => ?_)
            · refine g_iconst (v := nI 2) dX11_risk_79 (by decide) ?_
              refine g_goto (tgt := 93) dX11_risk_80 (by decide) ?_
              refine g_put (fs' := [.int (nI 2), .ref 143, .int (nI (s 4)), .int (nI (s 7)), .int (nI (s 8)), .ref 144, .int (nI (s 5)), .int (nI (s 6)), .ref 145, .int (nI (s 9)), .int (nI (s 10)), .int (nI (s 11)), .int (nI (s 12)), .ref 146, .int (nI k), .ref 147, .int (nI m), .int (nI sg), .int (nI cm), .int (nI sd), .ref 148, .ref 149, .ref 150, .ref 151, .int (nI mm), .ref 152, .ref 153, .ref 154, .int (nI dr), .int (nI dd), .int (nI bk), .int wt, .ref 155, .int (nI rt), .ref 156, .ref 157, .ref 158, .ref 159, .ref 160, .ref 161, .ref 162, .ref 163, .ref 164, .ref 165, .ref 166]) dX11_risk_93 fX11_1 m0 (Nat.le_of_ble_eq_true rfl) rfl rfl rfl ?_
              refine g_aload_n dX11_risk_96 rfl rfl ?_
              refine g_getf (v := .int (nI 2)) dX11_risk_97 fX11_1 g_eq rfl ?_
              refine g_if_leN (tgt := 105) dX11_risk_100 (by decide) (by decide) (fun c100 => ?_) (fun c100 => ?_)
              · exact absurd c100 (by decide)
              · refine g_iconst (v := nI 0) dX11_risk_103 (by decide) ?_
                have ek : k_risk sg mm i_ n_ x_ y_ z_ = 2 := (by unfold k_risk; (repeat' split) <;> first | rfl | (exfalso; simp only [i_lt, i_le, i_eq, it0, itm, ifp, nI_toInt (show 0 < 2147483648 by first | decide | omega), nI_toInt (show 1 < 2147483648 by first | decide | omega), nI_toInt (show 30 < 2147483648 by first | decide | omega), nI_toInt (show 20000 < 2147483648 by first | decide | omega), nI_toInt (show mm < 2147483648 by first | decide | omega)] at * <;> omega))
                exact e_i dX11_risk_104 rfl rfl (g_fr.rf.up (by simp)) (Or.inl ⟨by rw [ek]; decide, by rw [ek]; exact g_eq, g_fr.rf.up (by simp)⟩) (by decide) (by decide)
            · refine g_iload_n dX11_risk_71 rfl rfl ?_
              refine g_aload_n dX11_risk_72 rfl rfl ?_
              refine g_getf (v := .int (nI mm)) dX11_risk_73 fX11_250 m0 rfl ?_
              refine g_icmp_lt (tgt := 83) dX11_risk_76 (by decide) (fun c76 => ?_) (fun c76 => ?_)
              · refine g_iload dX11_risk_83 rfl ?_
                refine g_if_neN (tgt := 92) dX11_risk_85 (by decide) (by decide) (fun c85 => ?_) (fun c85 => ?_)
                · exact absurd c85 (by decide)
                · refine g_iconst (v := nI 3) dX11_risk_88 (by decide) ?_
                  refine g_goto (tgt := 93) dX11_risk_89 (by decide) ?_
                  refine g_put (fs' := [.int (nI 3), .ref 143, .int (nI (s 4)), .int (nI (s 7)), .int (nI (s 8)), .ref 144, .int (nI (s 5)), .int (nI (s 6)), .ref 145, .int (nI (s 9)), .int (nI (s 10)), .int (nI (s 11)), .int (nI (s 12)), .ref 146, .int (nI k), .ref 147, .int (nI m), .int (nI sg), .int (nI cm), .int (nI sd), .ref 148, .ref 149, .ref 150, .ref 151, .int (nI mm), .ref 152, .ref 153, .ref 154, .int (nI dr), .int (nI dd), .int (nI bk), .int wt, .ref 155, .int (nI rt), .ref 156, .ref 157, .ref 158, .ref 159, .ref 160, .ref 161, .ref 162, .ref 163, .ref 164, .ref 165, .ref 166]) dX11_risk_93 fX11_1 m0 (Nat.le_of_ble_eq_true rfl) rfl rfl rfl ?_
                  refine g_aload_n dX11_risk_96 rfl rfl ?_
                  refine g_getf (v := .int (nI 3)) dX11_risk_97 fX11_1 g_eq rfl ?_
                  refine g_if_leN (tgt := 105) dX11_risk_100 (by decide) (by decide) (fun c100 => ?_) (fun c100 => ?_)
                  · exact absurd c100 (by decide)
                  · refine g_iconst (v := nI 0) dX11_risk_103 (by decide) ?_
                    have ek : k_risk sg mm i_ n_ x_ y_ z_ = 3 := (by unfold k_risk; (repeat' split) <;> first | rfl | (exfalso; simp only [i_lt, i_le, i_eq, it0, itm, ifp, nI_toInt (show 0 < 2147483648 by first | decide | omega), nI_toInt (show 1 < 2147483648 by first | decide | omega), nI_toInt (show 30 < 2147483648 by first | decide | omega), nI_toInt (show 20000 < 2147483648 by first | decide | omega), nI_toInt (show mm < 2147483648 by first | decide | omega)] at * <;> omega))
                    exact e_i dX11_risk_104 rfl rfl (g_fr.rf.up (by simp)) (Or.inl ⟨by rw [ek]; decide, by rw [ek]; exact g_eq, g_fr.rf.up (by simp)⟩) (by decide) (by decide)
              · refine g_iconst (v := nI 2) dX11_risk_79 (by decide) ?_
                refine g_goto (tgt := 93) dX11_risk_80 (by decide) ?_
                refine g_put (fs' := [.int (nI 2), .ref 143, .int (nI (s 4)), .int (nI (s 7)), .int (nI (s 8)), .ref 144, .int (nI (s 5)), .int (nI (s 6)), .ref 145, .int (nI (s 9)), .int (nI (s 10)), .int (nI (s 11)), .int (nI (s 12)), .ref 146, .int (nI k), .ref 147, .int (nI m), .int (nI sg), .int (nI cm), .int (nI sd), .ref 148, .ref 149, .ref 150, .ref 151, .int (nI mm), .ref 152, .ref 153, .ref 154, .int (nI dr), .int (nI dd), .int (nI bk), .int wt, .ref 155, .int (nI rt), .ref 156, .ref 157, .ref 158, .ref 159, .ref 160, .ref 161, .ref 162, .ref 163, .ref 164, .ref 165, .ref 166]) dX11_risk_93 fX11_1 m0 (Nat.le_of_ble_eq_true rfl) rfl rfl rfl ?_
                refine g_aload_n dX11_risk_96 rfl rfl ?_
                refine g_getf (v := .int (nI 2)) dX11_risk_97 fX11_1 g_eq rfl ?_
                refine g_if_leN (tgt := 105) dX11_risk_100 (by decide) (by decide) (fun c100 => ?_) (fun c100 => ?_)
                · exact absurd c100 (by decide)
                · refine g_iconst (v := nI 0) dX11_risk_103 (by decide) ?_
                  have ek : k_risk sg mm i_ n_ x_ y_ z_ = 2 := (by unfold k_risk; (repeat' split) <;> first | rfl | (exfalso; simp only [i_lt, i_le, i_eq, it0, itm, ifp, nI_toInt (show 0 < 2147483648 by first | decide | omega), nI_toInt (show 1 < 2147483648 by first | decide | omega), nI_toInt (show 30 < 2147483648 by first | decide | omega), nI_toInt (show 20000 < 2147483648 by first | decide | omega), nI_toInt (show mm < 2147483648 by first | decide | omega)] at * <;> omega))
                  exact e_i dX11_risk_104 rfl rfl (g_fr.rf.up (by simp)) (Or.inl ⟨by rw [ek]; decide, by rw [ek]; exact g_eq, g_fr.rf.up (by simp)⟩) (by decide) (by decide)
          · refine g_iconst (v := nI 1) dX11_risk_63 (by decide) ?_
            refine g_goto (tgt := 93) dX11_risk_64 (by decide) ?_
            refine g_put (fs' := [.int (nI 1), .ref 143, .int (nI (s 4)), .int (nI (s 7)), .int (nI (s 8)), .ref 144, .int (nI (s 5)), .int (nI (s 6)), .ref 145, .int (nI (s 9)), .int (nI (s 10)), .int (nI (s 11)), .int (nI (s 12)), .ref 146, .int (nI k), .ref 147, .int (nI m), .int (nI sg), .int (nI cm), .int (nI sd), .ref 148, .ref 149, .ref 150, .ref 151, .int (nI mm), .ref 152, .ref 153, .ref 154, .int (nI dr), .int (nI dd), .int (nI bk), .int wt, .ref 155, .int (nI rt), .ref 156, .ref 157, .ref 158, .ref 159, .ref 160, .ref 161, .ref 162, .ref 163, .ref 164, .ref 165, .ref 166]) dX11_risk_93 fX11_1 m0 (Nat.le_of_ble_eq_true rfl) rfl rfl rfl ?_
            refine g_aload_n dX11_risk_96 rfl rfl ?_
            refine g_getf (v := .int (nI 1)) dX11_risk_97 fX11_1 g_eq rfl ?_
            refine g_if_leN (tgt := 105) dX11_risk_100 (by decide) (by decide) (fun c100 => ?_) (fun c100 => ?_)
            · exact absurd c100 (by decide)
            · refine g_iconst (v := nI 0) dX11_risk_103 (by decide) ?_
              have ek : k_risk sg mm i_ n_ x_ y_ z_ = 1 := (by unfold k_risk; (repeat' split) <;> first | rfl | (exfalso; simp only [i_lt, i_le, i_eq, it0, itm, ifp, nI_toInt (show 0 < 2147483648 by first | decide | omega), nI_toInt (show 1 < 2147483648 by first | decide | omega), nI_toInt (show 30 < 2147483648 by first | decide | omega), nI_toInt (show 20000 < 2147483648 by first | decide | omega), nI_toInt (show mm < 2147483648 by first | decide | omega)] at * <;> omega))
              exact e_i dX11_risk_104 rfl rfl (g_fr.rf.up (by simp)) (Or.inl ⟨by rw [ek]; decide, by rw [ek]; exact g_eq, g_fr.rf.up (by simp)⟩) (by decide) (by decide)
        · refine g_iload_n dX11_risk_24 rfl rfl ?_
          refine g_if_lt (tgt := 52) dX11_risk_25 (by decide) (fun c25 => ?_) (fun c25 => ?_)
          · refine g_iconst (v := nI 0) dX11_risk_52 (by decide) ?_
            refine g_istore (ls' := [(6, .int (nI 0)), (0, .ref 142), (1, .int i_), (2, .int n_), (3, .int x_), (4, .int y_), (5, .int z_)]) dX11_risk_53 (by decide) rfl ?_
            refine g_aload_n dX11_risk_55 rfl rfl ?_
            refine g_aload_n dX11_risk_56 rfl rfl ?_
            refine g_getf (v := .int (nI sg)) dX11_risk_57 fX11_231 m0 rfl ?_
            refine g_if_neN (tgt := 67) dX11_risk_60 (by decide) (by omega) (fun c60 => ?_) (fun c60 => ?_)
            · refine g_iload_n dX11_risk_67 rfl rfl ?_
              refine g_if_lt (tgt := 79) dX11_risk_68 (by decide) (fun c68 => ?_) (fun c68 => ?_)
              · refine g_iconst (v := nI 2) dX11_risk_79 (by decide) ?_
                refine g_goto (tgt := 93) dX11_risk_80 (by decide) ?_
                refine g_put (fs' := [.int (nI 2), .ref 143, .int (nI (s 4)), .int (nI (s 7)), .int (nI (s 8)), .ref 144, .int (nI (s 5)), .int (nI (s 6)), .ref 145, .int (nI (s 9)), .int (nI (s 10)), .int (nI (s 11)), .int (nI (s 12)), .ref 146, .int (nI k), .ref 147, .int (nI m), .int (nI sg), .int (nI cm), .int (nI sd), .ref 148, .ref 149, .ref 150, .ref 151, .int (nI mm), .ref 152, .ref 153, .ref 154, .int (nI dr), .int (nI dd), .int (nI bk), .int wt, .ref 155, .int (nI rt), .ref 156, .ref 157, .ref 158, .ref 159, .ref 160, .ref 161, .ref 162, .ref 163, .ref 164, .ref 165, .ref 166]) dX11_risk_93 fX11_1 m0 (Nat.le_of_ble_eq_true rfl) rfl rfl rfl ?_
                refine g_aload_n dX11_risk_96 rfl rfl ?_
                refine g_getf (v := .int (nI 2)) dX11_risk_97 fX11_1 g_eq rfl ?_
                refine g_if_leN (tgt := 105) dX11_risk_100 (by decide) (by decide) (fun c100 => ?_) (fun c100 => ?_)
                · exact absurd c100 (by decide)
                · refine g_iconst (v := nI 0) dX11_risk_103 (by decide) ?_
                  have ek : k_risk sg mm i_ n_ x_ y_ z_ = 2 := (by unfold k_risk; (repeat' split) <;> first | rfl | (exfalso; simp only [i_lt, i_le, i_eq, it0, itm, ifp, nI_toInt (show 0 < 2147483648 by first | decide | omega), nI_toInt (show 1 < 2147483648 by first | decide | omega), nI_toInt (show 30 < 2147483648 by first | decide | omega), nI_toInt (show 20000 < 2147483648 by first | decide | omega), nI_toInt (show mm < 2147483648 by first | decide | omega)] at * <;> omega))
                  exact e_i dX11_risk_104 rfl rfl (g_fr.rf.up (by simp)) (Or.inl ⟨by rw [ek]; decide, by rw [ek]; exact g_eq, g_fr.rf.up (by simp)⟩) (by decide) (by decide)
              · refine g_iload_n dX11_risk_71 rfl rfl ?_
                refine g_aload_n dX11_risk_72 rfl rfl ?_
                refine g_getf (v := .int (nI mm)) dX11_risk_73 fX11_250 m0 rfl ?_
                refine g_icmp_lt (tgt := 83) dX11_risk_76 (by decide) (fun c76 => ?_) (fun c76 => ?_)
                · refine g_iload dX11_risk_83 rfl ?_
                  refine g_if_neN (tgt := 92) dX11_risk_85 (by decide) (by decide) (fun c85 => ?_) (fun c85 => ?_)
                  · exact absurd c85 (by decide)
                  · refine g_iconst (v := nI 3) dX11_risk_88 (by decide) ?_
                    refine g_goto (tgt := 93) dX11_risk_89 (by decide) ?_
                    refine g_put (fs' := [.int (nI 3), .ref 143, .int (nI (s 4)), .int (nI (s 7)), .int (nI (s 8)), .ref 144, .int (nI (s 5)), .int (nI (s 6)), .ref 145, .int (nI (s 9)), .int (nI (s 10)), .int (nI (s 11)), .int (nI (s 12)), .ref 146, .int (nI k), .ref 147, .int (nI m), .int (nI sg), .int (nI cm), .int (nI sd), .ref 148, .ref 149, .ref 150, .ref 151, .int (nI mm), .ref 152, .ref 153, .ref 154, .int (nI dr), .int (nI dd), .int (nI bk), .int wt, .ref 155, .int (nI rt), .ref 156, .ref 157, .ref 158, .ref 159, .ref 160, .ref 161, .ref 162, .ref 163, .ref 164, .ref 165, .ref 166]) dX11_risk_93 fX11_1 m0 (Nat.le_of_ble_eq_true rfl) rfl rfl rfl ?_
                    refine g_aload_n dX11_risk_96 rfl rfl ?_
                    refine g_getf (v := .int (nI 3)) dX11_risk_97 fX11_1 g_eq rfl ?_
                    refine g_if_leN (tgt := 105) dX11_risk_100 (by decide) (by decide) (fun c100 => ?_) (fun c100 => ?_)
                    · exact absurd c100 (by decide)
                    · refine g_iconst (v := nI 0) dX11_risk_103 (by decide) ?_
                      have ek : k_risk sg mm i_ n_ x_ y_ z_ = 3 := (by unfold k_risk; (repeat' split) <;> first | rfl | (exfalso; simp only [i_lt, i_le, i_eq, it0, itm, ifp, nI_toInt (show 0 < 2147483648 by first | decide | omega), nI_toInt (show 1 < 2147483648 by first | decide | omega), nI_toInt (show 30 < 2147483648 by first | decide | omega), nI_toInt (show 20000 < 2147483648 by first | decide | omega), nI_toInt (show mm < 2147483648 by first | decide | omega)] at * <;> omega))
                      exact e_i dX11_risk_104 rfl rfl (g_fr.rf.up (by simp)) (Or.inl ⟨by rw [ek]; decide, by rw [ek]; exact g_eq, g_fr.rf.up (by simp)⟩) (by decide) (by decide)
                · refine g_iconst (v := nI 2) dX11_risk_79 (by decide) ?_
                  refine g_goto (tgt := 93) dX11_risk_80 (by decide) ?_
                  refine g_put (fs' := [.int (nI 2), .ref 143, .int (nI (s 4)), .int (nI (s 7)), .int (nI (s 8)), .ref 144, .int (nI (s 5)), .int (nI (s 6)), .ref 145, .int (nI (s 9)), .int (nI (s 10)), .int (nI (s 11)), .int (nI (s 12)), .ref 146, .int (nI k), .ref 147, .int (nI m), .int (nI sg), .int (nI cm), .int (nI sd), .ref 148, .ref 149, .ref 150, .ref 151, .int (nI mm), .ref 152, .ref 153, .ref 154, .int (nI dr), .int (nI dd), .int (nI bk), .int wt, .ref 155, .int (nI rt), .ref 156, .ref 157, .ref 158, .ref 159, .ref 160, .ref 161, .ref 162, .ref 163, .ref 164, .ref 165, .ref 166]) dX11_risk_93 fX11_1 m0 (Nat.le_of_ble_eq_true rfl) rfl rfl rfl ?_
                  refine g_aload_n dX11_risk_96 rfl rfl ?_
                  refine g_getf (v := .int (nI 2)) dX11_risk_97 fX11_1 g_eq rfl ?_
                  refine g_if_leN (tgt := 105) dX11_risk_100 (by decide) (by decide) (fun c100 => ?_) (fun c100 => ?_)
                  · exact absurd c100 (by decide)
                  · refine g_iconst (v := nI 0) dX11_risk_103 (by decide) ?_
                    have ek : k_risk sg mm i_ n_ x_ y_ z_ = 2 := (by unfold k_risk; (repeat' split) <;> first | rfl | (exfalso; simp only [i_lt, i_le, i_eq, it0, itm, ifp, nI_toInt (show 0 < 2147483648 by first | decide | omega), nI_toInt (show 1 < 2147483648 by first | decide | omega), nI_toInt (show 30 < 2147483648 by first | decide | omega), nI_toInt (show 20000 < 2147483648 by first | decide | omega), nI_toInt (show mm < 2147483648 by first | decide | omega)] at * <;> omega))
                    exact e_i dX11_risk_104 rfl rfl (g_fr.rf.up (by simp)) (Or.inl ⟨by rw [ek]; decide, by rw [ek]; exact g_eq, g_fr.rf.up (by simp)⟩) (by decide) (by decide)
            · refine g_iconst (v := nI 1) dX11_risk_63 (by decide) ?_
              refine g_goto (tgt := 93) dX11_risk_64 (by decide) ?_
              refine g_put (fs' := [.int (nI 1), .ref 143, .int (nI (s 4)), .int (nI (s 7)), .int (nI (s 8)), .ref 144, .int (nI (s 5)), .int (nI (s 6)), .ref 145, .int (nI (s 9)), .int (nI (s 10)), .int (nI (s 11)), .int (nI (s 12)), .ref 146, .int (nI k), .ref 147, .int (nI m), .int (nI sg), .int (nI cm), .int (nI sd), .ref 148, .ref 149, .ref 150, .ref 151, .int (nI mm), .ref 152, .ref 153, .ref 154, .int (nI dr), .int (nI dd), .int (nI bk), .int wt, .ref 155, .int (nI rt), .ref 156, .ref 157, .ref 158, .ref 159, .ref 160, .ref 161, .ref 162, .ref 163, .ref 164, .ref 165, .ref 166]) dX11_risk_93 fX11_1 m0 (Nat.le_of_ble_eq_true rfl) rfl rfl rfl ?_
              refine g_aload_n dX11_risk_96 rfl rfl ?_
              refine g_getf (v := .int (nI 1)) dX11_risk_97 fX11_1 g_eq rfl ?_
              refine g_if_leN (tgt := 105) dX11_risk_100 (by decide) (by decide) (fun c100 => ?_) (fun c100 => ?_)
              · exact absurd c100 (by decide)
              · refine g_iconst (v := nI 0) dX11_risk_103 (by decide) ?_
                have ek : k_risk sg mm i_ n_ x_ y_ z_ = 1 := (by unfold k_risk; (repeat' split) <;> first | rfl | (exfalso; simp only [i_lt, i_le, i_eq, it0, itm, ifp, nI_toInt (show 0 < 2147483648 by first | decide | omega), nI_toInt (show 1 < 2147483648 by first | decide | omega), nI_toInt (show 30 < 2147483648 by first | decide | omega), nI_toInt (show 20000 < 2147483648 by first | decide | omega), nI_toInt (show mm < 2147483648 by first | decide | omega)] at * <;> omega))
                exact e_i dX11_risk_104 rfl rfl (g_fr.rf.up (by simp)) (Or.inl ⟨by rw [ek]; decide, by rw [ek]; exact g_eq, g_fr.rf.up (by simp)⟩) (by decide) (by decide)
          · refine g_iload dX11_risk_28 rfl ?_
            refine g_if_lt (tgt := 52) dX11_risk_30 (by decide) (fun c30 => ?_) (fun c30 => ?_)
            · refine g_iconst (v := nI 0) dX11_risk_52 (by decide) ?_
              refine g_istore (ls' := [(6, .int (nI 0)), (0, .ref 142), (1, .int i_), (2, .int n_), (3, .int x_), (4, .int y_), (5, .int z_)]) dX11_risk_53 (by decide) rfl ?_
              refine g_aload_n dX11_risk_55 rfl rfl ?_
              refine g_aload_n dX11_risk_56 rfl rfl ?_
              refine g_getf (v := .int (nI sg)) dX11_risk_57 fX11_231 m0 rfl ?_
              refine g_if_neN (tgt := 67) dX11_risk_60 (by decide) (by omega) (fun c60 => ?_) (fun c60 => ?_)
              · refine g_iload_n dX11_risk_67 rfl rfl ?_
                refine g_if_lt (tgt := 79) dX11_risk_68 (by decide) (fun c68 => ?_) (fun c68 => ?_)
                · refine g_iconst (v := nI 2) dX11_risk_79 (by decide) ?_
                  refine g_goto (tgt := 93) dX11_risk_80 (by decide) ?_
                  refine g_put (fs' := [.int (nI 2), .ref 143, .int (nI (s 4)), .int (nI (s 7)), .int (nI (s 8)), .ref 144, .int (nI (s 5)), .int (nI (s 6)), .ref 145, .int (nI (s 9)), .int (nI (s 10)), .int (nI (s 11)), .int (nI (s 12)), .ref 146, .int (nI k), .ref 147, .int (nI m), .int (nI sg), .int (nI cm), .int (nI sd), .ref 148, .ref 149, .ref 150, .ref 151, .int (nI mm), .ref 152, .ref 153, .ref 154, .int (nI dr), .int (nI dd), .int (nI bk), .int wt, .ref 155, .int (nI rt), .ref 156, .ref 157, .ref 158, .ref 159, .ref 160, .ref 161, .ref 162, .ref 163, .ref 164, .ref 165, .ref 166]) dX11_risk_93 fX11_1 m0 (Nat.le_of_ble_eq_true rfl) rfl rfl rfl ?_
                  refine g_aload_n dX11_risk_96 rfl rfl ?_
                  refine g_getf (v := .int (nI 2)) dX11_risk_97 fX11_1 g_eq rfl ?_
                  refine g_if_leN (tgt := 105) dX11_risk_100 (by decide) (by decide) (fun c100 => ?_) (fun c100 => ?_)
                  · exact absurd c100 (by decide)
                  · refine g_iconst (v := nI 0) dX11_risk_103 (by decide) ?_
                    have ek : k_risk sg mm i_ n_ x_ y_ z_ = 2 := (by unfold k_risk; (repeat' split) <;> first | rfl | (exfalso; simp only [i_lt, i_le, i_eq, it0, itm, ifp, nI_toInt (show 0 < 2147483648 by first | decide | omega), nI_toInt (show 1 < 2147483648 by first | decide | omega), nI_toInt (show 30 < 2147483648 by first | decide | omega), nI_toInt (show 20000 < 2147483648 by first | decide | omega), nI_toInt (show mm < 2147483648 by first | decide | omega)] at * <;> omega))
                    exact e_i dX11_risk_104 rfl rfl (g_fr.rf.up (by simp)) (Or.inl ⟨by rw [ek]; decide, by rw [ek]; exact g_eq, g_fr.rf.up (by simp)⟩) (by decide) (by decide)
                · refine g_iload_n dX11_risk_71 rfl rfl ?_
                  refine g_aload_n dX11_risk_72 rfl rfl ?_
                  refine g_getf (v := .int (nI mm)) dX11_risk_73 fX11_250 m0 rfl ?_
                  refine g_icmp_lt (tgt := 83) dX11_risk_76 (by decide) (fun c76 => ?_) (fun c76 => ?_)
                  · refine g_iload dX11_risk_83 rfl ?_
                    refine g_if_neN (tgt := 92) dX11_risk_85 (by decide) (by decide) (fun c85 => ?_) (fun c85 => ?_)
                    · exact absurd c85 (by decide)
                    · refine g_iconst (v := nI 3) dX11_risk_88 (by decide) ?_
                      refine g_goto (tgt := 93) dX11_risk_89 (by decide) ?_
                      refine g_put (fs' := [.int (nI 3), .ref 143, .int (nI (s 4)), .int (nI (s 7)), .int (nI (s 8)), .ref 144, .int (nI (s 5)), .int (nI (s 6)), .ref 145, .int (nI (s 9)), .int (nI (s 10)), .int (nI (s 11)), .int (nI (s 12)), .ref 146, .int (nI k), .ref 147, .int (nI m), .int (nI sg), .int (nI cm), .int (nI sd), .ref 148, .ref 149, .ref 150, .ref 151, .int (nI mm), .ref 152, .ref 153, .ref 154, .int (nI dr), .int (nI dd), .int (nI bk), .int wt, .ref 155, .int (nI rt), .ref 156, .ref 157, .ref 158, .ref 159, .ref 160, .ref 161, .ref 162, .ref 163, .ref 164, .ref 165, .ref 166]) dX11_risk_93 fX11_1 m0 (Nat.le_of_ble_eq_true rfl) rfl rfl rfl ?_
                      refine g_aload_n dX11_risk_96 rfl rfl ?_
                      refine g_getf (v := .int (nI 3)) dX11_risk_97 fX11_1 g_eq rfl ?_
                      refine g_if_leN (tgt := 105) dX11_risk_100 (by decide) (by decide) (fun c100 => ?_) (fun c100 => ?_)
                      · exact absurd c100 (by decide)
                      · refine g_iconst (v := nI 0) dX11_risk_103 (by decide) ?_
                        have ek : k_risk sg mm i_ n_ x_ y_ z_ = 3 := (by unfold k_risk; (repeat' split) <;> first | rfl | (exfalso; simp only [i_lt, i_le, i_eq, it0, itm, ifp, nI_toInt (show 0 < 2147483648 by first | decide | omega), nI_toInt (show 1 < 2147483648 by first | decide | omega), nI_toInt (show 30 < 2147483648 by first | decide | omega), nI_toInt (show 20000 < 2147483648 by first | decide | omega), nI_toInt (show mm < 2147483648 by first | decide | omega)] at * <;> omega))
                        exact e_i dX11_risk_104 rfl rfl (g_fr.rf.up (by simp)) (Or.inl ⟨by rw [ek]; decide, by rw [ek]; exact g_eq, g_fr.rf.up (by simp)⟩) (by decide) (by decide)
                  · refine g_iconst (v := nI 2) dX11_risk_79 (by decide) ?_
                    refine g_goto (tgt := 93) dX11_risk_80 (by decide) ?_
                    refine g_put (fs' := [.int (nI 2), .ref 143, .int (nI (s 4)), .int (nI (s 7)), .int (nI (s 8)), .ref 144, .int (nI (s 5)), .int (nI (s 6)), .ref 145, .int (nI (s 9)), .int (nI (s 10)), .int (nI (s 11)), .int (nI (s 12)), .ref 146, .int (nI k), .ref 147, .int (nI m), .int (nI sg), .int (nI cm), .int (nI sd), .ref 148, .ref 149, .ref 150, .ref 151, .int (nI mm), .ref 152, .ref 153, .ref 154, .int (nI dr), .int (nI dd), .int (nI bk), .int wt, .ref 155, .int (nI rt), .ref 156, .ref 157, .ref 158, .ref 159, .ref 160, .ref 161, .ref 162, .ref 163, .ref 164, .ref 165, .ref 166]) dX11_risk_93 fX11_1 m0 (Nat.le_of_ble_eq_true rfl) rfl rfl rfl ?_
                    refine g_aload_n dX11_risk_96 rfl rfl ?_
                    refine g_getf (v := .int (nI 2)) dX11_risk_97 fX11_1 g_eq rfl ?_
                    refine g_if_leN (tgt := 105) dX11_risk_100 (by decide) (by decide) (fun c100 => ?_) (fun c100 => ?_)
                    · exact absurd c100 (by decide)
                    · refine g_iconst (v := nI 0) dX11_risk_103 (by decide) ?_
                      have ek : k_risk sg mm i_ n_ x_ y_ z_ = 2 := (by unfold k_risk; (repeat' split) <;> first | rfl | (exfalso; simp only [i_lt, i_le, i_eq, it0, itm, ifp, nI_toInt (show 0 < 2147483648 by first | decide | omega), nI_toInt (show 1 < 2147483648 by first | decide | omega), nI_toInt (show 30 < 2147483648 by first | decide | omega), nI_toInt (show 20000 < 2147483648 by first | decide | omega), nI_toInt (show mm < 2147483648 by first | decide | omega)] at * <;> omega))
                      exact e_i dX11_risk_104 rfl rfl (g_fr.rf.up (by simp)) (Or.inl ⟨by rw [ek]; decide, by rw [ek]; exact g_eq, g_fr.rf.up (by simp)⟩) (by decide) (by decide)
              · refine g_iconst (v := nI 1) dX11_risk_63 (by decide) ?_
                refine g_goto (tgt := 93) dX11_risk_64 (by decide) ?_
                refine g_put (fs' := [.int (nI 1), .ref 143, .int (nI (s 4)), .int (nI (s 7)), .int (nI (s 8)), .ref 144, .int (nI (s 5)), .int (nI (s 6)), .ref 145, .int (nI (s 9)), .int (nI (s 10)), .int (nI (s 11)), .int (nI (s 12)), .ref 146, .int (nI k), .ref 147, .int (nI m), .int (nI sg), .int (nI cm), .int (nI sd), .ref 148, .ref 149, .ref 150, .ref 151, .int (nI mm), .ref 152, .ref 153, .ref 154, .int (nI dr), .int (nI dd), .int (nI bk), .int wt, .ref 155, .int (nI rt), .ref 156, .ref 157, .ref 158, .ref 159, .ref 160, .ref 161, .ref 162, .ref 163, .ref 164, .ref 165, .ref 166]) dX11_risk_93 fX11_1 m0 (Nat.le_of_ble_eq_true rfl) rfl rfl rfl ?_
                refine g_aload_n dX11_risk_96 rfl rfl ?_
                refine g_getf (v := .int (nI 1)) dX11_risk_97 fX11_1 g_eq rfl ?_
                refine g_if_leN (tgt := 105) dX11_risk_100 (by decide) (by decide) (fun c100 => ?_) (fun c100 => ?_)
                · exact absurd c100 (by decide)
                · refine g_iconst (v := nI 0) dX11_risk_103 (by decide) ?_
                  have ek : k_risk sg mm i_ n_ x_ y_ z_ = 1 := (by unfold k_risk; (repeat' split) <;> first | rfl | (exfalso; simp only [i_lt, i_le, i_eq, it0, itm, ifp, nI_toInt (show 0 < 2147483648 by first | decide | omega), nI_toInt (show 1 < 2147483648 by first | decide | omega), nI_toInt (show 30 < 2147483648 by first | decide | omega), nI_toInt (show 20000 < 2147483648 by first | decide | omega), nI_toInt (show mm < 2147483648 by first | decide | omega)] at * <;> omega))
                  exact e_i dX11_risk_104 rfl rfl (g_fr.rf.up (by simp)) (Or.inl ⟨by rw [ek]; decide, by rw [ek]; exact g_eq, g_fr.rf.up (by simp)⟩) (by decide) (by decide)
            · refine g_iload_n dX11_risk_33 rfl rfl ?_
              refine g_iload dX11_risk_34 rfl ?_
              refine g_icmp_gt (tgt := 52) dX11_risk_36 (by decide) (fun c36 => ?_) (fun c36 => ?_)
              · refine g_iconst (v := nI 0) dX11_risk_52 (by decide) ?_
                refine g_istore (ls' := [(6, .int (nI 0)), (0, .ref 142), (1, .int i_), (2, .int n_), (3, .int x_), (4, .int y_), (5, .int z_)]) dX11_risk_53 (by decide) rfl ?_
                refine g_aload_n dX11_risk_55 rfl rfl ?_
                refine g_aload_n dX11_risk_56 rfl rfl ?_
                refine g_getf (v := .int (nI sg)) dX11_risk_57 fX11_231 m0 rfl ?_
                refine g_if_neN (tgt := 67) dX11_risk_60 (by decide) (by omega) (fun c60 => ?_) (fun c60 => ?_)
                · refine g_iload_n dX11_risk_67 rfl rfl ?_
                  refine g_if_lt (tgt := 79) dX11_risk_68 (by decide) (fun c68 => ?_) (fun c68 => ?_)
                  · refine g_iconst (v := nI 2) dX11_risk_79 (by decide) ?_
                    refine g_goto (tgt := 93) dX11_risk_80 (by decide) ?_
                    refine g_put (fs' := [.int (nI 2), .ref 143, .int (nI (s 4)), .int (nI (s 7)), .int (nI (s 8)), .ref 144, .int (nI (s 5)), .int (nI (s 6)), .ref 145, .int (nI (s 9)), .int (nI (s 10)), .int (nI (s 11)), .int (nI (s 12)), .ref 146, .int (nI k), .ref 147, .int (nI m), .int (nI sg), .int (nI cm), .int (nI sd), .ref 148, .ref 149, .ref 150, .ref 151, .int (nI mm), .ref 152, .ref 153, .ref 154, .int (nI dr), .int (nI dd), .int (nI bk), .int wt, .ref 155, .int (nI rt), .ref 156, .ref 157, .ref 158, .ref 159, .ref 160, .ref 161, .ref 162, .ref 163, .ref 164, .ref 165, .ref 166]) dX11_risk_93 fX11_1 m0 (Nat.le_of_ble_eq_true rfl) rfl rfl rfl ?_
                    refine g_aload_n dX11_risk_96 rfl rfl ?_
                    refine g_getf (v := .int (nI 2)) dX11_risk_97 fX11_1 g_eq rfl ?_
                    refine g_if_leN (tgt := 105) dX11_risk_100 (by decide) (by decide) (fun c100 => ?_) (fun c100 => ?_)
                    · exact absurd c100 (by decide)
                    · refine g_iconst (v := nI 0) dX11_risk_103 (by decide) ?_
                      have ek : k_risk sg mm i_ n_ x_ y_ z_ = 2 := (by unfold k_risk; (repeat' split) <;> first | rfl | (exfalso; simp only [i_lt, i_le, i_eq, it0, itm, ifp, nI_toInt (show 0 < 2147483648 by first | decide | omega), nI_toInt (show 1 < 2147483648 by first | decide | omega), nI_toInt (show 30 < 2147483648 by first | decide | omega), nI_toInt (show 20000 < 2147483648 by first | decide | omega), nI_toInt (show mm < 2147483648 by first | decide | omega)] at * <;> omega))
                      exact e_i dX11_risk_104 rfl rfl (g_fr.rf.up (by simp)) (Or.inl ⟨by rw [ek]; decide, by rw [ek]; exact g_eq, g_fr.rf.up (by simp)⟩) (by decide) (by decide)
                  · refine g_iload_n dX11_risk_71 rfl rfl ?_
                    refine g_aload_n dX11_risk_72 rfl rfl ?_
                    refine g_getf (v := .int (nI mm)) dX11_risk_73 fX11_250 m0 rfl ?_
                    refine g_icmp_lt (tgt := 83) dX11_risk_76 (by decide) (fun c76 => ?_) (fun c76 => ?_)
                    · refine g_iload dX11_risk_83 rfl ?_
                      refine g_if_neN (tgt := 92) dX11_risk_85 (by decide) (by decide) (fun c85 => ?_) (fun c85 => ?_)
                      · exact absurd c85 (by decide)
                      · refine g_iconst (v := nI 3) dX11_risk_88 (by decide) ?_
                        refine g_goto (tgt := 93) dX11_risk_89 (by decide) ?_
                        refine g_put (fs' := [.int (nI 3), .ref 143, .int (nI (s 4)), .int (nI (s 7)), .int (nI (s 8)), .ref 144, .int (nI (s 5)), .int (nI (s 6)), .ref 145, .int (nI (s 9)), .int (nI (s 10)), .int (nI (s 11)), .int (nI (s 12)), .ref 146, .int (nI k), .ref 147, .int (nI m), .int (nI sg), .int (nI cm), .int (nI sd), .ref 148, .ref 149, .ref 150, .ref 151, .int (nI mm), .ref 152, .ref 153, .ref 154, .int (nI dr), .int (nI dd), .int (nI bk), .int wt, .ref 155, .int (nI rt), .ref 156, .ref 157, .ref 158, .ref 159, .ref 160, .ref 161, .ref 162, .ref 163, .ref 164, .ref 165, .ref 166]) dX11_risk_93 fX11_1 m0 (Nat.le_of_ble_eq_true rfl) rfl rfl rfl ?_
                        refine g_aload_n dX11_risk_96 rfl rfl ?_
                        refine g_getf (v := .int (nI 3)) dX11_risk_97 fX11_1 g_eq rfl ?_
                        refine g_if_leN (tgt := 105) dX11_risk_100 (by decide) (by decide) (fun c100 => ?_) (fun c100 => ?_)
                        · exact absurd c100 (by decide)
                        · refine g_iconst (v := nI 0) dX11_risk_103 (by decide) ?_
                          have ek : k_risk sg mm i_ n_ x_ y_ z_ = 3 := (by unfold k_risk; (repeat' split) <;> first | rfl | (exfalso; simp only [i_lt, i_le, i_eq, it0, itm, ifp, nI_toInt (show 0 < 2147483648 by first | decide | omega), nI_toInt (show 1 < 2147483648 by first | decide | omega), nI_toInt (show 30 < 2147483648 by first | decide | omega), nI_toInt (show 20000 < 2147483648 by first | decide | omega), nI_toInt (show mm < 2147483648 by first | decide | omega)] at * <;> omega))
                          exact e_i dX11_risk_104 rfl rfl (g_fr.rf.up (by simp)) (Or.inl ⟨by rw [ek]; decide, by rw [ek]; exact g_eq, g_fr.rf.up (by simp)⟩) (by decide) (by decide)
                    · refine g_iconst (v := nI 2) dX11_risk_79 (by decide) ?_
                      refine g_goto (tgt := 93) dX11_risk_80 (by decide) ?_
                      refine g_put (fs' := [.int (nI 2), .ref 143, .int (nI (s 4)), .int (nI (s 7)), .int (nI (s 8)), .ref 144, .int (nI (s 5)), .int (nI (s 6)), .ref 145, .int (nI (s 9)), .int (nI (s 10)), .int (nI (s 11)), .int (nI (s 12)), .ref 146, .int (nI k), .ref 147, .int (nI m), .int (nI sg), .int (nI cm), .int (nI sd), .ref 148, .ref 149, .ref 150, .ref 151, .int (nI mm), .ref 152, .ref 153, .ref 154, .int (nI dr), .int (nI dd), .int (nI bk), .int wt, .ref 155, .int (nI rt), .ref 156, .ref 157, .ref 158, .ref 159, .ref 160, .ref 161, .ref 162, .ref 163, .ref 164, .ref 165, .ref 166]) dX11_risk_93 fX11_1 m0 (Nat.le_of_ble_eq_true rfl) rfl rfl rfl ?_
                      refine g_aload_n dX11_risk_96 rfl rfl ?_
                      refine g_getf (v := .int (nI 2)) dX11_risk_97 fX11_1 g_eq rfl ?_
                      refine g_if_leN (tgt := 105) dX11_risk_100 (by decide) (by decide) (fun c100 => ?_) (fun c100 => ?_)
                      · exact absurd c100 (by decide)
                      · refine g_iconst (v := nI 0) dX11_risk_103 (by decide) ?_
                        have ek : k_risk sg mm i_ n_ x_ y_ z_ = 2 := (by unfold k_risk; (repeat' split) <;> first | rfl | (exfalso; simp only [i_lt, i_le, i_eq, it0, itm, ifp, nI_toInt (show 0 < 2147483648 by first | decide | omega), nI_toInt (show 1 < 2147483648 by first | decide | omega), nI_toInt (show 30 < 2147483648 by first | decide | omega), nI_toInt (show 20000 < 2147483648 by first | decide | omega), nI_toInt (show mm < 2147483648 by first | decide | omega)] at * <;> omega))
                        exact e_i dX11_risk_104 rfl rfl (g_fr.rf.up (by simp)) (Or.inl ⟨by rw [ek]; decide, by rw [ek]; exact g_eq, g_fr.rf.up (by simp)⟩) (by decide) (by decide)
                · refine g_iconst (v := nI 1) dX11_risk_63 (by decide) ?_
                  refine g_goto (tgt := 93) dX11_risk_64 (by decide) ?_
                  refine g_put (fs' := [.int (nI 1), .ref 143, .int (nI (s 4)), .int (nI (s 7)), .int (nI (s 8)), .ref 144, .int (nI (s 5)), .int (nI (s 6)), .ref 145, .int (nI (s 9)), .int (nI (s 10)), .int (nI (s 11)), .int (nI (s 12)), .ref 146, .int (nI k), .ref 147, .int (nI m), .int (nI sg), .int (nI cm), .int (nI sd), .ref 148, .ref 149, .ref 150, .ref 151, .int (nI mm), .ref 152, .ref 153, .ref 154, .int (nI dr), .int (nI dd), .int (nI bk), .int wt, .ref 155, .int (nI rt), .ref 156, .ref 157, .ref 158, .ref 159, .ref 160, .ref 161, .ref 162, .ref 163, .ref 164, .ref 165, .ref 166]) dX11_risk_93 fX11_1 m0 (Nat.le_of_ble_eq_true rfl) rfl rfl rfl ?_
                  refine g_aload_n dX11_risk_96 rfl rfl ?_
                  refine g_getf (v := .int (nI 1)) dX11_risk_97 fX11_1 g_eq rfl ?_
                  refine g_if_leN (tgt := 105) dX11_risk_100 (by decide) (by decide) (fun c100 => ?_) (fun c100 => ?_)
                  · exact absurd c100 (by decide)
                  · refine g_iconst (v := nI 0) dX11_risk_103 (by decide) ?_
                    have ek : k_risk sg mm i_ n_ x_ y_ z_ = 1 := (by unfold k_risk; (repeat' split) <;> first | rfl | (exfalso; simp only [i_lt, i_le, i_eq, it0, itm, ifp, nI_toInt (show 0 < 2147483648 by first | decide | omega), nI_toInt (show 1 < 2147483648 by first | decide | omega), nI_toInt (show 30 < 2147483648 by first | decide | omega), nI_toInt (show 20000 < 2147483648 by first | decide | omega), nI_toInt (show mm < 2147483648 by first | decide | omega)] at * <;> omega))
                    exact e_i dX11_risk_104 rfl rfl (g_fr.rf.up (by simp)) (Or.inl ⟨by rw [ek]; decide, by rw [ek]; exact g_eq, g_fr.rf.up (by simp)⟩) (by decide) (by decide)
              · obtain ⟨z, hz1, hz2, rfl⟩ := nat_of (a := 1) (b := 20000) (by decide) ⟨Int32.not_lt.mp c13, Int32.not_lt.mp c21⟩ (by decide)
                obtain ⟨x, hx1, rfl⟩ := nat0 c25
                have hxz : x ≤ z := (nI_leI hx1 (by omega)).mp (Int32.not_lt.mp c36)
                refine g_iload dX11_risk_39 rfl ?_
                refine g_iload dX11_risk_41 rfl ?_
                refine g_iload_n dX11_risk_43 rfl rfl ?_
                refine g_isubN dX11_risk_44 (by omega) ?_
                refine g_icmp_gt (tgt := 52) dX11_risk_45 (by decide) (fun c45 => ?_) (fun c45 => ?_)
                · refine g_iconst (v := nI 0) dX11_risk_52 (by decide) ?_
                  refine g_istore (ls' := [(6, .int (nI 0)), (0, .ref 142), (1, .int i_), (2, .int n_), (3, .int (nI x)), (4, .int y_), (5, .int (nI z))]) dX11_risk_53 (by decide) rfl ?_
                  refine g_aload_n dX11_risk_55 rfl rfl ?_
                  refine g_aload_n dX11_risk_56 rfl rfl ?_
                  refine g_getf (v := .int (nI sg)) dX11_risk_57 fX11_231 m0 rfl ?_
                  refine g_if_neN (tgt := 67) dX11_risk_60 (by decide) (by omega) (fun c60 => ?_) (fun c60 => ?_)
                  · refine g_iload_n dX11_risk_67 rfl rfl ?_
                    refine g_if_lt (tgt := 79) dX11_risk_68 (by decide) (fun c68 => ?_) (fun c68 => ?_)
                    · refine g_iconst (v := nI 2) dX11_risk_79 (by decide) ?_
                      refine g_goto (tgt := 93) dX11_risk_80 (by decide) ?_
                      refine g_put (fs' := [.int (nI 2), .ref 143, .int (nI (s 4)), .int (nI (s 7)), .int (nI (s 8)), .ref 144, .int (nI (s 5)), .int (nI (s 6)), .ref 145, .int (nI (s 9)), .int (nI (s 10)), .int (nI (s 11)), .int (nI (s 12)), .ref 146, .int (nI k), .ref 147, .int (nI m), .int (nI sg), .int (nI cm), .int (nI sd), .ref 148, .ref 149, .ref 150, .ref 151, .int (nI mm), .ref 152, .ref 153, .ref 154, .int (nI dr), .int (nI dd), .int (nI bk), .int wt, .ref 155, .int (nI rt), .ref 156, .ref 157, .ref 158, .ref 159, .ref 160, .ref 161, .ref 162, .ref 163, .ref 164, .ref 165, .ref 166]) dX11_risk_93 fX11_1 m0 (Nat.le_of_ble_eq_true rfl) rfl rfl rfl ?_
                      refine g_aload_n dX11_risk_96 rfl rfl ?_
                      refine g_getf (v := .int (nI 2)) dX11_risk_97 fX11_1 g_eq rfl ?_
                      refine g_if_leN (tgt := 105) dX11_risk_100 (by decide) (by decide) (fun c100 => ?_) (fun c100 => ?_)
                      · exact absurd c100 (by decide)
                      · refine g_iconst (v := nI 0) dX11_risk_103 (by decide) ?_
                        have ek : k_risk sg mm i_ n_ (nI x) y_ (nI z) = 2 := (by unfold k_risk; rw [pk_sub (show x ≤ z by omega)]; (repeat' split) <;> first | rfl | (exfalso; simp only [i_lt, i_le, i_eq, it0, itm, ifp, nI_toInt (show 0 < 2147483648 by first | decide | omega), nI_toInt (show 1 < 2147483648 by first | decide | omega), nI_toInt (show 30 < 2147483648 by first | decide | omega), nI_toInt (show 20000 < 2147483648 by first | decide | omega), nI_toInt (show mm < 2147483648 by first | decide | omega), nI_toInt (show x < 2147483648 by first | decide | omega), nI_toInt (show z < 2147483648 by first | decide | omega), nI_toInt (show z - x < 2147483648 by first | decide | omega)] at * <;> omega))
                        exact e_i dX11_risk_104 rfl rfl (g_fr.rf.up (by simp)) (Or.inl ⟨by rw [ek]; decide, by rw [ek]; exact g_eq, g_fr.rf.up (by simp)⟩) (by decide) (by decide)
                    · refine g_iload_n dX11_risk_71 rfl rfl ?_
                      refine g_aload_n dX11_risk_72 rfl rfl ?_
                      refine g_getf (v := .int (nI mm)) dX11_risk_73 fX11_250 m0 rfl ?_
                      refine g_icmp_lt (tgt := 83) dX11_risk_76 (by decide) (fun c76 => ?_) (fun c76 => ?_)
                      · refine g_iload dX11_risk_83 rfl ?_
                        refine g_if_neN (tgt := 92) dX11_risk_85 (by decide) (by decide) (fun c85 => ?_) (fun c85 => ?_)
                        · exact absurd c85 (by decide)
                        · refine g_iconst (v := nI 3) dX11_risk_88 (by decide) ?_
                          refine g_goto (tgt := 93) dX11_risk_89 (by decide) ?_
                          refine g_put (fs' := [.int (nI 3), .ref 143, .int (nI (s 4)), .int (nI (s 7)), .int (nI (s 8)), .ref 144, .int (nI (s 5)), .int (nI (s 6)), .ref 145, .int (nI (s 9)), .int (nI (s 10)), .int (nI (s 11)), .int (nI (s 12)), .ref 146, .int (nI k), .ref 147, .int (nI m), .int (nI sg), .int (nI cm), .int (nI sd), .ref 148, .ref 149, .ref 150, .ref 151, .int (nI mm), .ref 152, .ref 153, .ref 154, .int (nI dr), .int (nI dd), .int (nI bk), .int wt, .ref 155, .int (nI rt), .ref 156, .ref 157, .ref 158, .ref 159, .ref 160, .ref 161, .ref 162, .ref 163, .ref 164, .ref 165, .ref 166]) dX11_risk_93 fX11_1 m0 (Nat.le_of_ble_eq_true rfl) rfl rfl rfl ?_
                          refine g_aload_n dX11_risk_96 rfl rfl ?_
                          refine g_getf (v := .int (nI 3)) dX11_risk_97 fX11_1 g_eq rfl ?_
                          refine g_if_leN (tgt := 105) dX11_risk_100 (by decide) (by decide) (fun c100 => ?_) (fun c100 => ?_)
                          · exact absurd c100 (by decide)
                          · refine g_iconst (v := nI 0) dX11_risk_103 (by decide) ?_
                            have ek : k_risk sg mm i_ n_ (nI x) y_ (nI z) = 3 := (by unfold k_risk; rw [pk_sub (show x ≤ z by omega)]; (repeat' split) <;> first | rfl | (exfalso; simp only [i_lt, i_le, i_eq, it0, itm, ifp, nI_toInt (show 0 < 2147483648 by first | decide | omega), nI_toInt (show 1 < 2147483648 by first | decide | omega), nI_toInt (show 30 < 2147483648 by first | decide | omega), nI_toInt (show 20000 < 2147483648 by first | decide | omega), nI_toInt (show mm < 2147483648 by first | decide | omega), nI_toInt (show x < 2147483648 by first | decide | omega), nI_toInt (show z < 2147483648 by first | decide | omega), nI_toInt (show z - x < 2147483648 by first | decide | omega)] at * <;> omega))
                            exact e_i dX11_risk_104 rfl rfl (g_fr.rf.up (by simp)) (Or.inl ⟨by rw [ek]; decide, by rw [ek]; exact g_eq, g_fr.rf.up (by simp)⟩) (by decide) (by decide)
                      · refine g_iconst (v := nI 2) dX11_risk_79 (by decide) ?_
                        refine g_goto (tgt := 93) dX11_risk_80 (by decide) ?_
                        refine g_put (fs' := [.int (nI 2), .ref 143, .int (nI (s 4)), .int (nI (s 7)), .int (nI (s 8)), .ref 144, .int (nI (s 5)), .int (nI (s 6)), .ref 145, .int (nI (s 9)), .int (nI (s 10)), .int (nI (s 11)), .int (nI (s 12)), .ref 146, .int (nI k), .ref 147, .int (nI m), .int (nI sg), .int (nI cm), .int (nI sd), .ref 148, .ref 149, .ref 150, .ref 151, .int (nI mm), .ref 152, .ref 153, .ref 154, .int (nI dr), .int (nI dd), .int (nI bk), .int wt, .ref 155, .int (nI rt), .ref 156, .ref 157, .ref 158, .ref 159, .ref 160, .ref 161, .ref 162, .ref 163, .ref 164, .ref 165, .ref 166]) dX11_risk_93 fX11_1 m0 (Nat.le_of_ble_eq_true rfl) rfl rfl rfl ?_
                        refine g_aload_n dX11_risk_96 rfl rfl ?_
                        refine g_getf (v := .int (nI 2)) dX11_risk_97 fX11_1 g_eq rfl ?_
                        refine g_if_leN (tgt := 105) dX11_risk_100 (by decide) (by decide) (fun c100 => ?_) (fun c100 => ?_)
                        · exact absurd c100 (by decide)
                        · refine g_iconst (v := nI 0) dX11_risk_103 (by decide) ?_
                          have ek : k_risk sg mm i_ n_ (nI x) y_ (nI z) = 2 := (by unfold k_risk; rw [pk_sub (show x ≤ z by omega)]; (repeat' split) <;> first | rfl | (exfalso; simp only [i_lt, i_le, i_eq, it0, itm, ifp, nI_toInt (show 0 < 2147483648 by first | decide | omega), nI_toInt (show 1 < 2147483648 by first | decide | omega), nI_toInt (show 30 < 2147483648 by first | decide | omega), nI_toInt (show 20000 < 2147483648 by first | decide | omega), nI_toInt (show mm < 2147483648 by first | decide | omega), nI_toInt (show x < 2147483648 by first | decide | omega), nI_toInt (show z < 2147483648 by first | decide | omega), nI_toInt (show z - x < 2147483648 by first | decide | omega)] at * <;> omega))
                          exact e_i dX11_risk_104 rfl rfl (g_fr.rf.up (by simp)) (Or.inl ⟨by rw [ek]; decide, by rw [ek]; exact g_eq, g_fr.rf.up (by simp)⟩) (by decide) (by decide)
                  · refine g_iconst (v := nI 1) dX11_risk_63 (by decide) ?_
                    refine g_goto (tgt := 93) dX11_risk_64 (by decide) ?_
                    refine g_put (fs' := [.int (nI 1), .ref 143, .int (nI (s 4)), .int (nI (s 7)), .int (nI (s 8)), .ref 144, .int (nI (s 5)), .int (nI (s 6)), .ref 145, .int (nI (s 9)), .int (nI (s 10)), .int (nI (s 11)), .int (nI (s 12)), .ref 146, .int (nI k), .ref 147, .int (nI m), .int (nI sg), .int (nI cm), .int (nI sd), .ref 148, .ref 149, .ref 150, .ref 151, .int (nI mm), .ref 152, .ref 153, .ref 154, .int (nI dr), .int (nI dd), .int (nI bk), .int wt, .ref 155, .int (nI rt), .ref 156, .ref 157, .ref 158, .ref 159, .ref 160, .ref 161, .ref 162, .ref 163, .ref 164, .ref 165, .ref 166]) dX11_risk_93 fX11_1 m0 (Nat.le_of_ble_eq_true rfl) rfl rfl rfl ?_
                    refine g_aload_n dX11_risk_96 rfl rfl ?_
                    refine g_getf (v := .int (nI 1)) dX11_risk_97 fX11_1 g_eq rfl ?_
                    refine g_if_leN (tgt := 105) dX11_risk_100 (by decide) (by decide) (fun c100 => ?_) (fun c100 => ?_)
                    · exact absurd c100 (by decide)
                    · refine g_iconst (v := nI 0) dX11_risk_103 (by decide) ?_
                      have ek : k_risk sg mm i_ n_ (nI x) y_ (nI z) = 1 := (by unfold k_risk; rw [pk_sub (show x ≤ z by omega)]; (repeat' split) <;> first | rfl | (exfalso; simp only [i_lt, i_le, i_eq, it0, itm, ifp, nI_toInt (show 0 < 2147483648 by first | decide | omega), nI_toInt (show 1 < 2147483648 by first | decide | omega), nI_toInt (show 30 < 2147483648 by first | decide | omega), nI_toInt (show 20000 < 2147483648 by first | decide | omega), nI_toInt (show mm < 2147483648 by first | decide | omega), nI_toInt (show x < 2147483648 by first | decide | omega), nI_toInt (show z < 2147483648 by first | decide | omega), nI_toInt (show z - x < 2147483648 by first | decide | omega)] at * <;> omega))
                      exact e_i dX11_risk_104 rfl rfl (g_fr.rf.up (by simp)) (Or.inl ⟨by rw [ek]; decide, by rw [ek]; exact g_eq, g_fr.rf.up (by simp)⟩) (by decide) (by decide)
                · refine g_iconst (v := nI 1) dX11_risk_48 (by decide) ?_
                  refine g_goto (tgt := 53) dX11_risk_49 (by decide) ?_
                  refine g_istore (ls' := [(6, .int (nI 1)), (0, .ref 142), (1, .int i_), (2, .int n_), (3, .int (nI x)), (4, .int y_), (5, .int (nI z))]) dX11_risk_53 (by decide) rfl ?_
                  refine g_aload_n dX11_risk_55 rfl rfl ?_
                  refine g_aload_n dX11_risk_56 rfl rfl ?_
                  refine g_getf (v := .int (nI sg)) dX11_risk_57 fX11_231 m0 rfl ?_
                  refine g_if_neN (tgt := 67) dX11_risk_60 (by decide) (by omega) (fun c60 => ?_) (fun c60 => ?_)
                  · refine g_iload_n dX11_risk_67 rfl rfl ?_
                    refine g_if_lt (tgt := 79) dX11_risk_68 (by decide) (fun c68 => ?_) (fun c68 => ?_)
                    · refine g_iconst (v := nI 2) dX11_risk_79 (by decide) ?_
                      refine g_goto (tgt := 93) dX11_risk_80 (by decide) ?_
                      refine g_put (fs' := [.int (nI 2), .ref 143, .int (nI (s 4)), .int (nI (s 7)), .int (nI (s 8)), .ref 144, .int (nI (s 5)), .int (nI (s 6)), .ref 145, .int (nI (s 9)), .int (nI (s 10)), .int (nI (s 11)), .int (nI (s 12)), .ref 146, .int (nI k), .ref 147, .int (nI m), .int (nI sg), .int (nI cm), .int (nI sd), .ref 148, .ref 149, .ref 150, .ref 151, .int (nI mm), .ref 152, .ref 153, .ref 154, .int (nI dr), .int (nI dd), .int (nI bk), .int wt, .ref 155, .int (nI rt), .ref 156, .ref 157, .ref 158, .ref 159, .ref 160, .ref 161, .ref 162, .ref 163, .ref 164, .ref 165, .ref 166]) dX11_risk_93 fX11_1 m0 (Nat.le_of_ble_eq_true rfl) rfl rfl rfl ?_
                      refine g_aload_n dX11_risk_96 rfl rfl ?_
                      refine g_getf (v := .int (nI 2)) dX11_risk_97 fX11_1 g_eq rfl ?_
                      refine g_if_leN (tgt := 105) dX11_risk_100 (by decide) (by decide) (fun c100 => ?_) (fun c100 => ?_)
                      · exact absurd c100 (by decide)
                      · refine g_iconst (v := nI 0) dX11_risk_103 (by decide) ?_
                        have ek : k_risk sg mm i_ n_ (nI x) y_ (nI z) = 2 := (by unfold k_risk; rw [pk_sub (show x ≤ z by omega)]; (repeat' split) <;> first | rfl | (exfalso; simp only [i_lt, i_le, i_eq, it0, itm, ifp, nI_toInt (show 0 < 2147483648 by first | decide | omega), nI_toInt (show 1 < 2147483648 by first | decide | omega), nI_toInt (show 30 < 2147483648 by first | decide | omega), nI_toInt (show 20000 < 2147483648 by first | decide | omega), nI_toInt (show mm < 2147483648 by first | decide | omega), nI_toInt (show x < 2147483648 by first | decide | omega), nI_toInt (show z < 2147483648 by first | decide | omega), nI_toInt (show z - x < 2147483648 by first | decide | omega)] at * <;> omega))
                        exact e_i dX11_risk_104 rfl rfl (g_fr.rf.up (by simp)) (Or.inl ⟨by rw [ek]; decide, by rw [ek]; exact g_eq, g_fr.rf.up (by simp)⟩) (by decide) (by decide)
                    · refine g_iload_n dX11_risk_71 rfl rfl ?_
                      refine g_aload_n dX11_risk_72 rfl rfl ?_
                      refine g_getf (v := .int (nI mm)) dX11_risk_73 fX11_250 m0 rfl ?_
                      refine g_icmp_lt (tgt := 83) dX11_risk_76 (by decide) (fun c76 => ?_) (fun c76 => ?_)
                      · refine g_iload dX11_risk_83 rfl ?_
                        refine g_if_neN (tgt := 92) dX11_risk_85 (by decide) (by decide) (fun c85 => ?_) (fun c85 => ?_)
                        · obtain ⟨ii, hi1, rfl⟩ := nat0 c68
                          have hii : ii < mm := (nI_ltI hi1 (by omega)).mp c76
                          obtain ⟨nn, hn0, hnn, rfl⟩ := nat_of (a := 0) (b := 30) (by decide) ⟨Int32.not_lt.mp c1, Int32.not_lt.mp c7⟩ (by decide)
                          obtain ⟨y, hy1, rfl⟩ := nat0 c30
                          have hyz : y ≤ z - x := (nI_leI hy1 (by omega)).mp (Int32.not_lt.mp c45)
                          have huii := un_nI (show ii < 4294967296 by omega)
                          have hunn := un_nI (show nn < 4294967296 by omega)
                          have hux := un_nI (show x < 4294967296 by omega)
                          have huy := un_nI (show y < 4294967296 by omega)
                          have huz := un_nI (show z < 4294967296 by omega)
                          refine g_iconst (v := nI 0) dX11_risk_92 (by decide) ?_
                          refine g_put (fs' := [.int (nI 0), .ref 143, .int (nI (s 4)), .int (nI (s 7)), .int (nI (s 8)), .ref 144, .int (nI (s 5)), .int (nI (s 6)), .ref 145, .int (nI (s 9)), .int (nI (s 10)), .int (nI (s 11)), .int (nI (s 12)), .ref 146, .int (nI k), .ref 147, .int (nI m), .int (nI sg), .int (nI cm), .int (nI sd), .ref 148, .ref 149, .ref 150, .ref 151, .int (nI mm), .ref 152, .ref 153, .ref 154, .int (nI dr), .int (nI dd), .int (nI bk), .int wt, .ref 155, .int (nI rt), .ref 156, .ref 157, .ref 158, .ref 159, .ref 160, .ref 161, .ref 162, .ref 163, .ref 164, .ref 165, .ref 166]) dX11_risk_93 fX11_1 m0 (Nat.le_of_ble_eq_true rfl) rfl rfl rfl ?_
                          refine g_aload_n dX11_risk_96 rfl rfl ?_
                          refine g_getf (v := .int (nI 0)) dX11_risk_97 fX11_1 g_eq rfl ?_
                          refine g_if_leN (tgt := 105) dX11_risk_100 (by decide) (by decide) (fun c100 => ?_) (fun c100 => ?_)
                          · refine g_iconst (v := nI 0) dX11_risk_105 (by decide) ?_
                            refine g_istore (ls' := [(7, .int (nI 0)), (6, .int (nI 1)), (0, .ref 142), (1, .int (nI ii)), (2, .int (nI nn)), (3, .int (nI x)), (4, .int (nI y)), (5, .int (nI z))]) dX11_risk_106 (by decide) rfl ?_
                            have ek : k_risk sg mm (nI ii) (nI nn) (nI x) (nI y) (nI z) = 0 := (by unfold k_risk; rw [pk_sub (show x ≤ z by omega)]; (repeat' split) <;> first | rfl | (exfalso; simp only [i_lt, i_le, i_eq, it0, itm, ifp, nI_toInt (show 0 < 2147483648 by first | decide | omega), nI_toInt (show 1 < 2147483648 by first | decide | omega), nI_toInt (show 30 < 2147483648 by first | decide | omega), nI_toInt (show 20000 < 2147483648 by first | decide | omega), nI_toInt (show mm < 2147483648 by first | decide | omega), nI_toInt (show ii < 2147483648 by first | decide | omega), nI_toInt (show nn < 2147483648 by first | decide | omega), nI_toInt (show x < 2147483648 by first | decide | omega), nI_toInt (show y < 2147483648 by first | decide | omega), nI_toInt (show z < 2147483648 by first | decide | omega), nI_toInt (show z - x < 2147483648 by first | decide | omega)] at * <;> omega))
                            refine g_pick [0, 2, 3, 4, 5, 6, 7] (ls' := [(7, .int (nI 0)), (0, .ref 142), (1, .int (nI ii)), (2, .int (nI nn)), (3, .int (nI x)), (4, .int (nI y)), (5, .int (nI z))]) rfl ?_
                            have hsu0 : ¬ (fun a b => decide (t_ge v (s 9) (s 10) (w ii) (l ii) a b)) 0 0 = true := fun q => su_0 (v := v) (lu := s 9) (ll := s 10) (x := w ii) (y := l ii) (b := 0) (by have := hV ii hii; omega) (by have := hV ii hii; omega) hll (of_decide_eq_true q)
                            skip
                            refine lp_ri2 G (d + 1) _ n ex (g_up h 142 (.inr (11, [.int (nI 0), .ref 143, .int (nI (s 4)), .int (nI (s 7)), .int (nI (s 8)), .ref 144, .int (nI (s 5)), .int (nI (s 6)), .ref 145, .int (nI (s 9)), .int (nI (s 10)), .int (nI (s 11)), .int (nI (s 12)), .ref 146, .int (nI k), .ref 147, .int (nI m), .int (nI sg), .int (nI cm), .int (nI sd), .ref 148, .ref 149, .ref 150, .ref 151, .int (nI mm), .ref 152, .ref 153, .ref 154, .int (nI dr), .int (nI dd), .int (nI bk), .int wt, .ref 155, .int (nI rt), .ref 156, .ref 157, .ref 158, .ref 159, .ref 160, .ref 161, .ref 162, .ref 163, .ref 164, .ref 165, .ref 166]))) (cd := nI 0) (v := v) (w := w) (l := l) (V := V) hnn hii hmm hwl hV hl1 hl2 (fun h2 V2 S fN fVV f3 f9 f10 f16 fS fs ff' => ?_) (nn + 2) 0 (g_up h 142 (.inr (11, [.int (nI 0), .ref 143, .int (nI (s 4)), .int (nI (s 7)), .int (nI (s 8)), .ref 144, .int (nI (s 5)), .int (nI (s 6)), .ref 145, .int (nI (s 9)), .int (nI (s 10)), .int (nI (s 11)), .int (nI (s 12)), .ref 146, .int (nI k), .ref 147, .int (nI m), .int (nI sg), .int (nI cm), .int (nI sd), .ref 148, .ref 149, .ref 150, .ref 151, .int (nI mm), .ref 152, .ref 153, .ref 154, .int (nI dr), .int (nI dd), .int (nI bk), .int wt, .ref 155, .int (nI rt), .ref 156, .ref 157, .ref 158, .ref 159, .ref 160, .ref 161, .ref 162, .ref 163, .ref 164, .ref 165, .ref 166]))) V S0 (by omega) (by omega) ((hBv.fr (S := [142]) (g_fr.rf.up (by simp)) (by simp) (by simp)).n (X := MX (nI 0) s k m sg cm sd mm dr dd bk rt wt) g_eq) (fun _ _ _ => rfl) (g_ne (by decide) a3) (g_ne (by decide) a9) (g_ne (by decide) a10) (g_ne (by decide) e16) hS0 (fun p q hpq hc => absurd hc (by omega)) g_fr.rf
                            generalize hsu : (fun a b => decide (t_ge v (s 9) (s 10) (w ii) (l ii) a b)) = su at hsu0 fs
                            have ff : g_fr [142, 156, 157, 166] h h2 := g_fr.tr (S := [142, 156, 157, 166]) (g_fr.rf.up (by simp)) ff' (by simp)
                            have ffx : g_fr [142, 156, 157, 158, 159, 166] h h2 := ff.mono (by simp)
                            refine g_iconst (v := nI 0) dX11_risk_160 (by decide) ?_
                            refine g_istore (ls' := [(7, .int (nI 0)), (0, .ref 142), (1, .int (nI ii)), (2, .int (nI nn)), (3, .int (nI x)), (4, .int (nI y)), (5, .int (nI z))]) dX11_risk_161 (by decide) rfl ?_
                            refine g_pick [0, 1, 2, 3, 4, 5, 6] (ls' := [(7, .int (nI 0)), (0, .ref 142), (1, .int (nI ii)), (2, .int (nI nn)), (3, .int (nI x)), (4, .int (nI y)), (5, .int (nI z))]) rfl ?_
                            refine lp_ri3 G _ _ n ex h2 (cd := nI 0) (fun h3 B2 x1 x2 x3 x4 x5 => ?_) 38441 0 h2 O (by omega) (by omega) (Mc.of fN.cell) (ff.at (by simp) e8) hO (fun k hk => absurd hk (by omega)) g_fr.rf
                            have fN3 := fN.fr x5 (by simp) (by simp) (by simp)
                            refine g_aload_n dX11_risk_185 rfl rfl ?_
                            refine g_getf (v := .ref 158) dX11_risk_186 fX11_83 x1 rfl ?_
                            refine g_iconst (v := nI 0) dX11_risk_189 (by decide) ?_
                            refine g_iconst (v := nI 1) dX11_risk_190 (by decide) ?_
                            refine g_iastN dX11_risk_191 x2 (by decide) (by decide) ?_
                            rw [upd_nI]
                            refine g_aload_n dX11_risk_192 rfl rfl ?_
                            refine g_iconst (v := nI 0) dX11_risk_193 (by decide) ?_
                            refine g_lconst (v := lN 0) dX11_risk_194 (by decide) ?_
                            refine cVv (st := []) dX11_risk_195 (c_give G (d + 4) n ex _ (fN3.fr (S := [158]) (g_fr.rf.up (by simp)) (by simp) (by simp) (by simp)) (s := 0) (by decide) (by decide)) sX11_182 (g_ne (by decide) x1) rfl rfl (by simp only [g_rm]; omega) (by simp only [g_rm]; omega) (Nat.le_of_ble_eq_true rfl) ⟨Nat.le_of_ble_eq_true rfl, Nat.le_of_ble_eq_true rfl⟩ (fun h201 fr202 p203 => ?_)
                            have hN205 := p203
                            refine g_aload_n dX11_risk_198 rfl rfl ?_
                            refine g_iconst (v := nI 1) dX11_risk_199 (by decide) ?_
                            refine g_lconst (v := lN 1) dX11_risk_200 (by decide) ?_
                            refine cVv (st := []) dX11_risk_201 (c_give G (d + 4) n ex h201 hN205 (s := 1) (by decide) (by decide)) sX11_182 (fr202.at (by intro q; simp only [List.mem_cons, List.not_mem_nil, or_false] at q; omega) (g_ne (by decide) x1)) rfl rfl (by simp only [g_rm]; omega) (by simp only [g_rm]; omega) (Nat.le_of_ble_eq_true rfl) ⟨Nat.le_of_ble_eq_true rfl, Nat.le_of_ble_eq_true rfl⟩ (fun h206 fr207 p208 => ?_)
                            have hN210 := p208
                            refine g_iconst (v := nI 0) dX11_risk_204 (by decide) ?_
                            refine g_istore (ls' := [(7, .int (nI 0)), (0, .ref 142), (1, .int (nI ii)), (2, .int (nI nn)), (3, .int (nI x)), (4, .int (nI y)), (5, .int (nI z))]) dX11_risk_205 (by decide) rfl ?_
                            refine g_pick [0, 1, 2, 3, 4, 5, 6] (ls' := [(7, .int (nI 0)), (0, .ref 142), (1, .int (nI ii)), (2, .int (nI nn)), (3, .int (nI x)), (4, .int (nI y)), (5, .int (nI z))]) rfl ?_
                            refine lp_ri4 G (d + 1) _ n ex h206 (cd := nI 0) (su := su) (S := S) (V := V2) hnn hz1 hz2 hxz hyz fS fs (fun hj V3 O3 B3 jN jv0 jv1 jVV' jO jB j16 jOb jBb ju jf => ?_) (nn + 1) 0 h206 _ (va_up B2 0 1) Bx (by omega) (by omega) hN210 (by rw [va_n (by decide)]; exact va_s) (by rw [va_s, Nat.pow_zero]) (fun u h0 h1 _ _ => (va_n h1).trans ((va_n h0))) (fr207.at (by intro q; simp only [List.mem_cons, List.not_mem_nil, or_false] at q; omega) (fr202.at (by intro q; simp only [List.mem_cons, List.not_mem_nil, or_false] at q; omega) g_eq)) (fr207.at (by intro q; simp only [List.mem_cons, List.not_mem_nil, or_false] at q; omega) (fr202.at (by intro q; simp only [List.mem_cons, List.not_mem_nil, or_false] at q; omega) (g_ne (by decide) (x5.at (by simp) (ff.at (by simp) e9))))) (fr207.at (by intro q; simp only [List.mem_cons, List.not_mem_nil, or_false] at q; omega) (fr202.at (by intro q; simp only [List.mem_cons, List.not_mem_nil, or_false] at q; omega) (g_ne (by decide) (x5.at (by simp) f16)))) (up_b x3 (by decide)) hBx (fun p q hpq => ?_) g_fr.rf
                            rotate_left
                            · show _ = if p = 0 ∧ q = 0 then 1 else 0
                              by_cases zz : p = 0 ∧ q = 0
                              · obtain ⟨rfl, rfl⟩ := zz
                                rw [if_pos ⟨rfl, rfl⟩, show 40 = 39 + 1 from rfl, bv_cons, va_s, bv_z (fun i hi => by rw [va_n (by omega)]; exact x4 _ (by omega)), Nat.zero_mul]
                              · rw [if_neg zz]; exact bv_z (fun i hi => by rw [va_n (by omega)]; exact x4 _ (by omega))
                            have jf2 : g_fr [142, 156, 157, 158, 159, 166] h hj := g_fr.tr (S := [142, 156, 157, 158, 159, 166]) ((((g_fr.tr ffx x5 (by simp)).up (by simp)).tr fr202 (by simp)).tr fr207 (by simp)) jf (by simp)
                            have jVV : ∀ u, ¬ u = 0 → ¬ u = 1 → ¬ u = 2 → ¬ u = 3 → V3 u = V u := fun u h0 h1 h2 h3 => (jVV' u h0 h1 h2 h3).trans (fVV u h2 h3)
                            have jS16 : hj 166 = some (.inl (2, 961, .inl (fun k => nI (S k)))) := j16
                            refine g_aload_n dX11_risk_250 rfl rfl ?_
                            refine g_iconst (v := nI 2) dX11_risk_251 (by decide) ?_
                            refine g_iconst (v := nI 0) dX11_risk_252 (by decide) ?_
                            refine cVv (st := []) dX11_risk_253 (c_mcopy G (d + 4) n ex hj jN (by decide) (by decide) (by decide) jv0) sX11_195 jN.cell rfl rfl (by simp only [g_rm]; omega) (by simp only [g_rm]; omega) (Nat.le_of_ble_eq_true rfl) ⟨Nat.le_of_ble_eq_true rfl, Nat.le_of_ble_eq_true rfl⟩ (fun h301 fr302 p303 => ?_)
                            have hN305 := p303
                            refine g_aload_n dX11_risk_256 rfl rfl ?_
                            refine g_iconst (v := nI 3) dX11_risk_257 (by decide) ?_
                            refine g_iconst (v := nI 1) dX11_risk_258 (by decide) ?_
                            refine cVv (st := []) dX11_risk_259 (c_mcopy G (d + 4) n ex h301 hN305 (by decide) (by decide) (by decide) ((va_n (by decide)).trans jv1)) sX11_195 (fr302.at (by intro q; simp only [List.mem_cons, List.not_mem_nil, or_false] at q; omega) jN.cell) rfl rfl (by simp only [g_rm]; omega) (by simp only [g_rm]; omega) (Nat.le_of_ble_eq_true rfl) ⟨Nat.le_of_ble_eq_true rfl, Nat.le_of_ble_eq_true rfl⟩ (fun h306 fr307 p308 => ?_)
                            have hN310 := p308
                            have hra := AA_room (su := su) (o := z - x - y) (x := x) (y := y) (n := nn) (j := nn) (by omega) hnn hnn
                            have hzn : z ^ nn ≤ 40000 ^ 30 := Nat.le_trans (Nat.pow_le_pow_left (show z ≤ 40000 by omega) _) (Nat.pow_le_pow_right (by decide) hnn)
                            have ro1 : (AA su (z - x - y) x y (z - x - y + x + y) nn nn) * s 10 < RM := pr_room (e := 34) (Nat.le_trans (Nat.mul_le_mul hra.1 hl2) (by decide +kernel)) (by decide)
                            have ro2 : z ^ nn * s 9 < RM := pr_room (e := 34) (Nat.le_trans (Nat.mul_le_mul hzn hl1) (by decide +kernel)) (by decide)
                            have ro3 : (AA su (z - x - y) x y (z - x - y + x + y) nn nn) * 2 ^ 15 < RM := pr_room (e := 34) (Nat.le_trans (Nat.mul_le_mul_right _ hra.1) (by decide +kernel)) (by decide)
                            have ro4 : z ^ nn * 2 ^ 15 < RM := pr_room (e := 34) (Nat.le_trans (Nat.mul_le_mul_right _ hzn) (by decide +kernel)) (by decide)
                            refine g_aload_n dX11_risk_262 rfl rfl ?_
                            refine g_iconst (v := nI 2) dX11_risk_263 (by decide) ?_
                            refine g_aload_n dX11_risk_264 rfl rfl ?_
                            refine g_getf (v := .int (nI (s 10))) dX11_risk_265 fX11_33 (fr307.at (by intro q; simp only [List.mem_cons, List.not_mem_nil, or_false] at q; omega) (fr302.at (by intro q; simp only [List.mem_cons, List.not_mem_nil, or_false] at q; omega) jN.cell)) rfl ?_
                            refine g_i2lN dX11_risk_268 (by omega) ?_
                            refine cVv (st := []) dX11_risk_269 (c_mtimes G (d + 3) n ex h306 hN310 (s := 2) (F := (s 10)) (by decide) ((va_n (by decide)).trans va_s) (by omega) ro1) sX11_192 (fr307.at (by intro q; simp only [List.mem_cons, List.not_mem_nil, or_false] at q; omega) (fr302.at (by intro q; simp only [List.mem_cons, List.not_mem_nil, or_false] at q; omega) jN.cell)) rfl rfl (by simp only [g_rm]; omega) (by simp only [g_rm]; omega) (Nat.le_of_ble_eq_true rfl) ⟨Nat.le_of_ble_eq_true rfl, Nat.le_of_ble_eq_true rfl⟩ (fun h311 fr312 p313 => ?_)
                            have hN315 := p313
                            refine g_aload_n dX11_risk_272 rfl rfl ?_
                            refine g_iconst (v := nI 3) dX11_risk_273 (by decide) ?_
                            refine g_aload_n dX11_risk_274 rfl rfl ?_
                            refine g_getf (v := .int (nI (s 9))) dX11_risk_275 fX11_30 (fr312.at (by intro q; simp only [List.mem_cons, List.not_mem_nil, or_false] at q; omega) (fr307.at (by intro q; simp only [List.mem_cons, List.not_mem_nil, or_false] at q; omega) (fr302.at (by intro q; simp only [List.mem_cons, List.not_mem_nil, or_false] at q; omega) jN.cell))) rfl ?_
                            refine g_i2lN dX11_risk_278 (by omega) ?_
                            refine cVv (st := []) dX11_risk_279 (c_mtimes G (d + 3) n ex h311 hN315 (s := 3) (F := (s 9)) (by decide) ((va_n (by decide)).trans va_s) (by omega) ro2) sX11_192 (fr312.at (by intro q; simp only [List.mem_cons, List.not_mem_nil, or_false] at q; omega) (fr307.at (by intro q; simp only [List.mem_cons, List.not_mem_nil, or_false] at q; omega) (fr302.at (by intro q; simp only [List.mem_cons, List.not_mem_nil, or_false] at q; omega) jN.cell))) rfl rfl (by simp only [g_rm]; omega) (by simp only [g_rm]; omega) (Nat.le_of_ble_eq_true rfl) ⟨Nat.le_of_ble_eq_true rfl, Nat.le_of_ble_eq_true rfl⟩ (fun h316 fr317 p318 => ?_)
                            have hN320 := p318
                            refine g_aload_n dX11_risk_282 rfl rfl ?_
                            refine g_iconst (v := nI 2) dX11_risk_283 (by decide) ?_
                            refine g_iconst (v := nI 3) dX11_risk_284 (by decide) ?_
                            refine cVi (st := []) dX11_risk_285 (c_mcompare G (d + 4) n ex h316 hN320 (by decide) (by decide) ((va_n (by decide)).trans va_s) va_s) sX11_203 (fr317.at (by intro q; simp only [List.mem_cons, List.not_mem_nil, or_false] at q; omega) (fr312.at (by intro q; simp only [List.mem_cons, List.not_mem_nil, or_false] at q; omega) (fr307.at (by intro q; simp only [List.mem_cons, List.not_mem_nil, or_false] at q; omega) (fr302.at (by intro q; simp only [List.mem_cons, List.not_mem_nil, or_false] at q; omega) jN.cell)))) rfl rfl (by simp only [g_rm]; omega) (by simp only [g_rm]; omega) (Nat.le_of_ble_eq_true rfl) ⟨Nat.le_of_ble_eq_true rfl, Nat.le_of_ble_eq_true rfl⟩ (fun r324 h321 fr322 p323 => ?_)
                            cases g_fr0 fr322
                            subst p323
                            refine g_if_le (tgt := 295) dX11_risk_288 (by decide) (fun c288 => ?_) (fun c288 => ?_)
                            · refine g_iconst (v := nI 0) dX11_risk_295 (by decide) ?_
                              refine g_istore (ls' := [(7, .int (nI 0)), (0, .ref 142), (1, .int (nI ii)), (2, .int (nI nn)), (3, .int (nI x)), (4, .int (nI y)), (5, .int (nI z))]) dX11_risk_296 (by decide) rfl ?_
                              refine g_aload_n dX11_risk_298 rfl rfl ?_
                              refine cVv (st := []) dX11_risk_299 (c_lowest G (d + 0) n ex h316 hN320 (A := (AA su (z - x - y) x y (z - x - y + x + y) nn nn)) (B := z ^ nn) (show _ = _ from jv0) (show _ = _ from jv1) (Nat.ne_of_gt (Nat.pow_pos hz1)) ro3 ro4) sX11_329 (fr317.at (by intro q; simp only [List.mem_cons, List.not_mem_nil, or_false] at q; omega) (fr312.at (by intro q; simp only [List.mem_cons, List.not_mem_nil, or_false] at q; omega) (fr307.at (by intro q; simp only [List.mem_cons, List.not_mem_nil, or_false] at q; omega) (fr302.at (by intro q; simp only [List.mem_cons, List.not_mem_nil, or_false] at q; omega) jN.cell)))) rfl rfl (by simp only [g_rm]; omega) (by simp only [g_rm]; omega) (Nat.le_of_ble_eq_true rfl) ⟨Nat.le_of_ble_eq_true rfl, Nat.le_of_ble_eq_true rfl⟩ (fun h325 fr326 p327 => ?_)
                              have hN329 := p327
                              refine g_iload dX11_risk_302 rfl ?_
                              have eAA : (AA su (z - x - y) x y (z - x - y + x + y) nn nn) = (Tt su nn x y (z - x - y) nn) := AA_eq hsu0 _ _ _ _ nn (Nat.le_refl _)
                              have hfin := hN329
                              exact e_i dX11_risk_304 rfl rfl ((((((jf2).tr fr302 (by simp)).tr fr307 (by simp)).tr fr312 (by simp)).tr fr317 (by simp)).tr fr326 (by simp)) (Or.inr ⟨ek, by rw [huii, hunn, hux, huy, huz, hsu, ← eAA, if_neg (fun q => absurd c288 (Int32.not_le.mpr (cp_gt.mpr q)))], by rw [ek]; exact Mc.of hfin.cell, by rw [huii, hunn, hux, huy, huz, hsu, ← eAA]; exact hfin.v.le (fun u hu => by
                                unfold lowV
                                by_cases q0 : u = 0
                                · rw [if_pos q0, if_pos q0]; exact Or.inl rfl
                                · by_cases q1 : u = 1
                                  · rw [if_neg q0, if_pos q1, if_neg q0, if_pos q1]; exact Or.inl rfl
                                  · rw [if_neg q0, if_neg q1, if_neg q0, if_neg q1]
                                    by_cases q6 : u = 6 ∨ u = 7
                                    · rw [if_pos q6, if_pos q6]; refine Or.inl ?_; rcases q6 with rfl | rfl <;> exact (jVV _ (by decide) (by decide) (by decide) (by decide)).symm
                                    · rw [if_neg q6, if_neg q6]; exact Or.inl rfl), ⟨S, fr326.at (by intro q; simp only [List.mem_cons, List.not_mem_nil, or_false] at q; omega) (fr317.at (by intro q; simp only [List.mem_cons, List.not_mem_nil, or_false] at q; omega) (fr312.at (by intro q; simp only [List.mem_cons, List.not_mem_nil, or_false] at q; omega) (fr307.at (by intro q; simp only [List.mem_cons, List.not_mem_nil, or_false] at q; omega) (fr302.at (by intro q; simp only [List.mem_cons, List.not_mem_nil, or_false] at q; omega) jS16)))), fS⟩, ⟨_, fr326.at (by intro q; simp only [List.mem_cons, List.not_mem_nil, or_false] at q; omega) (fr317.at (by intro q; simp only [List.mem_cons, List.not_mem_nil, or_false] at q; omega) (fr312.at (by intro q; simp only [List.mem_cons, List.not_mem_nil, or_false] at q; omega) (fr307.at (by intro q; simp only [List.mem_cons, List.not_mem_nil, or_false] at q; omega) (fr302.at (by intro q; simp only [List.mem_cons, List.not_mem_nil, or_false] at q; omega) jO)))), jOb⟩, ⟨_, fr326.at (by intro q; simp only [List.mem_cons, List.not_mem_nil, or_false] at q; omega) (fr317.at (by intro q; simp only [List.mem_cons, List.not_mem_nil, or_false] at q; omega) (fr312.at (by intro q; simp only [List.mem_cons, List.not_mem_nil, or_false] at q; omega) (fr307.at (by intro q; simp only [List.mem_cons, List.not_mem_nil, or_false] at q; omega) (fr302.at (by intro q; simp only [List.mem_cons, List.not_mem_nil, or_false] at q; omega) jB)))), jBb⟩⟩) (by decide) (by decide)
                            · refine g_iconst (v := nI 1) dX11_risk_291 (by decide) ?_
                              refine g_goto (tgt := 296) dX11_risk_292 (by decide) ?_
                              refine g_istore (ls' := [(7, .int (nI 1)), (0, .ref 142), (1, .int (nI ii)), (2, .int (nI nn)), (3, .int (nI x)), (4, .int (nI y)), (5, .int (nI z))]) dX11_risk_296 (by decide) rfl ?_
                              refine g_aload_n dX11_risk_298 rfl rfl ?_
                              refine cVv (st := []) dX11_risk_299 (c_lowest G (d + 0) n ex h316 hN320 (A := (AA su (z - x - y) x y (z - x - y + x + y) nn nn)) (B := z ^ nn) (show _ = _ from jv0) (show _ = _ from jv1) (Nat.ne_of_gt (Nat.pow_pos hz1)) ro3 ro4) sX11_329 (fr317.at (by intro q; simp only [List.mem_cons, List.not_mem_nil, or_false] at q; omega) (fr312.at (by intro q; simp only [List.mem_cons, List.not_mem_nil, or_false] at q; omega) (fr307.at (by intro q; simp only [List.mem_cons, List.not_mem_nil, or_false] at q; omega) (fr302.at (by intro q; simp only [List.mem_cons, List.not_mem_nil, or_false] at q; omega) jN.cell)))) rfl rfl (by simp only [g_rm]; omega) (by simp only [g_rm]; omega) (Nat.le_of_ble_eq_true rfl) ⟨Nat.le_of_ble_eq_true rfl, Nat.le_of_ble_eq_true rfl⟩ (fun h330 fr331 p332 => ?_)
                              have hN334 := p332
                              refine g_iload dX11_risk_302 rfl ?_
                              have eAA : (AA su (z - x - y) x y (z - x - y + x + y) nn nn) = (Tt su nn x y (z - x - y) nn) := AA_eq hsu0 _ _ _ _ nn (Nat.le_refl _)
                              have hfin := hN334
                              exact e_i dX11_risk_304 rfl rfl ((((((jf2).tr fr302 (by simp)).tr fr307 (by simp)).tr fr312 (by simp)).tr fr317 (by simp)).tr fr331 (by simp)) (Or.inr ⟨ek, by rw [huii, hunn, hux, huy, huz, hsu, ← eAA, if_pos (cp_gt.mp (Int32.not_le.mp c288))], by rw [ek]; exact Mc.of hfin.cell, by rw [huii, hunn, hux, huy, huz, hsu, ← eAA]; exact hfin.v.le (fun u hu => by
                                unfold lowV
                                by_cases q0 : u = 0
                                · rw [if_pos q0, if_pos q0]; exact Or.inl rfl
                                · by_cases q1 : u = 1
                                  · rw [if_neg q0, if_pos q1, if_neg q0, if_pos q1]; exact Or.inl rfl
                                  · rw [if_neg q0, if_neg q1, if_neg q0, if_neg q1]
                                    by_cases q6 : u = 6 ∨ u = 7
                                    · rw [if_pos q6, if_pos q6]; refine Or.inl ?_; rcases q6 with rfl | rfl <;> exact (jVV _ (by decide) (by decide) (by decide) (by decide)).symm
                                    · rw [if_neg q6, if_neg q6]; exact Or.inl rfl), ⟨S, fr331.at (by intro q; simp only [List.mem_cons, List.not_mem_nil, or_false] at q; omega) (fr317.at (by intro q; simp only [List.mem_cons, List.not_mem_nil, or_false] at q; omega) (fr312.at (by intro q; simp only [List.mem_cons, List.not_mem_nil, or_false] at q; omega) (fr307.at (by intro q; simp only [List.mem_cons, List.not_mem_nil, or_false] at q; omega) (fr302.at (by intro q; simp only [List.mem_cons, List.not_mem_nil, or_false] at q; omega) jS16)))), fS⟩, ⟨_, fr331.at (by intro q; simp only [List.mem_cons, List.not_mem_nil, or_false] at q; omega) (fr317.at (by intro q; simp only [List.mem_cons, List.not_mem_nil, or_false] at q; omega) (fr312.at (by intro q; simp only [List.mem_cons, List.not_mem_nil, or_false] at q; omega) (fr307.at (by intro q; simp only [List.mem_cons, List.not_mem_nil, or_false] at q; omega) (fr302.at (by intro q; simp only [List.mem_cons, List.not_mem_nil, or_false] at q; omega) jO)))), jOb⟩, ⟨_, fr331.at (by intro q; simp only [List.mem_cons, List.not_mem_nil, or_false] at q; omega) (fr317.at (by intro q; simp only [List.mem_cons, List.not_mem_nil, or_false] at q; omega) (fr312.at (by intro q; simp only [List.mem_cons, List.not_mem_nil, or_false] at q; omega) (fr307.at (by intro q; simp only [List.mem_cons, List.not_mem_nil, or_false] at q; omega) (fr302.at (by intro q; simp only [List.mem_cons, List.not_mem_nil, or_false] at q; omega) jB)))), jBb⟩⟩) (by decide) (by decide)
                          · exact absurd c100 (by decide)
                        · exact absurd c85 (by decide)
                      · refine g_iconst (v := nI 2) dX11_risk_79 (by decide) ?_
                        refine g_goto (tgt := 93) dX11_risk_80 (by decide) ?_
                        refine g_put (fs' := [.int (nI 2), .ref 143, .int (nI (s 4)), .int (nI (s 7)), .int (nI (s 8)), .ref 144, .int (nI (s 5)), .int (nI (s 6)), .ref 145, .int (nI (s 9)), .int (nI (s 10)), .int (nI (s 11)), .int (nI (s 12)), .ref 146, .int (nI k), .ref 147, .int (nI m), .int (nI sg), .int (nI cm), .int (nI sd), .ref 148, .ref 149, .ref 150, .ref 151, .int (nI mm), .ref 152, .ref 153, .ref 154, .int (nI dr), .int (nI dd), .int (nI bk), .int wt, .ref 155, .int (nI rt), .ref 156, .ref 157, .ref 158, .ref 159, .ref 160, .ref 161, .ref 162, .ref 163, .ref 164, .ref 165, .ref 166]) dX11_risk_93 fX11_1 m0 (Nat.le_of_ble_eq_true rfl) rfl rfl rfl ?_
                        refine g_aload_n dX11_risk_96 rfl rfl ?_
                        refine g_getf (v := .int (nI 2)) dX11_risk_97 fX11_1 g_eq rfl ?_
                        refine g_if_leN (tgt := 105) dX11_risk_100 (by decide) (by decide) (fun c100 => ?_) (fun c100 => ?_)
                        · exact absurd c100 (by decide)
                        · refine g_iconst (v := nI 0) dX11_risk_103 (by decide) ?_
                          have ek : k_risk sg mm i_ n_ (nI x) y_ (nI z) = 2 := (by unfold k_risk; rw [pk_sub (show x ≤ z by omega)]; (repeat' split) <;> first | rfl | (exfalso; simp only [i_lt, i_le, i_eq, it0, itm, ifp, nI_toInt (show 0 < 2147483648 by first | decide | omega), nI_toInt (show 1 < 2147483648 by first | decide | omega), nI_toInt (show 30 < 2147483648 by first | decide | omega), nI_toInt (show 20000 < 2147483648 by first | decide | omega), nI_toInt (show mm < 2147483648 by first | decide | omega), nI_toInt (show x < 2147483648 by first | decide | omega), nI_toInt (show z < 2147483648 by first | decide | omega), nI_toInt (show z - x < 2147483648 by first | decide | omega)] at * <;> omega))
                          exact e_i dX11_risk_104 rfl rfl (g_fr.rf.up (by simp)) (Or.inl ⟨by rw [ek]; decide, by rw [ek]; exact g_eq, g_fr.rf.up (by simp)⟩) (by decide) (by decide)
                  · refine g_iconst (v := nI 1) dX11_risk_63 (by decide) ?_
                    refine g_goto (tgt := 93) dX11_risk_64 (by decide) ?_
                    refine g_put (fs' := [.int (nI 1), .ref 143, .int (nI (s 4)), .int (nI (s 7)), .int (nI (s 8)), .ref 144, .int (nI (s 5)), .int (nI (s 6)), .ref 145, .int (nI (s 9)), .int (nI (s 10)), .int (nI (s 11)), .int (nI (s 12)), .ref 146, .int (nI k), .ref 147, .int (nI m), .int (nI sg), .int (nI cm), .int (nI sd), .ref 148, .ref 149, .ref 150, .ref 151, .int (nI mm), .ref 152, .ref 153, .ref 154, .int (nI dr), .int (nI dd), .int (nI bk), .int wt, .ref 155, .int (nI rt), .ref 156, .ref 157, .ref 158, .ref 159, .ref 160, .ref 161, .ref 162, .ref 163, .ref 164, .ref 165, .ref 166]) dX11_risk_93 fX11_1 m0 (Nat.le_of_ble_eq_true rfl) rfl rfl rfl ?_
                    refine g_aload_n dX11_risk_96 rfl rfl ?_
                    refine g_getf (v := .int (nI 1)) dX11_risk_97 fX11_1 g_eq rfl ?_
                    refine g_if_leN (tgt := 105) dX11_risk_100 (by decide) (by decide) (fun c100 => ?_) (fun c100 => ?_)
                    · exact absurd c100 (by decide)
                    · refine g_iconst (v := nI 0) dX11_risk_103 (by decide) ?_
                      have ek : k_risk sg mm i_ n_ (nI x) y_ (nI z) = 1 := (by unfold k_risk; rw [pk_sub (show x ≤ z by omega)]; (repeat' split) <;> first | rfl | (exfalso; simp only [i_lt, i_le, i_eq, it0, itm, ifp, nI_toInt (show 0 < 2147483648 by first | decide | omega), nI_toInt (show 1 < 2147483648 by first | decide | omega), nI_toInt (show 30 < 2147483648 by first | decide | omega), nI_toInt (show 20000 < 2147483648 by first | decide | omega), nI_toInt (show mm < 2147483648 by first | decide | omega), nI_toInt (show x < 2147483648 by first | decide | omega), nI_toInt (show z < 2147483648 by first | decide | omega), nI_toInt (show z - x < 2147483648 by first | decide | omega)] at * <;> omega))
                      exact e_i dX11_risk_104 rfl rfl (g_fr.rf.up (by simp)) (Or.inl ⟨by rw [ek]; decide, by rw [ek]; exact g_eq, g_fr.rf.up (by simp)⟩) (by decide) (by decide)
