theorem NS_e {su : Nat → Nat → Bool} {f : Nat → Nat → Nat} {a b e : Nat} (h : e = if su a b then 1 else 0) : e * f a b = NS su f a b ∧ (1 - e) * f a b = NU su f a b := by
  unfold NS NU
  cases hq : su a b
  · rw [hq, if_neg (by decide)] at h
    rw [h, if_neg (by decide), if_neg (by decide)]
    exact ⟨Nat.zero_mul _, by rw [Nat.sub_zero, Nat.one_mul]⟩
  · rw [hq, if_pos rfl] at h
    rw [h, if_pos rfl, if_pos rfl]
    exact ⟨Nat.one_mul _, by rw [Nat.sub_self, Nat.zero_mul]⟩
theorem NS_le {su : Nat → Nat → Bool} {f : Nat → Nat → Nat} {Y : Nat} (h : ∀ a b, f a b ≤ Y) (a b : Nat) : NS su f a b ≤ Y := by
  unfold NS; split
  · exact h a b
  · exact Nat.zero_le _
theorem su_room {f : Nat → Nat → Nat} {n a b A Y : Nat} (h : ∀ a b, f a b ≤ Y) (hn : n ≤ 30) (hab : a + b ≤ n) (hA : A + 1000 * Y < RM) : A + (sA f n a + sB f a b) + f a b < RM := by
  have h1 := sA_le (n := n) h a
  have h2 := sB_le (h a) b
  have h3 := h a b
  have h4 : a * ((n + 1) * Y) ≤ 30 * (31 * Y) := Nat.mul_le_mul (by omega) (Nat.mul_le_mul_right Y (by omega))
  have h5 : b * Y ≤ 30 * Y := Nat.mul_le_mul_right Y (by omega)
  omega
set_option maxHeartbeats 4000000 in
set_option maxRecDepth 100000 in
theorem lp_go5 (G : gG) (d : Nat) (KK : gK) (n : Nat) (ex : Bool) (h0 : gH) {cd wt : Int32} {s : Nat → Nat} {k m sg cm sd mm dr dd bk rt : Nat} {nn x y o Z A : Nat} {u : Nat → Nat → Nat} {su : Nat → Nat → Bool} {B S : Nat → Nat} {V : Nat → Option Nat} (hnn : nn ≤ 30) (hu : ∀ p q, u p q ≤ Z) (hB : ∀ j, B j < 65536) (hBv : ∀ p q, p + q ≤ nn → bv B (40 * (31 * p + q)) 40 = (NX o x y u) p q) (hS : ∀ j, S j ≤ 1) (hSs : ∀ p q, p + q ≤ nn → S (31 * p + q) = if su p q then 1 else 0) (hA : A + 1000 * ((o + x + y) * Z) < RM) {a : Nat} (ha : a ≤ nn) (kk : ∀ (h : gH) (V1 : Nat → Option Nat) (D : Nat → Nat), Bn h (MX cd s k m sg cm sd mm dr dd bk rt wt) V1 → V1 0 = some (A + (sA (NS su (NX o x y u)) nn a + sB (NS su (NX o x y u)) a (nn + 1 - a))) → (∀ u, ¬ u = 0 → ¬ u = 2 → V1 u = V u) → h 158 = some (.inl (0, 77000, .inl (fun k => nI (D k)))) → h 159 = some (.inl (0, 77000, .inl (fun k => nI (B k)))) → h 166 = some (.inl (2, 961, .inl (fun k => nI (S k)))) → (∀ j, D j < 65536) → (∀ p q, p + q ≤ nn → bv D (40 * (31 * p + q)) 40 = if p < a ∨ (p = a ∧ q < (nn + 1 - a)) then NU su (NX o x y u) p q else u p q) → g_fr [156, 157, 158] h0 h → g_W G mX11_goOn (g_rm (d + 2) 0 0) KK n ex h 0 0 269 [(6, .int (nI (nn + 1 - a))), (5, .int (nI a)), (0, .ref 142), (1, .int (nI nn)), (2, .int (nI x)), (3, .int (nI y)), (4, .int (nI o))] []) : ∀ (t b : Nat) (h : gH) (V1 : Nat → Option Nat) (D : Nat → Nat), nn + 1 - a - b < t → a + b ≤ nn + 1 → Bn h (MX cd s k m sg cm sd mm dr dd bk rt wt) V1 → V1 0 = some (A + (sA (NS su (NX o x y u)) nn a + sB (NS su (NX o x y u)) a b)) → (∀ u, ¬ u = 0 → ¬ u = 2 → V1 u = V u) → h 158 = some (.inl (0, 77000, .inl (fun k => nI (D k)))) → h 159 = some (.inl (0, 77000, .inl (fun k => nI (B k)))) → h 166 = some (.inl (2, 961, .inl (fun k => nI (S k)))) → (∀ j, D j < 65536) → (∀ p q, p + q ≤ nn → bv D (40 * (31 * p + q)) 40 = if p < a ∨ (p = a ∧ q < b) then NU su (NX o x y u) p q else u p q) → g_fr [156, 157, 158] h0 h →
    g_W G mX11_goOn (g_rm (d + 2) 0 0) KK n ex h 0 0 122 [(6, .int (nI b)), (5, .int (nI a)), (0, .ref 142), (1, .int (nI nn)), (2, .int (nI x)), (3, .int (nI y)), (4, .int (nI o))] [] := by
  intro t
  induction t with
  | zero => intro b h V1 D hm; exact absurd hm (by omega)
  | succ t ih =>
    intro b h V1 D ht hb hN hv0 hVV e8 e9 e16 hD hd hf
    obtain ⟨C, Z, ⟨m0', m1, m2, m3⟩, hV⟩ := id hN
    have m0 : Mc h cd s k m sg cm sd mm dr dd bk rt wt := m0'
    refine g_iload dX11_goOn_122 rfl ?_
    refine g_iload dX11_goOn_124 rfl ?_
    refine g_iaddN dX11_goOn_126 ?_
    refine g_iload_n dX11_goOn_127 rfl rfl ?_
    refine g_icmp_gtN (tgt := 269) dX11_goOn_128 (by decide) (by omega) (by omega) (fun c128 => ?_) (fun c128 => ?_)
    · refine g_pick [0, 1, 2, 3, 4, 5, 6] (ls' := [(6, .int (nI b)), (5, .int (nI a)), (0, .ref 142), (1, .int (nI nn)), (2, .int (nI x)), (3, .int (nI y)), (4, .int (nI o))]) rfl ?_
      have e : b = nn + 1 - a := by omega
      subst e
      exact kk _ V1 D hN hv0 hVV e8 e9 e16 hD hd hf
    · refine g_bipush (v := nI 31) dX11_goOn_131 (by decide) ?_
      refine g_iload dX11_goOn_133 rfl ?_
      refine g_imulN dX11_goOn_135 ?_
      refine g_iload dX11_goOn_136 rfl ?_
      refine g_iaddN dX11_goOn_138 ?_
      refine g_istore (ls' := [(7, .int (nI ((31 * a) + b))), (6, .int (nI b)), (5, .int (nI a)), (0, .ref 142), (1, .int (nI nn)), (2, .int (nI x)), (3, .int (nI y)), (4, .int (nI o))]) dX11_goOn_139 (by decide) rfl ?_
      refine g_aload_n dX11_goOn_141 rfl rfl ?_
      refine g_getf (v := .ref 157) dX11_goOn_142 fX11_79 m0 rfl ?_
      refine g_iconst (v := nI 2) dX11_goOn_145 (by decide) ?_
      refine g_bipush (v := nI 40) dX11_goOn_146 (by decide) ?_
      refine g_iastN dX11_goOn_148 m2 (by omega) (by decide) ?_
      rw [upd_nI]
      refine g_iconst (v := nI 0) dX11_goOn_149 (by decide) ?_
      refine g_istore (ls' := [(8, .int (nI 0)), (7, .int (nI ((31 * a) + b))), (6, .int (nI b)), (5, .int (nI a)), (0, .ref 142), (1, .int (nI nn)), (2, .int (nI x)), (3, .int (nI y)), (4, .int (nI o))]) dX11_goOn_150 (by decide) rfl ?_
      refine g_pick [0, 1, 2, 3, 4, 5, 6, 7, 8] (ls' := [(8, .int (nI 0)), (7, .int (nI ((31 * a) + b))), (6, .int (nI b)), (5, .int (nI a)), (0, .ref 142), (1, .int (nI nn)), (2, .int (nI x)), (3, .int (nI y)), (4, .int (nI o))]) rfl ?_
      refine lp_go4 G _ _ n ex h0 (B := B) (S := S) (Z := va_up Z 2 40) (C0 := C) (D0 := D) (by omega) hB hS (fun h9 C9 D9 xg xe8 xe9 xe16 xD xc1 xc2 xc3 xc4 xf => ?_) 41 0 _ C D (by omega) (by omega) ⟨g_ne (by decide) m0, g_ne (by decide) m1, g_eq, m3⟩ (g_ne (by decide) e8) (g_ne (by decide) e9) (g_ne (by decide) e16) hD (fun k hk => absurd hk (by omega)) (fun k hk => absurd hk (by omega)) (fun _ _ => rfl) (fun _ _ => rfl) (hf.up (by simp))
      refine g_aload_n dX11_goOn_243 rfl rfl ?_
      refine g_iconst (v := nI 2) dX11_goOn_244 (by decide) ?_
      refine cVv (st := []) dX11_goOn_245 (c_trim G (d + 1) n ex h9 xg (by decide) (by rw [va_s]; omega)) sX11_188 xg.1 rfl rfl (by simp only [g_rm]; omega) (by simp only [g_rm]; omega) (Nat.le_of_ble_eq_true rfl) ⟨Nat.le_of_ble_eq_true rfl, Nat.le_of_ble_eq_true rfl⟩ (fun h101 fr102 p103 => ?_)
      obtain ⟨Z9, y1, y2, y3, y4, y5⟩ := p103
      rw [va_s] at y3 y2
      have hse := NS_e (f := (NX o x y u)) (hSs a b (by omega))
      have hval : bv C9 (1200 * 2) (Z9 2) = (NS su (NX o x y u)) a b := by rw [y3]; show bv C9 2400 40 = _; rw [bv_e (hS _) xc1, hBv a b (by omega)]; exact hse.1
      have hN9 : Bn h101 (MX cd s k m sg cm sd mm dr dd bk rt wt) (va_up V1 2 (some ((NS su (NX o x y u)) a b))) := Bn.set hV y1 (fun t ht => (y5 t ht).trans (va_n ht)) (fun j hj => xc3 j (by omega)) ⟨by omega, hval, y4⟩
      have hd9 : ∀ p q, p + q ≤ nn → bv D9 (40 * (31 * p + q)) 40 = if p < a ∨ (p = a ∧ q < b + 1) then NU su (NX o x y u) p q else u p q := by
        intro p q hpq
        by_cases z : p = a ∧ q = b
        · obtain ⟨rfl, rfl⟩ := z
          rw [if_pos (by omega), bv_e (by have := hS (31 * p + q); omega) xc2, hBv p q hpq]; exact hse.2
        · rw [pst xc4 (by omega), hd p q hpq]; exact ifc (by omega)
      have hsr := su_room (f := (NS su (NX o x y u))) (A := A) (NS_le (fun a b => NX_le hu)) hnn (show a + b ≤ nn by omega) hA
      refine g_aload_n dX11_goOn_248 rfl rfl ?_
      refine g_getf (v := .ref 157) dX11_goOn_249 fX11_79 (fr102.at (by intro q; simp only [List.mem_cons, List.not_mem_nil, or_false] at q; omega) xg.1) rfl ?_
      refine g_iconst (v := nI 2) dX11_goOn_252 (by decide) ?_
      refine g_ialdN dX11_goOn_253 y1.2.2.1 (by omega) (by decide) ?_
      refine g_if_leN (tgt := 263) dX11_goOn_254 (by decide) (by omega) (fun c254 => ?_) (fun c254 => ?_)
      · refine g_iincN (z := 1) (ls' := [(6, .int (nI (b + 1))), (8, .int (nI 40)), (7, .int (nI (31 * a + b))), (5, .int (nI a)), (0, .ref 142), (1, .int (nI nn)), (2, .int (nI x)), (3, .int (nI y)), (4, .int (nI o))]) dX11_goOn_263 rfl (by decide) rfl ?_
        refine g_goto (tgt := 122) dX11_goOn_266 (by decide) ?_
        refine g_pick [0, 3, 4, 5, 6, 7, 8] (ls' := [(6, .int (nI (b + 1))), (5, .int (nI a)), (0, .ref 142), (1, .int (nI nn)), (2, .int (nI x)), (3, .int (nI y)), (4, .int (nI o))]) rfl ?_
        have hz0 : (NS su (NX o x y u)) a b = 0 := by rw [← hval]; exact (bv_0 y4).mpr c254
        exact ih (b + 1) _ _ D9 (by omega) (by omega) hN9 (by show _ = some (A + (sA (NS su (NX o x y u)) nn a + (sB (NS su (NX o x y u)) a b + (NS su (NX o x y u)) a b))); rw [va_n (by decide), hv0, hz0]; rfl) (fun q h1 h2 => (va_n h2).trans (hVV q h1 h2)) (fr102.at (by intro q; simp only [List.mem_cons, List.not_mem_nil, or_false] at q; omega) xe8) (fr102.at (by intro q; simp only [List.mem_cons, List.not_mem_nil, or_false] at q; omega) xe9) (fr102.at (by intro q; simp only [List.mem_cons, List.not_mem_nil, or_false] at q; omega) xe16) xD hd9 ((xf).tr fr102 (by simp))
      · refine g_aload_n dX11_goOn_257 rfl rfl ?_
        refine g_iconst (v := nI 0) dX11_goOn_258 (by decide) ?_
        refine g_iconst (v := nI 2) dX11_goOn_259 (by decide) ?_
        refine cVv (st := []) dX11_goOn_260 (c_madd G (d + 0) n ex h101 hN9 (by decide) (by decide) (by decide) ((va_n (by decide)).trans hv0) va_s hsr) sX11_318 (fr102.at (by intro q; simp only [List.mem_cons, List.not_mem_nil, or_false] at q; omega) xg.1) rfl rfl (by simp only [g_rm]; omega) (by simp only [g_rm]; omega) (Nat.le_of_ble_eq_true rfl) ⟨Nat.le_of_ble_eq_true rfl, Nat.le_of_ble_eq_true rfl⟩ (fun h105 fr106 p107 => ?_)
        refine g_iincN (z := 1) (ls' := [(6, .int (nI (b + 1))), (8, .int (nI 40)), (7, .int (nI (31 * a + b))), (5, .int (nI a)), (0, .ref 142), (1, .int (nI nn)), (2, .int (nI x)), (3, .int (nI y)), (4, .int (nI o))]) dX11_goOn_263 rfl (by decide) rfl ?_
        refine g_goto (tgt := 122) dX11_goOn_266 (by decide) ?_
        refine g_pick [0, 3, 4, 5, 6, 7, 8] (ls' := [(6, .int (nI (b + 1))), (5, .int (nI a)), (0, .ref 142), (1, .int (nI nn)), (2, .int (nI x)), (3, .int (nI y)), (4, .int (nI o))]) rfl ?_
        exact ih (b + 1) _ _ D9 (by omega) (by omega) p107 (by show _ = some (A + (sA (NS su (NX o x y u)) nn a + (sB (NS su (NX o x y u)) a b + (NS su (NX o x y u)) a b))); rw [va_s]; congr 1; omega) (fun q h1 h2 => (va_n h1).trans ((va_n h2).trans (hVV q h1 h2))) (fr106.at (by intro q; simp only [List.mem_cons, List.not_mem_nil, or_false] at q; omega) (fr102.at (by intro q; simp only [List.mem_cons, List.not_mem_nil, or_false] at q; omega) xe8)) (fr106.at (by intro q; simp only [List.mem_cons, List.not_mem_nil, or_false] at q; omega) (fr102.at (by intro q; simp only [List.mem_cons, List.not_mem_nil, or_false] at q; omega) xe9)) (fr106.at (by intro q; simp only [List.mem_cons, List.not_mem_nil, or_false] at q; omega) (fr102.at (by intro q; simp only [List.mem_cons, List.not_mem_nil, or_false] at q; omega) xe16)) xD hd9 (((xf).tr fr102 (by simp)).tr fr106 (by simp))
set_option maxHeartbeats 4000000 in
set_option maxRecDepth 100000 in
theorem lp_go6 (G : gG) (d : Nat) (P : gH → Prop) (n : Nat) (ex : Bool) (h0 : gH) {cd wt : Int32} {s : Nat → Nat} {k m sg cm sd mm dr dd bk rt : Nat} {nn x y o Z A : Nat} {u : Nat → Nat → Nat} {su : Nat → Nat → Bool} {B S : Nat → Nat} {V : Nat → Option Nat} (hnn : nn ≤ 30) (hu : ∀ p q, u p q ≤ Z) (hB : ∀ j, B j < 65536) (hBv : ∀ p q, p + q ≤ nn → bv B (40 * (31 * p + q)) 40 = (NX o x y u) p q) (hS : ∀ j, S j ≤ 1) (hSs : ∀ p q, p + q ≤ nn → S (31 * p + q) = if su p q then 1 else 0) (hA : A + 1000 * ((o + x + y) * Z) < RM) (hP : ∀ (h : gH) (V1 : Nat → Option Nat) (D : Nat → Nat), Bn h (MX cd s k m sg cm sd mm dr dd bk rt wt) V1 → V1 0 = some (A + sA (NS su (NX o x y u)) nn (nn + 1)) → (∀ u, ¬ u = 0 → ¬ u = 2 → V1 u = V u) → h 158 = some (.inl (0, 77000, .inl (fun k => nI (D k)))) → (∀ j, D j < 65536) → (∀ p q, p + q ≤ nn → bv D (40 * (31 * p + q)) 40 = NU su (NX o x y u) p q) → g_fr [156, 157, 158] h0 h → P h) : ∀ (t a : Nat) (h : gH) (V1 : Nat → Option Nat) (D : Nat → Nat), nn + 1 - a < t → a ≤ nn + 1 → Bn h (MX cd s k m sg cm sd mm dr dd bk rt wt) V1 → V1 0 = some (A + (sA (NS su (NX o x y u)) nn a + sB (NS su (NX o x y u)) a 0)) → (∀ u, ¬ u = 0 → ¬ u = 2 → V1 u = V u) → h 158 = some (.inl (0, 77000, .inl (fun k => nI (D k)))) → h 159 = some (.inl (0, 77000, .inl (fun k => nI (B k)))) → h 166 = some (.inl (2, 961, .inl (fun k => nI (S k)))) → (∀ j, D j < 65536) → (∀ p q, p + q ≤ nn → bv D (40 * (31 * p + q)) 40 = if p < a ∨ (p = a ∧ q < 0) then NU su (NX o x y u) p q else u p q) → g_fr [156, 157, 158] h0 h →
    g_W G mX11_goOn (g_rm (d + 2) 0 0) (g_K G (fun o n' ex' h' => o = .inl none ∧ n' = n ∧ ex' = ex ∧ P h') 0 0) n ex h 0 0 113 [(5, .int (nI a)), (0, .ref 142), (1, .int (nI nn)), (2, .int (nI x)), (3, .int (nI y)), (4, .int (nI o))] [] := by
  intro t
  induction t with
  | zero => intro a h V1 D hm; exact absurd hm (by omega)
  | succ t ih =>
    intro a h V1 D ht ha hN hv0 hVV e8 e9 e16 hD hd hf
    have m0 : Mc h cd s k m sg cm sd mm dr dd bk rt wt := hN.cell
    refine g_iload dX11_goOn_113 rfl ?_
    refine g_iload_n dX11_goOn_115 rfl rfl ?_
    refine g_icmp_gtN (tgt := 275) dX11_goOn_116 (by decide) (by omega) (by omega) (fun c116 => ?_) (fun c116 => ?_)
    · have e : a = nn + 1 := by omega
      subst e
      exact g_vret dX11_goOn_275 rfl (by decide) (by decide) ⟨rfl, rfl, rfl, hP _ V1 D hN (hv0.trans (by show some (A + (sA (NS su (NX o x y u)) nn (nn + 1) + 0)) = _; rfl)) hVV e8 hD (fun p q hpq => (hd p q hpq).trans (if_pos (by omega))) hf⟩
    · refine g_iconst (v := nI 0) dX11_goOn_119 (by decide) ?_
      refine g_istore (ls' := [(6, .int (nI 0)), (5, .int (nI a)), (0, .ref 142), (1, .int (nI nn)), (2, .int (nI x)), (3, .int (nI y)), (4, .int (nI o))]) dX11_goOn_120 (by decide) rfl ?_
      refine g_pick [0, 1, 2, 3, 4, 5, 6] (ls' := [(6, .int (nI 0)), (5, .int (nI a)), (0, .ref 142), (1, .int (nI nn)), (2, .int (nI x)), (3, .int (nI y)), (4, .int (nI o))]) rfl ?_
      refine lp_go5 G d _ n ex h0 hnn hu hB hBv hS hSs hA (by omega) (fun h2 V2 D2 x1 x2 x3 x4 x5 x6 x7 x8 x9 => ?_) (nn + 2) 0 h V1 D (by omega) (by omega) hN hv0 hVV e8 e9 e16 hD hd hf
      refine g_iincN (z := 1) (ls' := [(5, .int (nI (a + 1))), (6, .int (nI (nn + 1 - a))), (0, .ref 142), (1, .int (nI nn)), (2, .int (nI x)), (3, .int (nI y)), (4, .int (nI o))]) dX11_goOn_269 rfl (by decide) rfl ?_
      refine g_goto (tgt := 113) dX11_goOn_272 (by decide) ?_
      refine g_pick [0, 2, 3, 4, 5, 6] (ls' := [(5, .int (nI (a + 1))), (0, .ref 142), (1, .int (nI nn)), (2, .int (nI x)), (3, .int (nI y)), (4, .int (nI o))]) rfl ?_
      exact ih (a + 1) h2 V2 D2 (by omega) (by omega) x1 (by rw [x2]; show _ = some (A + (sA (NS su (NX o x y u)) nn a + sB (NS su (NX o x y u)) a (nn + 1 - a) + 0)); rfl) x3 x4 x5 x6 x7 (fun p q hpq => (x8 p q hpq).trans (ifc (by omega))) x9
set_option maxHeartbeats 4000000 in
set_option maxRecDepth 100000 in
theorem c_goOn (G : gG) (d n : Nat) (ex : Bool) (h : gH) {cd wt : Int32} {s : Nat → Nat} {k m sg cm sd mm dr dd bk rt : Nat} {nn x y o Z A : Nat} {O B S : Nat → Nat} {u : Nat → Nat → Nat} {su : Nat → Nat → Bool} {V : Nat → Option Nat} (hnn : nn ≤ 30) (hxyo : o + x + y ≤ 20000) (hOb : ∀ j, O j < 65536) (hB : ∀ j, B j < 65536) (hO : ∀ p q, p + q ≤ nn → bv O (40 * (31 * p + q)) 40 = u p q) (hu : ∀ p q, u p q ≤ Z) (hZ : (o + x + y) * Z < 65536 ^ 40) (hS : ∀ j, S j ≤ 1) (hSs : ∀ p q, p + q ≤ nn → S (31 * p + q) = if su p q then 1 else 0) (hA : A + 1000 * ((o + x + y) * Z) < RM) (hN : Bn h (MX cd s k m sg cm sd mm dr dd bk rt wt) V) (hv0 : V 0 = some A) (e8 : h 158 = some (.inl (0, 77000, .inl (fun k => nI (O k))))) (e9 : h 159 = some (.inl (0, 77000, .inl (fun k => nI (B k))))) (e16 : h 166 = some (.inl (2, 961, .inl (fun k => nI (S k))))) : g_M G mX11_goOn (d + 2) 0 0 [.ref 142, .int (nI nn), .int (nI x), .int (nI y), .int (nI o)] n ex h (q_v n ex [156, 157, 158, 159] h (fun h' => ∃ (D B' : Nat → Nat) (V1 : Nat → Option Nat), h' 158 = some (.inl (0, 77000, .inl (fun k => nI (D k)))) ∧ (∀ j, D j < 65536) ∧ (∀ p q, p + q ≤ nn → bv D (40 * (31 * p + q)) 40 = NU su (NX o x y u) p q) ∧ h' 159 = some (.inl (0, 77000, .inl (fun k => nI (B' k)))) ∧ (∀ j, B' j < 65536) ∧ Bn h' (MX cd s k m sg cm sd mm dr dd bk rt wt) V1 ∧ V1 0 = some (A + sA (NS su (NX o x y u)) nn (nn + 1)) ∧ ∀ u, ¬ u = 0 → ¬ u = 2 → V1 u = V u)) := by
  have m0 : Mc h cd s k m sg cm sd mm dr dd bk rt wt := hN.cell
  refine g_enter (by decide) (Nat.le_of_ble_eq_true rfl) ?_
  show g_W G _ _ _ n ex h 0 0 0 [(0, .ref 142), (1, .int (nI nn)), (2, .int (nI x)), (3, .int (nI y)), (4, .int (nI o))] []
  refine g_iconst (v := nI 0) dX11_goOn_0 (by decide) ?_
  refine g_istore (ls' := [(5, .int (nI 0)), (0, .ref 142), (1, .int (nI nn)), (2, .int (nI x)), (3, .int (nI y)), (4, .int (nI o))]) dX11_goOn_1 (by decide) rfl ?_
  refine g_pick [0, 1, 2, 3, 4, 5] (ls' := [(5, .int (nI 0)), (0, .ref 142), (1, .int (nI nn)), (2, .int (nI x)), (3, .int (nI y)), (4, .int (nI o))]) rfl ?_
  refine lp_go1 G _ _ n ex h (fun h1 B1 x1 x2 x3 x4 x5 => ?_) 38441 0 h B (by omega) (by omega) m0 e9 hB (fun k hk => absurd hk (by omega)) g_fr.rf
  refine g_iconst (v := nI 0) dX11_goOn_25 (by decide) ?_
  refine g_istore (ls' := [(5, .int (nI 0)), (0, .ref 142), (1, .int (nI nn)), (2, .int (nI x)), (3, .int (nI y)), (4, .int (nI o))]) dX11_goOn_26 (by decide) rfl ?_
  refine g_pick [0, 1, 2, 3, 4, 5] (ls' := [(5, .int (nI 0)), (0, .ref 142), (1, .int (nI nn)), (2, .int (nI x)), (3, .int (nI y)), (4, .int (nI o))]) rfl ?_
  refine lp_go3 G d _ n ex h1 hnn hxyo hOb hO hu hZ (fun h2 B2 y1 y2 y2' y3 y5 y6 => ?_) (nn + 2) 0 h1 B1 (by omega) (by omega) x1 (x5.at (by simp) e8) x2 x3 (fun p q hpq => by rw [NV_0]; exact bv_z (fun i hi => x4 _ (by omega))) g_fr.rf
  have y6' : g_fr [159] h h2 := x5.tr y6 (by simp)
  refine g_iconst (v := nI 0) dX11_goOn_110 (by decide) ?_
  refine g_istore (ls' := [(5, .int (nI 0)), (0, .ref 142), (1, .int (nI nn)), (2, .int (nI x)), (3, .int (nI y)), (4, .int (nI o))]) dX11_goOn_111 (by decide) rfl ?_
  refine g_pick [0, 1, 2, 3, 4, 5] (ls' := [(5, .int (nI 0)), (0, .ref 142), (1, .int (nI nn)), (2, .int (nI x)), (3, .int (nI y)), (4, .int (nI o))]) rfl ?_
  refine lp_go6 G d _ n ex h2 (V := V) (B := B2) (S := S) hnn hu y3 y5 hS hSs hA (fun h' V1 D z1 z2 z3 z4 z5 z6 z7 => ?_) (nn + 2) 0 h2 V O (by omega) (by omega) ((hN.fr y6' (by simp) (by simp) (by simp))) (by rw [hv0]; rfl) (fun _ _ _ => rfl) y2 y2' (y6'.at (by simp) e16) hOb (fun p q hpq => (hO p q hpq).trans (if_neg (by omega)).symm) g_fr.rf
  exact ⟨fun j hj => (z7 j (fun q => hj (by simp at q ⊢; omega))).trans (y6' j (fun q => hj (by simp at q ⊢; omega))), D, B2, V1, z4, z5, z6, z7.at (by simp) y2', y3, z1, z2, z3⟩
