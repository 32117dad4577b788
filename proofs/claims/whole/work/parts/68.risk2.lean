theorem pst {B B' : Nat → Nat} {P Q : Nat} (hk : ∀ k, (k < 40 * Q ∨ 40 * Q + 40 ≤ k) → B' k = B k) (hne : ¬ P = Q) : bv B' (40 * P) 40 = bv B (40 * P) 40 := bv_congr (fun i hi => hk _ (by omega))
theorem pos_e {p q a b : Nat} (hq : q ≤ 30) (hb : b ≤ 30) (h : 31 * p + q = 31 * a + b) : p = a ∧ q = b := by omega
theorem bv_z {B : Nat → Nat} {o k : Nat} (h : ∀ i, i < k → B (o + i) = 0) : bv B o k = 0 := by
  induction k with
  | zero => rfl
  | succ k ih => show bv B o k + B (o + k) * _ = 0; rw [ih (fun i hi => h i (by omega)), h k (by omega), Nat.zero_mul]
theorem bv_e {B C : Nat → Nat} {o p k e : Nat} (he : e ≤ 1) (h : ∀ i, i < k → B (o + i) = e * C (p + i)) : bv B o k = e * bv C p k := by
  rcases (show e = 0 ∨ e = 1 by omega) with rfl | rfl
  · rw [Nat.zero_mul]; exact bv_z (fun i hi => by rw [h i hi, Nat.zero_mul])
  · rw [Nat.one_mul]; exact bv_congr (fun i hi => by rw [h i hi, Nat.one_mul])
set_option maxHeartbeats 4000000 in
set_option maxRecDepth 100000 in
theorem lp_go1 (G : gG) (R : Room) (KK : gK) (n : Nat) (ex : Bool) (h0 : gH) {cd wt : Int32} {s : Nat → Nat} {k m sg cm sd mm dr dd bk rt : Nat} {nn x y o : Nat} (kk : ∀ (h : gH) (B : Nat → Nat), Mc h cd s k m sg cm sd mm dr dd bk rt wt → h 159 = some (.inl (0, 77000, .inl (fun k => nI (B k)))) → (∀ j, B j < 65536) → (∀ k, k < 38440 → B k = 0) → g_fr [159] h0 h → g_W G mX11_goOn R KK n ex h 0 0 25 [(5, .int (nI 38440)), (0, .ref 142), (1, .int (nI nn)), (2, .int (nI x)), (3, .int (nI y)), (4, .int (nI o))] []) : ∀ (t i : Nat) (h : gH) (B : Nat → Nat), 38440 - i < t → i ≤ 38440 → Mc h cd s k m sg cm sd mm dr dd bk rt wt → h 159 = some (.inl (0, 77000, .inl (fun k => nI (B k)))) → (∀ j, B j < 65536) → (∀ k, k < i → B k = 0) → g_fr [159] h0 h →
    g_W G mX11_goOn R KK n ex h 0 0 3 [(5, .int (nI i)), (0, .ref 142), (1, .int (nI nn)), (2, .int (nI x)), (3, .int (nI y)), (4, .int (nI o))] [] := by
  intro t
  induction t with
  | zero => intro i h B hm; exact absurd hm (by omega)
  | succ t ih =>
    intro i h B ht hi m0 e9 hB hz hf
    refine g_iload dX11_goOn_3 rfl ?_
    refine g_ldcw dX11_goOn_5 kX11_314 rfl ?_
    refine g_top (show (38440 : Int32) = nI 38440 by decide) ?_
    refine g_icmp_geN (tgt := 25) dX11_goOn_8 (by decide) (by omega) (by decide) (fun c8 => ?_) (fun c8 => ?_)
    · refine g_pick [0, 1, 2, 3, 4, 5] (ls' := [(5, .int (nI i)), (0, .ref 142), (1, .int (nI nn)), (2, .int (nI x)), (3, .int (nI y)), (4, .int (nI o))]) rfl ?_
      have e : i = 38440 := by omega
      subst e
      exact kk _ B m0 e9 hB hz hf
    · refine g_aload_n dX11_goOn_11 rfl rfl ?_
      refine g_getf (v := .ref 159) dX11_goOn_12 fX11_86 m0 rfl ?_
      refine g_iload dX11_goOn_15 rfl ?_
      refine g_iconst (v := nI 0) dX11_goOn_17 (by decide) ?_
      refine g_iastN dX11_goOn_18 e9 (by omega) (by decide) ?_
      rw [upd_nI]
      refine g_iincN (z := 1) (ls' := [(5, .int (nI (i + 1))), (0, .ref 142), (1, .int (nI nn)), (2, .int (nI x)), (3, .int (nI y)), (4, .int (nI o))]) dX11_goOn_19 rfl (by decide) rfl ?_
      refine g_goto (tgt := 3) dX11_goOn_22 (by decide) ?_
      refine g_pick [0, 1, 2, 3, 4, 5] (ls' := [(5, .int (nI (i + 1))), (0, .ref 142), (1, .int (nI nn)), (2, .int (nI x)), (3, .int (nI y)), (4, .int (nI o))]) rfl ?_
      exact ih (i + 1) _ (va_up B i 0) (by omega) (by omega) (g_ne (by decide) m0) g_eq (up_b hB (by decide)) (fun k hk => by by_cases q : k = i; (rw [q, va_s]); (rw [va_n q]; exact hz k (by omega))) (hf.up (by simp))
set_option maxHeartbeats 4000000 in
set_option maxRecDepth 100000 in
theorem lp_go2 (G : gG) (d : Nat) (KK : gK) (n : Nat) (ex : Bool) (h0 : gH) {cd wt : Int32} {s : Nat → Nat} {k m sg cm sd mm dr dd bk rt : Nat} {nn x y o Z : Nat} {O : Nat → Nat} {u : Nat → Nat → Nat} (hnn : nn ≤ 30) (hxyo : o + x + y ≤ 20000) (hOb : ∀ j, O j < 65536) (hO : ∀ p q, p + q ≤ nn → bv O (40 * (31 * p + q)) 40 = u p q) (hu : ∀ p q, u p q ≤ Z) (hZ : (o + x + y) * Z < 65536 ^ 40) {a : Nat} (ha : a ≤ nn) (kk : ∀ (h : gH) (B : Nat → Nat), Mc h cd s k m sg cm sd mm dr dd bk rt wt → h 158 = some (.inl (0, 77000, .inl (fun k => nI (O k)))) → h 159 = some (.inl (0, 77000, .inl (fun k => nI (B k)))) → (∀ j, B j < 65536) → (∀ p q, p + q ≤ nn → bv B (40 * (31 * p + q)) 40 = NVp o x y u a (nn + 1 - a) p q) → g_fr [159] h0 h → g_W G mX11_goOn (g_rm (d + 2) 0 0) KK n ex h 0 0 104 [(6, .int (nI (nn + 1 - a))), (5, .int (nI a)), (0, .ref 142), (1, .int (nI nn)), (2, .int (nI x)), (3, .int (nI y)), (4, .int (nI o))] []) : ∀ (t b : Nat) (h : gH) (B : Nat → Nat), nn + 1 - a - b < t → a + b ≤ nn + 1 → Mc h cd s k m sg cm sd mm dr dd bk rt wt → h 158 = some (.inl (0, 77000, .inl (fun k => nI (O k)))) → h 159 = some (.inl (0, 77000, .inl (fun k => nI (B k)))) → (∀ j, B j < 65536) → (∀ p q, p + q ≤ nn → bv B (40 * (31 * p + q)) 40 = NVp o x y u a b p q) → g_fr [159] h0 h →
    g_W G mX11_goOn (g_rm (d + 2) 0 0) KK n ex h 0 0 37 [(6, .int (nI b)), (5, .int (nI a)), (0, .ref 142), (1, .int (nI nn)), (2, .int (nI x)), (3, .int (nI y)), (4, .int (nI o))] [] := by
  intro t
  induction t with
  | zero => intro b h B hm; exact absurd hm (by omega)
  | succ t ih =>
    intro b h B ht hb m0 e8 e9 hB hv hf
    refine g_iload dX11_goOn_37 rfl ?_
    refine g_iload dX11_goOn_39 rfl ?_
    refine g_iaddN dX11_goOn_41 ?_
    refine g_iload_n dX11_goOn_42 rfl rfl ?_
    refine g_icmp_gtN (tgt := 104) dX11_goOn_43 (by decide) (by omega) (by omega) (fun c43 => ?_) (fun c43 => ?_)
    · refine g_pick [0, 1, 2, 3, 4, 5, 6] (ls' := [(6, .int (nI b)), (5, .int (nI a)), (0, .ref 142), (1, .int (nI nn)), (2, .int (nI x)), (3, .int (nI y)), (4, .int (nI o))]) rfl ?_
      have e : b = nn + 1 - a := by omega
      subst e
      exact kk _ B m0 e8 e9 hB hv hf
    · have sv1 := NV_s o x y u a b a b
      have sv2 := NV_s o x y u a b (a + 1) b
      have sv3 := NV_s o x y u a b a (b + 1)
      rw [if_pos ⟨rfl, rfl⟩, if_neg (by omega), if_neg (by omega)] at sv1
      rw [if_neg (by omega), if_pos ⟨rfl, rfl⟩, if_neg (by omega)] at sv2
      rw [if_neg (by omega), if_neg (by omega), if_pos ⟨rfl, rfl⟩] at sv3
      have le1 := NV_le (o := o) (x := x) (y := y) (a := a) (b := b + 1) (p := a) (q := b) hu
      have le2 := NV_le (o := o) (x := x) (y := y) (a := a) (b := b + 1) (p := a + 1) (q := b) hu
      have le3 := NV_le (o := o) (x := x) (y := y) (a := a) (b := b + 1) (p := a) (q := b + 1) hu
      have bd1 : bv B (40 * (31 * a + b)) 40 + o * bv O (40 * (31 * a + b)) 40 < 65536 ^ 40 := by rw [hv a b (by omega), hO a b (by omega)]; omega
      refine g_bipush (v := nI 31) dX11_goOn_46 (by decide) ?_
      refine g_iload dX11_goOn_48 rfl ?_
      refine g_imulN dX11_goOn_50 ?_
      refine g_iload dX11_goOn_51 rfl ?_
      refine g_iaddN dX11_goOn_53 ?_
      refine g_istore (ls' := [(7, .int (nI ((31 * a) + b))), (6, .int (nI b)), (5, .int (nI a)), (0, .ref 142), (1, .int (nI nn)), (2, .int (nI x)), (3, .int (nI y)), (4, .int (nI o))]) dX11_goOn_54 (by decide) rfl ?_
      refine g_aload_n dX11_goOn_56 rfl rfl ?_
      refine g_iload dX11_goOn_57 rfl ?_
      refine g_iload dX11_goOn_59 rfl ?_
      refine g_iload dX11_goOn_61 rfl ?_
      refine cVv (st := []) dX11_goOn_63 (c_pass G d n ex h (O := O) (B := B) (p := ((31 * a) + b)) (q := ((31 * a) + b)) (F := o) (by omega) (by omega) (by omega) hOb hB bd1 m0 e8 e9) sX11_315 m0 rfl rfl (by simp only [g_rm]; omega) (by simp only [g_rm]; omega) (Nat.le_of_ble_eq_true rfl) ⟨Nat.le_of_ble_eq_true rfl, Nat.le_of_ble_eq_true rfl⟩ (fun h1 fr2 p3 => ?_)
      obtain ⟨B1, f11, f12, f13, f14⟩ := p3
      rw [hO a b (by omega), hv a b (by omega)] at f13
      refine g_iload dX11_goOn_66 rfl ?_
      refine g_iload dX11_goOn_68 rfl ?_
      refine g_iaddN dX11_goOn_70 ?_
      refine g_iload_n dX11_goOn_71 rfl rfl ?_
      refine g_icmp_geN (tgt := 98) dX11_goOn_72 (by decide) (by omega) (by omega) (fun c72 => ?_) (fun c72 => ?_)
      · refine g_iincN (z := 1) (ls' := [(6, .int (nI (b + 1))), (7, .int (nI ((31 * a) + b))), (5, .int (nI a)), (0, .ref 142), (1, .int (nI nn)), (2, .int (nI x)), (3, .int (nI y)), (4, .int (nI o))]) dX11_goOn_98 rfl (by decide) rfl ?_
        refine g_goto (tgt := 37) dX11_goOn_101 (by decide) ?_
        refine g_pick [0, 2, 3, 4, 5, 6, 7] (ls' := [(6, .int (nI (b + 1))), (5, .int (nI a)), (0, .ref 142), (1, .int (nI nn)), (2, .int (nI x)), (3, .int (nI y)), (4, .int (nI o))]) rfl ?_
        refine ih (b + 1) _ B1 (by omega) (by omega) (fr2.at (by intro q; simp only [List.mem_cons, List.not_mem_nil, or_false] at q; omega) m0) (fr2.at (by intro q; simp only [List.mem_cons, List.not_mem_nil, or_false] at q; omega) e8) f11 f12 (fun p q hpq => ?_) ((hf).tr fr2 (by simp))
        rw [NV_s]
        by_cases z1 : p = a ∧ q = b
        · obtain ⟨rfl, rfl⟩ := z1
          rw [f13, if_pos ⟨rfl, rfl⟩, if_neg (by omega), if_neg (by omega)]; omega
        · rw [pst f14 (by omega), hv p q hpq, if_neg z1, if_neg (by omega), if_neg (by omega)]; omega
      · have bd2 : bv B1 (40 * (31 * a + b + 31)) 40 + x * bv O (40 * (31 * a + b)) 40 < 65536 ^ 40 := by rw [show 31 * a + b + 31 = 31 * (a + 1) + b by omega, pst f14 (by omega), hv (a + 1) b (by omega), hO a b (by omega)]; omega
        refine g_aload_n dX11_goOn_75 rfl rfl ?_
        refine g_iload dX11_goOn_76 rfl ?_
        refine g_iload dX11_goOn_78 rfl ?_
        refine g_bipush (v := nI 31) dX11_goOn_80 (by decide) ?_
        refine g_iaddN dX11_goOn_82 ?_
        refine g_iload_n dX11_goOn_83 rfl rfl ?_
        refine cVv (st := []) dX11_goOn_84 (c_pass G d n ex h1 (O := O) (B := B1) (p := ((31 * a) + b)) (q := (((31 * a) + b) + 31)) (F := x) (by omega) (by omega) (by omega) hOb f12 bd2 (fr2.at (by intro q; simp only [List.mem_cons, List.not_mem_nil, or_false] at q; omega) m0) (fr2.at (by intro q; simp only [List.mem_cons, List.not_mem_nil, or_false] at q; omega) e8) f11) sX11_315 (fr2.at (by intro q; simp only [List.mem_cons, List.not_mem_nil, or_false] at q; omega) m0) rfl rfl (by simp only [g_rm]; omega) (by simp only [g_rm]; omega) (Nat.le_of_ble_eq_true rfl) ⟨Nat.le_of_ble_eq_true rfl, Nat.le_of_ble_eq_true rfl⟩ (fun h5 fr6 p7 => ?_)
        obtain ⟨B2, f21, f22, f23, f24⟩ := p7
        rw [hO a b (by omega), show 31 * a + b + 31 = 31 * (a + 1) + b by omega, pst f14 (by omega), hv (a + 1) b (by omega)] at f23
        have bd3 : bv B2 (40 * (31 * a + b + 1)) 40 + y * bv O (40 * (31 * a + b)) 40 < 65536 ^ 40 := by rw [show 31 * a + b + 1 = 31 * a + (b + 1) by omega, pst f24 (by omega), pst f14 (by omega), hv a (b + 1) (by omega), hO a b (by omega)]; omega
        refine g_aload_n dX11_goOn_87 rfl rfl ?_
        refine g_iload dX11_goOn_88 rfl ?_
        refine g_iload dX11_goOn_90 rfl ?_
        refine g_iconst (v := nI 1) dX11_goOn_92 (by decide) ?_
        refine g_iaddN dX11_goOn_93 ?_
        refine g_iload_n dX11_goOn_94 rfl rfl ?_
        refine cVv (st := []) dX11_goOn_95 (c_pass G d n ex h5 (O := O) (B := B2) (p := ((31 * a) + b)) (q := (((31 * a) + b) + 1)) (F := y) (by omega) (by omega) (by omega) hOb f22 bd3 (fr6.at (by intro q; simp only [List.mem_cons, List.not_mem_nil, or_false] at q; omega) (fr2.at (by intro q; simp only [List.mem_cons, List.not_mem_nil, or_false] at q; omega) m0)) (fr6.at (by intro q; simp only [List.mem_cons, List.not_mem_nil, or_false] at q; omega) (fr2.at (by intro q; simp only [List.mem_cons, List.not_mem_nil, or_false] at q; omega) e8)) f21) sX11_315 (fr6.at (by intro q; simp only [List.mem_cons, List.not_mem_nil, or_false] at q; omega) (fr2.at (by intro q; simp only [List.mem_cons, List.not_mem_nil, or_false] at q; omega) m0)) rfl rfl (by simp only [g_rm]; omega) (by simp only [g_rm]; omega) (Nat.le_of_ble_eq_true rfl) ⟨Nat.le_of_ble_eq_true rfl, Nat.le_of_ble_eq_true rfl⟩ (fun h9 fr10 p11 => ?_)
        obtain ⟨B3, f31, f32, f33, f34⟩ := p11
        rw [hO a b (by omega), show 31 * a + b + 1 = 31 * a + (b + 1) by omega, pst f24 (by omega), pst f14 (by omega), hv a (b + 1) (by omega)] at f33
        refine g_iincN (z := 1) (ls' := [(6, .int (nI (b + 1))), (7, .int (nI ((31 * a) + b))), (5, .int (nI a)), (0, .ref 142), (1, .int (nI nn)), (2, .int (nI x)), (3, .int (nI y)), (4, .int (nI o))]) dX11_goOn_98 rfl (by decide) rfl ?_
        refine g_goto (tgt := 37) dX11_goOn_101 (by decide) ?_
        refine g_pick [0, 2, 3, 4, 5, 6, 7] (ls' := [(6, .int (nI (b + 1))), (5, .int (nI a)), (0, .ref 142), (1, .int (nI nn)), (2, .int (nI x)), (3, .int (nI y)), (4, .int (nI o))]) rfl ?_
        refine ih (b + 1) _ B3 (by omega) (by omega) (fr10.at (by intro q; simp only [List.mem_cons, List.not_mem_nil, or_false] at q; omega) (fr6.at (by intro q; simp only [List.mem_cons, List.not_mem_nil, or_false] at q; omega) (fr2.at (by intro q; simp only [List.mem_cons, List.not_mem_nil, or_false] at q; omega) m0))) (fr10.at (by intro q; simp only [List.mem_cons, List.not_mem_nil, or_false] at q; omega) (fr6.at (by intro q; simp only [List.mem_cons, List.not_mem_nil, or_false] at q; omega) (fr2.at (by intro q; simp only [List.mem_cons, List.not_mem_nil, or_false] at q; omega) e8))) f31 f32 (fun p q hpq => ?_) ((((hf).tr fr2 (by simp)).tr fr6 (by simp)).tr fr10 (by simp))
        rw [NV_s]
        by_cases z1 : p = a ∧ q = b
        · obtain ⟨rfl, rfl⟩ := z1
          rw [pst f34 (by omega), pst f24 (by omega), f13, if_pos ⟨rfl, rfl⟩, if_neg (by omega), if_neg (by omega)]; omega
        · by_cases z2 : p = a + 1 ∧ q = b
          · obtain ⟨rfl, rfl⟩ := z2
            rw [pst f34 (by omega), f23, if_neg (by omega), if_pos ⟨rfl, rfl⟩, if_neg (by omega)]; omega
          · by_cases z3 : p = a ∧ q = b + 1
            · obtain ⟨rfl, rfl⟩ := z3
              rw [f33, if_neg (by omega), if_neg (by omega), if_pos ⟨rfl, rfl⟩]; omega
            · rw [pst f34 (by omega), pst f24 (by omega), pst f14 (by omega), hv p q hpq, if_neg z1, if_neg z2, if_neg z3]; omega
set_option maxHeartbeats 4000000 in
set_option maxRecDepth 100000 in
theorem lp_go3 (G : gG) (d : Nat) (KK : gK) (n : Nat) (ex : Bool) (h0 : gH) {cd wt : Int32} {s : Nat → Nat} {k m sg cm sd mm dr dd bk rt : Nat} {nn x y o Z : Nat} {O : Nat → Nat} {u : Nat → Nat → Nat} (hnn : nn ≤ 30) (hxyo : o + x + y ≤ 20000) (hOb : ∀ j, O j < 65536) (hO : ∀ p q, p + q ≤ nn → bv O (40 * (31 * p + q)) 40 = u p q) (hu : ∀ p q, u p q ≤ Z) (hZ : (o + x + y) * Z < 65536 ^ 40) (kk : ∀ (h : gH) (B : Nat → Nat), Mc h cd s k m sg cm sd mm dr dd bk rt wt → h 158 = some (.inl (0, 77000, .inl (fun k => nI (O k)))) → h 159 = some (.inl (0, 77000, .inl (fun k => nI (B k)))) → (∀ j, B j < 65536) → (∀ p q, p + q ≤ nn → bv B (40 * (31 * p + q)) 40 = NX o x y u p q) → g_fr [159] h0 h → g_W G mX11_goOn (g_rm (d + 2) 0 0) KK n ex h 0 0 110 [(5, .int (nI (nn + 1))), (0, .ref 142), (1, .int (nI nn)), (2, .int (nI x)), (3, .int (nI y)), (4, .int (nI o))] []) : ∀ (t a : Nat) (h : gH) (B : Nat → Nat), nn + 1 - a < t → a ≤ nn + 1 → Mc h cd s k m sg cm sd mm dr dd bk rt wt → h 158 = some (.inl (0, 77000, .inl (fun k => nI (O k)))) → h 159 = some (.inl (0, 77000, .inl (fun k => nI (B k)))) → (∀ j, B j < 65536) → (∀ p q, p + q ≤ nn → bv B (40 * (31 * p + q)) 40 = NVp o x y u a 0 p q) → g_fr [159] h0 h →
    g_W G mX11_goOn (g_rm (d + 2) 0 0) KK n ex h 0 0 28 [(5, .int (nI a)), (0, .ref 142), (1, .int (nI nn)), (2, .int (nI x)), (3, .int (nI y)), (4, .int (nI o))] [] := by
  intro t
  induction t with
  | zero => intro a h B hm; exact absurd hm (by omega)
  | succ t ih =>
    intro a h B ht ha m0 e8 e9 hB hv hf
    refine g_iload dX11_goOn_28 rfl ?_
    refine g_iload_n dX11_goOn_30 rfl rfl ?_
    refine g_icmp_gtN (tgt := 110) dX11_goOn_31 (by decide) (by omega) (by omega) (fun c31 => ?_) (fun c31 => ?_)
    · refine g_pick [0, 1, 2, 3, 4, 5] (ls' := [(5, .int (nI a)), (0, .ref 142), (1, .int (nI nn)), (2, .int (nI x)), (3, .int (nI y)), (4, .int (nI o))]) rfl ?_
      have e : a = nn + 1 := by omega
      subst e
      exact kk _ B m0 e8 e9 hB (fun p q hpq => (hv p q hpq).trans (NV_n hpq)) hf
    · refine g_iconst (v := nI 0) dX11_goOn_34 (by decide) ?_
      refine g_istore (ls' := [(6, .int (nI 0)), (5, .int (nI a)), (0, .ref 142), (1, .int (nI nn)), (2, .int (nI x)), (3, .int (nI y)), (4, .int (nI o))]) dX11_goOn_35 (by decide) rfl ?_
      refine g_pick [0, 1, 2, 3, 4, 5, 6] (ls' := [(6, .int (nI 0)), (5, .int (nI a)), (0, .ref 142), (1, .int (nI nn)), (2, .int (nI x)), (3, .int (nI y)), (4, .int (nI o))]) rfl ?_
      refine lp_go2 G d _ n ex h0 hnn hxyo hOb hO hu hZ (by omega) (fun h2 B2 x1 x2 x3 x4 x5 x6 => ?_) (nn + 2) 0 h B (by omega) (by omega) m0 e8 e9 hB hv hf
      refine g_iincN (z := 1) (ls' := [(5, .int (nI (a + 1))), (6, .int (nI (nn + 1 - a))), (0, .ref 142), (1, .int (nI nn)), (2, .int (nI x)), (3, .int (nI y)), (4, .int (nI o))]) dX11_goOn_104 rfl (by decide) rfl ?_
      refine g_goto (tgt := 28) dX11_goOn_107 (by decide) ?_
      refine g_pick [0, 2, 3, 4, 5, 6] (ls' := [(5, .int (nI (a + 1))), (0, .ref 142), (1, .int (nI nn)), (2, .int (nI x)), (3, .int (nI y)), (4, .int (nI o))]) rfl ?_
      exact ih (a + 1) h2 B2 (by omega) (by omega) x1 x2 x3 x4 (fun p q hpq => (x5 p q hpq).trans (NV_r (by omega) hpq)) x6
set_option maxHeartbeats 4000000 in
set_option maxRecDepth 100000 in
theorem lp_go4 (G : gG) (R : Room) (KK : gK) (n : Nat) (ex : Bool) (h0 : gH) {cd wt : Int32} {s : Nat → Nat} {k m sg cm sd mm dr dd bk rt : Nat} {nn x y o a b : Nat} {B S Z C0 D0 : Nat → Nat} (hab : a + b ≤ 30) (hB : ∀ j, B j < 65536) (hS : ∀ j, S j ≤ 1) (kk : ∀ (h : gH) (C D : Nat → Nat), Bg h (MX cd s k m sg cm sd mm dr dd bk rt wt) C Z → h 158 = some (.inl (0, 77000, .inl (fun k => nI (D k)))) → h 159 = some (.inl (0, 77000, .inl (fun k => nI (B k)))) → h 166 = some (.inl (2, 961, .inl (fun k => nI (S k)))) → (∀ j, D j < 65536) → (∀ k, k < 40 → C (2400 + k) = S (31 * a + b) * B (40 * (31 * a + b) + k)) → (∀ k, k < 40 → D (40 * (31 * a + b) + k) = (1 - S (31 * a + b)) * B (40 * (31 * a + b) + k)) → (∀ k, (k < 2400 ∨ 3600 ≤ k) → C k = C0 k) → (∀ k, (k < 40 * (31 * a + b) ∨ 40 * (31 * a + b) + 40 ≤ k) → D k = D0 k) → g_fr [156, 157, 158] h0 h → g_W G mX11_goOn R KK n ex h 0 0 243 [(8, .int (nI 40)), (7, .int (nI (31 * a + b))), (6, .int (nI b)), (5, .int (nI a)), (0, .ref 142), (1, .int (nI nn)), (2, .int (nI x)), (3, .int (nI y)), (4, .int (nI o))] []) : ∀ (t i : Nat) (h : gH) (C D : Nat → Nat), 40 - i < t → i ≤ 40 → Bg h (MX cd s k m sg cm sd mm dr dd bk rt wt) C Z → h 158 = some (.inl (0, 77000, .inl (fun k => nI (D k)))) → h 159 = some (.inl (0, 77000, .inl (fun k => nI (B k)))) → h 166 = some (.inl (2, 961, .inl (fun k => nI (S k)))) → (∀ j, D j < 65536) → (∀ k, k < i → C (2400 + k) = S (31 * a + b) * B (40 * (31 * a + b) + k)) → (∀ k, k < i → D (40 * (31 * a + b) + k) = (1 - S (31 * a + b)) * B (40 * (31 * a + b) + k)) → (∀ k, (k < 2400 ∨ 3600 ≤ k) → C k = C0 k) → (∀ k, (k < 40 * (31 * a + b) ∨ 40 * (31 * a + b) + 40 ≤ k) → D k = D0 k) → g_fr [156, 157, 158] h0 h →
    g_W G mX11_goOn R KK n ex h 0 0 152 [(8, .int (nI i)), (7, .int (nI (31 * a + b))), (6, .int (nI b)), (5, .int (nI a)), (0, .ref 142), (1, .int (nI nn)), (2, .int (nI x)), (3, .int (nI y)), (4, .int (nI o))] [] := by
  intro t
  induction t with
  | zero => intro i h C D hm; exact absurd hm (by omega)
  | succ t ih =>
    intro i h C D ht hi hg e8 e9 e16 hD c1 c2 c3 c4 hf
    obtain ⟨m0', m1, m2, m3⟩ := id hg
    have m0 : Mc h cd s k m sg cm sd mm dr dd bk rt wt := m0'
    refine g_iload dX11_goOn_152 rfl ?_
    refine g_bipush (v := nI 40) dX11_goOn_154 (by decide) ?_
    refine g_icmp_geN (tgt := 243) dX11_goOn_156 (by decide) (by omega) (by omega) (fun c156 => ?_) (fun c156 => ?_)
    · refine g_pick [0, 1, 2, 3, 4, 5, 6, 7, 8] (ls' := [(8, .int (nI i)), (7, .int (nI (31 * a + b))), (6, .int (nI b)), (5, .int (nI a)), (0, .ref 142), (1, .int (nI nn)), (2, .int (nI x)), (3, .int (nI y)), (4, .int (nI o))]) rfl ?_
      have e : i = 40 := by omega
      subst e
      exact kk _ C D hg e8 e9 e16 hD c1 c2 c3 c4 hf
    · refine g_aload_n dX11_goOn_159 rfl rfl ?_
      refine g_getf (v := .ref 156) dX11_goOn_160 fX11_76 m0 rfl ?_
      refine g_sipush (v := nI 2400) dX11_goOn_163 (by decide) ?_
      refine g_iload dX11_goOn_166 rfl ?_
      refine g_iaddN dX11_goOn_168 ?_
      refine g_aload_n dX11_goOn_169 rfl rfl ?_
      refine g_getf (v := .ref 166) dX11_goOn_170 fX11_179 m0 rfl ?_
      refine g_iload dX11_goOn_173 rfl ?_
      refine g_zaldN dX11_goOn_175 e16 (by omega) (by decide) ?_
      refine g_if_eqN (tgt := 195) dX11_goOn_176 (by decide) (by have := hS (31 * a + b); omega) (fun c176 => ?_) (fun c176 => ?_)
      · refine g_iconst (v := nI 0) dX11_goOn_195 (by decide) ?_
        refine g_iastN dX11_goOn_196 m1 (by omega) (by decide) ?_
        rw [upd_nI]
        refine g_aload_n dX11_goOn_197 rfl rfl ?_
        refine g_getf (v := .ref 158) dX11_goOn_198 fX11_83 (g_ne (by decide) m0) rfl ?_
        refine g_bipush (v := nI 40) dX11_goOn_201 (by decide) ?_
        refine g_iload dX11_goOn_203 rfl ?_
        refine g_imulN dX11_goOn_205 ?_
        refine g_iload dX11_goOn_206 rfl ?_
        refine g_iaddN dX11_goOn_208 ?_
        refine g_aload_n dX11_goOn_209 rfl rfl ?_
        refine g_getf (v := .ref 166) dX11_goOn_210 fX11_179 (g_ne (by decide) m0) rfl ?_
        refine g_iload dX11_goOn_213 rfl ?_
        refine g_zaldN dX11_goOn_215 (g_ne (by decide) e16) (by omega) (by decide) ?_
        refine g_if_eqN (tgt := 223) dX11_goOn_216 (by decide) (by have := hS (31 * a + b); omega) (fun c216 => ?_) (fun c216 => ?_)
        · refine g_aload_n dX11_goOn_223 rfl rfl ?_
          refine g_getf (v := .ref 159) dX11_goOn_224 fX11_86 (g_ne (by decide) m0) rfl ?_
          refine g_bipush (v := nI 40) dX11_goOn_227 (by decide) ?_
          refine g_iload dX11_goOn_229 rfl ?_
          refine g_imulN dX11_goOn_231 ?_
          refine g_iload dX11_goOn_232 rfl ?_
          refine g_iaddN dX11_goOn_234 ?_
          refine g_ialdN dX11_goOn_235 (g_ne (by decide) e9) (by omega) (by decide) ?_
          refine g_iastN dX11_goOn_236 (g_ne (by decide) e8) (by omega) (by decide) ?_
          rw [upd_nI]
          refine g_iincN (z := 1) (ls' := [(8, .int (nI (i + 1))), (7, .int (nI (31 * a + b))), (6, .int (nI b)), (5, .int (nI a)), (0, .ref 142), (1, .int (nI nn)), (2, .int (nI x)), (3, .int (nI y)), (4, .int (nI o))]) dX11_goOn_237 rfl (by decide) rfl ?_
          refine g_goto (tgt := 152) dX11_goOn_240 (by decide) ?_
          refine g_pick [0, 1, 2, 3, 4, 5, 6, 7, 8] (ls' := [(8, .int (nI (i + 1))), (7, .int (nI (31 * a + b))), (6, .int (nI b)), (5, .int (nI a)), (0, .ref 142), (1, .int (nI nn)), (2, .int (nI x)), (3, .int (nI y)), (4, .int (nI o))]) rfl ?_
          refine ih (i + 1) _ (va_up C (2400 + i) 0) (va_up D ((40 * (31 * a + b)) + i) (B ((40 * (31 * a + b)) + i))) (by omega) (by omega) ⟨g_ne (by decide) (g_ne (by decide) m0), g_ne (by decide) g_eq, g_ne (by decide) (g_ne (by decide) m2), up_b m3 (by decide)⟩ g_eq (g_ne (by decide) (g_ne (by decide) e9)) (g_ne (by decide) (g_ne (by decide) e16)) (up_b hD (hB _)) (fun k hk => ?_) (fun k hk => ?_) (fun k hk => (va_n (by omega)).trans (c3 k hk)) (fun k hk => (va_n (by omega)).trans (c4 k hk)) ((hf.up (by simp)).up (by simp))
          · by_cases q : k = i
            · rw [q, va_s, c176, Nat.zero_mul]
            · rw [va_n (by omega)]; exact c1 k (by omega)
          · by_cases q : k = i
            · rw [q, va_s, c176, Nat.sub_zero, Nat.one_mul]
            · rw [va_n (by omega)]; exact c2 k (by omega)
        · exact absurd c176 c216
      · refine g_aload_n dX11_goOn_179 rfl rfl ?_
        refine g_getf (v := .ref 159) dX11_goOn_180 fX11_86 m0 rfl ?_
        refine g_bipush (v := nI 40) dX11_goOn_183 (by decide) ?_
        refine g_iload dX11_goOn_185 rfl ?_
        refine g_imulN dX11_goOn_187 ?_
        refine g_iload dX11_goOn_188 rfl ?_
        refine g_iaddN dX11_goOn_190 ?_
        refine g_ialdN dX11_goOn_191 e9 (by omega) (by decide) ?_
        refine g_goto (tgt := 196) dX11_goOn_192 (by decide) ?_
        refine g_iastN dX11_goOn_196 m1 (by omega) (by decide) ?_
        rw [upd_nI]
        refine g_aload_n dX11_goOn_197 rfl rfl ?_
        refine g_getf (v := .ref 158) dX11_goOn_198 fX11_83 (g_ne (by decide) m0) rfl ?_
        refine g_bipush (v := nI 40) dX11_goOn_201 (by decide) ?_
        refine g_iload dX11_goOn_203 rfl ?_
        refine g_imulN dX11_goOn_205 ?_
        refine g_iload dX11_goOn_206 rfl ?_
        refine g_iaddN dX11_goOn_208 ?_
        refine g_aload_n dX11_goOn_209 rfl rfl ?_
        refine g_getf (v := .ref 166) dX11_goOn_210 fX11_179 (g_ne (by decide) m0) rfl ?_
        refine g_iload dX11_goOn_213 rfl ?_
        refine g_zaldN dX11_goOn_215 (g_ne (by decide) e16) (by omega) (by decide) ?_
        refine g_if_eqN (tgt := 223) dX11_goOn_216 (by decide) (by have := hS (31 * a + b); omega) (fun c216 => ?_) (fun c216 => ?_)
        · exact absurd c216 c176
        · refine g_iconst (v := nI 0) dX11_goOn_219 (by decide) ?_
          refine g_goto (tgt := 236) dX11_goOn_220 (by decide) ?_
          refine g_iastN dX11_goOn_236 (g_ne (by decide) e8) (by omega) (by decide) ?_
          rw [upd_nI]
          refine g_iincN (z := 1) (ls' := [(8, .int (nI (i + 1))), (7, .int (nI (31 * a + b))), (6, .int (nI b)), (5, .int (nI a)), (0, .ref 142), (1, .int (nI nn)), (2, .int (nI x)), (3, .int (nI y)), (4, .int (nI o))]) dX11_goOn_237 rfl (by decide) rfl ?_
          refine g_goto (tgt := 152) dX11_goOn_240 (by decide) ?_
          refine g_pick [0, 1, 2, 3, 4, 5, 6, 7, 8] (ls' := [(8, .int (nI (i + 1))), (7, .int (nI (31 * a + b))), (6, .int (nI b)), (5, .int (nI a)), (0, .ref 142), (1, .int (nI nn)), (2, .int (nI x)), (3, .int (nI y)), (4, .int (nI o))]) rfl ?_
          refine ih (i + 1) _ (va_up C (2400 + i) (B ((40 * (31 * a + b)) + i))) (va_up D ((40 * (31 * a + b)) + i) 0) (by omega) (by omega) ⟨g_ne (by decide) (g_ne (by decide) m0), g_ne (by decide) g_eq, g_ne (by decide) (g_ne (by decide) m2), up_b m3 (hB _)⟩ g_eq (g_ne (by decide) (g_ne (by decide) e9)) (g_ne (by decide) (g_ne (by decide) e16)) (up_b hD (by decide)) (fun k hk => ?_) (fun k hk => ?_) (fun k hk => (va_n (by omega)).trans (c3 k hk)) (fun k hk => (va_n (by omega)).trans (c4 k hk)) ((hf.up (by simp)).up (by simp))
          · by_cases q : k = i
            · rw [q, va_s, show S (31 * a + b) = 1 by have := hS (31 * a + b); omega, Nat.one_mul]
            · rw [va_n (by omega)]; exact c1 k (by omega)
          · by_cases q : k = i
            · rw [q, va_s, show S (31 * a + b) = 1 by have := hS (31 * a + b); omega, Nat.sub_self, Nat.zero_mul]
            · rw [va_n (by omega)]; exact c2 k (by omega)
