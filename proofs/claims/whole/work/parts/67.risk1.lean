set_option maxHeartbeats 4000000 in
set_option maxRecDepth 100000 in
theorem c_isSure (G : gG) (d n : Nat) (ex : Bool) (h : gH) {cd wt : Int32} {s : Nat → Nat} {k m sg cm sd mm dr dd bk rt : Nat} {v w l : Nat → Nat} {V : Nat → Option Nat} {i a b : Nat} (hN : Bn h (MX cd s k m sg cm sd mm dr dd bk rt wt) V) (a3 : h 143 = some (.inl (0, 8, .inl (fun k => nI (v k))))) (a9 : h 149 = some (.inl (0, 16, .inl (fun k => nI (w k))))) (a10 : h 150 = some (.inl (0, 16, .inl (fun k => nI (l k))))) (hmm : mm ≤ 16) (hwl : ∀ k, k < mm → w k < 8 ∧ l k < 8) (hV : ∀ k, k < mm → v (l k) < v (w k) ∧ v (w k) ≤ 20000) (hi : i < mm) (ha : a ≤ 30) (hb : b ≤ 30) (hl1 : s 9 ≤ 1000000) (hl2 : s 10 ≤ 1000000) : g_M G mX11_isSure (d + 3) 0 0 [.ref 142, .int (nI i), .int (nI a), .int (nI b)] n ex h (q_i n ex [156, 157] h (fun r h' => r = nI (if t_ge v (s 9) (s 10) (w i) (l i) a b then 1 else 0) ∧ Bn h' (MX cd s k m sg cm sd mm dr dd bk rt wt) (va_up (va_up V 2 none) 3 none))) := by
  have m0 : Mc h cd s k m sg cm sd mm dr dd bk rt wt := hN.cell
  have hw9 := hwl i hi
  have hv9 := hV i hi
  refine g_enter (by decide) (Nat.le_of_ble_eq_true rfl) ?_
  show g_W G _ _ _ n ex h 0 0 0 [(0, .ref 142), (1, .int (nI i)), (2, .int (nI a)), (3, .int (nI b))] []
  refine g_aload_n dX11_isSure_0 rfl rfl ?_
  refine g_iconst (v := nI 2) dX11_isSure_1 (by decide) ?_
  refine g_aload_n dX11_isSure_2 rfl rfl ?_
  refine g_getf (v := .int (nI (s 9))) dX11_isSure_3 fX11_30 m0 rfl ?_
  refine g_i2lN dX11_isSure_6 (by omega) ?_
  refine cVv (st := []) dX11_isSure_7 (c_give G (d + 2) n ex h hN (s := 2) (by decide) (by omega)) sX11_182 m0 rfl rfl (by simp only [g_rm]; omega) (by simp only [g_rm]; omega) (Nat.le_of_ble_eq_true rfl) ⟨Nat.le_of_ble_eq_true rfl, Nat.le_of_ble_eq_true rfl⟩ (fun h1 fr2 p3 => ?_)
  have hN5 := p3
  refine g_aload_n dX11_isSure_10 rfl rfl ?_
  refine g_iconst (v := nI 3) dX11_isSure_11 (by decide) ?_
  refine g_aload_n dX11_isSure_12 rfl rfl ?_
  refine g_getf (v := .int (nI (s 10))) dX11_isSure_13 fX11_33 (fr2.at (by intro q; simp only [List.mem_cons, List.not_mem_nil, or_false] at q; omega) m0) rfl ?_
  refine g_i2lN dX11_isSure_16 (by omega) ?_
  refine cVv (st := []) dX11_isSure_17 (c_give G (d + 2) n ex h1 hN5 (s := 3) (by decide) (by omega)) sX11_182 (fr2.at (by intro q; simp only [List.mem_cons, List.not_mem_nil, or_false] at q; omega) m0) rfl rfl (by simp only [g_rm]; omega) (by simp only [g_rm]; omega) (Nat.le_of_ble_eq_true rfl) ⟨Nat.le_of_ble_eq_true rfl, Nat.le_of_ble_eq_true rfl⟩ (fun h6 fr7 p8 => ?_)
  have hN10 := p8
  refine g_aload_n dX11_isSure_20 rfl rfl ?_
  refine g_iconst (v := nI 2) dX11_isSure_21 (by decide) ?_
  refine g_ldc2 dX11_isSure_22 kX11_268 rfl ?_
  refine g_topl (show (2 : Int64) = lN 2 by decide) ?_
  refine g_aload_n dX11_isSure_25 rfl rfl ?_
  refine g_getf (v := .ref 143) dX11_isSure_26 fX11_13 (fr7.at (by intro q; simp only [List.mem_cons, List.not_mem_nil, or_false] at q; omega) (fr2.at (by intro q; simp only [List.mem_cons, List.not_mem_nil, or_false] at q; omega) m0)) rfl ?_
  refine g_aload_n dX11_isSure_29 rfl rfl ?_
  refine g_getf (v := .ref 149) dX11_isSure_30 fX11_52 (fr7.at (by intro q; simp only [List.mem_cons, List.not_mem_nil, or_false] at q; omega) (fr2.at (by intro q; simp only [List.mem_cons, List.not_mem_nil, or_false] at q; omega) m0)) rfl ?_
  refine g_iload_n dX11_isSure_33 rfl rfl ?_
  refine g_ialdN dX11_isSure_34 (fr7.at (by intro q; simp only [List.mem_cons, List.not_mem_nil, or_false] at q; omega) (fr2.at (by intro q; simp only [List.mem_cons, List.not_mem_nil, or_false] at q; omega) a9)) (by omega) (by decide) ?_
  refine g_ialdN dX11_isSure_35 (fr7.at (by intro q; simp only [List.mem_cons, List.not_mem_nil, or_false] at q; omega) (fr2.at (by intro q; simp only [List.mem_cons, List.not_mem_nil, or_false] at q; omega) a3)) (by omega) (by decide) ?_
  refine g_i2lN dX11_isSure_36 (by omega) ?_
  refine g_lmulN dX11_isSure_37 ?_
  refine g_iload_n dX11_isSure_38 rfl rfl ?_
  refine cVv (st := []) dX11_isSure_39 (c_power G d n ex h6 hN10 (F := (2 * (v (w i)))) (k := a) (by decide) ((va_n (by decide)).trans va_s) (by omega) (by omega) (fun i hi => pr_room (e := 2 + 30) (pr_mul (a := 2) (by omega) (by omega) (by omega)) (by decide))) sX11_270 (fr7.at (by intro q; simp only [List.mem_cons, List.not_mem_nil, or_false] at q; omega) (fr2.at (by intro q; simp only [List.mem_cons, List.not_mem_nil, or_false] at q; omega) m0)) rfl rfl (by simp only [g_rm]; omega) (by simp only [g_rm]; omega) (Nat.le_of_ble_eq_true rfl) ⟨Nat.le_of_ble_eq_true rfl, Nat.le_of_ble_eq_true rfl⟩ (fun h11 fr12 p13 => ?_)
  have hN15 := p13
  refine g_aload_n dX11_isSure_42 rfl rfl ?_
  refine g_iconst (v := nI 2) dX11_isSure_43 (by decide) ?_
  refine g_ldc2 dX11_isSure_44 kX11_268 rfl ?_
  refine g_topl (show (2 : Int64) = lN 2 by decide) ?_
  refine g_aload_n dX11_isSure_47 rfl rfl ?_
  refine g_getf (v := .ref 143) dX11_isSure_48 fX11_13 (fr12.at (by intro q; simp only [List.mem_cons, List.not_mem_nil, or_false] at q; omega) (fr7.at (by intro q; simp only [List.mem_cons, List.not_mem_nil, or_false] at q; omega) (fr2.at (by intro q; simp only [List.mem_cons, List.not_mem_nil, or_false] at q; omega) m0))) rfl ?_
  refine g_aload_n dX11_isSure_51 rfl rfl ?_
  refine g_getf (v := .ref 150) dX11_isSure_52 fX11_55 (fr12.at (by intro q; simp only [List.mem_cons, List.not_mem_nil, or_false] at q; omega) (fr7.at (by intro q; simp only [List.mem_cons, List.not_mem_nil, or_false] at q; omega) (fr2.at (by intro q; simp only [List.mem_cons, List.not_mem_nil, or_false] at q; omega) m0))) rfl ?_
  refine g_iload_n dX11_isSure_55 rfl rfl ?_
  refine g_ialdN dX11_isSure_56 (fr12.at (by intro q; simp only [List.mem_cons, List.not_mem_nil, or_false] at q; omega) (fr7.at (by intro q; simp only [List.mem_cons, List.not_mem_nil, or_false] at q; omega) (fr2.at (by intro q; simp only [List.mem_cons, List.not_mem_nil, or_false] at q; omega) a10))) (by omega) (by decide) ?_
  refine g_ialdN dX11_isSure_57 (fr12.at (by intro q; simp only [List.mem_cons, List.not_mem_nil, or_false] at q; omega) (fr7.at (by intro q; simp only [List.mem_cons, List.not_mem_nil, or_false] at q; omega) (fr2.at (by intro q; simp only [List.mem_cons, List.not_mem_nil, or_false] at q; omega) a3))) (by omega) (by decide) ?_
  refine g_i2lN dX11_isSure_58 (by omega) ?_
  refine g_lmulN dX11_isSure_59 ?_
  refine g_iload_n dX11_isSure_60 rfl rfl ?_
  refine cVv (st := []) dX11_isSure_61 (c_power G d n ex h11 hN15 (F := (2 * (v (l i)))) (k := b) (by decide) va_s (by omega) (by omega) (fun i hi => pr_room (e := 2 + 30 + 30) (pr_mul (pr_mul (a := 2) (by omega) (by omega) (by omega)) (by omega) (by omega)) (by decide))) sX11_270 (fr12.at (by intro q; simp only [List.mem_cons, List.not_mem_nil, or_false] at q; omega) (fr7.at (by intro q; simp only [List.mem_cons, List.not_mem_nil, or_false] at q; omega) (fr2.at (by intro q; simp only [List.mem_cons, List.not_mem_nil, or_false] at q; omega) m0))) rfl rfl (by simp only [g_rm]; omega) (by simp only [g_rm]; omega) (Nat.le_of_ble_eq_true rfl) ⟨Nat.le_of_ble_eq_true rfl, Nat.le_of_ble_eq_true rfl⟩ (fun h16 fr17 p18 => ?_)
  have hN20 := p18
  refine g_aload_n dX11_isSure_64 rfl rfl ?_
  refine g_iconst (v := nI 3) dX11_isSure_65 (by decide) ?_
  refine g_aload_n dX11_isSure_66 rfl rfl ?_
  refine g_getf (v := .ref 143) dX11_isSure_67 fX11_13 (fr17.at (by intro q; simp only [List.mem_cons, List.not_mem_nil, or_false] at q; omega) (fr12.at (by intro q; simp only [List.mem_cons, List.not_mem_nil, or_false] at q; omega) (fr7.at (by intro q; simp only [List.mem_cons, List.not_mem_nil, or_false] at q; omega) (fr2.at (by intro q; simp only [List.mem_cons, List.not_mem_nil, or_false] at q; omega) m0)))) rfl ?_
  refine g_aload_n dX11_isSure_70 rfl rfl ?_
  refine g_getf (v := .ref 149) dX11_isSure_71 fX11_52 (fr17.at (by intro q; simp only [List.mem_cons, List.not_mem_nil, or_false] at q; omega) (fr12.at (by intro q; simp only [List.mem_cons, List.not_mem_nil, or_false] at q; omega) (fr7.at (by intro q; simp only [List.mem_cons, List.not_mem_nil, or_false] at q; omega) (fr2.at (by intro q; simp only [List.mem_cons, List.not_mem_nil, or_false] at q; omega) m0)))) rfl ?_
  refine g_iload_n dX11_isSure_74 rfl rfl ?_
  refine g_ialdN dX11_isSure_75 (fr17.at (by intro q; simp only [List.mem_cons, List.not_mem_nil, or_false] at q; omega) (fr12.at (by intro q; simp only [List.mem_cons, List.not_mem_nil, or_false] at q; omega) (fr7.at (by intro q; simp only [List.mem_cons, List.not_mem_nil, or_false] at q; omega) (fr2.at (by intro q; simp only [List.mem_cons, List.not_mem_nil, or_false] at q; omega) a9)))) (by omega) (by decide) ?_
  refine g_ialdN dX11_isSure_76 (fr17.at (by intro q; simp only [List.mem_cons, List.not_mem_nil, or_false] at q; omega) (fr12.at (by intro q; simp only [List.mem_cons, List.not_mem_nil, or_false] at q; omega) (fr7.at (by intro q; simp only [List.mem_cons, List.not_mem_nil, or_false] at q; omega) (fr2.at (by intro q; simp only [List.mem_cons, List.not_mem_nil, or_false] at q; omega) a3)))) (by omega) (by decide) ?_
  refine g_i2lN dX11_isSure_77 (by omega) ?_
  refine g_aload_n dX11_isSure_78 rfl rfl ?_
  refine g_getf (v := .ref 143) dX11_isSure_79 fX11_13 (fr17.at (by intro q; simp only [List.mem_cons, List.not_mem_nil, or_false] at q; omega) (fr12.at (by intro q; simp only [List.mem_cons, List.not_mem_nil, or_false] at q; omega) (fr7.at (by intro q; simp only [List.mem_cons, List.not_mem_nil, or_false] at q; omega) (fr2.at (by intro q; simp only [List.mem_cons, List.not_mem_nil, or_false] at q; omega) m0)))) rfl ?_
  refine g_aload_n dX11_isSure_82 rfl rfl ?_
  refine g_getf (v := .ref 150) dX11_isSure_83 fX11_55 (fr17.at (by intro q; simp only [List.mem_cons, List.not_mem_nil, or_false] at q; omega) (fr12.at (by intro q; simp only [List.mem_cons, List.not_mem_nil, or_false] at q; omega) (fr7.at (by intro q; simp only [List.mem_cons, List.not_mem_nil, or_false] at q; omega) (fr2.at (by intro q; simp only [List.mem_cons, List.not_mem_nil, or_false] at q; omega) m0)))) rfl ?_
  refine g_iload_n dX11_isSure_86 rfl rfl ?_
  refine g_ialdN dX11_isSure_87 (fr17.at (by intro q; simp only [List.mem_cons, List.not_mem_nil, or_false] at q; omega) (fr12.at (by intro q; simp only [List.mem_cons, List.not_mem_nil, or_false] at q; omega) (fr7.at (by intro q; simp only [List.mem_cons, List.not_mem_nil, or_false] at q; omega) (fr2.at (by intro q; simp only [List.mem_cons, List.not_mem_nil, or_false] at q; omega) a10)))) (by omega) (by decide) ?_
  refine g_ialdN dX11_isSure_88 (fr17.at (by intro q; simp only [List.mem_cons, List.not_mem_nil, or_false] at q; omega) (fr12.at (by intro q; simp only [List.mem_cons, List.not_mem_nil, or_false] at q; omega) (fr7.at (by intro q; simp only [List.mem_cons, List.not_mem_nil, or_false] at q; omega) (fr2.at (by intro q; simp only [List.mem_cons, List.not_mem_nil, or_false] at q; omega) a3)))) (by omega) (by decide) ?_
  refine g_i2lN dX11_isSure_89 (by omega) ?_
  refine g_laddN dX11_isSure_90 ?_
  refine g_iload_n dX11_isSure_91 rfl rfl ?_
  refine g_iload_n dX11_isSure_92 rfl rfl ?_
  refine g_iaddN dX11_isSure_93 ?_
  refine cVv (st := []) dX11_isSure_94 (c_power G d n ex h16 hN20 (F := ((v (w i)) + (v (l i)))) (k := (a + b)) (by decide) (((va_n (by decide)).trans (va_n (by decide))).trans va_s) (by omega) (by omega) (fun i hi => pr_room (e := 2 + 60) (pr_mul (a := 2) (by omega) (by omega) (by omega)) (by decide))) sX11_270 (fr17.at (by intro q; simp only [List.mem_cons, List.not_mem_nil, or_false] at q; omega) (fr12.at (by intro q; simp only [List.mem_cons, List.not_mem_nil, or_false] at q; omega) (fr7.at (by intro q; simp only [List.mem_cons, List.not_mem_nil, or_false] at q; omega) (fr2.at (by intro q; simp only [List.mem_cons, List.not_mem_nil, or_false] at q; omega) m0)))) rfl rfl (by simp only [g_rm]; omega) (by simp only [g_rm]; omega) (Nat.le_of_ble_eq_true rfl) ⟨Nat.le_of_ble_eq_true rfl, Nat.le_of_ble_eq_true rfl⟩ (fun h21 fr22 p23 => ?_)
  have hN25 := p23
  refine g_aload_n dX11_isSure_97 rfl rfl ?_
  refine g_iconst (v := nI 2) dX11_isSure_98 (by decide) ?_
  refine g_iconst (v := nI 3) dX11_isSure_99 (by decide) ?_
  refine cVi (st := []) dX11_isSure_100 (c_mcompare G (d + 2) n ex h21 hN25 (by decide) (by decide) ((va_n (by decide)).trans va_s) va_s) sX11_203 (fr22.at (by intro q; simp only [List.mem_cons, List.not_mem_nil, or_false] at q; omega) (fr17.at (by intro q; simp only [List.mem_cons, List.not_mem_nil, or_false] at q; omega) (fr12.at (by intro q; simp only [List.mem_cons, List.not_mem_nil, or_false] at q; omega) (fr7.at (by intro q; simp only [List.mem_cons, List.not_mem_nil, or_false] at q; omega) (fr2.at (by intro q; simp only [List.mem_cons, List.not_mem_nil, or_false] at q; omega) m0))))) rfl rfl (by simp only [g_rm]; omega) (by simp only [g_rm]; omega) (Nat.le_of_ble_eq_true rfl) ⟨Nat.le_of_ble_eq_true rfl, Nat.le_of_ble_eq_true rfl⟩ (fun r29 h26 fr27 p28 => ?_)
  cases g_fr0 fr27
  subst p28
  refine g_if_lt (tgt := 110) dX11_isSure_103 (by decide) (fun c103 => ?_) (fun c103 => ?_)
  · refine g_iconst (v := nI 0) dX11_isSure_110 (by decide) ?_
    exact e_i dX11_isSure_111 rfl rfl ((((((g_fr.rf).tr fr2 (by simp)).tr fr7 (by simp)).tr fr12 (by simp)).tr fr17 (by simp)).tr fr22 (by simp)) ⟨(by rw [if_neg (show ¬ t_ge v (s 9) (s 10) (w i) (l i) a b from fun q => by have h1 := cp_lt.mp c103; have q2 : _ * s 10 ≤ _ * s 9 := q; rw [Nat.mul_comm _ (s 10), Nat.mul_comm _ (s 9), ← Nat.mul_assoc] at q2; omega)]), hN25.le (fun u hu => by
      by_cases z3 : u = 3
      · subst z3; exact Or.inr (by rfl)
      · by_cases z2 : u = 2
        · subst z2; exact Or.inr (by rfl)
        · exact Or.inl (by rw [va_n z3, va_n z2, va_n z3, va_n z2, va_n z2, va_n z3, va_n z2]))⟩ (by decide) (by decide)
  · refine g_iconst (v := nI 1) dX11_isSure_106 (by decide) ?_
    refine g_goto (tgt := 111) dX11_isSure_107 (by decide) ?_
    exact e_i dX11_isSure_111 rfl rfl ((((((g_fr.rf).tr fr2 (by simp)).tr fr7 (by simp)).tr fr12 (by simp)).tr fr17 (by simp)).tr fr22 (by simp)) ⟨(by rw [if_pos (show t_ge v (s 9) (s 10) (w i) (l i) a b from by show _ * s 10 ≤ _ * s 9; have := Nat.not_lt.mp (fun q => c103 (cp_lt.mpr q)); rw [Nat.mul_comm _ (s 10), Nat.mul_comm _ (s 9), ← Nat.mul_assoc]; exact this)]), hN25.le (fun u hu => by
      by_cases z3 : u = 3
      · subst z3; exact Or.inr (by rfl)
      · by_cases z2 : u = 2
        · subst z2; exact Or.inr (by rfl)
        · exact Or.inl (by rw [va_n z3, va_n z2, va_n z3, va_n z2, va_n z2, va_n z3, va_n z2]))⟩ (by decide) (by decide)
theorem ps_s {x c S p u v F b1 b2 : Nat} (h : x + c * p = u + F * v) (e : S = c + (b1 + F * b2)) : x + S % 65536 * p + S / 65536 * (p * 65536) = u + b1 * p + F * (v + b2 * p) := by
  have e1 : S % 65536 * p + S / 65536 * (p * 65536) = S * p := by
    rw [Nat.mul_comm p 65536, ← Nat.mul_assoc, ← Nat.add_mul]
    congr 1; omega
  rw [Nat.add_assoc, e1, e, Nat.add_mul, Nat.add_mul, Nat.mul_add, Nat.mul_assoc F b2 p]
  omega
set_option maxHeartbeats 4000000 in
set_option maxRecDepth 100000 in
theorem lp_pass (G : gG) (R : Room) (n : Nat) (ex : Bool) (h0 : gH) {cd wt : Int32} {s : Nat → Nat} {k m sg cm sd mm dr dd bk rt : Nat} {O B0 : Nat → Nat} {p q F : Nat} (hp : p ≤ 960) (hq : q ≤ 960) (hF : F ≤ 20000) (hOb : ∀ j, O j < 65536) (hs : bv B0 (40 * q) 40 + F * bv O (40 * p) 40 < 65536 ^ 40) : ∀ (t i c : Nat) (B : Nat → Nat) (h : gH), 40 - i < t → i ≤ 40 → c ≤ 20001 → Mc h cd s k m sg cm sd mm dr dd bk rt wt → h 158 = some (.inl (0, 77000, .inl (fun k => nI (O k)))) → h 159 = some (.inl (0, 77000, .inl (fun k => nI (B k)))) → (∀ j, B j < 65536) → bv B (40 * q) i + c * 65536 ^ i = bv B0 (40 * q) i + F * bv O (40 * p) i → (∀ k, i ≤ k → k < 40 → B (40 * q + k) = B0 (40 * q + k)) → (∀ k, (k < 40 * q ∨ 40 * q + 40 ≤ k) → B k = B0 k) → g_fr [159] h0 h →
    g_W G mX11_pass R (g_K G (q_v n ex [159] h0 (fun h' => ∃ B, h' 159 = some (.inl (0, 77000, .inl (fun k => nI (B k)))) ∧ (∀ j, B j < 65536) ∧ bv B (40 * q) 40 = bv B0 (40 * q) 40 + F * bv O (40 * p) 40 ∧ ∀ k, (k < 40 * q ∨ 40 * q + 40 ≤ k) → B k = B0 k)) 0 0) n ex h 0 0 6 [(6, .int (nI i)), (4, .long (lN c)), (0, .ref 142), (1, .int (nI p)), (2, .int (nI q)), (3, .int (nI F))] [] := by
  intro t
  induction t with
  | zero => intro i c B h hm; exact absurd hm (by omega)
  | succ t ih =>
    intro i c B h ht hi hc m0 e8 e9 hB hval hU hO hf
    refine g_iload dX11_pass_6 rfl ?_
    refine g_bipush (v := nI 40) dX11_pass_8 (by decide) ?_
    refine g_icmp_geN (tgt := 80) dX11_pass_10 (by decide) (by omega) (by omega) (fun c10 => ?_) (fun c10 => ?_)
    · have e : i = 40 := by omega
      subst e
      have hc0 : c = 0 := by
        rcases Nat.eq_zero_or_pos c with z | z
        · exact z
        · have := Nat.mul_le_mul_right (65536 ^ 40) z; omega
      rw [hc0, Nat.zero_mul, Nat.add_zero] at hval
      exact e_v dX11_pass_80 rfl hf ⟨B, e9, hB, hval, hO⟩ (by decide) (by decide)
    · have w1 := hB (40 * q + i)
      have w2 := hOb (40 * p + i)
      have w3 : F * O (40 * p + i) ≤ 20000 * 65535 := Nat.mul_le_mul hF (by omega)
      refine g_lload dX11_pass_13 rfl ?_
      refine g_aload_n dX11_pass_15 rfl rfl ?_
      refine g_getf (v := .ref 159) dX11_pass_16 fX11_86 m0 rfl ?_
      refine g_bipush (v := nI 40) dX11_pass_19 (by decide) ?_
      refine g_iload_n dX11_pass_21 rfl rfl ?_
      refine g_imulN dX11_pass_22 ?_
      refine g_iload dX11_pass_23 rfl ?_
      refine g_iaddN dX11_pass_25 ?_
      refine g_ialdN dX11_pass_26 e9 (by omega) (by decide) ?_
      refine g_i2lN dX11_pass_27 (by omega) ?_
      refine g_iload_n dX11_pass_28 rfl rfl ?_
      refine g_i2lN dX11_pass_29 (by omega) ?_
      refine g_aload_n dX11_pass_30 rfl rfl ?_
      refine g_getf (v := .ref 158) dX11_pass_31 fX11_83 m0 rfl ?_
      refine g_bipush (v := nI 40) dX11_pass_34 (by decide) ?_
      refine g_iload_n dX11_pass_36 rfl rfl ?_
      refine g_imulN dX11_pass_37 ?_
      refine g_iload dX11_pass_38 rfl ?_
      refine g_iaddN dX11_pass_40 ?_
      refine g_ialdN dX11_pass_41 e8 (by omega) (by decide) ?_
      refine g_i2lN dX11_pass_42 (by omega) ?_
      refine g_lmulN dX11_pass_43 ?_
      refine g_laddN dX11_pass_44 ?_
      refine g_laddN dX11_pass_45 ?_
      refine g_lstore (ls' := [(4, .long (lN (c + ((B ((40 * q) + i)) + (F * (O ((40 * p) + i))))))), (6, .int (nI i)), (0, .ref 142), (1, .int (nI p)), (2, .int (nI q)), (3, .int (nI F))]) dX11_pass_46 (by decide) rfl ?_
      refine g_aload_n dX11_pass_48 rfl rfl ?_
      refine g_getf (v := .ref 159) dX11_pass_49 fX11_86 m0 rfl ?_
      refine g_bipush (v := nI 40) dX11_pass_52 (by decide) ?_
      refine g_iload_n dX11_pass_54 rfl rfl ?_
      refine g_imulN dX11_pass_55 ?_
      refine g_iload dX11_pass_56 rfl ?_
      refine g_iaddN dX11_pass_58 ?_
      refine g_lload dX11_pass_59 rfl ?_
      refine g_ldc2 dX11_pass_61 kX11_186 rfl ?_
      refine g_topl (show (65535 : Int64) = lN 65535 by decide) ?_
      refine g_land dX11_pass_64 ?_
      refine g_topl (show (lN (c + ((B ((40 * q) + i)) + (F * (O ((40 * p) + i)))))) &&& (lN 65535) = lN ((c + (B (40 * q + i) + F * O (40 * p + i))) % 65536) from lN_low16 (by omega)) ?_
      refine g_l2iN dX11_pass_65 ?_
      refine g_iastN dX11_pass_66 e9 (by omega) (by decide) ?_
      rw [upd_nI]
      refine g_lload dX11_pass_67 rfl ?_
      refine g_bipush (v := nI 16) dX11_pass_69 (by decide) ?_
      refine g_lshr dX11_pass_71 ?_
      refine g_topl (show (lN (c + ((B ((40 * q) + i)) + (F * (O ((40 * p) + i)))))) >>> ((nI 16).toInt64 &&& 63) = lN ((c + (B (40 * q + i) + F * O (40 * p + i))) / 65536) from lN_shr16 (by omega)) ?_
      refine g_lstore (ls' := [(4, .long (lN ((c + (B (40 * q + i) + F * O (40 * p + i))) / 65536))), (6, .int (nI i)), (0, .ref 142), (1, .int (nI p)), (2, .int (nI q)), (3, .int (nI F))]) dX11_pass_72 (by decide) rfl ?_
      refine g_iincN (z := 1) (ls' := [(6, .int (nI (i + 1))), (4, .long (lN ((c + (B (40 * q + i) + F * O (40 * p + i))) / 65536))), (0, .ref 142), (1, .int (nI p)), (2, .int (nI q)), (3, .int (nI F))]) dX11_pass_74 rfl (by decide) rfl ?_
      refine g_goto (tgt := 6) dX11_pass_77 (by decide) ?_
      refine g_pick [0, 1, 2, 3, 4, 5] (ls' := [(6, .int (nI (i + 1))), (4, .long (lN ((c + (B (40 * q + i) + F * O (40 * p + i))) / 65536))), (0, .ref 142), (1, .int (nI p)), (2, .int (nI q)), (3, .int (nI F))]) rfl ?_
      refine ih (i + 1) ((c + (B (40 * q + i) + F * O (40 * p + i))) / 65536) (va_up B (40 * q + i) ((c + (B (40 * q + i) + F * O (40 * p + i))) % 65536)) _ (by omega) (by omega) (by omega) (g_ne (by decide) m0) (g_ne (by decide) e8) g_eq (up_b hB (Nat.mod_lt _ (by decide))) ?_ (fun k h1 h2 => (va_n (by omega)).trans (hU k (by omega) h2)) (fun k hk => (va_n (by omega)).trans (hO k hk)) (hf.up (by simp))
      rw [bv_put, Nat.pow_succ]
      show _ = bv B0 (40 * q) i + B0 (40 * q + i) * _ + F * (bv O (40 * p) i + O (40 * p + i) * _)
      rw [← hU i (Nat.le_refl _) (by omega)]
      exact ps_s hval rfl
set_option maxHeartbeats 4000000 in
set_option maxRecDepth 100000 in
theorem c_pass (G : gG) (d n : Nat) (ex : Bool) (h : gH) {cd wt : Int32} {s : Nat → Nat} {k m sg cm sd mm dr dd bk rt : Nat} {O B : Nat → Nat} {p q F : Nat} (hp : p ≤ 960) (hq : q ≤ 960) (hF : F ≤ 20000) (hOb : ∀ j, O j < 65536) (hB : ∀ j, B j < 65536) (hs : bv B (40 * q) 40 + F * bv O (40 * p) 40 < 65536 ^ 40) (m0 : Mc h cd s k m sg cm sd mm dr dd bk rt wt) (e8 : h 158 = some (.inl (0, 77000, .inl (fun k => nI (O k))))) (e9 : h 159 = some (.inl (0, 77000, .inl (fun k => nI (B k))))) : g_M G mX11_pass d 0 0 [.ref 142, .int (nI p), .int (nI q), .int (nI F)] n ex h (q_v n ex [159] h (fun h' => ∃ B', h' 159 = some (.inl (0, 77000, .inl (fun k => nI (B' k)))) ∧ (∀ j, B' j < 65536) ∧ bv B' (40 * q) 40 = bv B (40 * q) 40 + F * bv O (40 * p) 40 ∧ ∀ k, (k < 40 * q ∨ 40 * q + 40 ≤ k) → B' k = B k)) := by
  refine g_enter (by decide) (Nat.le_of_ble_eq_true rfl) ?_
  show g_W G _ _ _ n ex h 0 0 0 [(0, .ref 142), (1, .int (nI p)), (2, .int (nI q)), (3, .int (nI F))] []
  refine g_lconst (v := lN 0) dX11_pass_0 (by decide) ?_
  refine g_lstore (ls' := [(4, .long (lN 0)), (0, .ref 142), (1, .int (nI p)), (2, .int (nI q)), (3, .int (nI F))]) dX11_pass_1 (by decide) rfl ?_
  refine g_iconst (v := nI 0) dX11_pass_3 (by decide) ?_
  refine g_istore (ls' := [(6, .int (nI 0)), (4, .long (lN 0)), (0, .ref 142), (1, .int (nI p)), (2, .int (nI q)), (3, .int (nI F))]) dX11_pass_4 (by decide) rfl ?_
  refine g_pick [0, 1, 2, 3, 4, 5] (ls' := [(6, .int (nI 0)), (4, .long (lN 0)), (0, .ref 142), (1, .int (nI p)), (2, .int (nI q)), (3, .int (nI F))]) rfl ?_
  exact lp_pass G _ n ex h hp hq hF hOb hs 41 0 0 B h (by omega) (by omega) (by omega) m0 e8 e9 hB (by show 0 + 0 * _ = 0 + F * 0; omega) (fun _ _ _ => rfl) (fun _ _ => rfl) g_fr.rf
/-- what a draw more adds up to, at a draws for the winner and b for the loser -/
def NX (o x y : Nat) (u : Nat → Nat → Nat) (a b : Nat) : Nat := o * u a b + (if 0 < a then x * u (a - 1) b else 0) + (if 0 < b then y * u a (b - 1) else 0)
def NVp (o x y : Nat) (u : Nat → Nat → Nat) (a b p q : Nat) : Nat := (if p < a ∨ (p = a ∧ q < b) then o * u p q else 0) + (if 0 < p ∧ (p - 1 < a ∨ (p - 1 = a ∧ q < b)) then x * u (p - 1) q else 0) + (if 0 < q ∧ (p < a ∨ (p = a ∧ q - 1 < b)) then y * u p (q - 1) else 0)
theorem ifc {p q : Prop} [Decidable p] [Decidable q] {x y : Nat} (h : p ↔ q) : (if p then x else y) = (if q then x else y) := by
  by_cases hp : p
  · rw [if_pos hp, if_pos (h.mp hp)]
  · rw [if_neg hp, if_neg (fun z => hp (h.mpr z))]
theorem NV_0 (o x y : Nat) (u : Nat → Nat → Nat) (p q : Nat) : NVp o x y u 0 0 p q = 0 := by
  unfold NVp
  rw [if_neg (by omega), if_neg (by omega), if_neg (by omega)]
theorem NV_s (o x y : Nat) (u : Nat → Nat → Nat) (a b p q : Nat) : NVp o x y u a (b + 1) p q = NVp o x y u a b p q + (if p = a ∧ q = b then o * u a b else 0) + (if p = a + 1 ∧ q = b then x * u a b else 0) + (if p = a ∧ q = b + 1 then y * u a b else 0) := by
  unfold NVp
  have t1 : (if p < a ∨ (p = a ∧ q < b + 1) then o * u p q else 0) = (if p < a ∨ (p = a ∧ q < b) then o * u p q else 0) + (if p = a ∧ q = b then o * u a b else 0) := by
    by_cases z : p = a ∧ q = b
    · rw [if_pos z, if_pos (show p < a ∨ (p = a ∧ q < b + 1) by omega), if_neg (show ¬ (p < a ∨ (p = a ∧ q < b)) by omega), z.1, z.2, Nat.zero_add]
    · rw [if_neg z, Nat.add_zero]; exact ifc (by omega)
  have t2 : (if 0 < p ∧ (p - 1 < a ∨ (p - 1 = a ∧ q < b + 1)) then x * u (p - 1) q else 0) = (if 0 < p ∧ (p - 1 < a ∨ (p - 1 = a ∧ q < b)) then x * u (p - 1) q else 0) + (if p = a + 1 ∧ q = b then x * u a b else 0) := by
    by_cases z : p = a + 1 ∧ q = b
    · rw [if_pos z, if_pos (show 0 < p ∧ (p - 1 < a ∨ (p - 1 = a ∧ q < b + 1)) by omega), if_neg (show ¬ (0 < p ∧ (p - 1 < a ∨ (p - 1 = a ∧ q < b))) by omega), z.1, z.2, Nat.zero_add, Nat.add_sub_cancel]
    · rw [if_neg z, Nat.add_zero]; exact ifc (by omega)
  have t3 : (if 0 < q ∧ (p < a ∨ (p = a ∧ q - 1 < b + 1)) then y * u p (q - 1) else 0) = (if 0 < q ∧ (p < a ∨ (p = a ∧ q - 1 < b)) then y * u p (q - 1) else 0) + (if p = a ∧ q = b + 1 then y * u a b else 0) := by
    by_cases z : p = a ∧ q = b + 1
    · rw [if_pos z, if_pos (show 0 < q ∧ (p < a ∨ (p = a ∧ q - 1 < b + 1)) by omega), if_neg (show ¬ (0 < q ∧ (p < a ∨ (p = a ∧ q - 1 < b))) by omega), z.1, z.2, Nat.zero_add, Nat.add_sub_cancel]
    · rw [if_neg z, Nat.add_zero]; exact ifc (by omega)
  rw [t1, t2, t3]
  omega
theorem NV_r {o x y n a p q : Nat} {u : Nat → Nat → Nat} (ha : a ≤ n) (h : p + q ≤ n) : NVp o x y u a (n + 1 - a) p q = NVp o x y u (a + 1) 0 p q := by
  unfold NVp
  congr 1
  · congr 1
    · exact ifc (by omega)
    · exact ifc (by omega)
  · exact ifc (by omega)
theorem NV_n {o x y n p q : Nat} {u : Nat → Nat → Nat} (h : p + q ≤ n) : NVp o x y u (n + 1) 0 p q = NX o x y u p q := by
  unfold NVp NX
  rw [if_pos (by omega)]
  congr 1
  · congr 1
    exact ifc (by omega)
  · exact ifc (by omega)
theorem NV_le {o x y a b p q Z : Nat} {u : Nat → Nat → Nat} (h : ∀ p q, u p q ≤ Z) : NVp o x y u a b p q ≤ (o + x + y) * Z := by
  unfold NVp
  have h1 := Nat.mul_le_mul_left o (h p q)
  have h2 := Nat.mul_le_mul_left x (h (p - 1) q)
  have h3 := Nat.mul_le_mul_left y (h p (q - 1))
  rw [Nat.add_mul, Nat.add_mul]
  have t1 : (if p < a ∨ (p = a ∧ q < b) then o * u p q else 0) ≤ o * Z := by split; exact h1; omega
  have t2 : (if 0 < p ∧ (p - 1 < a ∨ (p - 1 = a ∧ q < b)) then x * u (p - 1) q else 0) ≤ x * Z := by split; exact h2; omega
  have t3 : (if 0 < q ∧ (p < a ∨ (p = a ∧ q - 1 < b)) then y * u p (q - 1) else 0) ≤ y * Z := by split; exact h3; omega
  omega
theorem NX_le {o x y a b Z : Nat} {u : Nat → Nat → Nat} (h : ∀ p q, u p q ≤ Z) : NX o x y u a b ≤ (o + x + y) * Z := by
  rw [← NV_n (n := a + b) (Nat.le_refl _)]; exact NV_le h
def sB (f : Nat → Nat → Nat) (a : Nat) : Nat → Nat
  | 0 => 0
  | b + 1 => sB f a b + f a b
def sA (f : Nat → Nat → Nat) (n : Nat) : Nat → Nat
  | 0 => 0
  | a + 1 => sA f n a + sB f a (n + 1 - a)
theorem sB_le {f : Nat → Nat → Nat} {a Y : Nat} (h : ∀ b, f a b ≤ Y) (b : Nat) : sB f a b ≤ b * Y := by
  induction b with
  | zero => exact Nat.zero_le _
  | succ b ih => show sB f a b + f a b ≤ _; have := h b; rw [Nat.add_mul]; omega
theorem sA_le {f : Nat → Nat → Nat} {n Y : Nat} (h : ∀ a b, f a b ≤ Y) (a : Nat) : sA f n a ≤ a * ((n + 1) * Y) := by
  induction a with
  | zero => exact Nat.zero_le _
  | succ a ih =>
    show sA f n a + sB f a (n + 1 - a) ≤ _
    have h1 := sB_le (f := f) (a := a) (h a) (n + 1 - a)
    have h2 := Nat.mul_le_mul_right Y (show n + 1 - a ≤ n + 1 by omega)
    rw [Nat.add_mul]
    omega
theorem sB_cg {f g : Nat → Nat → Nat} {a m : Nat} (h : ∀ b, b < m → f a b = g a b) : sB f a m = sB g a m := by
  induction m with
  | zero => rfl
  | succ m ih => show sB f a m + f a m = sB g a m + g a m; rw [ih (fun b hb => h b (by omega)), h m (by omega)]
theorem sA_cg {f g : Nat → Nat → Nat} {n m : Nat} (h : ∀ a b, a < m → a + b ≤ n → f a b = g a b) : sA f n m = sA g n m := by
  induction m with
  | zero => rfl
  | succ m ih => show sA f n m + sB f m _ = sA g n m + sB g m _; rw [ih (fun a b h1 h2 => h a b (by omega) h2), sB_cg (fun b hb => h m b (by omega) (by omega))]
/-- the parts that get sure with this draw / that are left -/
def NS (su : Nat → Nat → Bool) (f : Nat → Nat → Nat) (a b : Nat) : Nat := if su a b then f a b else 0
def NU (su : Nat → Nat → Bool) (f : Nat → Nat → Nat) (a b : Nat) : Nat := if su a b then 0 else f a b
