theorem odd_cop (k : Nat) {f : Nat} (h : f % 2 = 1) : Nat.Coprime (2 ^ k) f := by
  refine Nat.Coprime.pow_left k ?_
  show Nat.gcd 2 f = 1
  rw [Nat.gcd_rec, h]
  rfl
theorem gc_1 {T F a k g : Nat} (hF : F % 2 = 1) (hle : F ≤ T) (e : T - F = a * 2 ^ k) (hg : Nat.gcd T F = g) : Nat.gcd a F = g := by
  rw [← hg, ← Nat.gcd_sub_self_left hle, e, Nat.Coprime.gcd_mul_right_cancel _ (odd_cop k hF)]
theorem gc_2 {T F a k g : Nat} (hT : T % 2 = 1) (hle : T ≤ F) (e : F - T = a * 2 ^ k) (hg : Nat.gcd T F = g) : Nat.gcd T a = g := by
  rw [← hg, Nat.gcd_comm T F, ← Nat.gcd_sub_self_left hle, e, Nat.gcd_comm T a, Nat.Coprime.gcd_mul_right_cancel _ (odd_cop k hT)]
theorem gc_3 {a b ka kb : Nat} (ha : a % 2 = 1) (hb : b % 2 = 1) : Nat.gcd (a * 2 ^ ka) (b * 2 ^ kb) = Nat.gcd a b * 2 ^ (if ka < kb then ka else kb) := by
  split
  · rw [show kb = kb - ka + ka by omega, Nat.pow_add, ← Nat.mul_assoc, Nat.gcd_mul_right, Nat.gcd_comm a (b * _), Nat.Coprime.gcd_mul_right_cancel _ (odd_cop _ ha), Nat.gcd_comm b a]
  · rw [show ka = ka - kb + kb by omega, Nat.pow_add, ← Nat.mul_assoc, Nat.gcd_mul_right, Nat.Coprime.gcd_mul_right_cancel _ (odd_cop _ hb)]
set_option maxHeartbeats 4000000 in
set_option maxRecDepth 100000 in
theorem lp_common (G : gG) (d n : Nat) (ex : Bool) (h0 : gH) {X : Nat → Int32} {V0 : Nat → Option Nat} {g ka kb : Nat} (hka : ka < 20000) (hkb : kb < 20000) (hr : g * 2 ^ (if ka < kb then ka else kb) < RM) : ∀ (t T F : Nat) (V : Nat → Option Nat) (h : gH), T + F < t → Bn h X V → V 4 = some T → V 5 = some F → T % 2 = 1 → (F = 0 ∨ F % 2 = 1) → Nat.gcd T F = g → (∀ u, ¬ u = 4 → ¬ u = 5 → V u = V0 u) → g_fr [156, 157] h0 h →
    g_W G mX11_common (g_rm (d + 3) 0 0) (g_K G (q_v n ex [156, 157] h0 (fun h' => Bn h' X (va_up (va_up V0 4 (some (g * 2 ^ (if ka < kb then ka else kb)))) 5 (some 0)))) 0 0) n ex h 0 0 24 [(0, .ref 142), (1, .int (nI ka)), (2, .int (nI kb))] [] := by
  intro t
  induction t with
  | zero => intro T F V h hm; exact absurd hm (by omega)
  | succ t ih =>
    intro T F V h ht hN hv4 hv5 hT hF hg hO hf
    obtain ⟨B, Z, ⟨m0, m1, m2, m3⟩, hV⟩ := id hN
    have hV5 := hV 5 (by decide)
    rw [hv5] at hV5
    obtain ⟨q1, q2, q3⟩ := hV5
    refine g_aload_n dX11_common_24 rfl rfl ?_
    refine g_getf dX11_common_25 fX11_79 m0 rfl ?_
    refine g_iconst (v := nI 5) dX11_common_28 (by decide) ?_
    refine g_ialdN dX11_common_29 m2 (by omega) (by decide) ?_
    refine g_if_leN (tgt := 76) dX11_common_30 (by decide) (by omega) (fun c30 => ?_) (fun c30 => ?_)
    · have hF0 : F = 0 := q2.symm.trans ((bv_0 q3).mpr c30)
      have hTg : T = g := by rw [← hg, hF0, Nat.gcd_zero_right]
      refine g_aload_n dX11_common_76 rfl rfl ?_
      refine g_iconst (v := nI 4) dX11_common_77 (by decide) ?_
      refine g_iload_n dX11_common_78 rfl rfl ?_
      refine g_iload_n dX11_common_79 rfl rfl ?_
      refine g_icmp_geN (tgt := 87) dX11_common_80 (by decide) (by omega) (by omega) (fun c80 => ?_) (fun c80 => ?_)
      · refine g_iload_n dX11_common_87 rfl rfl ?_
        refine cVv (st := []) dX11_common_88 (c_twice G d n ex h hN (by decide) hv4 (k := kb) (by omega) (by rw [hTg]; have := hr; rw [if_neg (by omega)] at this; exact this)) sX11_210 m0 rfl rfl (by simp only [g_rm]; omega) (by simp only [g_rm]; omega) (Nat.le_of_ble_eq_true rfl) ⟨Nat.le_of_ble_eq_true rfl, Nat.le_of_ble_eq_true rfl⟩ (fun h1 fr2 p3 => ?_)
        exact e_v dX11_common_91 rfl ((hf).tr fr2 (by simp)) (p3.le (fun u hu => Or.inl (by
          by_cases z5 : u = 5
          · subst z5; rw [va_s, va_n (by decide), hv5, hF0]
          · by_cases z4 : u = 4
            · subst z4; rw [va_n (by decide), va_s, va_s, hTg]; first | rw [if_pos c80] | rw [if_neg (by omega)]
            · rw [va_n z5, va_n z4, va_n z4, hO u z4 z5]))) (by decide) (by decide)
      · refine g_iload_n dX11_common_83 rfl rfl ?_
        refine g_goto (tgt := 88) dX11_common_84 (by decide) ?_
        refine cVv (st := []) dX11_common_88 (c_twice G d n ex h hN (by decide) hv4 (k := ka) (by omega) (by rw [hTg]; have := hr; rw [if_pos c80] at this; exact this)) sX11_210 m0 rfl rfl (by simp only [g_rm]; omega) (by simp only [g_rm]; omega) (Nat.le_of_ble_eq_true rfl) ⟨Nat.le_of_ble_eq_true rfl, Nat.le_of_ble_eq_true rfl⟩ (fun h5 fr6 p7 => ?_)
        exact e_v dX11_common_91 rfl ((hf).tr fr6 (by simp)) (p7.le (fun u hu => Or.inl (by
          by_cases z5 : u = 5
          · subst z5; rw [va_s, va_n (by decide), hv5, hF0]
          · by_cases z4 : u = 4
            · subst z4; rw [va_n (by decide), va_s, va_s, hTg]; first | rw [if_pos c80] | rw [if_neg (by omega)]
            · rw [va_n z5, va_n z4, va_n z4, hO u z4 z5]))) (by decide) (by decide)
    · have hF0 : ¬ F = 0 := fun q => absurd ((bv_0 q3).mp (q2.trans q)) (by omega)
      refine g_aload_n dX11_common_33 rfl rfl ?_
      refine g_iconst (v := nI 4) dX11_common_34 (by decide) ?_
      refine g_iconst (v := nI 5) dX11_common_35 (by decide) ?_
      refine cVi (st := []) dX11_common_36 (c_mcompare G (d + 2) n ex h hN (by decide) (by decide) hv4 hv5) sX11_203 m0 rfl rfl (by simp only [g_rm]; omega) (by simp only [g_rm]; omega) (Nat.le_of_ble_eq_true rfl) ⟨Nat.le_of_ble_eq_true rfl, Nat.le_of_ble_eq_true rfl⟩ (fun r12 h9 fr10 p11 => ?_)
      cases g_fr0 fr10
      subst p11
      refine g_istore_n (ls' := [(3, .int (cp_sg T F)), (0, .ref 142), (1, .int (nI ka)), (2, .int (nI kb))]) dX11_common_39 rfl (by decide) rfl ?_
      refine g_iload_n dX11_common_40 rfl rfl ?_
      refine g_if_le (tgt := 60) dX11_common_41 (by decide) (fun c41 => ?_) (fun c41 => ?_)
      · have hle2 : T ≤ F := Nat.not_lt.mp (fun q => absurd c41 (Int32.not_le.mpr (cp_gt.mpr q)))
        refine g_aload_n dX11_common_60 rfl rfl ?_
        refine g_iconst (v := nI 5) dX11_common_61 (by decide) ?_
        refine g_iconst (v := nI 4) dX11_common_62 (by decide) ?_
        refine cVv (st := []) dX11_common_63 (c_mless G (d + 1) n ex h hN (by decide) (by decide) (by decide) hv5 hv4 hle2) sX11_207 m0 rfl rfl (by simp only [g_rm]; omega) (by simp only [g_rm]; omega) (Nat.le_of_ble_eq_true rfl) ⟨Nat.le_of_ble_eq_true rfl, Nat.le_of_ble_eq_true rfl⟩ (fun h13 fr14 p15 => ?_)
        have hN17 := p15
        refine g_aload_n dX11_common_66 rfl rfl ?_
        refine g_iconst (v := nI 5) dX11_common_67 (by decide) ?_
        refine cVi (st := []) dX11_common_68 (c_halve G (d + 1) n ex h13 hN17 (by decide) (by first | rfl | exact va_s)) sX11_199 hN17.cell rfl rfl (by simp only [g_rm]; omega) (by simp only [g_rm]; omega) (Nat.le_of_ble_eq_true rfl) ⟨Nat.le_of_ble_eq_true rfl, Nat.le_of_ble_eq_true rfl⟩ (fun r21 h18 fr19 p20 => ?_)
        obtain ⟨k9, a9, e9, o9, l9, r9, hN9⟩ := p20
        subst r9
        refine g_istore (ls' := [(4, .int (nI k9)), (3, .int (cp_sg T F)), (0, .ref 142), (1, .int (nI ka)), (2, .int (nI kb))]) dX11_common_71 (by decide) rfl ?_
        refine g_goto (tgt := 24) dX11_common_73 (by decide) ?_
        refine g_pick [2, 3, 4] (ls' := [(0, .ref 142), (1, .int (nI ka)), (2, .int (nI kb))]) rfl ?_
        exact ih T a9 _ _ (by have := Nat.le_mul_of_pos_right a9 (Nat.two_pow_pos k9); omega) hN9 ((va_n (by decide)).trans ((va_n (by decide)).trans hv4)) va_s hT (o9.elim (fun q => Or.inl q.1) (fun q => Or.inr q)) (gc_2 hT hle2 e9 hg) (fun u h1 h2 => (va_n h2).trans ((va_n h2).trans (hO u h1 h2))) (((hf).tr fr14 (by simp)).tr fr19 (by simp))
      · have hgt : F < T := cp_gt.mp (Int32.not_le.mp c41)
        have hle1 : F ≤ T := Nat.le_of_lt hgt
        have hF1 : F % 2 = 1 := hF.elim (fun q => absurd q hF0) (fun q => q)
        refine g_aload_n dX11_common_44 rfl rfl ?_
        refine g_iconst (v := nI 4) dX11_common_45 (by decide) ?_
        refine g_iconst (v := nI 5) dX11_common_46 (by decide) ?_
        refine cVv (st := []) dX11_common_47 (c_mless G (d + 1) n ex h hN (by decide) (by decide) (by decide) hv4 hv5 hle1) sX11_207 m0 rfl rfl (by simp only [g_rm]; omega) (by simp only [g_rm]; omega) (Nat.le_of_ble_eq_true rfl) ⟨Nat.le_of_ble_eq_true rfl, Nat.le_of_ble_eq_true rfl⟩ (fun h22 fr23 p24 => ?_)
        have hN26 := p24
        refine g_aload_n dX11_common_50 rfl rfl ?_
        refine g_iconst (v := nI 4) dX11_common_51 (by decide) ?_
        refine cVi (st := []) dX11_common_52 (c_halve G (d + 1) n ex h22 hN26 (by decide) (by first | rfl | exact va_s)) sX11_199 hN26.cell rfl rfl (by simp only [g_rm]; omega) (by simp only [g_rm]; omega) (Nat.le_of_ble_eq_true rfl) ⟨Nat.le_of_ble_eq_true rfl, Nat.le_of_ble_eq_true rfl⟩ (fun r30 h27 fr28 p29 => ?_)
        obtain ⟨k9, a9, e9, o9, l9, r9, hN9⟩ := p29
        subst r9
        refine g_istore (ls' := [(4, .int (nI k9)), (3, .int (cp_sg T F)), (0, .ref 142), (1, .int (nI ka)), (2, .int (nI kb))]) dX11_common_55 (by decide) rfl ?_
        refine g_goto (tgt := 73) dX11_common_57 (by decide) ?_
        refine g_goto (tgt := 24) dX11_common_73 (by decide) ?_
        refine g_pick [2, 3, 4] (ls' := [(0, .ref 142), (1, .int (nI ka)), (2, .int (nI kb))]) rfl ?_
        exact ih a9 F _ _ (by have := Nat.le_mul_of_pos_right a9 (Nat.two_pow_pos k9); omega) hN9 va_s ((va_n (by decide)).trans ((va_n (by decide)).trans hv5)) (o9.elim (fun q => absurd q.2 (by omega)) (fun q => q)) (Or.inr hF1) (gc_1 hF1 hle1 e9 hg) (fun u h1 h2 => (va_n h1).trans ((va_n h1).trans (hO u h1 h2))) (((hf).tr fr23 (by simp)).tr fr28 (by simp))
set_option maxHeartbeats 4000000 in
set_option maxRecDepth 100000 in
theorem c_common (G : gG) (d n : Nat) (ex : Bool) (h : gH) {X : Nat → Int32} {V : Nat → Option Nat} {A B : Nat} (hN : Bn h X V) (hA : V 0 = some A) (hB : V 1 = some B) (hA0 : ¬ A = 0) (hB0 : ¬ B = 0) (hr : A < RM) : g_M G mX11_common (d + 3) 0 0 [.ref 142] n ex h (q_v n ex [156, 157] h (fun h' => Bn h' X (va_up (va_up V 4 (some (Nat.gcd A B))) 5 (some 0)))) := by
  have m0 := hN.cell
  refine g_enter (by decide) (Nat.le_of_ble_eq_true rfl) ?_
  show g_W G _ _ _ n ex h 0 0 0 [(0, .ref 142)] []
  refine g_aload_n dX11_common_0 rfl rfl ?_
  refine g_iconst (v := nI 4) dX11_common_1 (by decide) ?_
  refine g_iconst (v := nI 0) dX11_common_2 (by decide) ?_
  refine cVv (st := []) dX11_common_3 (c_mcopy G (d + 2) n ex h hN (by decide) (by decide) (by decide) hA) sX11_195 m0 rfl rfl (by simp only [g_rm]; omega) (by simp only [g_rm]; omega) (Nat.le_of_ble_eq_true rfl) ⟨Nat.le_of_ble_eq_true rfl, Nat.le_of_ble_eq_true rfl⟩ (fun h1 fr2 p3 => ?_)
  have hN5 := p3
  refine g_aload_n dX11_common_6 rfl rfl ?_
  refine g_iconst (v := nI 5) dX11_common_7 (by decide) ?_
  refine g_iconst (v := nI 1) dX11_common_8 (by decide) ?_
  refine cVv (st := []) dX11_common_9 (c_mcopy G (d + 2) n ex h1 hN5 (by decide) (by decide) (by decide) ((va_n (by decide)).trans hB)) sX11_195 hN5.cell rfl rfl (by simp only [g_rm]; omega) (by simp only [g_rm]; omega) (Nat.le_of_ble_eq_true rfl) ⟨Nat.le_of_ble_eq_true rfl, Nat.le_of_ble_eq_true rfl⟩ (fun h6 fr7 p8 => ?_)
  have hN10 := p8
  refine g_aload_n dX11_common_12 rfl rfl ?_
  refine g_iconst (v := nI 4) dX11_common_13 (by decide) ?_
  refine cVi (st := []) dX11_common_14 (c_halve G (d + 1) n ex h6 hN10 (by decide) ((va_n (by decide)).trans va_s)) sX11_199 hN10.cell rfl rfl (by simp only [g_rm]; omega) (by simp only [g_rm]; omega) (Nat.le_of_ble_eq_true rfl) ⟨Nat.le_of_ble_eq_true rfl, Nat.le_of_ble_eq_true rfl⟩ (fun r14 h11 fr12 p13 => ?_)
  obtain ⟨ka, a', ea, oa, la, ra, hNa⟩ := p13
  subst ra
  refine g_istore_n (ls' := [(1, .int (nI ka)), (0, .ref 142)]) dX11_common_17 rfl (by decide) rfl ?_
  refine g_aload_n dX11_common_18 rfl rfl ?_
  refine g_iconst (v := nI 5) dX11_common_19 (by decide) ?_
  refine cVi (st := []) dX11_common_20 (c_halve G (d + 1) n ex h11 hNa (by decide) ((va_n (by decide)).trans va_s)) sX11_199 hNa.cell rfl rfl (by simp only [g_rm]; omega) (by simp only [g_rm]; omega) (Nat.le_of_ble_eq_true rfl) ⟨Nat.le_of_ble_eq_true rfl, Nat.le_of_ble_eq_true rfl⟩ (fun r18 h15 fr16 p17 => ?_)
  obtain ⟨kb, b', eb, ob, lb, rb, hNb⟩ := p17
  subst rb
  refine g_istore_n (ls' := [(2, .int (nI kb)), (1, .int (nI ka)), (0, .ref 142)]) dX11_common_23 rfl (by decide) rfl ?_
  refine g_pick [2, 1, 0] (ls' := [(0, .ref 142), (1, .int (nI ka)), (2, .int (nI kb))]) rfl ?_
  have oa' : a' % 2 = 1 := oa.elim (fun q => absurd q.2 hA0) (fun q => q)
  have ob' : b' % 2 = 1 := ob.elim (fun q => absurd q.2 hB0) (fun q => q)
  have hgc : Nat.gcd A B = Nat.gcd a' b' * 2 ^ (if ka < kb then ka else kb) := by rw [ea, eb]; exact gc_3 oa' ob'
  rw [hgc]
  have hres := lp_common G d n ex h (V0 := V) (g := Nat.gcd a' b') la lb (by rw [← hgc]; exact Nat.lt_of_le_of_lt (Nat.gcd_le_left _ (Nat.pos_of_ne_zero hA0)) hr) (a' + b' + 1) a' b' _ _ (by omega) hNb ((va_n (by decide)).trans va_s) va_s oa' (Or.inr ob') rfl (fun u h1 h2 => (va_n h2).trans ((va_n h1).trans ((va_n h2).trans (va_n h1)))) (((((g_fr.rf).tr fr2 (by simp)).tr fr7 (by simp)).tr fr12 (by simp)).tr fr16 (by simp))
  exact hres
