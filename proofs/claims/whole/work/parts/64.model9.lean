set_option maxHeartbeats 4000000 in
set_option maxRecDepth 100000 in
theorem lp_margin (G : gG) (R : Room) (n : Nat) (ex : Bool) (h : gH) {cd wt : Int32} {s : Nat → Nat} {k m sg cm sd mm dr dd bk rt : Nat} {v w l : Nat → Nat} (m0 : Mc h cd s k m sg cm sd mm dr dd bk rt wt) (a3 : h 143 = some (.inl (0, 8, .inl (fun k => nI (v k))))) (a9 : h 149 = some (.inl (0, 16, .inl (fun k => nI (w k))))) (a10 : h 150 = some (.inl (0, 16, .inl (fun k => nI (l k))))) (hmm : mm ≤ 16) (hwl : ∀ k, k < mm → w k < 8 ∧ l k < 8) (hV : ∀ k, k < mm → v (l k) < v (w k) ∧ v (w k) ≤ 20000) : ∀ (t i : Nat), mm - i < t → i ≤ mm →
    g_W G mX11_margin R (g_K G (q_i n ex [] h (fun r _ => r = nI (lmn 1000001 v w l mm))) 0 0) n ex h 0 0 6 [(2, .int (nI i)), (1, .int (nI (lmn 1000001 v w l i))), (0, .ref 142)] [] := by
  intro t
  induction t with
  | zero => intro i hm; exact absurd hm (by omega)
  | succ t ih =>
    intro i ht hi
    refine g_iload_n dX11_margin_6 rfl rfl ?_
    refine g_aload_n dX11_margin_7 rfl rfl ?_
    refine g_getf (v := .int (nI mm)) dX11_margin_8 fX11_250 m0 rfl ?_
    refine g_icmp_geN (tgt := 55) dX11_margin_11 (by decide) (by omega) (by omega) (fun c11 => ?_) (fun c11 => ?_)
    · refine g_iload_n dX11_margin_55 rfl rfl ?_
      have e : i = mm := by omega
      subst e
      exact e_i dX11_margin_56 rfl rfl g_fr.rf rfl (by decide) (by decide)
    · have hw9 := hwl i (by omega)
      have hv9 := hV i (by omega)
      have hlm := lmn_le (N := 1000001) (v := v) (w := w) (l := l) (m := i)
      refine g_aload_n dX11_margin_14 rfl rfl ?_
      refine g_getf (v := .ref 143) dX11_margin_15 fX11_13 m0 rfl ?_
      refine g_aload_n dX11_margin_18 rfl rfl ?_
      refine g_getf (v := .ref 149) dX11_margin_19 fX11_52 m0 rfl ?_
      refine g_iload_n dX11_margin_22 rfl rfl ?_
      refine g_ialdN dX11_margin_23 a9 (by omega) (by decide) ?_
      refine g_ialdN dX11_margin_24 a3 (by omega) (by decide) ?_
      refine g_aload_n dX11_margin_25 rfl rfl ?_
      refine g_getf (v := .ref 143) dX11_margin_26 fX11_13 m0 rfl ?_
      refine g_aload_n dX11_margin_29 rfl rfl ?_
      refine g_getf (v := .ref 150) dX11_margin_30 fX11_55 m0 rfl ?_
      refine g_iload_n dX11_margin_33 rfl rfl ?_
      refine g_ialdN dX11_margin_34 a10 (by omega) (by decide) ?_
      refine g_ialdN dX11_margin_35 a3 (by omega) (by decide) ?_
      refine g_isubN dX11_margin_36 (by omega) ?_
      refine g_istore_n (ls' := [(3, .int (nI ((v (w i)) - (v (l i))))), (2, .int (nI i)), (1, .int (nI (lmn 1000001 v w l i))), (0, .ref 142)]) dX11_margin_37 rfl (by decide) rfl ?_
      refine g_iload_n dX11_margin_38 rfl rfl ?_
      refine g_iload_n dX11_margin_39 rfl rfl ?_
      refine g_icmp_geN (tgt := 47) dX11_margin_40 (by decide) (by omega) (by omega) (fun c40 => ?_) (fun c40 => ?_)
      · refine g_iload_n dX11_margin_47 rfl rfl ?_
        refine g_istore_n (ls' := [(1, .int (nI (lmn 1000001 v w l i))), (3, .int (nI ((v (w i)) - (v (l i))))), (2, .int (nI i)), (0, .ref 142)]) dX11_margin_48 rfl (by decide) rfl ?_
        refine g_iincN (z := 1) (ls' := [(2, .int (nI (i + 1))), (1, .int (nI (lmn 1000001 v w l i))), (3, .int (nI ((v (w i)) - (v (l i))))), (0, .ref 142)]) dX11_margin_49 rfl (by decide) rfl ?_
        refine g_goto (tgt := 6) dX11_margin_52 (by decide) ?_
        refine g_pick [0, 1, 3] (ls' := [(2, .int (nI (i + 1))), (1, .int (nI (lmn 1000001 v w l i))), (0, .ref 142)]) rfl ?_
        rw [show (lmn 1000001 v w l i) = lmn 1000001 v w l (i + 1) from by show _ = min (lmn 1000001 v w l i) (v (w i) - v (l i)); omega]
        exact ih (i + 1) (by omega) (by omega)
      · refine g_iload_n dX11_margin_43 rfl rfl ?_
        refine g_goto (tgt := 48) dX11_margin_44 (by decide) ?_
        refine g_istore_n (ls' := [(1, .int (nI ((v (w i)) - (v (l i))))), (3, .int (nI ((v (w i)) - (v (l i))))), (2, .int (nI i)), (0, .ref 142)]) dX11_margin_48 rfl (by decide) rfl ?_
        refine g_iincN (z := 1) (ls' := [(2, .int (nI (i + 1))), (1, .int (nI ((v (w i)) - (v (l i))))), (3, .int (nI ((v (w i)) - (v (l i))))), (0, .ref 142)]) dX11_margin_49 rfl (by decide) rfl ?_
        refine g_goto (tgt := 6) dX11_margin_52 (by decide) ?_
        refine g_pick [0, 1, 3] (ls' := [(2, .int (nI (i + 1))), (1, .int (nI ((v (w i)) - (v (l i))))), (0, .ref 142)]) rfl ?_
        rw [show ((v (w i)) - (v (l i))) = lmn 1000001 v w l (i + 1) from by show _ = min (lmn 1000001 v w l i) (v (w i) - v (l i)); omega]
        exact ih (i + 1) (by omega) (by omega)
set_option maxHeartbeats 4000000 in
set_option maxRecDepth 100000 in
theorem c_margin (G : gG) (d n : Nat) (ex : Bool) (h : gH) {cd wt : Int32} {s : Nat → Nat} {k m sg cm sd mm dr dd bk rt : Nat} {v w l : Nat → Nat} (m0 : Mc h cd s k m sg cm sd mm dr dd bk rt wt) (a3 : h 143 = some (.inl (0, 8, .inl (fun k => nI (v k))))) (a9 : h 149 = some (.inl (0, 16, .inl (fun k => nI (w k))))) (a10 : h 150 = some (.inl (0, 16, .inl (fun k => nI (l k))))) (hmm : mm ≤ 16) (hwl : ∀ k, k < mm → w k < 8 ∧ l k < 8) (hV : ∀ k, k < mm → v (l k) < v (w k) ∧ v (w k) ≤ 20000) : g_M G mX11_margin d 0 0 [.ref 142] n ex h (q_i n ex [] h (fun r _ => r = nI (lmn 1000001 v w l mm))) := by
  refine g_enter (by decide) (Nat.le_of_ble_eq_true rfl) ?_
  show g_W G _ _ _ n ex h 0 0 0 [(0, .ref 142)] []
  refine g_ldcw dX11_margin_0 kX11_267 rfl ?_
  refine g_top (show (1000001 : Int32) = nI 1000001 by decide) ?_
  refine g_istore_n (ls' := [(1, .int (nI 1000001)), (0, .ref 142)]) dX11_margin_3 rfl (by decide) rfl ?_
  refine g_iconst (v := nI 0) dX11_margin_4 (by decide) ?_
  refine g_istore_n (ls' := [(2, .int (nI 0)), (1, .int (nI 1000001)), (0, .ref 142)]) dX11_margin_5 rfl (by decide) rfl ?_
  refine g_pick [0, 1, 2] (ls' := [(2, .int (nI 0)), (1, .int (nI 1000001)), (0, .ref 142)]) rfl ?_
  exact lp_margin G _ n ex h m0 a3 a9 a10 hmm hwl hV (mm + 1) 0 (by omega) (by omega)
theorem RM_le {e : Nat} (he : e ≤ 1189) : 65536 ^ e < RM := Nat.pow_lt_pow_right (by decide) (by omega)
theorem pr_room {x e : Nat} (h : x ≤ 40000 ^ e) (he : e ≤ 1189) : x < RM := Nat.lt_of_le_of_lt (Nat.le_trans h (Nat.pow_le_pow_left (by decide) e)) (RM_le he)
theorem pr_mul {a x F i j : Nat} (h : x ≤ 40000 ^ a) (hF : F ≤ 40000) (hi : i ≤ j) : x * F ^ i ≤ 40000 ^ (a + j) := by
  rw [Nat.pow_add]
  exact Nat.mul_le_mul h (Nat.le_trans (Nat.pow_le_pow_left hF i) (Nat.pow_le_pow_right (by decide) hi))
def RA (v df : Nat → Nat) (a b : Nat) : Nat := (2 * v a) ^ df a * (2 * v b) ^ df b
def RB (v df : Nat → Nat) (a b : Nat) : Nat := (v a + v b) ^ (df a + df b)
set_option maxHeartbeats 4000000 in
set_option maxRecDepth 100000 in
theorem c_ratio (G : gG) (d n : Nat) (ex : Bool) (h : gH) {cd wt : Int32} {s : Nat → Nat} {k m sg cm sd mm dr dd bk rt : Nat} {v w l df : Nat → Nat} {V : Nat → Option Nat} {i p q : Nat} (hN : Bn h (MX cd s k m sg cm sd mm dr dd bk rt wt) V) (a3 : h 143 = some (.inl (0, 8, .inl (fun k => nI (v k))))) (a9 : h 149 = some (.inl (0, 16, .inl (fun k => nI (w k))))) (a10 : h 150 = some (.inl (0, 16, .inl (fun k => nI (l k))))) (a12 : h 152 = some (.inl (0, 8, .inl (fun k => nI (df k))))) (hmm : mm ≤ 16) (hwl : ∀ k, k < mm → w k < 8 ∧ l k < 8) (hV : ∀ k, k < mm → v (l k) < v (w k) ∧ v (w k) ≤ 20000) (hi : i < mm) (hp : p < 9) (hq : q < 9) (hpq : ¬ p = q) (hdf : ∀ c, df c ≤ 200) (hcm1 : cm ≤ 1) : g_M G mX11_ratio (d + 3) 0 0 [.ref 142, .int (nI i), .int (nI p), .int (nI q)] n ex h (q_v n ex [156, 157] h (fun h' => Bn h' (MX cd s k m sg cm sd mm dr dd bk rt wt) (va_up (va_up V p (some (if cm = 0 then RA v df (w i) (l i) else 1))) q (some (if cm = 0 then RB v df (w i) (l i) else 1))))) := by
  have m0 : Mc h cd s k m sg cm sd mm dr dd bk rt wt := hN.cell
  refine g_enter (by decide) (Nat.le_of_ble_eq_true rfl) ?_
  show g_W G _ _ _ n ex h 0 0 0 [(0, .ref 142), (1, .int (nI i)), (2, .int (nI p)), (3, .int (nI q))] []
  have hw9 := hwl i hi
  have hv9 := hV i hi
  have hd1 := hdf (w i)
  have hd2 := hdf (l i)
  refine g_aload_n dX11_ratio_0 rfl rfl ?_
  refine g_getf (v := .ref 149) dX11_ratio_1 fX11_52 m0 rfl ?_
  refine g_iload_n dX11_ratio_4 rfl rfl ?_
  refine g_ialdN dX11_ratio_5 a9 (by omega) (by decide) ?_
  refine g_istore (ls' := [(4, .int (nI (w i))), (0, .ref 142), (1, .int (nI i)), (2, .int (nI p)), (3, .int (nI q))]) dX11_ratio_6 (by decide) rfl ?_
  refine g_aload_n dX11_ratio_8 rfl rfl ?_
  refine g_getf (v := .ref 150) dX11_ratio_9 fX11_55 m0 rfl ?_
  refine g_iload_n dX11_ratio_12 rfl rfl ?_
  refine g_ialdN dX11_ratio_13 a10 (by omega) (by decide) ?_
  refine g_istore (ls' := [(5, .int (nI (l i))), (4, .int (nI (w i))), (0, .ref 142), (1, .int (nI i)), (2, .int (nI p)), (3, .int (nI q))]) dX11_ratio_14 (by decide) rfl ?_
  refine g_aload_n dX11_ratio_16 rfl rfl ?_
  refine g_iload_n dX11_ratio_17 rfl rfl ?_
  refine g_lconst (v := lN 1) dX11_ratio_18 (by decide) ?_
  refine cVv (st := []) dX11_ratio_19 (c_give G (d + 2) n ex h hN (s := p) hp (by decide)) sX11_182 m0 rfl rfl (by simp only [g_rm]; omega) (by simp only [g_rm]; omega) (Nat.le_of_ble_eq_true rfl) ⟨Nat.le_of_ble_eq_true rfl, Nat.le_of_ble_eq_true rfl⟩ (fun h1 fr2 p3 => ?_)
  have hN5 := p3
  refine g_aload_n dX11_ratio_22 rfl rfl ?_
  refine g_iload_n dX11_ratio_23 rfl rfl ?_
  refine g_lconst (v := lN 1) dX11_ratio_24 (by decide) ?_
  refine cVv (st := []) dX11_ratio_25 (c_give G (d + 2) n ex h1 hN5 (s := q) hq (by decide)) sX11_182 (fr2.at (by intro q; simp only [List.mem_cons, List.not_mem_nil, or_false] at q; omega) m0) rfl rfl (by simp only [g_rm]; omega) (by simp only [g_rm]; omega) (Nat.le_of_ble_eq_true rfl) ⟨Nat.le_of_ble_eq_true rfl, Nat.le_of_ble_eq_true rfl⟩ (fun h6 fr7 p8 => ?_)
  have hN10 := p8
  refine g_aload_n dX11_ratio_28 rfl rfl ?_
  refine g_getf (v := .int (nI cm)) dX11_ratio_29 fX11_257 (fr7.at (by intro q; simp only [List.mem_cons, List.not_mem_nil, or_false] at q; omega) (fr2.at (by intro q; simp only [List.mem_cons, List.not_mem_nil, or_false] at q; omega) m0)) rfl ?_
  refine g_if_neN (tgt := 120) dX11_ratio_32 (by decide) (by omega) (fun c32 => ?_) (fun c32 => ?_)
  · exact e_v dX11_ratio_120 rfl (((g_fr.rf).tr fr2 (by simp)).tr fr7 (by simp)) (hN10.le (fun u hu => Or.inl (by
      rw [if_neg c32, if_neg c32]))) (by decide) (by decide)
  · have hcm := c32
    refine g_aload_n dX11_ratio_35 rfl rfl ?_
    refine g_iload_n dX11_ratio_36 rfl rfl ?_
    refine g_ldc2 dX11_ratio_37 kX11_268 rfl ?_
    refine g_topl (show (2 : Int64) = lN 2 by decide) ?_
    refine g_aload_n dX11_ratio_40 rfl rfl ?_
    refine g_getf (v := .ref 143) dX11_ratio_41 fX11_13 (fr7.at (by intro q; simp only [List.mem_cons, List.not_mem_nil, or_false] at q; omega) (fr2.at (by intro q; simp only [List.mem_cons, List.not_mem_nil, or_false] at q; omega) m0)) rfl ?_
    refine g_iload dX11_ratio_44 rfl ?_
    refine g_ialdN dX11_ratio_46 (fr7.at (by intro q; simp only [List.mem_cons, List.not_mem_nil, or_false] at q; omega) (fr2.at (by intro q; simp only [List.mem_cons, List.not_mem_nil, or_false] at q; omega) a3)) (by omega) (by decide) ?_
    refine g_i2lN dX11_ratio_47 (by omega) ?_
    refine g_lmulN dX11_ratio_48 ?_
    refine g_aload_n dX11_ratio_49 rfl rfl ?_
    refine g_getf (v := .ref 152) dX11_ratio_50 fX11_61 (fr7.at (by intro q; simp only [List.mem_cons, List.not_mem_nil, or_false] at q; omega) (fr2.at (by intro q; simp only [List.mem_cons, List.not_mem_nil, or_false] at q; omega) m0)) rfl ?_
    refine g_iload dX11_ratio_53 rfl ?_
    refine g_ialdN dX11_ratio_55 (fr7.at (by intro q; simp only [List.mem_cons, List.not_mem_nil, or_false] at q; omega) (fr2.at (by intro q; simp only [List.mem_cons, List.not_mem_nil, or_false] at q; omega) a12)) (by omega) (by decide) ?_
    refine cVv (st := []) dX11_ratio_56 (c_power G d n ex h6 hN10 (F := (2 * (v (w i)))) (k := (df (w i))) hp (a := 1) ((va_n hpq).trans va_s) (by omega) (by omega) (fun i hi => pr_room (e := 0 + 200) (pr_mul (a := 0) (by decide) (by omega) (by omega)) (by decide))) sX11_270 (fr7.at (by intro q; simp only [List.mem_cons, List.not_mem_nil, or_false] at q; omega) (fr2.at (by intro q; simp only [List.mem_cons, List.not_mem_nil, or_false] at q; omega) m0)) rfl rfl (by simp only [g_rm]; omega) (by simp only [g_rm]; omega) (Nat.le_of_ble_eq_true rfl) ⟨Nat.le_of_ble_eq_true rfl, Nat.le_of_ble_eq_true rfl⟩ (fun h11 fr12 p13 => ?_)
    have hN15 := p13
    refine g_aload_n dX11_ratio_59 rfl rfl ?_
    refine g_iload_n dX11_ratio_60 rfl rfl ?_
    refine g_ldc2 dX11_ratio_61 kX11_268 rfl ?_
    refine g_topl (show (2 : Int64) = lN 2 by decide) ?_
    refine g_aload_n dX11_ratio_64 rfl rfl ?_
    refine g_getf (v := .ref 143) dX11_ratio_65 fX11_13 (fr12.at (by intro q; simp only [List.mem_cons, List.not_mem_nil, or_false] at q; omega) (fr7.at (by intro q; simp only [List.mem_cons, List.not_mem_nil, or_false] at q; omega) (fr2.at (by intro q; simp only [List.mem_cons, List.not_mem_nil, or_false] at q; omega) m0))) rfl ?_
    refine g_iload dX11_ratio_68 rfl ?_
    refine g_ialdN dX11_ratio_70 (fr12.at (by intro q; simp only [List.mem_cons, List.not_mem_nil, or_false] at q; omega) (fr7.at (by intro q; simp only [List.mem_cons, List.not_mem_nil, or_false] at q; omega) (fr2.at (by intro q; simp only [List.mem_cons, List.not_mem_nil, or_false] at q; omega) a3))) (by omega) (by decide) ?_
    refine g_i2lN dX11_ratio_71 (by omega) ?_
    refine g_lmulN dX11_ratio_72 ?_
    refine g_aload_n dX11_ratio_73 rfl rfl ?_
    refine g_getf (v := .ref 152) dX11_ratio_74 fX11_61 (fr12.at (by intro q; simp only [List.mem_cons, List.not_mem_nil, or_false] at q; omega) (fr7.at (by intro q; simp only [List.mem_cons, List.not_mem_nil, or_false] at q; omega) (fr2.at (by intro q; simp only [List.mem_cons, List.not_mem_nil, or_false] at q; omega) m0))) rfl ?_
    refine g_iload dX11_ratio_77 rfl ?_
    refine g_ialdN dX11_ratio_79 (fr12.at (by intro q; simp only [List.mem_cons, List.not_mem_nil, or_false] at q; omega) (fr7.at (by intro q; simp only [List.mem_cons, List.not_mem_nil, or_false] at q; omega) (fr2.at (by intro q; simp only [List.mem_cons, List.not_mem_nil, or_false] at q; omega) a12))) (by omega) (by decide) ?_
    refine cVv (st := []) dX11_ratio_80 (c_power G d n ex h11 hN15 (F := (2 * (v (l i)))) (k := (df (l i))) hp va_s (by omega) (by omega) (fun i hi => pr_room (e := 0 + 200 + 200) (pr_mul (pr_mul (a := 0) (by decide) (by omega) (by omega)) (by omega) (by omega)) (by decide))) sX11_270 (fr12.at (by intro q; simp only [List.mem_cons, List.not_mem_nil, or_false] at q; omega) (fr7.at (by intro q; simp only [List.mem_cons, List.not_mem_nil, or_false] at q; omega) (fr2.at (by intro q; simp only [List.mem_cons, List.not_mem_nil, or_false] at q; omega) m0))) rfl rfl (by simp only [g_rm]; omega) (by simp only [g_rm]; omega) (Nat.le_of_ble_eq_true rfl) ⟨Nat.le_of_ble_eq_true rfl, Nat.le_of_ble_eq_true rfl⟩ (fun h16 fr17 p18 => ?_)
    have hN20 := p18
    refine g_aload_n dX11_ratio_83 rfl rfl ?_
    refine g_iload_n dX11_ratio_84 rfl rfl ?_
    refine g_aload_n dX11_ratio_85 rfl rfl ?_
    refine g_getf (v := .ref 143) dX11_ratio_86 fX11_13 (fr17.at (by intro q; simp only [List.mem_cons, List.not_mem_nil, or_false] at q; omega) (fr12.at (by intro q; simp only [List.mem_cons, List.not_mem_nil, or_false] at q; omega) (fr7.at (by intro q; simp only [List.mem_cons, List.not_mem_nil, or_false] at q; omega) (fr2.at (by intro q; simp only [List.mem_cons, List.not_mem_nil, or_false] at q; omega) m0)))) rfl ?_
    refine g_iload dX11_ratio_89 rfl ?_
    refine g_ialdN dX11_ratio_91 (fr17.at (by intro q; simp only [List.mem_cons, List.not_mem_nil, or_false] at q; omega) (fr12.at (by intro q; simp only [List.mem_cons, List.not_mem_nil, or_false] at q; omega) (fr7.at (by intro q; simp only [List.mem_cons, List.not_mem_nil, or_false] at q; omega) (fr2.at (by intro q; simp only [List.mem_cons, List.not_mem_nil, or_false] at q; omega) a3)))) (by omega) (by decide) ?_
    refine g_i2lN dX11_ratio_92 (by omega) ?_
    refine g_aload_n dX11_ratio_93 rfl rfl ?_
    refine g_getf (v := .ref 143) dX11_ratio_94 fX11_13 (fr17.at (by intro q; simp only [List.mem_cons, List.not_mem_nil, or_false] at q; omega) (fr12.at (by intro q; simp only [List.mem_cons, List.not_mem_nil, or_false] at q; omega) (fr7.at (by intro q; simp only [List.mem_cons, List.not_mem_nil, or_false] at q; omega) (fr2.at (by intro q; simp only [List.mem_cons, List.not_mem_nil, or_false] at q; omega) m0)))) rfl ?_
    refine g_iload dX11_ratio_97 rfl ?_
    refine g_ialdN dX11_ratio_99 (fr17.at (by intro q; simp only [List.mem_cons, List.not_mem_nil, or_false] at q; omega) (fr12.at (by intro q; simp only [List.mem_cons, List.not_mem_nil, or_false] at q; omega) (fr7.at (by intro q; simp only [List.mem_cons, List.not_mem_nil, or_false] at q; omega) (fr2.at (by intro q; simp only [List.mem_cons, List.not_mem_nil, or_false] at q; omega) a3)))) (by omega) (by decide) ?_
    refine g_i2lN dX11_ratio_100 (by omega) ?_
    refine g_laddN dX11_ratio_101 ?_
    refine g_aload_n dX11_ratio_102 rfl rfl ?_
    refine g_getf (v := .ref 152) dX11_ratio_103 fX11_61 (fr17.at (by intro q; simp only [List.mem_cons, List.not_mem_nil, or_false] at q; omega) (fr12.at (by intro q; simp only [List.mem_cons, List.not_mem_nil, or_false] at q; omega) (fr7.at (by intro q; simp only [List.mem_cons, List.not_mem_nil, or_false] at q; omega) (fr2.at (by intro q; simp only [List.mem_cons, List.not_mem_nil, or_false] at q; omega) m0)))) rfl ?_
    refine g_iload dX11_ratio_106 rfl ?_
    refine g_ialdN dX11_ratio_108 (fr17.at (by intro q; simp only [List.mem_cons, List.not_mem_nil, or_false] at q; omega) (fr12.at (by intro q; simp only [List.mem_cons, List.not_mem_nil, or_false] at q; omega) (fr7.at (by intro q; simp only [List.mem_cons, List.not_mem_nil, or_false] at q; omega) (fr2.at (by intro q; simp only [List.mem_cons, List.not_mem_nil, or_false] at q; omega) a12)))) (by omega) (by decide) ?_
    refine g_aload_n dX11_ratio_109 rfl rfl ?_
    refine g_getf (v := .ref 152) dX11_ratio_110 fX11_61 (fr17.at (by intro q; simp only [List.mem_cons, List.not_mem_nil, or_false] at q; omega) (fr12.at (by intro q; simp only [List.mem_cons, List.not_mem_nil, or_false] at q; omega) (fr7.at (by intro q; simp only [List.mem_cons, List.not_mem_nil, or_false] at q; omega) (fr2.at (by intro q; simp only [List.mem_cons, List.not_mem_nil, or_false] at q; omega) m0)))) rfl ?_
    refine g_iload dX11_ratio_113 rfl ?_
    refine g_ialdN dX11_ratio_115 (fr17.at (by intro q; simp only [List.mem_cons, List.not_mem_nil, or_false] at q; omega) (fr12.at (by intro q; simp only [List.mem_cons, List.not_mem_nil, or_false] at q; omega) (fr7.at (by intro q; simp only [List.mem_cons, List.not_mem_nil, or_false] at q; omega) (fr2.at (by intro q; simp only [List.mem_cons, List.not_mem_nil, or_false] at q; omega) a12)))) (by omega) (by decide) ?_
    refine g_iaddN dX11_ratio_116 ?_
    refine cVv (st := []) dX11_ratio_117 (c_power G d n ex h16 hN20 (F := ((v (w i)) + (v (l i)))) (k := ((df (w i)) + (df (l i)))) hq (a := 1) (((va_n (Ne.symm hpq)).trans (va_n (Ne.symm hpq))).trans va_s) (by omega) (by omega) (fun i hi => pr_room (e := 0 + 400) (pr_mul (a := 0) (by decide) (by omega) (by omega)) (by decide))) sX11_270 (fr17.at (by intro q; simp only [List.mem_cons, List.not_mem_nil, or_false] at q; omega) (fr12.at (by intro q; simp only [List.mem_cons, List.not_mem_nil, or_false] at q; omega) (fr7.at (by intro q; simp only [List.mem_cons, List.not_mem_nil, or_false] at q; omega) (fr2.at (by intro q; simp only [List.mem_cons, List.not_mem_nil, or_false] at q; omega) m0)))) rfl rfl (by simp only [g_rm]; omega) (by simp only [g_rm]; omega) (Nat.le_of_ble_eq_true rfl) ⟨Nat.le_of_ble_eq_true rfl, Nat.le_of_ble_eq_true rfl⟩ (fun h21 fr22 p23 => ?_)
    have hN25 := p23
    exact e_v dX11_ratio_120 rfl ((((((g_fr.rf).tr fr2 (by simp)).tr fr7 (by simp)).tr fr12 (by simp)).tr fr17 (by simp)).tr fr22 (by simp)) (hN25.le (fun u hu => Or.inl (by
      rw [if_pos hcm, if_pos hcm]
      unfold RA RB
      by_cases z2 : u = q
      · subst z2; rw [va_s, va_s, Nat.one_mul]
      · by_cases z1 : u = p
        · subst z1; rw [va_n z2, va_n z2, va_s, va_s, Nat.one_mul]
        · rw [va_n z2, va_n z1, va_n z2, va_n z1, va_n z1, va_n z2, va_n z1]))) (by decide) (by decide)
set_option maxHeartbeats 4000000 in
set_option maxRecDepth 100000 in
theorem c_isFor (G : gG) (d n : Nat) (ex : Bool) (h : gH) {x y : Int32} {i : Nat} : g_M G mX11_isFor d 0 0 [.ref 142, .int x, .int y] n ex h (q_i n ex [] h (fun r _ => r = nI (if x = y then 1 else 0))) := by
  refine g_enter (by decide) (Nat.le_of_ble_eq_true rfl) ?_
  show g_W G _ _ _ n ex h 0 0 0 [(0, .ref 142), (1, .int x), (2, .int y)] []
  refine g_iload_n dX11_isFor_0 rfl rfl ?_
  refine g_iload_n dX11_isFor_1 rfl rfl ?_
  refine g_icmp_ne (tgt := 9) dX11_isFor_2 (by decide) (fun c2 => ?_) (fun c2 => ?_)
  · refine g_iconst (v := nI 0) dX11_isFor_9 (by decide) ?_
    exact e_i dX11_isFor_10 rfl rfl g_fr.rf (by rw [if_neg c2]) (by decide) (by decide)
  · refine g_iconst (v := nI 1) dX11_isFor_5 (by decide) ?_
    refine g_goto (tgt := 10) dX11_isFor_6 (by decide) ?_
    exact e_i dX11_isFor_10 rfl rfl g_fr.rf (by rw [if_pos c2]) (by decide) (by decide)
def iZ (e : Int) : Int32 := Int32.ofInt e
theorem iZ_l {e : Int} (h1 : -2 ≤ e) (h2 : e ≤ 2) : (iZ e).toInt64 = lZ e := by
  rcases (show e = -2 ∨ e = -1 ∨ e = 0 ∨ e = 1 ∨ e = 2 by omega) with rfl | rfl | rfl | rfl | rfl <;> decide
theorem ie_eq {a b : Nat} {x y : Int32} (ha : a < 8) (hb : b < 8) (hab : ¬ a = b) : nI (if x = nI a then 1 else 0) - nI (if y = nI a then 1 else 0) - nI (if x = nI b then 1 else 0) + nI (if y = nI b then 1 else 0) = iZ (ld a b x - ld a b y) := by
  have hne : ¬ nI a = nI b := fun q => hab ((nI_eq (by omega) (by omega)).mp q)
  unfold ld
  by_cases x1 : x = nI a
  · have x2 : ¬ x = nI b := fun q => hne (x1.symm.trans q)
    rw [if_pos x1, if_neg x2, if_pos x1]
    by_cases y1 : y = nI a
    · have y2 : ¬ y = nI b := fun q => hne (y1.symm.trans q)
      rw [if_pos y1, if_neg y2, if_pos y1]; decide
    · rw [if_neg y1, if_neg y1]
      by_cases y2 : y = nI b
      · rw [if_pos y2, if_pos y2]; decide
      · rw [if_neg y2, if_neg y2]; decide
  · rw [if_neg x1, if_neg x1]
    by_cases x2 : x = nI b
    · rw [if_pos x2, if_pos x2]
      by_cases y1 : y = nI a
      · have y2 : ¬ y = nI b := fun q => hne (y1.symm.trans q)
        rw [if_pos y1, if_neg y2, if_pos y1]; decide
      · rw [if_neg y1, if_neg y1]
        by_cases y2 : y = nI b
        · rw [if_pos y2, if_pos y2]; decide
        · rw [if_neg y2, if_neg y2]; decide
    · rw [if_neg x2, if_neg x2]
      by_cases y1 : y = nI a
      · have y2 : ¬ y = nI b := fun q => hne (y1.symm.trans q)
        rw [if_pos y1, if_neg y2, if_pos y1]; decide
      · rw [if_neg y1, if_neg y1]
        by_cases y2 : y = nI b
        · rw [if_pos y2, if_pos y2]; decide
        · rw [if_neg y2, if_neg y2]; decide
set_option maxHeartbeats 4000000 in
set_option maxRecDepth 100000 in
theorem lp_factor (G : gG) (d : Nat) (KK : gK) (n : Nat) (ex : Bool) (h : gH) {cd wt : Int32} {s : Nat → Nat} {k m sg cm sd mm dr dd bk rt : Nat} {v w l : Nat → Nat} {rI sI : Nat → Int32} {b : Nat} (m0 : Mc h cd s k m sg cm sd mm dr dd bk rt wt) (a3 : h 143 = some (.inl (0, 8, .inl (fun k => nI (v k))))) (a9 : h 149 = some (.inl (0, 16, .inl (fun k => nI (w k))))) (a10 : h 150 = some (.inl (0, 16, .inl (fun k => nI (l k))))) (a5 : h 145 = some (.inl (1, 20000, .inl rI))) (a13 : h 153 = some (.inl (1, 20000, .inl sI))) (hmm : mm ≤ 16) (hwl : ∀ k, k < mm → w k < 8 ∧ l k < 8) (hV : ∀ k, k < mm → v (l k) < v (w k) ∧ v (w k) ≤ 20000) (hb : b < 20000) (kk : g_W G mX11_factor (g_rm (d + 4) 0 0) KK n ex h 0 0 149 [(5, .int (nI mm)), (4, .int (nI 1)), (3, .int (nI (md v w l (mo (oe w l (rI b) (sI b)) (md v w l) mm)))), (2, .int (iZ (oe w l (rI b) (sI b) (mo (oe w l (rI b) (sI b)) (md v w l) mm)))), (0, .ref 142), (1, .int (nI b))] []) : ∀ (t i : Nat), mm - i < t → 1 ≤ i → i ≤ mm →
    g_W G mX11_factor (g_rm (d + 4) 0 0) KK n ex h 0 0 10 [(5, .int (nI i)), (4, .int (nI 1)), (3, .int (nI (md v w l (mo (oe w l (rI b) (sI b)) (md v w l) i)))), (2, .int (iZ (oe w l (rI b) (sI b) (mo (oe w l (rI b) (sI b)) (md v w l) i)))), (0, .ref 142), (1, .int (nI b))] [] := by
  intro t
  induction t with
  | zero => intro i hm; exact absurd hm (by omega)
  | succ t ih =>
    intro i ht hi1 hi
    refine g_iload dX11_factor_10 rfl ?_
    refine g_aload_n dX11_factor_12 rfl rfl ?_
    refine g_getf (v := .int (nI mm)) dX11_factor_13 fX11_250 m0 rfl ?_
    refine g_icmp_geN (tgt := 149) dX11_factor_16 (by decide) (by omega) (by omega) (fun c16 => ?_) (fun c16 => ?_)
    · refine g_pick [0, 1, 2, 3, 4, 5] (ls' := [(5, .int (nI i)), (4, .int (nI 1)), (3, .int (nI (md v w l (mo (oe w l (rI b) (sI b)) (md v w l) i)))), (2, .int (iZ (oe w l (rI b) (sI b) (mo (oe w l (rI b) (sI b)) (md v w l) i)))), (0, .ref 142), (1, .int (nI b))]) rfl ?_
      have e : i = mm := by omega
      subst e
      exact kk
    · refine g_iload_n dX11_factor_19 rfl rfl ?_
      refine g_bipush (v := -2) dX11_factor_20 (by decide) ?_
      refine g_icmp_eq (tgt := 149) dX11_factor_22 (by decide) (fun c22 => ?_) (fun c22 => ?_)
      · exact absurd c22 (ne_m2 (by omega))
      · have hw9 := hwl i (by omega)
        have hv9 := hV i (by omega)
        have hm9 : (mo (oe w l (rI b) (sI b)) (md v w l) i) < mm := by obtain ⟨i', rfl⟩ : ∃ i', i = i' + 1 := ⟨i - 1, by omega⟩; exact Nat.lt_of_lt_of_le (mo_lt _ _ i') (by omega)
        have hvm := hV (mo (oe w l (rI b) (sI b)) (md v w l) i) hm9
        have d1 : md v w l i ≤ 20000 := by show v (w i) - v (l i) ≤ 20000; omega
        have d2 : md v w l (mo (oe w l (rI b) (sI b)) (md v w l) i) ≤ 20000 := by show v (w _) - v (l _) ≤ 20000; omega
        have q1 := oe_md (oe_b w l (rI b) (sI b) i).1 (oe_b w l (rI b) (sI b) i).2 d2
        have q2 := oe_md (oe_b w l (rI b) (sI b) (mo (oe w l (rI b) (sI b)) (md v w l) i)).1 (oe_b w l (rI b) (sI b) (mo (oe w l (rI b) (sI b)) (md v w l) i)).2 d1
        have b1 : -4611686018427387904 ≤ oe w l (rI b) (sI b) i * (md v w l (mo (oe w l (rI b) (sI b)) (md v w l) i) : Nat) ∧ oe w l (rI b) (sI b) i * (md v w l (mo (oe w l (rI b) (sI b)) (md v w l) i) : Nat) < 4611686018427387904 := by omega
        have b2 : -4611686018427387904 ≤ oe w l (rI b) (sI b) (mo (oe w l (rI b) (sI b)) (md v w l) i) * (md v w l i : Nat) ∧ oe w l (rI b) (sI b) (mo (oe w l (rI b) (sI b)) (md v w l) i) * (md v w l i : Nat) < 4611686018427387904 := by omega
        refine g_aload_n dX11_factor_25 rfl rfl ?_
        refine g_getf (v := .ref 149) dX11_factor_26 fX11_52 m0 rfl ?_
        refine g_iload dX11_factor_29 rfl ?_
        refine g_ialdN dX11_factor_31 a9 (by omega) (by decide) ?_
        refine g_istore (ls' := [(6, .int (nI (w i))), (5, .int (nI i)), (4, .int (nI 1)), (3, .int (nI (md v w l (mo (oe w l (rI b) (sI b)) (md v w l) i)))), (2, .int (iZ (oe w l (rI b) (sI b) (mo (oe w l (rI b) (sI b)) (md v w l) i)))), (0, .ref 142), (1, .int (nI b))]) dX11_factor_32 (by decide) rfl ?_
        refine g_aload_n dX11_factor_34 rfl rfl ?_
        refine g_getf (v := .ref 150) dX11_factor_35 fX11_55 m0 rfl ?_
        refine g_iload dX11_factor_38 rfl ?_
        refine g_ialdN dX11_factor_40 a10 (by omega) (by decide) ?_
        refine g_istore (ls' := [(7, .int (nI (l i))), (6, .int (nI (w i))), (5, .int (nI i)), (4, .int (nI 1)), (3, .int (nI (md v w l (mo (oe w l (rI b) (sI b)) (md v w l) i)))), (2, .int (iZ (oe w l (rI b) (sI b) (mo (oe w l (rI b) (sI b)) (md v w l) i)))), (0, .ref 142), (1, .int (nI b))]) dX11_factor_41 (by decide) rfl ?_
        refine g_aload_n dX11_factor_43 rfl rfl ?_
        refine g_aload_n dX11_factor_44 rfl rfl ?_
        refine g_getf (v := .ref 145) dX11_factor_45 fX11_26 m0 rfl ?_
        refine g_iload_n dX11_factor_48 rfl rfl ?_
        refine g_baldN dX11_factor_49 a5 (by omega) (by decide) ?_
        refine g_iload dX11_factor_50 rfl ?_
        refine cVi (st := []) dX11_factor_52 (c_isFor G (d + 3) n ex h (x := rI b) (y := nI (w i)) (i := 0)) sX11_274 m0 rfl rfl (by simp only [g_rm]; omega) (by simp only [g_rm]; omega) (Nat.le_of_ble_eq_true rfl) ⟨Nat.le_of_ble_eq_true rfl, Nat.le_of_ble_eq_true rfl⟩ (fun r4 h1 fr2 p3 => ?_)
        cases g_fr0 fr2
        subst p3
        refine g_aload_n dX11_factor_55 rfl rfl ?_
        refine g_aload_n dX11_factor_56 rfl rfl ?_
        refine g_getf (v := .ref 153) dX11_factor_57 fX11_64 m0 rfl ?_
        refine g_iload_n dX11_factor_60 rfl rfl ?_
        refine g_baldN dX11_factor_61 a13 (by omega) (by decide) ?_
        refine g_iload dX11_factor_62 rfl ?_
        refine cVi (st := [.int (nI (if rI b = nI (w i) then 1 else 0))]) dX11_factor_64 (c_isFor G (d + 3) n ex h (x := sI b) (y := nI (w i)) (i := 0)) sX11_274 m0 rfl rfl (by simp only [g_rm]; omega) (by simp only [g_rm]; omega) (Nat.le_of_ble_eq_true rfl) ⟨Nat.le_of_ble_eq_true rfl, Nat.le_of_ble_eq_true rfl⟩ (fun r8 h5 fr6 p7 => ?_)
        cases g_fr0 fr6
        subst p7
        refine g_isub dX11_factor_67 ?_
        refine g_aload_n dX11_factor_68 rfl rfl ?_
        refine g_aload_n dX11_factor_69 rfl rfl ?_
        refine g_getf (v := .ref 145) dX11_factor_70 fX11_26 m0 rfl ?_
        refine g_iload_n dX11_factor_73 rfl rfl ?_
        refine g_baldN dX11_factor_74 a5 (by omega) (by decide) ?_
        refine g_iload dX11_factor_75 rfl ?_
        refine cVi (st := [.int ((nI (if rI b = nI (w i) then 1 else 0)) - (nI (if sI b = nI (w i) then 1 else 0)))]) dX11_factor_77 (c_isFor G (d + 3) n ex h (x := rI b) (y := nI (l i)) (i := 0)) sX11_274 m0 rfl rfl (by simp only [g_rm]; omega) (by simp only [g_rm]; omega) (Nat.le_of_ble_eq_true rfl) ⟨Nat.le_of_ble_eq_true rfl, Nat.le_of_ble_eq_true rfl⟩ (fun r12 h9 fr10 p11 => ?_)
        cases g_fr0 fr10
        subst p11
        refine g_isub dX11_factor_80 ?_
        refine g_aload_n dX11_factor_81 rfl rfl ?_
        refine g_aload_n dX11_factor_82 rfl rfl ?_
        refine g_getf (v := .ref 153) dX11_factor_83 fX11_64 m0 rfl ?_
        refine g_iload_n dX11_factor_86 rfl rfl ?_
        refine g_baldN dX11_factor_87 a13 (by omega) (by decide) ?_
        refine g_iload dX11_factor_88 rfl ?_
        refine cVi (st := [.int (((nI (if rI b = nI (w i) then 1 else 0)) - (nI (if sI b = nI (w i) then 1 else 0))) - (nI (if rI b = nI (l i) then 1 else 0)))]) dX11_factor_90 (c_isFor G (d + 3) n ex h (x := sI b) (y := nI (l i)) (i := 0)) sX11_274 m0 rfl rfl (by simp only [g_rm]; omega) (by simp only [g_rm]; omega) (Nat.le_of_ble_eq_true rfl) ⟨Nat.le_of_ble_eq_true rfl, Nat.le_of_ble_eq_true rfl⟩ (fun r16 h13 fr14 p15 => ?_)
        cases g_fr0 fr14
        subst p15
        refine g_iadd dX11_factor_93 ?_
        refine g_top (show (((nI (if rI b = nI (w i) then 1 else 0)) - (nI (if sI b = nI (w i) then 1 else 0))) - (nI (if rI b = nI (l i) then 1 else 0))) + (nI (if sI b = nI (l i) then 1 else 0)) = iZ (oe w l (rI b) (sI b) i) from ie_eq hw9.1 hw9.2 (fun q => by have := hV i (by omega); rw [q] at this; omega)) ?_
        refine g_istore (ls' := [(8, .int (iZ (oe w l (rI b) (sI b) i))), (7, .int (nI (l i))), (6, .int (nI (w i))), (5, .int (nI i)), (4, .int (nI 1)), (3, .int (nI (md v w l (mo (oe w l (rI b) (sI b)) (md v w l) i)))), (2, .int (iZ (oe w l (rI b) (sI b) (mo (oe w l (rI b) (sI b)) (md v w l) i)))), (0, .ref 142), (1, .int (nI b))]) dX11_factor_94 (by decide) rfl ?_
        refine g_aload_n dX11_factor_96 rfl rfl ?_
        refine g_getf (v := .ref 143) dX11_factor_97 fX11_13 m0 rfl ?_
        refine g_iload dX11_factor_100 rfl ?_
        refine g_ialdN dX11_factor_102 a3 (by omega) (by decide) ?_
        refine g_aload_n dX11_factor_103 rfl rfl ?_
        refine g_getf (v := .ref 143) dX11_factor_104 fX11_13 m0 rfl ?_
        refine g_iload dX11_factor_107 rfl ?_
        refine g_ialdN dX11_factor_109 a3 (by omega) (by decide) ?_
        refine g_isubN dX11_factor_110 (by omega) ?_
        refine g_istore (ls' := [(9, .int (nI ((v (w i)) - (v (l i))))), (8, .int (iZ (oe w l (rI b) (sI b) i))), (7, .int (nI (l i))), (6, .int (nI (w i))), (5, .int (nI i)), (4, .int (nI 1)), (3, .int (nI (md v w l (mo (oe w l (rI b) (sI b)) (md v w l) i)))), (2, .int (iZ (oe w l (rI b) (sI b) (mo (oe w l (rI b) (sI b)) (md v w l) i)))), (0, .ref 142), (1, .int (nI b))]) dX11_factor_111 (by decide) rfl ?_
        refine g_iload dX11_factor_113 rfl ?_
        refine g_if_eqN (tgt := 134) dX11_factor_115 (by decide) (by decide) (fun c115 => ?_) (fun c115 => ?_)
        · exact absurd c115 (by decide)
        · refine g_iload dX11_factor_118 rfl ?_
          refine g_i2l dX11_factor_120 ?_
          refine g_topl (show (iZ (oe w l (rI b) (sI b) i)).toInt64 = lZ (oe w l (rI b) (sI b) i) from iZ_l (oe_b _ _ _ _ _).1 (oe_b _ _ _ _ _).2) ?_
          refine g_iload_n dX11_factor_121 rfl rfl ?_
          refine g_i2lN dX11_factor_122 (by omega) ?_
          refine g_lmul dX11_factor_123 ?_
          refine g_topl (show (lZ (oe w l (rI b) (sI b) i)) * (lN (md v w l (mo (oe w l (rI b) (sI b)) (md v w l) i))) = lZ (oe w l (rI b) (sI b) i * (md v w l (mo (oe w l (rI b) (sI b)) (md v w l) i) : Nat)) from lZ_mul _ _) ?_
          refine g_iload_n dX11_factor_124 rfl rfl ?_
          refine g_i2l dX11_factor_125 ?_
          refine g_topl (show (iZ (oe w l (rI b) (sI b) (mo (oe w l (rI b) (sI b)) (md v w l) i))).toInt64 = lZ (oe w l (rI b) (sI b) (mo (oe w l (rI b) (sI b)) (md v w l) i)) from iZ_l (oe_b _ _ _ _ _).1 (oe_b _ _ _ _ _).2) ?_
          refine g_iload dX11_factor_126 rfl ?_
          refine g_i2lN dX11_factor_128 (by omega) ?_
          refine g_lmul dX11_factor_129 ?_
          refine g_topl (show (lZ (oe w l (rI b) (sI b) (mo (oe w l (rI b) (sI b)) (md v w l) i))) * (lN ((v (w i)) - (v (l i)))) = lZ (oe w l (rI b) (sI b) (mo (oe w l (rI b) (sI b)) (md v w l) i) * (md v w l i : Nat)) from lZ_mul _ _) ?_
          refine g_lcmp dX11_factor_130 ?_
          refine g_if_le (tgt := 143) dX11_factor_131 (by decide) (fun c131 => ?_) (fun c131 => ?_)
          · refine g_iincN (z := 1) (ls' := [(5, .int (nI (i + 1))), (9, .int (nI ((v (w i)) - (v (l i))))), (8, .int (iZ (oe w l (rI b) (sI b) i))), (7, .int (nI (l i))), (6, .int (nI (w i))), (4, .int (nI 1)), (3, .int (nI (md v w l (mo (oe w l (rI b) (sI b)) (md v w l) i)))), (2, .int (iZ (oe w l (rI b) (sI b) (mo (oe w l (rI b) (sI b)) (md v w l) i)))), (0, .ref 142), (1, .int (nI b))]) dX11_factor_143 rfl (by decide) rfl ?_
            refine g_goto (tgt := 10) dX11_factor_146 (by decide) ?_
            refine g_pick [0, 5, 6, 7, 8, 9] (ls' := [(5, .int (nI (i + 1))), (4, .int (nI 1)), (3, .int (nI (md v w l (mo (oe w l (rI b) (sI b)) (md v w l) i)))), (2, .int (iZ (oe w l (rI b) (sI b) (mo (oe w l (rI b) (sI b)) (md v w l) i)))), (0, .ref 142), (1, .int (nI b))]) rfl ?_
            have e9 : (mo (oe w l (rI b) (sI b)) (md v w l) (i + 1)) = (mo (oe w l (rI b) (sI b)) (md v w l) i) := if_neg (by have := (lZ_cmp b1.1 b1.2 b2.1 b2.2).mp c131; omega)
            have := ih (i + 1) (by omega) (by omega) (by omega)
            rw [e9] at this
            exact this
          · refine g_iload dX11_factor_134 rfl ?_
            refine g_istore_n (ls' := [(2, .int (iZ (oe w l (rI b) (sI b) i))), (9, .int (nI ((v (w i)) - (v (l i))))), (8, .int (iZ (oe w l (rI b) (sI b) i))), (7, .int (nI (l i))), (6, .int (nI (w i))), (5, .int (nI i)), (4, .int (nI 1)), (3, .int (nI (md v w l (mo (oe w l (rI b) (sI b)) (md v w l) i)))), (0, .ref 142), (1, .int (nI b))]) dX11_factor_136 rfl (by decide) rfl ?_
            refine g_iload dX11_factor_137 rfl ?_
            refine g_istore_n (ls' := [(3, .int (nI ((v (w i)) - (v (l i))))), (2, .int (iZ (oe w l (rI b) (sI b) i))), (9, .int (nI ((v (w i)) - (v (l i))))), (8, .int (iZ (oe w l (rI b) (sI b) i))), (7, .int (nI (l i))), (6, .int (nI (w i))), (5, .int (nI i)), (4, .int (nI 1)), (0, .ref 142), (1, .int (nI b))]) dX11_factor_139 rfl (by decide) rfl ?_
            refine g_iconst (v := nI 1) dX11_factor_140 (by decide) ?_
            refine g_istore (ls' := [(4, .int (nI 1)), (3, .int (nI ((v (w i)) - (v (l i))))), (2, .int (iZ (oe w l (rI b) (sI b) i))), (9, .int (nI ((v (w i)) - (v (l i))))), (8, .int (iZ (oe w l (rI b) (sI b) i))), (7, .int (nI (l i))), (6, .int (nI (w i))), (5, .int (nI i)), (0, .ref 142), (1, .int (nI b))]) dX11_factor_141 (by decide) rfl ?_
            refine g_iincN (z := 1) (ls' := [(5, .int (nI (i + 1))), (4, .int (nI 1)), (3, .int (nI ((v (w i)) - (v (l i))))), (2, .int (iZ (oe w l (rI b) (sI b) i))), (9, .int (nI ((v (w i)) - (v (l i))))), (8, .int (iZ (oe w l (rI b) (sI b) i))), (7, .int (nI (l i))), (6, .int (nI (w i))), (0, .ref 142), (1, .int (nI b))]) dX11_factor_143 rfl (by decide) rfl ?_
            refine g_goto (tgt := 10) dX11_factor_146 (by decide) ?_
            refine g_pick [0, 1, 2, 3, 8, 9] (ls' := [(5, .int (nI (i + 1))), (4, .int (nI 1)), (3, .int (nI ((v (w i)) - (v (l i))))), (2, .int (iZ (oe w l (rI b) (sI b) i))), (0, .ref 142), (1, .int (nI b))]) rfl ?_
            have e9 : (mo (oe w l (rI b) (sI b)) (md v w l) (i + 1)) = i := if_pos (Int.not_le.mp (fun q => c131 ((lZ_cmp b1.1 b1.2 b2.1 b2.2).mpr q)))
            have := ih (i + 1) (by omega) (by omega) (by omega)
            rw [e9] at this
            exact this
theorem mr_le {pn x : Nat} (h : pn * 2 ^ 80 < RM) (hx : x ≤ 2 ^ 80) : pn * x < RM := Nat.lt_of_le_of_lt (Nat.mul_le_mul_left pn hx) h
theorem fc_1 {u g N lm : Nat} (h1 : g < u) (h2 : u ≤ 1000000) (h3 : N ≤ 20000) (h4 : lm ≤ N) : lm * g ≤ 2 * u * N ∧ 2 * u * N ≤ 40000000000 := by
  have a1 : lm * g ≤ N * u := Nat.mul_le_mul h4 (by omega)
  have a2 : 2 * u * N ≤ 2 * 1000000 * 20000 := Nat.mul_le_mul (by omega) h3
  rw [Nat.mul_assoc, Nat.mul_comm u N] at a2 ⊢
  exact ⟨by omega, by omega⟩
set_option maxHeartbeats 4000000 in
set_option maxRecDepth 100000 in
theorem c_mfactorB (G : gG) (d n : Nat) (ex : Bool) (h : gH) {cd wt : Int32} {s : Nat → Nat} {k m sg cm sd mm dr dd bk rt : Nat} {v w l : Nat → Nat} {pn pd : Nat} {V : Nat → Option Nat} (hN : Bn h (MX cd s k m sg cm sd mm dr dd bk rt wt) V) (hv6 : V 6 = some pn) (hv7 : V 7 = some pd) (r6 : pn * 2 ^ 80 < RM) (r7 : pd * 2 ^ 80 < RM) (g1 : s 12 < s 11) (g2 : s 11 ≤ 1000000) (hN1 : 1 ≤ s 6) (hN2 : s 6 ≤ 20000) (hm1 : 1 ≤ mm) (hlm2 : lmn 1000001 v w l mm ≤ s 6) (a3 : h 143 = some (.inl (0, 8, .inl (fun k => nI (v k))))) (a9 : h 149 = some (.inl (0, 16, .inl (fun k => nI (w k))))) (a10 : h 150 = some (.inl (0, 16, .inl (fun k => nI (l k))))) (hmm : mm ≤ 16) (hwl : ∀ k, k < mm → w k < 8 ∧ l k < 8) (hV : ∀ k, k < mm → v (l k) < v (w k) ∧ v (w k) ≤ 20000) : g_M G mX11_factor (d + 4) 0 0 [.ref 142, .int (-2)] n ex h (q_v n ex [156, 157] h (fun h' => Bn h' (MX cd s k m sg cm sd mm dr dd bk rt wt) (va_up (va_up V 6 (some (pn * (2 * s 11 * s 6 - lmn 1000001 v w l mm * s 12)))) 7 (some (pd * (s 6 * (2 * s 11))))))) := by
  have m0 : Mc h cd s k m sg cm sd mm dr dd bk rt wt := hN.cell
  have f1 := fc_1 (lm := lmn 1000001 v w l mm) g1 g2 hN2 hlm2
  have ff1 : (2 * s 11 * s 6 - lmn 1000001 v w l mm * s 12) < 70368744177664 := by omega
  have ff2 : 1 < 70368744177664 := by decide
  have ff3 : s 6 < 70368744177664 := by omega
  have ff4 : 2 * s 11 * 1 - 0 * (lmn 1000001 v w l mm) * s 12 < 70368744177664 := by omega
  have rr1 : pn * (2 * s 11 * s 6 - lmn 1000001 v w l mm * s 12) < RM := mr_le r6 (by omega)
  have rr2 : pn * (2 * s 11 * s 6 - lmn 1000001 v w l mm * s 12) * 1 < RM := by rw [Nat.mul_one]; exact rr1
  have rr3 : pd * s 6 < RM := mr_le r7 (by omega)
  have f4 : s 6 * (2 * s 11 * 1 - 0 * (lmn 1000001 v w l mm) * s 12) ≤ 20000 * 2000000 := Nat.mul_le_mul hN2 (by omega)
  have rr4 : pd * s 6 * (2 * s 11 * 1 - 0 * (lmn 1000001 v w l mm) * s 12) < RM := by rw [Nat.mul_assoc]; exact mr_le r7 (by omega)
  refine g_enter (by decide) (Nat.le_of_ble_eq_true rfl) ?_
  show g_W G _ _ _ n ex h 0 0 0 [(0, .ref 142), (1, .int (-2))] []
  refine g_iconst (v := nI 0) dX11_factor_0 (by decide) ?_
  refine g_istore_n (ls' := [(2, .int (nI 0)), (0, .ref 142), (1, .int (-2))]) dX11_factor_1 rfl (by decide) rfl ?_
  refine g_iconst (v := nI 1) dX11_factor_2 (by decide) ?_
  refine g_istore_n (ls' := [(3, .int (nI 1)), (2, .int (nI 0)), (0, .ref 142), (1, .int (-2))]) dX11_factor_3 rfl (by decide) rfl ?_
  refine g_iconst (v := nI 0) dX11_factor_4 (by decide) ?_
  refine g_istore (ls' := [(4, .int (nI 0)), (3, .int (nI 1)), (2, .int (nI 0)), (0, .ref 142), (1, .int (-2))]) dX11_factor_5 (by decide) rfl ?_
  refine g_iconst (v := nI 0) dX11_factor_7 (by decide) ?_
  refine g_istore (ls' := [(5, .int (nI 0)), (4, .int (nI 0)), (3, .int (nI 1)), (2, .int (nI 0)), (0, .ref 142), (1, .int (-2))]) dX11_factor_8 (by decide) rfl ?_
  refine g_iload dX11_factor_10 rfl ?_
  refine g_aload_n dX11_factor_12 rfl rfl ?_
  refine g_getf (v := .int (nI mm)) dX11_factor_13 fX11_250 m0 rfl ?_
  refine g_icmp_geN (tgt := 149) dX11_factor_16 (by decide) (by omega) (by omega) (fun c16 => ?_) (fun c16 => ?_)
  · exact absurd c16 (by omega)
  · refine g_iload_n dX11_factor_19 rfl rfl ?_
    refine g_bipush (v := -2) dX11_factor_20 (by decide) ?_
    refine g_icmp_eq (tgt := 149) dX11_factor_22 (by decide) (fun c22 => ?_) (fun c22 => ?_)
    · refine g_aload_n dX11_factor_149 rfl rfl ?_
      refine cVi (st := []) dX11_factor_150 (c_margin G (d + 3) n ex h m0 a3 a9 a10 hmm hwl hV) sX11_277 m0 rfl rfl (by simp only [g_rm]; omega) (by simp only [g_rm]; omega) (Nat.le_of_ble_eq_true rfl) ⟨Nat.le_of_ble_eq_true rfl, Nat.le_of_ble_eq_true rfl⟩ (fun r4 h1 fr2 p3 => ?_)
      cases g_fr0 fr2
      subst p3
      refine g_i2lN dX11_factor_153 (by omega) ?_
      refine g_lstore (ls' := [(5, .long (lN (lmn 1000001 v w l mm))), (4, .int (nI 0)), (3, .int (nI 1)), (2, .int (nI 0)), (0, .ref 142), (1, .int (-2))]) dX11_factor_154 (by decide) rfl ?_
      refine g_aload_n dX11_factor_156 rfl rfl ?_
      refine g_bipush (v := nI 6) dX11_factor_157 (by decide) ?_
      refine g_ldc2 dX11_factor_159 kX11_268 rfl ?_
      refine g_topl (show (2 : Int64) = lN 2 by decide) ?_
      refine g_aload_n dX11_factor_162 rfl rfl ?_
      refine g_getf (v := .int (nI (s 11))) dX11_factor_163 fX11_36 m0 rfl ?_
      refine g_i2lN dX11_factor_166 (by omega) ?_
      refine g_lmulN dX11_factor_167 ?_
      refine g_aload_n dX11_factor_168 rfl rfl ?_
      refine g_getf (v := .int (nI (s 6))) dX11_factor_169 fX11_240 m0 rfl ?_
      refine g_i2lN dX11_factor_172 (by omega) ?_
      refine g_lmulN dX11_factor_173 ?_
      refine g_lload dX11_factor_174 rfl ?_
      refine g_aload_n dX11_factor_176 rfl rfl ?_
      refine g_getf (v := .int (nI (s 12))) dX11_factor_177 fX11_39 m0 rfl ?_
      refine g_i2lN dX11_factor_180 (by omega) ?_
      refine g_lmulN dX11_factor_181 ?_
      refine g_lsubN dX11_factor_182 f1.1 ?_
      refine cVv (st := []) dX11_factor_183 (c_mtimes G (d + 2) n ex h hN (s := 6) (F := (((2 * (s 11)) * (s 6)) - ((lmn 1000001 v w l mm) * (s 12)))) (by decide) hv6 ff1 rr1) sX11_192 m0 rfl rfl (by simp only [g_rm]; omega) (by simp only [g_rm]; omega) (Nat.le_of_ble_eq_true rfl) ⟨Nat.le_of_ble_eq_true rfl, Nat.le_of_ble_eq_true rfl⟩ (fun h5 fr6 p7 => ?_)
      have hN9 := p7
      refine g_aload_n dX11_factor_186 rfl rfl ?_
      refine g_bipush (v := nI 6) dX11_factor_187 (by decide) ?_
      refine g_iload_n dX11_factor_189 rfl rfl ?_
      refine g_i2lN dX11_factor_190 (by omega) ?_
      refine cVv (st := []) dX11_factor_191 (c_mtimes G (d + 2) n ex h5 hN9 (s := 6) (F := 1) (by decide) va_s ff2 rr2) sX11_192 (fr6.at (by intro q; simp only [List.mem_cons, List.not_mem_nil, or_false] at q; omega) m0) rfl rfl (by simp only [g_rm]; omega) (by simp only [g_rm]; omega) (Nat.le_of_ble_eq_true rfl) ⟨Nat.le_of_ble_eq_true rfl, Nat.le_of_ble_eq_true rfl⟩ (fun h10 fr11 p12 => ?_)
      have hN14 := p12
      refine g_aload_n dX11_factor_194 rfl rfl ?_
      refine g_bipush (v := nI 7) dX11_factor_195 (by decide) ?_
      refine g_aload_n dX11_factor_197 rfl rfl ?_
      refine g_getf (v := .int (nI (s 6))) dX11_factor_198 fX11_240 (fr11.at (by intro q; simp only [List.mem_cons, List.not_mem_nil, or_false] at q; omega) (fr6.at (by intro q; simp only [List.mem_cons, List.not_mem_nil, or_false] at q; omega) m0)) rfl ?_
      refine g_i2lN dX11_factor_201 (by omega) ?_
      refine cVv (st := []) dX11_factor_202 (c_mtimes G (d + 2) n ex h10 hN14 (s := 7) (F := (s 6)) (by decide) (((va_n (by decide)).trans (va_n (by decide))).trans hv7) ff3 rr3) sX11_192 (fr11.at (by intro q; simp only [List.mem_cons, List.not_mem_nil, or_false] at q; omega) (fr6.at (by intro q; simp only [List.mem_cons, List.not_mem_nil, or_false] at q; omega) m0)) rfl rfl (by simp only [g_rm]; omega) (by simp only [g_rm]; omega) (Nat.le_of_ble_eq_true rfl) ⟨Nat.le_of_ble_eq_true rfl, Nat.le_of_ble_eq_true rfl⟩ (fun h15 fr16 p17 => ?_)
      have hN19 := p17
      refine g_aload_n dX11_factor_205 rfl rfl ?_
      refine g_bipush (v := nI 7) dX11_factor_206 (by decide) ?_
      refine g_ldc2 dX11_factor_208 kX11_268 rfl ?_
      refine g_topl (show (2 : Int64) = lN 2 by decide) ?_
      refine g_aload_n dX11_factor_211 rfl rfl ?_
      refine g_getf (v := .int (nI (s 11))) dX11_factor_212 fX11_36 (fr16.at (by intro q; simp only [List.mem_cons, List.not_mem_nil, or_false] at q; omega) (fr11.at (by intro q; simp only [List.mem_cons, List.not_mem_nil, or_false] at q; omega) (fr6.at (by intro q; simp only [List.mem_cons, List.not_mem_nil, or_false] at q; omega) m0))) rfl ?_
      refine g_i2lN dX11_factor_215 (by omega) ?_
      refine g_lmulN dX11_factor_216 ?_
      refine g_iload_n dX11_factor_217 rfl rfl ?_
      refine g_i2lN dX11_factor_218 (by omega) ?_
      refine g_lmulN dX11_factor_219 ?_
      refine g_iload_n dX11_factor_220 rfl rfl ?_
      refine g_i2lN dX11_factor_221 (by omega) ?_
      refine g_lload dX11_factor_222 rfl ?_
      refine g_lmulN dX11_factor_224 ?_
      refine g_aload_n dX11_factor_225 rfl rfl ?_
      refine g_getf (v := .int (nI (s 12))) dX11_factor_226 fX11_39 (fr16.at (by intro q; simp only [List.mem_cons, List.not_mem_nil, or_false] at q; omega) (fr11.at (by intro q; simp only [List.mem_cons, List.not_mem_nil, or_false] at q; omega) (fr6.at (by intro q; simp only [List.mem_cons, List.not_mem_nil, or_false] at q; omega) m0))) rfl ?_
      refine g_i2lN dX11_factor_229 (by omega) ?_
      refine g_lmulN dX11_factor_230 ?_
      refine g_lsubN dX11_factor_231 (by omega) ?_
      refine cVv (st := []) dX11_factor_232 (c_mtimes G (d + 2) n ex h15 hN19 (s := 7) (F := (((2 * (s 11)) * 1) - ((0 * (lmn 1000001 v w l mm)) * (s 12)))) (by decide) va_s ff4 rr4) sX11_192 (fr16.at (by intro q; simp only [List.mem_cons, List.not_mem_nil, or_false] at q; omega) (fr11.at (by intro q; simp only [List.mem_cons, List.not_mem_nil, or_false] at q; omega) (fr6.at (by intro q; simp only [List.mem_cons, List.not_mem_nil, or_false] at q; omega) m0))) rfl rfl (by simp only [g_rm]; omega) (by simp only [g_rm]; omega) (Nat.le_of_ble_eq_true rfl) ⟨Nat.le_of_ble_eq_true rfl, Nat.le_of_ble_eq_true rfl⟩ (fun h20 fr21 p22 => ?_)
      have hN24 := p22
      exact e_v dX11_factor_235 rfl (((((g_fr.rf).tr fr6 (by simp)).tr fr11 (by simp)).tr fr16 (by simp)).tr fr21 (by simp)) (hN24.le (fun u hu => Or.inl (by
        by_cases z7 : u = 7
        · subst z7; rw [va_s, va_s, Nat.zero_mul, Nat.zero_mul, Nat.sub_zero, Nat.mul_one, Nat.mul_assoc]
        · by_cases z6 : u = 6
          · subst z6; rw [va_n z7, va_n z7, va_n z7, va_s, va_s, Nat.mul_one]
          · rw [va_n z7, va_n z6, va_n z7, va_n z7, va_n z6, va_n z6]))) (by decide) (by decide)
    · exact absurd rfl c22
set_option maxHeartbeats 4000000 in
set_option maxRecDepth 100000 in
theorem c_mfactorN (G : gG) (d n : Nat) (ex : Bool) (h : gH) {cd wt : Int32} {s : Nat → Nat} {k m sg cm sd mm dr dd bk rt : Nat} {v w l : Nat → Nat} {rI sI : Nat → Int32} {b : Nat} {pn pd : Nat} {V : Nat → Option Nat} (hN : Bn h (MX cd s k m sg cm sd mm dr dd bk rt wt) V) (hv6 : V 6 = some pn) (hv7 : V 7 = some pd) (r6 : pn * 2 ^ 80 < RM) (r7 : pd * 2 ^ 80 < RM) (g1 : s 12 < s 11) (g2 : s 11 ≤ 1000000) (hN1 : 1 ≤ s 6) (hN2 : s 6 ≤ 20000) (hm1 : 1 ≤ mm) (hlm2 : lmn 1000001 v w l mm ≤ s 6) (a3 : h 143 = some (.inl (0, 8, .inl (fun k => nI (v k))))) (a9 : h 149 = some (.inl (0, 16, .inl (fun k => nI (w k))))) (a10 : h 150 = some (.inl (0, 16, .inl (fun k => nI (l k))))) (a5 : h 145 = some (.inl (1, 20000, .inl rI))) (a13 : h 153 = some (.inl (1, 20000, .inl sI))) (hmm : mm ≤ 16) (hwl : ∀ k, k < mm → w k < 8 ∧ l k < 8) (hV : ∀ k, k < mm → v (l k) < v (w k) ∧ v (w k) ≤ 20000) (hb : b < 20000) (hlm : ∀ k, k < mm → lmn 1000001 v w l mm ≤ md v w l k) : g_M G mX11_factor (d + 4) 0 0 [.ref 142, .int (nI b)] n ex h (q_v n ex [156, 157] h (fun h' => Bn h' (MX cd s k m sg cm sd mm dr dd bk rt wt) (va_up (va_up V 6 (some (pn * ((2 * s 11 * s 6 - lmn 1000001 v w l mm * s 12) * (md v w l (mo (oe w l (rI b) (sI b)) (md v w l) mm)))))) 7 (some (pd * (s 6 * (cF2 (s 11) (s 12) (lmn 1000001 v w l mm) (md v w l (mo (oe w l (rI b) (sI b)) (md v w l) mm)) (oe w l (rI b) (sI b) (mo (oe w l (rI b) (sI b)) (md v w l) mm))))))))) := by
  have m0 : Mc h cd s k m sg cm sd mm dr dd bk rt wt := hN.cell
  have f1 := fc_1 (lm := lmn 1000001 v w l mm) g1 g2 hN2 hlm2
  have hm9 : (mo (oe w l (rI b) (sI b)) (md v w l) mm) < mm := by obtain ⟨i', e9⟩ : ∃ i', mm = i' + 1 := ⟨mm - 1, by omega⟩; rw [e9]; exact mo_lt _ _ i'
  have hvm := hV (mo (oe w l (rI b) (sI b)) (md v w l) mm) hm9
  have hdd : (md v w l (mo (oe w l (rI b) (sI b)) (md v w l) mm)) = v (w (mo (oe w l (rI b) (sI b)) (md v w l) mm)) - v (l (mo (oe w l (rI b) (sI b)) (md v w l) mm)) := rfl
  have hcf := cmp_facts (u := s 11) (g := s 12) (N := s 6) (lm := lmn 1000001 v w l mm) (d := (md v w l (mo (oe w l (rI b) (sI b)) (md v w l) mm))) (E := (oe w l (rI b) (sI b) (mo (oe w l (rI b) (sI b)) (md v w l) mm))) g1 g2 hN2 hN1 (hlm _ hm9) (by omega) (by omega) hlm2 (oe_b _ _ _ _ _).1 (oe_b _ _ _ _ _).2
  obtain ⟨-, -, -, k4, k5, k6, k7⟩ := hcf
  have ff1 : (2 * s 11 * s 6 - lmn 1000001 v w l mm * s 12) < 70368744177664 := by omega
  have ff2 : (md v w l (mo (oe w l (rI b) (sI b)) (md v w l) mm)) < 70368744177664 := by omega
  have ff3 : s 6 < 70368744177664 := by omega
  have ff4 : (cF2 (s 11) (s 12) (lmn 1000001 v w l mm) (md v w l (mo (oe w l (rI b) (sI b)) (md v w l) mm)) (oe w l (rI b) (sI b) (mo (oe w l (rI b) (sI b)) (md v w l) mm))) < 70368744177664 := by omega
  have rr1 : pn * (2 * s 11 * s 6 - lmn 1000001 v w l mm * s 12) < RM := mr_le r6 (by omega)
  have f2 : (2 * s 11 * s 6 - lmn 1000001 v w l mm * s 12) * (md v w l (mo (oe w l (rI b) (sI b)) (md v w l) mm)) ≤ 40000000000 * 20000 := Nat.mul_le_mul (by omega) (by omega)
  have rr2 : pn * (2 * s 11 * s 6 - lmn 1000001 v w l mm * s 12) * (md v w l (mo (oe w l (rI b) (sI b)) (md v w l) mm)) < RM := by rw [Nat.mul_assoc]; exact mr_le r6 (by omega)
  have rr3 : pd * s 6 < RM := mr_le r7 (by omega)
  have f4 : s 6 * (cF2 (s 11) (s 12) (lmn 1000001 v w l mm) (md v w l (mo (oe w l (rI b) (sI b)) (md v w l) mm)) (oe w l (rI b) (sI b) (mo (oe w l (rI b) (sI b)) (md v w l) mm))) ≤ 20000 * 80000000000 := Nat.mul_le_mul hN2 (by omega)
  have rr4 : pd * s 6 * (cF2 (s 11) (s 12) (lmn 1000001 v w l mm) (md v w l (mo (oe w l (rI b) (sI b)) (md v w l) mm)) (oe w l (rI b) (sI b) (mo (oe w l (rI b) (sI b)) (md v w l) mm))) < RM := by rw [Nat.mul_assoc]; exact mr_le r7 (by omega)
  have e0 : (mo (oe w l (rI b) (sI b)) (md v w l) 1) = 0 := mo_1 _ _
  refine g_enter (by decide) (Nat.le_of_ble_eq_true rfl) ?_
  show g_W G _ _ _ n ex h 0 0 0 [(0, .ref 142), (1, .int (nI b))] []
  refine g_iconst (v := nI 0) dX11_factor_0 (by decide) ?_
  refine g_istore_n (ls' := [(2, .int (nI 0)), (0, .ref 142), (1, .int (nI b))]) dX11_factor_1 rfl (by decide) rfl ?_
  refine g_iconst (v := nI 1) dX11_factor_2 (by decide) ?_
  refine g_istore_n (ls' := [(3, .int (nI 1)), (2, .int (nI 0)), (0, .ref 142), (1, .int (nI b))]) dX11_factor_3 rfl (by decide) rfl ?_
  refine g_iconst (v := nI 0) dX11_factor_4 (by decide) ?_
  refine g_istore (ls' := [(4, .int (nI 0)), (3, .int (nI 1)), (2, .int (nI 0)), (0, .ref 142), (1, .int (nI b))]) dX11_factor_5 (by decide) rfl ?_
  refine g_iconst (v := nI 0) dX11_factor_7 (by decide) ?_
  refine g_istore (ls' := [(5, .int (nI 0)), (4, .int (nI 0)), (3, .int (nI 1)), (2, .int (nI 0)), (0, .ref 142), (1, .int (nI b))]) dX11_factor_8 (by decide) rfl ?_
  refine g_iload dX11_factor_10 rfl ?_
  refine g_aload_n dX11_factor_12 rfl rfl ?_
  refine g_getf (v := .int (nI mm)) dX11_factor_13 fX11_250 m0 rfl ?_
  refine g_icmp_geN (tgt := 149) dX11_factor_16 (by decide) (by omega) (by omega) (fun c16 => ?_) (fun c16 => ?_)
  · exact absurd c16 (by omega)
  · refine g_iload_n dX11_factor_19 rfl rfl ?_
    refine g_bipush (v := -2) dX11_factor_20 (by decide) ?_
    refine g_icmp_eq (tgt := 149) dX11_factor_22 (by decide) (fun c22 => ?_) (fun c22 => ?_)
    · exact absurd c22 (ne_m2 (by omega))
    · have hw9 := hwl 0 (by omega)
      have hv9 := hV 0 (by omega)
      refine g_aload_n dX11_factor_25 rfl rfl ?_
      refine g_getf (v := .ref 149) dX11_factor_26 fX11_52 m0 rfl ?_
      refine g_iload dX11_factor_29 rfl ?_
      refine g_ialdN dX11_factor_31 a9 (by omega) (by decide) ?_
      refine g_istore (ls' := [(6, .int (nI (w 0))), (5, .int (nI 0)), (4, .int (nI 0)), (3, .int (nI 1)), (2, .int (nI 0)), (0, .ref 142), (1, .int (nI b))]) dX11_factor_32 (by decide) rfl ?_
      refine g_aload_n dX11_factor_34 rfl rfl ?_
      refine g_getf (v := .ref 150) dX11_factor_35 fX11_55 m0 rfl ?_
      refine g_iload dX11_factor_38 rfl ?_
      refine g_ialdN dX11_factor_40 a10 (by omega) (by decide) ?_
      refine g_istore (ls' := [(7, .int (nI (l 0))), (6, .int (nI (w 0))), (5, .int (nI 0)), (4, .int (nI 0)), (3, .int (nI 1)), (2, .int (nI 0)), (0, .ref 142), (1, .int (nI b))]) dX11_factor_41 (by decide) rfl ?_
      refine g_aload_n dX11_factor_43 rfl rfl ?_
      refine g_aload_n dX11_factor_44 rfl rfl ?_
      refine g_getf (v := .ref 145) dX11_factor_45 fX11_26 m0 rfl ?_
      refine g_iload_n dX11_factor_48 rfl rfl ?_
      refine g_baldN dX11_factor_49 a5 (by omega) (by decide) ?_
      refine g_iload dX11_factor_50 rfl ?_
      refine cVi (st := []) dX11_factor_52 (c_isFor G (d + 3) n ex h (x := rI b) (y := nI (w 0)) (i := 0)) sX11_274 m0 rfl rfl (by simp only [g_rm]; omega) (by simp only [g_rm]; omega) (Nat.le_of_ble_eq_true rfl) ⟨Nat.le_of_ble_eq_true rfl, Nat.le_of_ble_eq_true rfl⟩ (fun r4 h1 fr2 p3 => ?_)
      cases g_fr0 fr2
      subst p3
      refine g_aload_n dX11_factor_55 rfl rfl ?_
      refine g_aload_n dX11_factor_56 rfl rfl ?_
      refine g_getf (v := .ref 153) dX11_factor_57 fX11_64 m0 rfl ?_
      refine g_iload_n dX11_factor_60 rfl rfl ?_
      refine g_baldN dX11_factor_61 a13 (by omega) (by decide) ?_
      refine g_iload dX11_factor_62 rfl ?_
      refine cVi (st := [.int (nI (if rI b = nI (w 0) then 1 else 0))]) dX11_factor_64 (c_isFor G (d + 3) n ex h (x := sI b) (y := nI (w 0)) (i := 0)) sX11_274 m0 rfl rfl (by simp only [g_rm]; omega) (by simp only [g_rm]; omega) (Nat.le_of_ble_eq_true rfl) ⟨Nat.le_of_ble_eq_true rfl, Nat.le_of_ble_eq_true rfl⟩ (fun r8 h5 fr6 p7 => ?_)
      cases g_fr0 fr6
      subst p7
      refine g_isub dX11_factor_67 ?_
      refine g_aload_n dX11_factor_68 rfl rfl ?_
      refine g_aload_n dX11_factor_69 rfl rfl ?_
      refine g_getf (v := .ref 145) dX11_factor_70 fX11_26 m0 rfl ?_
      refine g_iload_n dX11_factor_73 rfl rfl ?_
      refine g_baldN dX11_factor_74 a5 (by omega) (by decide) ?_
      refine g_iload dX11_factor_75 rfl ?_
      refine cVi (st := [.int ((nI (if rI b = nI (w 0) then 1 else 0)) - (nI (if sI b = nI (w 0) then 1 else 0)))]) dX11_factor_77 (c_isFor G (d + 3) n ex h (x := rI b) (y := nI (l 0)) (i := 0)) sX11_274 m0 rfl rfl (by simp only [g_rm]; omega) (by simp only [g_rm]; omega) (Nat.le_of_ble_eq_true rfl) ⟨Nat.le_of_ble_eq_true rfl, Nat.le_of_ble_eq_true rfl⟩ (fun r12 h9 fr10 p11 => ?_)
      cases g_fr0 fr10
      subst p11
      refine g_isub dX11_factor_80 ?_
      refine g_aload_n dX11_factor_81 rfl rfl ?_
      refine g_aload_n dX11_factor_82 rfl rfl ?_
      refine g_getf (v := .ref 153) dX11_factor_83 fX11_64 m0 rfl ?_
      refine g_iload_n dX11_factor_86 rfl rfl ?_
      refine g_baldN dX11_factor_87 a13 (by omega) (by decide) ?_
      refine g_iload dX11_factor_88 rfl ?_
      refine cVi (st := [.int (((nI (if rI b = nI (w 0) then 1 else 0)) - (nI (if sI b = nI (w 0) then 1 else 0))) - (nI (if rI b = nI (l 0) then 1 else 0)))]) dX11_factor_90 (c_isFor G (d + 3) n ex h (x := sI b) (y := nI (l 0)) (i := 0)) sX11_274 m0 rfl rfl (by simp only [g_rm]; omega) (by simp only [g_rm]; omega) (Nat.le_of_ble_eq_true rfl) ⟨Nat.le_of_ble_eq_true rfl, Nat.le_of_ble_eq_true rfl⟩ (fun r16 h13 fr14 p15 => ?_)
      cases g_fr0 fr14
      subst p15
      refine g_iadd dX11_factor_93 ?_
      refine g_top (show (((nI (if rI b = nI (w 0) then 1 else 0)) - (nI (if sI b = nI (w 0) then 1 else 0))) - (nI (if rI b = nI (l 0) then 1 else 0))) + (nI (if sI b = nI (l 0) then 1 else 0)) = iZ (oe w l (rI b) (sI b) 0) from ie_eq hw9.1 hw9.2 (fun q => by have := hV 0 (by omega); rw [q] at this; omega)) ?_
      refine g_istore (ls' := [(8, .int (iZ (oe w l (rI b) (sI b) 0))), (7, .int (nI (l 0))), (6, .int (nI (w 0))), (5, .int (nI 0)), (4, .int (nI 0)), (3, .int (nI 1)), (2, .int (nI 0)), (0, .ref 142), (1, .int (nI b))]) dX11_factor_94 (by decide) rfl ?_
      refine g_aload_n dX11_factor_96 rfl rfl ?_
      refine g_getf (v := .ref 143) dX11_factor_97 fX11_13 m0 rfl ?_
      refine g_iload dX11_factor_100 rfl ?_
      refine g_ialdN dX11_factor_102 a3 (by omega) (by decide) ?_
      refine g_aload_n dX11_factor_103 rfl rfl ?_
      refine g_getf (v := .ref 143) dX11_factor_104 fX11_13 m0 rfl ?_
      refine g_iload dX11_factor_107 rfl ?_
      refine g_ialdN dX11_factor_109 a3 (by omega) (by decide) ?_
      refine g_isubN dX11_factor_110 (by omega) ?_
      refine g_istore (ls' := [(9, .int (nI ((v (w 0)) - (v (l 0))))), (8, .int (iZ (oe w l (rI b) (sI b) 0))), (7, .int (nI (l 0))), (6, .int (nI (w 0))), (5, .int (nI 0)), (4, .int (nI 0)), (3, .int (nI 1)), (2, .int (nI 0)), (0, .ref 142), (1, .int (nI b))]) dX11_factor_111 (by decide) rfl ?_
      refine g_iload dX11_factor_113 rfl ?_
      refine g_if_eqN (tgt := 134) dX11_factor_115 (by decide) (by decide) (fun c115 => ?_) (fun c115 => ?_)
      · refine g_iload dX11_factor_134 rfl ?_
        refine g_istore_n (ls' := [(2, .int (iZ (oe w l (rI b) (sI b) 0))), (9, .int (nI ((v (w 0)) - (v (l 0))))), (8, .int (iZ (oe w l (rI b) (sI b) 0))), (7, .int (nI (l 0))), (6, .int (nI (w 0))), (5, .int (nI 0)), (4, .int (nI 0)), (3, .int (nI 1)), (0, .ref 142), (1, .int (nI b))]) dX11_factor_136 rfl (by decide) rfl ?_
        refine g_iload dX11_factor_137 rfl ?_
        refine g_istore_n (ls' := [(3, .int (nI ((v (w 0)) - (v (l 0))))), (2, .int (iZ (oe w l (rI b) (sI b) 0))), (9, .int (nI ((v (w 0)) - (v (l 0))))), (8, .int (iZ (oe w l (rI b) (sI b) 0))), (7, .int (nI (l 0))), (6, .int (nI (w 0))), (5, .int (nI 0)), (4, .int (nI 0)), (0, .ref 142), (1, .int (nI b))]) dX11_factor_139 rfl (by decide) rfl ?_
        refine g_iconst (v := nI 1) dX11_factor_140 (by decide) ?_
        refine g_istore (ls' := [(4, .int (nI 1)), (3, .int (nI ((v (w 0)) - (v (l 0))))), (2, .int (iZ (oe w l (rI b) (sI b) 0))), (9, .int (nI ((v (w 0)) - (v (l 0))))), (8, .int (iZ (oe w l (rI b) (sI b) 0))), (7, .int (nI (l 0))), (6, .int (nI (w 0))), (5, .int (nI 0)), (0, .ref 142), (1, .int (nI b))]) dX11_factor_141 (by decide) rfl ?_
        refine g_iincN (z := 1) (ls' := [(5, .int (nI (0 + 1))), (4, .int (nI 1)), (3, .int (nI ((v (w 0)) - (v (l 0))))), (2, .int (iZ (oe w l (rI b) (sI b) 0))), (9, .int (nI ((v (w 0)) - (v (l 0))))), (8, .int (iZ (oe w l (rI b) (sI b) 0))), (7, .int (nI (l 0))), (6, .int (nI (w 0))), (0, .ref 142), (1, .int (nI b))]) dX11_factor_143 rfl (by decide) rfl ?_
        refine g_goto (tgt := 10) dX11_factor_146 (by decide) ?_
        refine g_pick [0, 1, 2, 3, 8, 9] (ls' := [(5, .int (nI (0 + 1))), (4, .int (nI 1)), (3, .int (nI ((v (w 0)) - (v (l 0))))), (2, .int (iZ (oe w l (rI b) (sI b) 0))), (0, .ref 142), (1, .int (nI b))]) rfl ?_
        rw [show nI (v (w 0) - v (l 0)) = nI (md v w l (mo (oe w l (rI b) (sI b)) (md v w l) 1)) from by rw [e0]; rfl, show iZ (oe w l (rI b) (sI b) 0) = iZ (oe w l (rI b) (sI b) (mo (oe w l (rI b) (sI b)) (md v w l) 1)) from by rw [e0]]
        refine lp_factor G d _ n ex h (b := b) (rI := rI) (sI := sI) m0 a3 a9 a10 a5 a13 hmm hwl hV hb ?_ mm 1 (by omega) (by omega) hm1
        refine g_aload_n dX11_factor_149 rfl rfl ?_
        refine cVi (st := []) dX11_factor_150 (c_margin G (d + 3) n ex h m0 a3 a9 a10 hmm hwl hV) sX11_277 m0 rfl rfl (by simp only [g_rm]; omega) (by simp only [g_rm]; omega) (Nat.le_of_ble_eq_true rfl) ⟨Nat.le_of_ble_eq_true rfl, Nat.le_of_ble_eq_true rfl⟩ (fun r104 h101 fr102 p103 => ?_)
        cases g_fr0 fr102
        subst p103
        refine g_i2lN dX11_factor_153 (by omega) ?_
        refine g_lstore (ls' := [(5, .long (lN (lmn 1000001 v w l mm))), (4, .int (nI 1)), (3, .int (nI (md v w l (mo (oe w l (rI b) (sI b)) (md v w l) mm)))), (2, .int (iZ (oe w l (rI b) (sI b) (mo (oe w l (rI b) (sI b)) (md v w l) mm)))), (0, .ref 142), (1, .int (nI b))]) dX11_factor_154 (by decide) rfl ?_
        refine g_aload_n dX11_factor_156 rfl rfl ?_
        refine g_bipush (v := nI 6) dX11_factor_157 (by decide) ?_
        refine g_ldc2 dX11_factor_159 kX11_268 rfl ?_
        refine g_topl (show (2 : Int64) = lN 2 by decide) ?_
        refine g_aload_n dX11_factor_162 rfl rfl ?_
        refine g_getf (v := .int (nI (s 11))) dX11_factor_163 fX11_36 m0 rfl ?_
        refine g_i2lN dX11_factor_166 (by omega) ?_
        refine g_lmulN dX11_factor_167 ?_
        refine g_aload_n dX11_factor_168 rfl rfl ?_
        refine g_getf (v := .int (nI (s 6))) dX11_factor_169 fX11_240 m0 rfl ?_
        refine g_i2lN dX11_factor_172 (by omega) ?_
        refine g_lmulN dX11_factor_173 ?_
        refine g_lload dX11_factor_174 rfl ?_
        refine g_aload_n dX11_factor_176 rfl rfl ?_
        refine g_getf (v := .int (nI (s 12))) dX11_factor_177 fX11_39 m0 rfl ?_
        refine g_i2lN dX11_factor_180 (by omega) ?_
        refine g_lmulN dX11_factor_181 ?_
        refine g_lsubN dX11_factor_182 f1.1 ?_
        refine cVv (st := []) dX11_factor_183 (c_mtimes G (d + 2) n ex h hN (s := 6) (F := (((2 * (s 11)) * (s 6)) - ((lmn 1000001 v w l mm) * (s 12)))) (by decide) hv6 ff1 rr1) sX11_192 m0 rfl rfl (by simp only [g_rm]; omega) (by simp only [g_rm]; omega) (Nat.le_of_ble_eq_true rfl) ⟨Nat.le_of_ble_eq_true rfl, Nat.le_of_ble_eq_true rfl⟩ (fun h105 fr106 p107 => ?_)
        have hN109 := p107
        refine g_aload_n dX11_factor_186 rfl rfl ?_
        refine g_bipush (v := nI 6) dX11_factor_187 (by decide) ?_
        refine g_iload_n dX11_factor_189 rfl rfl ?_
        refine g_i2lN dX11_factor_190 (by omega) ?_
        refine cVv (st := []) dX11_factor_191 (c_mtimes G (d + 2) n ex h105 hN109 (s := 6) (F := (md v w l (mo (oe w l (rI b) (sI b)) (md v w l) mm))) (by decide) va_s ff2 rr2) sX11_192 (fr106.at (by intro q; simp only [List.mem_cons, List.not_mem_nil, or_false] at q; omega) m0) rfl rfl (by simp only [g_rm]; omega) (by simp only [g_rm]; omega) (Nat.le_of_ble_eq_true rfl) ⟨Nat.le_of_ble_eq_true rfl, Nat.le_of_ble_eq_true rfl⟩ (fun h110 fr111 p112 => ?_)
        have hN114 := p112
        refine g_aload_n dX11_factor_194 rfl rfl ?_
        refine g_bipush (v := nI 7) dX11_factor_195 (by decide) ?_
        refine g_aload_n dX11_factor_197 rfl rfl ?_
        refine g_getf (v := .int (nI (s 6))) dX11_factor_198 fX11_240 (fr111.at (by intro q; simp only [List.mem_cons, List.not_mem_nil, or_false] at q; omega) (fr106.at (by intro q; simp only [List.mem_cons, List.not_mem_nil, or_false] at q; omega) m0)) rfl ?_
        refine g_i2lN dX11_factor_201 (by omega) ?_
        refine cVv (st := []) dX11_factor_202 (c_mtimes G (d + 2) n ex h110 hN114 (s := 7) (F := (s 6)) (by decide) (((va_n (by decide)).trans (va_n (by decide))).trans hv7) ff3 rr3) sX11_192 (fr111.at (by intro q; simp only [List.mem_cons, List.not_mem_nil, or_false] at q; omega) (fr106.at (by intro q; simp only [List.mem_cons, List.not_mem_nil, or_false] at q; omega) m0)) rfl rfl (by simp only [g_rm]; omega) (by simp only [g_rm]; omega) (Nat.le_of_ble_eq_true rfl) ⟨Nat.le_of_ble_eq_true rfl, Nat.le_of_ble_eq_true rfl⟩ (fun h115 fr116 p117 => ?_)
        have hN119 := p117
        refine g_aload_n dX11_factor_205 rfl rfl ?_
        refine g_bipush (v := nI 7) dX11_factor_206 (by decide) ?_
        refine g_ldc2 dX11_factor_208 kX11_268 rfl ?_
        refine g_topl (show (2 : Int64) = lN 2 by decide) ?_
        refine g_aload_n dX11_factor_211 rfl rfl ?_
        refine g_getf (v := .int (nI (s 11))) dX11_factor_212 fX11_36 (fr116.at (by intro q; simp only [List.mem_cons, List.not_mem_nil, or_false] at q; omega) (fr111.at (by intro q; simp only [List.mem_cons, List.not_mem_nil, or_false] at q; omega) (fr106.at (by intro q; simp only [List.mem_cons, List.not_mem_nil, or_false] at q; omega) m0))) rfl ?_
        refine g_i2lN dX11_factor_215 (by omega) ?_
        refine g_lmulN dX11_factor_216 ?_
        refine g_iload_n dX11_factor_217 rfl rfl ?_
        refine g_i2lN dX11_factor_218 (by omega) ?_
        refine g_lmulN dX11_factor_219 ?_
        refine g_iload_n dX11_factor_220 rfl rfl ?_
        refine g_i2l dX11_factor_221 ?_
        refine g_topl (show (iZ (oe w l (rI b) (sI b) (mo (oe w l (rI b) (sI b)) (md v w l) mm))).toInt64 = lZ (oe w l (rI b) (sI b) (mo (oe w l (rI b) (sI b)) (md v w l) mm)) from iZ_l (oe_b _ _ _ _ _).1 (oe_b _ _ _ _ _).2) ?_
        refine g_lload dX11_factor_222 rfl ?_
        refine g_lmul dX11_factor_224 ?_
        refine g_topl (show (lZ (oe w l (rI b) (sI b) (mo (oe w l (rI b) (sI b)) (md v w l) mm))) * (lN (lmn 1000001 v w l mm)) = lZ ((oe w l (rI b) (sI b) (mo (oe w l (rI b) (sI b)) (md v w l) mm)) * (lmn 1000001 v w l mm : Nat)) from lZ_mul _ _) ?_
        refine g_aload_n dX11_factor_225 rfl rfl ?_
        refine g_getf (v := .int (nI (s 12))) dX11_factor_226 fX11_39 (fr116.at (by intro q; simp only [List.mem_cons, List.not_mem_nil, or_false] at q; omega) (fr111.at (by intro q; simp only [List.mem_cons, List.not_mem_nil, or_false] at q; omega) (fr106.at (by intro q; simp only [List.mem_cons, List.not_mem_nil, or_false] at q; omega) m0))) rfl ?_
        refine g_i2lN dX11_factor_229 (by omega) ?_
        refine g_lmul dX11_factor_230 ?_
        refine g_topl (show (lZ ((oe w l (rI b) (sI b) (mo (oe w l (rI b) (sI b)) (md v w l) mm)) * (lmn 1000001 v w l mm : Nat))) * (lN (s 12)) = lZ ((oe w l (rI b) (sI b) (mo (oe w l (rI b) (sI b)) (md v w l) mm)) * (lmn 1000001 v w l mm : Nat) * (s 12 : Nat)) from lZ_mul _ _) ?_
        refine g_lsub dX11_factor_231 ?_
        refine g_topl (show (lN ((2 * (s 11)) * (md v w l (mo (oe w l (rI b) (sI b)) (md v w l) mm)))) - (lZ ((oe w l (rI b) (sI b) (mo (oe w l (rI b) (sI b)) (md v w l) mm)) * (lmn 1000001 v w l mm : Nat) * (s 12 : Nat))) = lN (cF2 (s 11) (s 12) (lmn 1000001 v w l mm) (md v w l (mo (oe w l (rI b) (sI b)) (md v w l) mm)) (oe w l (rI b) (sI b) (mo (oe w l (rI b) (sI b)) (md v w l) mm))) from lZ_sub (by rw [k5, Int.mul_assoc]; congr 2; rw [Nat.mul_comm (s 12), Int.natCast_mul])) ?_
        refine cVv (st := []) dX11_factor_232 (c_mtimes G (d + 2) n ex h115 hN119 (s := 7) (F := (cF2 (s 11) (s 12) (lmn 1000001 v w l mm) (md v w l (mo (oe w l (rI b) (sI b)) (md v w l) mm)) (oe w l (rI b) (sI b) (mo (oe w l (rI b) (sI b)) (md v w l) mm)))) (by decide) va_s ff4 rr4) sX11_192 (fr116.at (by intro q; simp only [List.mem_cons, List.not_mem_nil, or_false] at q; omega) (fr111.at (by intro q; simp only [List.mem_cons, List.not_mem_nil, or_false] at q; omega) (fr106.at (by intro q; simp only [List.mem_cons, List.not_mem_nil, or_false] at q; omega) m0))) rfl rfl (by simp only [g_rm]; omega) (by simp only [g_rm]; omega) (Nat.le_of_ble_eq_true rfl) ⟨Nat.le_of_ble_eq_true rfl, Nat.le_of_ble_eq_true rfl⟩ (fun h120 fr121 p122 => ?_)
        have hN124 := p122
        exact e_v dX11_factor_235 rfl (((((g_fr.rf).tr fr106 (by simp)).tr fr111 (by simp)).tr fr116 (by simp)).tr fr121 (by simp)) (hN124.le (fun u hu => Or.inl (by
          by_cases z7 : u = 7
          · subst z7; rw [va_s, va_s, Nat.mul_assoc pd]
          · by_cases z6 : u = 6
            · subst z6; rw [va_n z7, va_n z7, va_n z7, va_s, va_s, Nat.mul_assoc pn]
            · rw [va_n z7, va_n z6, va_n z7, va_n z7, va_n z6, va_n z6]))) (by decide) (by decide)
      · exact absurd c115 (by decide)
