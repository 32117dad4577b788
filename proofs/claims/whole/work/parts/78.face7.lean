theorem low_u {A B M D : Nat} (hg : Nat.gcd A B = 1) (hB : 1 ≤ B) (hD : 1 ≤ D) (e : A * D = B * M) : A = M / Nat.gcd M D ∧ B = D / Nat.gcd M D := by
  have h1 : B ∣ D := Nat.Coprime.dvd_of_dvd_mul_left (show Nat.Coprime B A from by rw [Nat.Coprime, Nat.gcd_comm]; exact hg) ⟨M, e⟩
  obtain ⟨t, ht⟩ := h1
  have ht0 : 0 < t := by
    rcases Nat.eq_zero_or_pos t with q | q
    · rw [q, Nat.mul_zero] at ht; omega
    · exact q
  have hM : M = A * t := by
    have h2 : B * M = B * (A * t) := by rw [← e, ht, ← Nat.mul_assoc, Nat.mul_comm A B, Nat.mul_assoc]
    exact Nat.eq_of_mul_eq_mul_left hB h2
  have hgc : Nat.gcd M D = t := by rw [hM, ht, Nat.gcd_mul_right, hg, Nat.one_mul]
  rw [hgc, hM, ht, Nat.mul_div_cancel _ ht0, Nat.mul_div_cancel _ ht0]
  exact ⟨rfl, rfl⟩
theorem rk_s {A B A' B' T z i : Nat} (hB : 1 ≤ B) (e : A * z ^ i = B * T) (e' : A' * (B * z) = B' * (A * 1)) : A' * z ^ (i + 1) = B' * T := by
  refine Nat.eq_of_mul_eq_mul_left hB ?_
  calc B * (A' * z ^ (i + 1)) = A' * (B * z) * z ^ i := by rw [Nat.pow_succ]; ac_rfl
    _ = B' * (A * 1) * z ^ i := by rw [e']
    _ = B' * (A * z ^ i) := by rw [Nat.mul_one]; ac_rfl
    _ = B' * (B * T) := by rw [e]
    _ = B * (B' * T) := by ac_rfl
theorem z_room {z i x : Nat} (hz : z ≤ 20000) (hi : i ≤ 31) (hx : x ≤ z ^ i) : x < 2 ^ (32 * 328) := Nat.lt_of_le_of_lt (Nat.le_trans hx (Nat.le_trans (Nat.pow_le_pow_left hz i) (Nat.pow_le_pow_right (by decide) hi))) (by decide +kernel)
theorem o_room {x : Nat} (h : x < 2 ^ (32 * 40)) : x < 2 ^ (32 * 328) := Nat.lt_of_lt_of_le h (Nat.pow_le_pow_right (by decide) (by decide))
def SR : List Nat := List.range' 124 18
theorem mSR {x : Nat} (h1 : 124 ≤ x) (h2 : x < 142) : x ∈ SR := List.mem_range'.mpr ⟨x - 124, by omega, by omega⟩
theorem mSR' {x : Nat} (h : x ∈ SR) : 124 ≤ x ∧ x < 142 := by
  obtain ⟨i, h1, h2⟩ := List.mem_range'.mp h
  omega
set_option maxHeartbeats 4000000 in
set_option maxRecDepth 100000 in
theorem lp_risk (G : gG) (d n : Nat) (P : Option Value → gH → Prop) (X : String → Prop) (Px : gH → Prop) (h0 : gH) {sg cm sd : Nat} {s v wn en rc : Nat → Nat} {ii nn x y z T : Nat} (hz1 : 1 ≤ z) (hz2 : z ≤ 20000) (hnn : nn ≤ 30) (hT0 : T < 2 ^ (32 * 40)) (hl1 : s 9 ≤ 1000000) (hl2 : s 10 ≤ 1000000) (hPx : ∀ h h', Px h → g_fr [137 + 1, 137 + 2, 137 + 3, 137 + 4] h h' → Px h') (hP : ∀ (r : Int32) (h : gH), r = nI (if z ^ nn * s 9 < T * s 10 then 1 else 0) → Fr h 137 328 (T / Nat.gcd T (z ^ nn)) (z ^ nn / Nat.gcd T (z ^ nn)) → Px h → P (some (.int r)) h) : ∀ (t i A B : Nat) (h : gH), nn - i < t → i ≤ nn → Au h sg cm sd → Su h s v wn en rc → Fr h 137 328 A B → Nat.gcd A B = 1 → 1 ≤ B → A * z ^ i = B * T → A ≤ T → B ≤ z ^ i → Px h → g_fr SR h0 h →
    g_W G mX10_risk (g_rm (d + 7) 8 48) (g_K G (q_t n SR h0 P X) 8 48) n false h 6 36 99 [(6, .int (nI i)), (0, .ref 0), (1, .int (nI ii)), (2, .int (nI nn)), (3, .int (nI x)), (4, .int (nI y)), (5, .int (nI z))] [] := by
  intro t
  induction t with
  | zero => intro i A B h hm; exact absurd hm (by omega)
  | succ t ih =>
    intro i A B h ht hi a0 hs hF hg hB hval hA2 hB2 hpx hf
    obtain ⟨z1, z2, z3, z4, z5⟩ := id hs
    refine g_iload dX10_risk_99 rfl ?_
    refine g_iload_n dX10_risk_101 rfl rfl ?_
    refine g_icmp_geN (tgt := 122) dX10_risk_102 (by decide) (by omega) (by omega) (fun c102 => ?_) (fun c102 => ?_)
    · refine g_aload_n dX10_risk_122 rfl rfl ?_
      refine g_getf dX10_risk_123 fX10_63 a0 rfl ?_
      refine g_aload_n dX10_risk_126 rfl rfl ?_
      refine g_getf dX10_risk_127 fX10_12 a0 rfl ?_
      refine g_getf dX10_risk_130 fX10_119 z1 rfl ?_
      refine g_aload_n dX10_risk_133 rfl rfl ?_
      refine g_getf dX10_risk_134 fX10_12 a0 rfl ?_
      refine g_getf dX10_risk_137 fX10_122 z1 rfl ?_
      refine cVi (st := []) dX10_risk_140 (c_compareWith G (d + 4) n false h hF (by decide) hl1 hl2) sX10_311 hF.1 rfl rfl (by simp only [g_rm]; omega) (by simp only [g_rm]; omega) (Nat.le_of_ble_eq_true rfl) ⟨Nat.le_of_ble_eq_true rfl, Nat.le_of_ble_eq_true rfl⟩ (fun r4 h1 fr2 p3 => ?_)
      cases g_fr0 fr2
      subst p3
      refine g_if_le (tgt := 150) dX10_risk_143 (by decide) (fun c143 => ?_) (fun c143 => ?_)
      · refine g_iconst (v := nI 0) dX10_risk_150 (by decide) ?_
        have e : i = nn := by omega
        subst e
        have hle := cm_le (x := s 10) (y := s 9) hB (Nat.pow_pos hz1 : 0 < z ^ i) hval
        have hlo := low_u hg hB (Nat.pow_pos hz1 : 0 < z ^ i) hval
        exact e_ti dX10_risk_151 rfl rfl hf (hP _ _ (by rw [if_neg (fun q => absurd (cp_gt.mpr (Nat.not_le.mp (fun y => absurd (hle.mp y) (Nat.not_le.mpr q)))) (Int32.not_lt.mpr c143))]) (by rw [← hlo.1, ← hlo.2]; exact hF) hpx) (by decide) (by decide)
      · refine g_iconst (v := nI 1) dX10_risk_146 (by decide) ?_
        refine g_goto (tgt := 151) dX10_risk_147 (by decide) ?_
        have e : i = nn := by omega
        subst e
        have hle := cm_le (x := s 10) (y := s 9) hB (Nat.pow_pos hz1 : 0 < z ^ i) hval
        have hlo := low_u hg hB (Nat.pow_pos hz1 : 0 < z ^ i) hval
        exact e_ti dX10_risk_151 rfl rfl hf (hP _ _ (by rw [if_pos (Nat.not_le.mp (fun q => absurd (hle.mpr q) (Nat.not_le.mpr (cp_gt.mp (Int32.not_le.mp c143)))))]) (by rw [← hlo.1, ← hlo.2]; exact hF) hpx) (by decide) (by decide)
    · refine g_aload_n dX10_risk_105 rfl rfl ?_
      refine g_getf dX10_risk_106 fX10_63 a0 rfl ?_
      refine g_lconst (v := lN 1) dX10_risk_109 (by decide) ?_
      refine g_iload dX10_risk_110 rfl ?_
      refine g_i2lN dX10_risk_112 (by omega) ?_
      refine cVv (st := []) dX10_risk_113 (c_times G (d + 4) n false h hF hg hB (by decide) (by decide) hz1 (by decide) (by omega) (o_room (Nat.lt_of_le_of_lt (by rw [Nat.mul_one]; exact hA2) hT0)) (z_room hz2 (show i + 1 ≤ 31 by omega) (by rw [Nat.pow_succ]; exact Nat.mul_le_mul_right z hB2))) sX10_308 hF.1 rfl rfl (by simp only [g_rm]; omega) (by simp only [g_rm]; omega) (Nat.le_of_ble_eq_true rfl) ⟨Nat.le_of_ble_eq_true rfl, Nat.le_of_ble_eq_true rfl⟩ (fun h5 fr6 p7 => ?_)
      obtain ⟨A', B', hF', hg', hB', e', ha', hb'⟩ := p7
      refine g_iincN (z := 1) (ls' := [(6, .int (nI (i + 1))), (0, .ref 0), (1, .int (nI ii)), (2, .int (nI nn)), (3, .int (nI x)), (4, .int (nI y)), (5, .int (nI z))]) dX10_risk_116 rfl (by decide) rfl ?_
      refine g_goto (tgt := 99) dX10_risk_119 (by decide) ?_
      refine g_pick [0, 1, 2, 3, 4, 5, 6] (ls' := [(6, .int (nI (i + 1))), (0, .ref 0), (1, .int (nI ii)), (2, .int (nI nn)), (3, .int (nI x)), (4, .int (nI y)), (5, .int (nI z))]) rfl ?_
      exact ih (i + 1) A' B' _ (by omega) (by omega) (fr6.at (by intro q; simp only [List.mem_cons, List.not_mem_nil, or_false] at q; omega) a0) (hs.fr fr6 (by simp)) hF' hg' hB' (rk_s hB hval e') (Nat.le_trans ha' (by rw [Nat.mul_one]; exact hA2)) (by rw [Nat.pow_succ]; exact Nat.le_trans hb' (Nat.mul_le_mul_right z hB2)) (hPx _ _ hpx fr6) ((hf).tr fr6 (fun i hi => mSR (by simp at hi; omega) (by simp at hi; omega)))
set_option maxHeartbeats 4000000 in
set_option maxRecDepth 100000 in
theorem c_risk (G : gG) (d n : Nat) (h : gH) {sg cm sd : Nat} (a0 : Au h sg cm sd) (hsg : sg < 2 ^ 31) {s v wn en rc : Nat → Nat} (hs : Su h s v wn en rc) {w l ea eb : Nat → Nat} {sw : Nat → Int32} {mm sr lm A B : Nat} {i_ n_ x_ y_ z_ : Int32} (hT : Te h mm sr lm) (hK : Tk h mm w l v sw ea eb) (ho : Od h) (hF : Fr h 137 328 A B) (hmm : mm ≤ 16) (hV : ∀ k, k < mm → v (l k) < v (w k) ∧ v (w k) ≤ 20000) (hll : s 9 < s 10) (hl1 : s 9 ≤ 1000000) (hl2 : s 10 ≤ 1000000) : g_M G mX10_risk (d + 7) 8 48 [.ref 0, .int i_, .int n_, .int x_, .int y_, .int z_] n false h (q_t n SR h (fun r h' => k_risk sg mm i_ n_ x_ y_ z_ = 0 ∧ r = some (.int (nI (if ((un z_) ^ (un n_)) * s 9 < (Tt (fun a b => decide (t_ge v (s 9) (s 10) (w (un i_)) (l (un i_)) a b)) (un n_) (un x_) (un y_) (un z_ - un x_ - un y_) (un n_)) * s 10 then 1 else 0))) ∧ Fr h' 137 328 ((Tt (fun a b => decide (t_ge v (s 9) (s 10) (w (un i_)) (l (un i_)) a b)) (un n_) (un x_) (un y_) (un z_ - un x_ - un y_) (un n_)) / Nat.gcd (Tt (fun a b => decide (t_ge v (s 9) (s 10) (w (un i_)) (l (un i_)) a b)) (un n_) (un x_) (un y_) (un z_ - un x_ - un y_) (un n_)) ((un z_) ^ (un n_))) (((un z_) ^ (un n_)) / Nat.gcd (Tt (fun a b => decide (t_ge v (s 9) (s 10) (w (un i_)) (l (un i_)) a b)) (un n_) (un x_) (un y_) (un z_ - un x_ - un y_) (un n_)) ((un z_) ^ (un n_))) ∧ Od h') (x_of [xIS, xIB, xIA] (k_risk sg mm i_ n_ x_ y_ z_))) := by
  have hs' := hs
  obtain ⟨z1, z2, z3, z4, z5⟩ := hs'
  obtain ⟨t1, f, t2, t3⟩ := id hT
  obtain ⟨f9, ho2⟩ := ho.2.1
  obtain ⟨g9, ho3⟩ := ho.2.2.1
  refine g_enter (by decide) (Nat.le_of_ble_eq_true rfl) ?_
  show g_W G _ _ _ n false h 0 0 0 [(0, .ref 0), (1, .int i_), (2, .int n_), (3, .int x_), (4, .int y_), (5, .int z_)] []
  refine g_aload_n dX10_risk_0 rfl rfl ?_
  refine cVn (st := []) dX10_risk_1 (c_needNotSetting G d n h a0 hsg) sX10_289 a0 rfl rfl (by simp only [g_rm]; omega) (by simp only [g_rm]; omega) (Nat.le_of_ble_eq_true rfl) ⟨Nat.le_of_ble_eq_true rfl, Nat.le_of_ble_eq_true rfl⟩ (fun p1 => ?_) (fun p1 => g_out rfl (Nat.le_of_ble_eq_true rfl) (Nat.le_of_ble_eq_true rfl) (x_t (by unfold x_of k_risk; rw [if_pos (Decidable.of_not_not p1)]; exact ⟨by decide, rfl⟩)))
  refine g_iload_n dX10_risk_4 rfl rfl ?_
  refine g_aload_n dX10_risk_5 rfl rfl ?_
  refine g_getf dX10_risk_6 fX10_40 a0 rfl ?_
  refine g_getf dX10_risk_9 fX10_230 t1 rfl ?_
  refine cSn (st := []) dX10_risk_12 (c_needIndex G d n h (x := i_) (m := nI mm)) sX10_104 rfl (by simp only [g_rm]; omega) (by simp only [g_rm]; omega) (Nat.le_of_ble_eq_true rfl) ⟨Nat.le_of_ble_eq_true rfl, Nat.le_of_ble_eq_true rfl⟩ (fun p2 => ?_) (fun p2 => g_out rfl (Nat.le_of_ble_eq_true rfl) (Nat.le_of_ble_eq_true rfl) (x_t (by unfold x_of k_risk; rw [if_neg p1, if_pos p2]; exact ⟨by decide, rfl⟩)))
  obtain ⟨ii, hiib, rfl⟩ := nat_ix p2 (by first | decide | omega)
  have hiiu := un_nI (show ii < 4294967296 by omega)
  refine g_iload_n dX10_risk_15 rfl rfl ?_
  refine g_iconst (v := nI 0) dX10_risk_16 (by decide) ?_
  refine g_bipush (v := nI 30) dX10_risk_17 (by decide) ?_
  refine cSn (st := []) dX10_risk_19 (c_needNumber G d n h (x := n_) (a := nI 0) (b := nI 30)) sX10_72 rfl (by simp only [g_rm]; omega) (by simp only [g_rm]; omega) (Nat.le_of_ble_eq_true rfl) ⟨Nat.le_of_ble_eq_true rfl, Nat.le_of_ble_eq_true rfl⟩ (fun p3 => ?_) (fun p3 => g_out rfl (Nat.le_of_ble_eq_true rfl) (Nat.le_of_ble_eq_true rfl) (x_t (by unfold x_of k_risk; rw [if_neg p1, if_neg (nn_ p2), if_pos p3]; exact ⟨by decide, rfl⟩)))
  obtain ⟨nn, hn0, hnn, rfl⟩ := nat_of (by decide) p3 (by decide)
  have hunn := un_nI (show nn < 4294967296 by omega)
  refine g_iload dX10_risk_22 rfl ?_
  refine g_iconst (v := nI 1) dX10_risk_24 (by decide) ?_
  refine g_sipush (v := nI 20000) dX10_risk_25 (by decide) ?_
  refine cSn (st := []) dX10_risk_28 (c_needNumber G d n h (x := z_) (a := nI 1) (b := nI 20000)) sX10_72 rfl (by simp only [g_rm]; omega) (by simp only [g_rm]; omega) (Nat.le_of_ble_eq_true rfl) ⟨Nat.le_of_ble_eq_true rfl, Nat.le_of_ble_eq_true rfl⟩ (fun p4 => ?_) (fun p4 => g_out rfl (Nat.le_of_ble_eq_true rfl) (Nat.le_of_ble_eq_true rfl) (x_t (by unfold x_of k_risk; rw [if_neg p1, if_neg (nn_ p2), if_neg (nn_ p3), if_pos p4]; exact ⟨by decide, rfl⟩)))
  obtain ⟨z, hz1, hz2, rfl⟩ := nat_of (by decide) p4 (by decide)
  have huz := un_nI (show z < 4294967296 by omega)
  refine g_iload_n dX10_risk_31 rfl rfl ?_
  refine g_iconst (v := nI 0) dX10_risk_32 (by decide) ?_
  refine g_iload dX10_risk_33 rfl ?_
  refine cSn (st := []) dX10_risk_35 (c_needNumber G d n h (x := x_) (a := nI 0) (b := nI z)) sX10_72 rfl (by simp only [g_rm]; omega) (by simp only [g_rm]; omega) (Nat.le_of_ble_eq_true rfl) ⟨Nat.le_of_ble_eq_true rfl, Nat.le_of_ble_eq_true rfl⟩ (fun p5 => ?_) (fun p5 => g_out rfl (Nat.le_of_ble_eq_true rfl) (Nat.le_of_ble_eq_true rfl) (x_t (by unfold x_of k_risk; rw [if_neg p1, if_neg (nn_ p2), if_neg (nn_ p3), if_neg (nn_ p4), if_pos p5]; exact ⟨by decide, rfl⟩)))
  obtain ⟨x, hx0, hxz, rfl⟩ := nat_of (by omega) p5 (by decide)
  have hux := un_nI (show x < 4294967296 by omega)
  refine g_iload dX10_risk_38 rfl ?_
  refine g_iconst (v := nI 0) dX10_risk_40 (by decide) ?_
  refine g_iload dX10_risk_41 rfl ?_
  refine g_iload_n dX10_risk_43 rfl rfl ?_
  refine g_isub dX10_risk_44 ?_
  refine cSn (st := []) dX10_risk_45 (c_needNumber G d n h (x := y_) (a := nI 0) (b := (nI z) - (nI x))) sX10_72 rfl (by simp only [g_rm]; omega) (by simp only [g_rm]; omega) (Nat.le_of_ble_eq_true rfl) ⟨Nat.le_of_ble_eq_true rfl, Nat.le_of_ble_eq_true rfl⟩ (fun p6 => ?_) (fun p6 => g_out rfl (Nat.le_of_ble_eq_true rfl) (Nat.le_of_ble_eq_true rfl) (x_t (by unfold x_of k_risk; rw [if_neg p1, if_neg (nn_ p2), if_neg (nn_ p3), if_neg (nn_ p4), if_neg (nn_ p5), if_pos p6]; exact ⟨by decide, rfl⟩)))
  have p9 := p6
  rw [pk_sub hxz] at p9
  obtain ⟨y, hy0, hyz, rfl⟩ := nat_of (b := z - x) (by omega) p9 (by decide)
  have huy := un_nI (show y < 4294967296 by omega)
  have hi16 : ii < 16 := by omega
  have hv9 := hV ii hiib
  have hp9 : Pw h (24 + 6 * ii) (w ii) (l ii) (v (w ii)) (v (l ii)) (sw ii) := (hK ii hiib).1
  have hT0 : (Tt (fun a b => decide (t_ge v (s 9) (s 10) (w ii) (l ii) a b)) nn x y (z - x - y) nn) < 2 ^ (32 * 40) := od_30 (od_Tt (by omega) hnn hnn (by omega)) hnn
  refine g_aload_n dX10_risk_48 rfl rfl ?_
  refine g_getf dX10_risk_49 fX10_54 a0 rfl ?_
  refine g_aload_n dX10_risk_52 rfl rfl ?_
  refine g_getf dX10_risk_53 fX10_40 a0 rfl ?_
  refine g_getf dX10_risk_56 fX10_254 t1 rfl ?_
  refine g_iload_n dX10_risk_59 rfl rfl ?_
  refine g_aaldN (r := 24 + 6 * ii) dX10_risk_60 t2 (by omega) (by omega) (t3 ii hi16) ?_
  refine g_iload_n dX10_risk_61 rfl rfl ?_
  refine g_aload_n dX10_risk_62 rfl rfl ?_
  refine g_getf dX10_risk_63 fX10_12 a0 rfl ?_
  refine cVv (st := []) dX10_risk_66 (c_findLeast G (d + 2) n false h (kq := ii) (wq := w ii) (lq := l ii) (nn := nn) (by omega) (by omega) (by omega) hll hl1 hl2 hnn hi16 hs hp9 ho.1 ho2 ho.2.2.2.1) sX10_292 ho.1 rfl rfl (by simp only [g_rm]; omega) (by simp only [g_rm]; omega) (Nat.le_of_ble_eq_true rfl) ⟨Nat.le_of_ble_eq_true rfl, Nat.le_of_ble_eq_true rfl⟩ (fun h7 fr8 p9 => ?_)
  obtain ⟨hR1, f1, hl1', hlf⟩ := p9
  have hf1 : g_fr SR h h7 := fr8.mono (fun i hi => mSR (by simp at hi; omega) (by simp at hi; omega))
  have hx1 : g_fr [124, 127, 128, 129, 130] h h7 := fr8
  refine g_aload_n dX10_risk_69 rfl rfl ?_
  refine g_getf dX10_risk_70 fX10_54 (fr8.at (by intro q; simp only [List.mem_cons, List.not_mem_nil, or_false] at q; omega) a0) rfl ?_
  refine g_iload_n dX10_risk_73 rfl rfl ?_
  refine g_iload_n dX10_risk_74 rfl rfl ?_
  refine g_iload dX10_risk_75 rfl ?_
  refine g_iload dX10_risk_77 rfl ?_
  refine cVv (st := []) dX10_risk_79 (c_weigh G (d + 2) n false h7 (su := (fun a b => decide (t_ge v (s 9) (s 10) (w ii) (l ii) a b))) (x := x) (y := y) (z := z) hlf hnn (by omega) hz2 (hx1.at (by simp) ho.1) hl1' (hx1.at (by simp) ho3) (ho.2.2.2.2.1.fr hx1 (by simp) (by simp)) (ho.2.2.2.2.2.1.fr hx1 (by simp) (by simp)) (ho.2.2.2.2.2.2.fr hx1 (by simp) (by simp))) sX10_296 (fr8.at (by intro q; simp only [List.mem_cons, List.not_mem_nil, or_false] at q; omega) ho.1) rfl rfl (by simp only [g_rm]; omega) (by simp only [g_rm]; omega) (Nat.le_of_ble_eq_true rfl) ⟨Nat.le_of_ble_eq_true rfl, Nat.le_of_ble_eq_true rfl⟩ (fun h11 fr12 p13 => ?_)
  obtain ⟨hW, hs1', ht1', f2, he1'⟩ := p13
  have hf2 : g_fr SR h h11 := hf1.tr fr12 (fun i hi => mSR (by simp at hi; omega) (by simp at hi; omega))
  have hx2 : g_fr [124, 125, 127, 128, 129, 130, 131, 132, 133, 134, 135, 136] h h11 := (hx1.mono (by simp)).tr fr12 (by simp)
  have hod : Od h11 := ⟨hx2.at (by simp) ho.1, ⟨f1, fr12.at (by simp) hl1'⟩, ⟨f2, he1'⟩, hR1.fr fr12 (by simp) (by simp) (by simp) (by simp) (by simp), hs1', ht1', hW.r⟩
  refine g_aload_n dX10_risk_82 rfl rfl ?_
  refine g_getf dX10_risk_83 fX10_63 (fr12.at (by intro q; simp only [List.mem_cons, List.not_mem_nil, or_false] at q; omega) (fr8.at (by intro q; simp only [List.mem_cons, List.not_mem_nil, or_false] at q; omega) a0)) rfl ?_
  refine g_aload_n dX10_risk_86 rfl rfl ?_
  refine g_getf dX10_risk_87 fX10_54 (fr12.at (by intro q; simp only [List.mem_cons, List.not_mem_nil, or_false] at q; omega) (fr8.at (by intro q; simp only [List.mem_cons, List.not_mem_nil, or_false] at q; omega) a0)) rfl ?_
  refine g_getf dX10_risk_90 fX10_300 (fr12.at (by intro q; simp only [List.mem_cons, List.not_mem_nil, or_false] at q; omega) (fr8.at (by intro q; simp only [List.mem_cons, List.not_mem_nil, or_false] at q; omega) ho.1)) rfl ?_
  refine cVv (st := []) dX10_risk_93 (c_becomeWhole G (d + 4) n false h11 (hF.r.fr hx2 (by simp) (by simp) (by simp) (by simp) (by simp)) hW (by decide) (by decide) (by decide) (o_room hT0) (by omega) (by omega)) sX10_304 (fr12.at (by intro q; simp only [List.mem_cons, List.not_mem_nil, or_false] at q; omega) (fr8.at (by intro q; simp only [List.mem_cons, List.not_mem_nil, or_false] at q; omega) hF.1)) rfl rfl (by simp only [g_rm]; omega) (by simp only [g_rm]; omega) (Nat.le_of_ble_eq_true rfl) ⟨Nat.le_of_ble_eq_true rfl, Nat.le_of_ble_eq_true rfl⟩ (fun h15 fr16 p17 => ?_)
  have hF3 := p17
  have hf3 : g_fr SR h h15 := hf2.tr fr16 (fun i hi => mSR (by simp at hi; omega) (by simp at hi; omega))
  have hod3 := hod.fr fr16 (by simp)
  refine g_iconst (v := nI 0) dX10_risk_96 (by decide) ?_
  refine g_istore (ls' := [(6, .int (nI 0)), (0, .ref 0), (1, .int (nI ii)), (2, .int (nI nn)), (3, .int (nI x)), (4, .int (nI y)), (5, .int (nI z))]) dX10_risk_97 (by decide) rfl ?_
  refine g_pick [0, 1, 2, 3, 4, 5, 6] (ls' := [(6, .int (nI 0)), (0, .ref 0), (1, .int (nI ii)), (2, .int (nI nn)), (3, .int (nI x)), (4, .int (nI y)), (5, .int (nI z))]) rfl ?_
  exact lp_risk G d n _ _ Od h (T := (Tt (fun a b => decide (t_ge v (s 9) (s 10) (w ii) (l ii) a b)) nn x y (z - x - y) nn)) hz1 hz2 hnn hT0 hl1 hl2 (fun h h' q1 q2 => q1.fr q2 (by simp)) (fun r hh q1 q2 q3 => ⟨(by unfold k_risk; rw [if_neg p1, if_neg (nn_ p2), if_neg (nn_ p3), if_neg (nn_ p4), if_neg (nn_ p5), if_neg (nn_ p6)]), by rw [hiiu, hunn, hux, huy, huz, q1], by rw [hiiu, hunn, hux, huy, huz]; exact q2, q3⟩) (nn + 1) 0 (Tt (fun a b => decide (t_ge v (s 9) (s 10) (w ii) (l ii) a b)) nn x y (z - x - y) nn) 1 h15 (by omega) (by omega) (fr16.at (by intro q; simp only [List.mem_cons, List.not_mem_nil, or_false] at q; omega) (fr12.at (by intro q; simp only [List.mem_cons, List.not_mem_nil, or_false] at q; omega) (fr8.at (by intro q; simp only [List.mem_cons, List.not_mem_nil, or_false] at q; omega) a0))) (hs.fr hf3 (fun i hi => by have := mSR' hi; omega)) hF3 (Nat.gcd_one_right _) (Nat.le_refl _) (by rw [Nat.pow_zero, Nat.mul_one, Nat.one_mul]) (Nat.le_refl _) (by rw [Nat.pow_zero]; exact Nat.le_refl _) hod3 hf3
def shM (s v w l ea eb : Nat → Nat) (pn lm : Nat) (i k : Nat) : Nat := match i with
  | 0 => (2 * v (w k)) ^ ea k * (2 * v (l k)) ^ eb k
  | 1 => pn
  | 2 => v (w k)
  | 3 => lm
  | _ => s 9
def shD (s v w l ea eb : Nat → Nat) (pd : Nat) (i k : Nat) : Nat := match i with
  | 0 => (v (w k) + v (l k)) ^ (ea k + eb k)
  | 1 => pd
  | 2 => v (w k) + v (l k)
  | 3 => s 6
  | _ => s 10
theorem sh_room {x e : Nat} (h : x ≤ 40000 ^ e) (he : e ≤ 400) : x < 2 ^ (32 * 328) := Nat.lt_of_le_of_lt (Nat.le_trans h (Nat.pow_le_pow_right (by decide) he)) (by decide +kernel)
theorem sp_room {x e : Nat} (h : x ≤ 2 ^ (51 * e)) (he : e ≤ 200) : x < 2 ^ (32 * 328) := Nat.lt_of_le_of_lt (Nat.le_trans h (Nat.pow_le_pow_right (by decide) (Nat.mul_le_mul_left 51 he))) (by decide +kernel)
theorem sm_room {x : Nat} (h : x ≤ 1000000) : x < 2 ^ (32 * 328) := Nat.lt_of_le_of_lt h (by decide +kernel)
set_option maxHeartbeats 4000000 in
set_option maxRecDepth 100000 in
theorem c_show (G : gG) (d n : Nat) (h : gH) {sg cm sd : Nat} (a0 : Au h sg cm sd) (hsg : sg < 2 ^ 31) {s v wn en rc : Nat → Nat} (hs : Su h s v wn en rc) {w l ea eb : Nat → Nat} {sw : Nat → Int32} {mm sr lm A B pn pd e : Nat} {x y : Int32} (hT : Te h mm sr lm) (hK : Tk h mm w l v sw ea eb) (hF : Fr h 137 328 A B) (hPq : ¬ sg = 0 → Pq h pn pd e) (he2 : e ≤ 200) (hmm : mm ≤ 16) (hV : ∀ k, k < mm → v (l k) < v (w k) ∧ v (w k) ≤ 20000) (hE : ∀ k, k < mm → ea k + eb k ≤ 400) (h31 : ¬ sg = 0 → 1 ≤ s 6 ∧ lm ≤ s 6) (h6 : s 6 ≤ 20000) (hll : s 9 < s 10) (hl1 : s 9 ≤ 1000000) (hl2 : s 10 ≤ 1000000) : g_M G mX10_show (d + 7) 8 48 [.ref 0, .int x, .int y] n false h (q_t n [137 + 1, 137 + 2, 137 + 3, 137 + 4] h (fun r h' => k_show sg mm x y = 0 ∧ r = some (.int (nI (if (shD s v w l ea eb pd (un x) (un y)) ≤ (shM s v w l ea eb pn lm (un x) (un y)) then 1 else 0))) ∧ Fr h' 137 328 ((shM s v w l ea eb pn lm (un x) (un y)) / Nat.gcd (shM s v w l ea eb pn lm (un x) (un y)) (shD s v w l ea eb pd (un x) (un y))) ((shD s v w l ea eb pd (un x) (un y)) / Nat.gcd (shM s v w l ea eb pn lm (un x) (un y)) (shD s v w l ea eb pd (un x) (un y)))) (x_of [xIB, xIS] (k_show sg mm x y))) := by
  have hs' := hs
  obtain ⟨z1, z2, z3, z4, z5⟩ := hs'
  obtain ⟨t1, f, t2, t3⟩ := id hT
  refine g_enter (by decide) (Nat.le_of_ble_eq_true rfl) ?_
  show g_W G _ _ _ n false h 0 0 0 [(0, .ref 0), (1, .int x), (2, .int y)] []
  refine g_iload_n dX10_show_0 rfl rfl ?_
  refine g_iconst (v := nI 5) dX10_show_1 (by decide) ?_
  refine cSn (st := []) dX10_show_2 (c_needIndex G d n h (x := x) (m := nI 5)) sX10_104 rfl (by simp only [g_rm]; omega) (by simp only [g_rm]; omega) (Nat.le_of_ble_eq_true rfl) ⟨Nat.le_of_ble_eq_true rfl, Nat.le_of_ble_eq_true rfl⟩ (fun p1 => ?_) (fun p1 => g_out rfl (Nat.le_of_ble_eq_true rfl) (Nat.le_of_ble_eq_true rfl) (x_t (by unfold x_of k_show; rw [if_pos p1]; exact ⟨by decide, rfl⟩)))
  obtain ⟨j, hjb, rfl⟩ := nat_ix p1 (by first | decide | omega)
  have hju := un_nI (show j < 4294967296 by omega)
  rcases (show j = 0 ∨ j = 1 ∨ j = 2 ∨ j = 3 ∨ j = 4 by omega) with rfl | rfl | rfl | rfl | rfl
  · refine g_iload_n dX10_show_5 rfl rfl ?_
    refine g_iconst (v := nI 4) dX10_show_6 (by decide) ?_
    refine g_icmp_eqN (tgt := 14) dX10_show_7 (by decide) (by decide) (by decide) (fun c7 => ?_) (fun c7 => ?_)
    · exact absurd c7 (by decide)
    · refine g_aload_n dX10_show_10 rfl rfl ?_
      refine cVn (st := []) dX10_show_11 (c_needNotSetting G d n h a0 hsg) sX10_289 a0 rfl rfl (by simp only [g_rm]; omega) (by simp only [g_rm]; omega) (Nat.le_of_ble_eq_true rfl) ⟨Nat.le_of_ble_eq_true rfl, Nat.le_of_ble_eq_true rfl⟩ (fun p2 => ?_) (fun p2 => g_out rfl (Nat.le_of_ble_eq_true rfl) (Nat.le_of_ble_eq_true rfl) (x_t (by unfold x_of k_show; rw [if_neg (nn_ p1), if_pos ⟨by decide, Decidable.of_not_not p2⟩]; exact ⟨by decide, rfl⟩)))
      refine g_iload_n dX10_show_14 rfl rfl ?_
      refine g_if_eqN (tgt := 23) dX10_show_15 (by decide) (by decide) (fun c15 => ?_) (fun c15 => ?_)
      · refine g_iload_n dX10_show_23 rfl rfl ?_
        refine g_aload_n dX10_show_24 rfl rfl ?_
        refine g_getf dX10_show_25 fX10_40 a0 rfl ?_
        refine g_getf dX10_show_28 fX10_230 t1 rfl ?_
        refine cSn (st := []) dX10_show_31 (c_needIndex G d n h (x := y) (m := nI mm)) sX10_104 rfl (by simp only [g_rm]; omega) (by simp only [g_rm]; omega) (Nat.le_of_ble_eq_true rfl) ⟨Nat.le_of_ble_eq_true rfl, Nat.le_of_ble_eq_true rfl⟩ (fun p3 => ?_) (fun p3 => g_out rfl (Nat.le_of_ble_eq_true rfl) (Nat.le_of_ble_eq_true rfl) (x_t (by unfold x_of k_show; rw [if_neg (nn_ p1), if_neg (fun q => p2 q.2), if_pos ⟨by decide, p3⟩]; exact ⟨by decide, rfl⟩)))
        obtain ⟨i, hib, rfl⟩ := nat_ix p3 (by first | decide | omega)
        have hiu := un_nI (show i < 4294967296 by omega)
        refine g_iload_n dX10_show_34 rfl rfl ?_
        refine g_tableIn (tgt := 64) dX10_show_35 (by decide) (by decide) rfl (by decide) ?_
        have hi16 : i < 16 := by omega
        have hp9 := (hK i hib).1
        have hv9 := hV i hib
        refine g_aload_n dX10_show_64 rfl rfl ?_
        refine g_getf dX10_show_65 fX10_63 a0 rfl ?_
        obtain ⟨tAA, tBB, tF, tg, tB1, tE, tA, tB⟩ := (hK i hib).2
        refine g_aload_n dX10_show_68 rfl rfl ?_
        refine g_getf dX10_show_69 fX10_40 a0 rfl ?_
        refine g_getf dX10_show_72 fX10_254 t1 rfl ?_
        refine g_iload_n dX10_show_75 rfl rfl ?_
        refine g_aaldN (r := 24 + 6 * i) dX10_show_76 t2 (by omega) (by omega) (t3 i hi16) ?_
        refine g_getf dX10_show_77 fX10_314 hp9 rfl ?_
        refine cVv (st := []) dX10_show_80 (c_fcopy G (d + 4) n false h (q := 137) (N := 328) hF.r tF (by decide) (by decide) (sh_room tA (by have := hE i hib; omega)) (sh_room tB (by have := hE i hib; omega)) (by omega)) sX10_317 hF.1 rfl rfl (by simp only [g_rm]; omega) (by simp only [g_rm]; omega) (Nat.le_of_ble_eq_true rfl) ⟨Nat.le_of_ble_eq_true rfl, Nat.le_of_ble_eq_true rfl⟩ (fun h4 fr5 p6 => ?_)
        have hF9 := p6
        have hgAB := tg
        have hB9 := tB1
        have heq := tE
        have hD9 := (Nat.pow_pos (by omega) : 0 < (v (w i) + v (l i)) ^ (ea i + eb i))
        refine g_goto (tgt := 188) dX10_show_83 (by decide) ?_
        refine g_aload_n dX10_show_188 rfl rfl ?_
        refine g_getf dX10_show_189 fX10_63 (fr5.at (by intro q; simp only [List.mem_cons, List.not_mem_nil, or_false] at q; omega) a0) rfl ?_
        refine g_iconst (v := nI 1) dX10_show_192 (by decide) ?_
        refine g_iconst (v := nI 1) dX10_show_193 (by decide) ?_
        refine cVi (st := []) dX10_show_194 (c_compareWith G (d + 4) n false h4 hF9 (by decide) (by decide) (by decide)) sX10_311 (fr5.at (by intro q; simp only [List.mem_cons, List.not_mem_nil, or_false] at q; omega) hF.1) rfl rfl (by simp only [g_rm]; omega) (by simp only [g_rm]; omega) (Nat.le_of_ble_eq_true rfl) ⟨Nat.le_of_ble_eq_true rfl, Nat.le_of_ble_eq_true rfl⟩ (fun r11 h8 fr9 p10 => ?_)
        cases g_fr0 fr9
        subst p10
        refine g_if_lt (tgt := 204) dX10_show_197 (by decide) (fun c197 => ?_) (fun c197 => ?_)
        · refine g_iconst (v := nI 0) dX10_show_204 (by decide) ?_
          have hle := fr_le (x := 1) (y := 1) hB9 hD9 (show tAA * (shD s v w l ea eb pd 0 i) = tBB * (shM s v w l ea eb pn lm 0 i) from heq)
          have hlo := low_u (A := tAA) (B := tBB) (M := (shM s v w l ea eb pn lm 0 i)) (D := (shD s v w l ea eb pd 0 i)) hgAB hB9 hD9 heq
          exact e_ti dX10_show_205 rfl rfl ((g_fr.rf).tr fr5 (by simp)) ⟨by unfold k_show; rw [if_neg (nn_ p1), if_neg (fun q => p2 q.2), if_neg (fun q => q.2 p3)], by rw [un_nI (show 0 < 4294967296 by decide), hiu]; show some (Value.int (nI _)) = some (Value.int (nI (if (shD s v w l ea eb pd 0 i) ≤ (shM s v w l ea eb pn lm 0 i) then 1 else 0))); rw [if_neg (fun q => absurd (cp_lt.mp c197) (Nat.not_lt.mpr (hle.mpr (by rw [Nat.mul_one, Nat.mul_one]; exact q))))], by rw [un_nI (show 0 < 4294967296 by decide), hiu]; show Fr _ 137 328 ((shM s v w l ea eb pn lm 0 i) / Nat.gcd (shM s v w l ea eb pn lm 0 i) (shD s v w l ea eb pd 0 i)) ((shD s v w l ea eb pd 0 i) / Nat.gcd (shM s v w l ea eb pn lm 0 i) (shD s v w l ea eb pd 0 i)); rw [← hlo.1, ← hlo.2]; exact hF9⟩ (Nat.le_of_ble_eq_true rfl) (Nat.le_of_ble_eq_true rfl)
        · refine g_iconst (v := nI 1) dX10_show_200 (by decide) ?_
          refine g_goto (tgt := 205) dX10_show_201 (by decide) ?_
          have hle := fr_le (x := 1) (y := 1) hB9 hD9 (show tAA * (shD s v w l ea eb pd 0 i) = tBB * (shM s v w l ea eb pn lm 0 i) from heq)
          have hlo := low_u (A := tAA) (B := tBB) (M := (shM s v w l ea eb pn lm 0 i)) (D := (shD s v w l ea eb pd 0 i)) hgAB hB9 hD9 heq
          exact e_ti dX10_show_205 rfl rfl ((g_fr.rf).tr fr5 (by simp)) ⟨by unfold k_show; rw [if_neg (nn_ p1), if_neg (fun q => p2 q.2), if_neg (fun q => q.2 p3)], by rw [un_nI (show 0 < 4294967296 by decide), hiu]; show some (Value.int (nI _)) = some (Value.int (nI (if (shD s v w l ea eb pd 0 i) ≤ (shM s v w l ea eb pn lm 0 i) then 1 else 0))); rw [if_pos (by have h3 := hle.mp (Nat.not_lt.mp (fun q => c197 (cp_lt.mpr q))); rw [Nat.mul_one, Nat.mul_one] at h3; exact h3)], by rw [un_nI (show 0 < 4294967296 by decide), hiu]; show Fr _ 137 328 ((shM s v w l ea eb pn lm 0 i) / Nat.gcd (shM s v w l ea eb pn lm 0 i) (shD s v w l ea eb pd 0 i)) ((shD s v w l ea eb pd 0 i) / Nat.gcd (shM s v w l ea eb pn lm 0 i) (shD s v w l ea eb pd 0 i)); rw [← hlo.1, ← hlo.2]; exact hF9⟩ (Nat.le_of_ble_eq_true rfl) (Nat.le_of_ble_eq_true rfl)
      · exact absurd c15 (by decide)
  · refine g_iload_n dX10_show_5 rfl rfl ?_
    refine g_iconst (v := nI 4) dX10_show_6 (by decide) ?_
    refine g_icmp_eqN (tgt := 14) dX10_show_7 (by decide) (by decide) (by decide) (fun c7 => ?_) (fun c7 => ?_)
    · exact absurd c7 (by decide)
    · refine g_aload_n dX10_show_10 rfl rfl ?_
      refine cVn (st := []) dX10_show_11 (c_needNotSetting G d n h a0 hsg) sX10_289 a0 rfl rfl (by simp only [g_rm]; omega) (by simp only [g_rm]; omega) (Nat.le_of_ble_eq_true rfl) ⟨Nat.le_of_ble_eq_true rfl, Nat.le_of_ble_eq_true rfl⟩ (fun p12 => ?_) (fun p12 => g_out rfl (Nat.le_of_ble_eq_true rfl) (Nat.le_of_ble_eq_true rfl) (x_t (by unfold x_of k_show; rw [if_neg (nn_ p1), if_pos ⟨by decide, Decidable.of_not_not p12⟩]; exact ⟨by decide, rfl⟩)))
      refine g_iload_n dX10_show_14 rfl rfl ?_
      refine g_if_eqN (tgt := 23) dX10_show_15 (by decide) (by decide) (fun c15 => ?_) (fun c15 => ?_)
      · exact absurd c15 (by decide)
      · refine g_iload_n dX10_show_18 rfl rfl ?_
        refine g_iconst (v := nI 2) dX10_show_19 (by decide) ?_
        refine g_icmp_neN (tgt := 34) dX10_show_20 (by decide) (by decide) (by decide) (fun c20 => ?_) (fun c20 => ?_)
        · refine g_iload_n dX10_show_34 rfl rfl ?_
          refine g_tableIn (tgt := 86) dX10_show_35 (by decide) (by decide) rfl (by decide) ?_
          obtain ⟨qAA, qBB, qF, qg, qB1, qE, qD, qA, qB⟩ := hPq p12
          refine g_aload_n dX10_show_86 rfl rfl ?_
          refine g_getf dX10_show_87 fX10_63 a0 rfl ?_
          refine g_aload_n dX10_show_90 rfl rfl ?_
          refine g_getf dX10_show_91 fX10_40 a0 rfl ?_
          refine g_getf dX10_show_94 fX10_321 t1 rfl ?_
          refine cVv (st := []) dX10_show_97 (c_fcopy G (d + 4) n false h (q := 137) (N := 328) hF.r qF (by decide) (by decide) (sp_room qA he2) (sp_room qB he2) (by omega)) sX10_317 hF.1 rfl rfl (by simp only [g_rm]; omega) (by simp only [g_rm]; omega) (Nat.le_of_ble_eq_true rfl) ⟨Nat.le_of_ble_eq_true rfl, Nat.le_of_ble_eq_true rfl⟩ (fun h13 fr14 p15 => ?_)
          have hF9 := p15
          have hgAB := qg
          have hB9 := qB1
          have heq := qE
          have hD9 := qD
          refine g_goto (tgt := 188) dX10_show_100 (by decide) ?_
          refine g_aload_n dX10_show_188 rfl rfl ?_
          refine g_getf dX10_show_189 fX10_63 (fr14.at (by intro q; simp only [List.mem_cons, List.not_mem_nil, or_false] at q; omega) a0) rfl ?_
          refine g_iconst (v := nI 1) dX10_show_192 (by decide) ?_
          refine g_iconst (v := nI 1) dX10_show_193 (by decide) ?_
          refine cVi (st := []) dX10_show_194 (c_compareWith G (d + 4) n false h13 hF9 (by decide) (by decide) (by decide)) sX10_311 (fr14.at (by intro q; simp only [List.mem_cons, List.not_mem_nil, or_false] at q; omega) hF.1) rfl rfl (by simp only [g_rm]; omega) (by simp only [g_rm]; omega) (Nat.le_of_ble_eq_true rfl) ⟨Nat.le_of_ble_eq_true rfl, Nat.le_of_ble_eq_true rfl⟩ (fun r20 h17 fr18 p19 => ?_)
          cases g_fr0 fr18
          subst p19
          refine g_if_lt (tgt := 204) dX10_show_197 (by decide) (fun c197 => ?_) (fun c197 => ?_)
          · refine g_iconst (v := nI 0) dX10_show_204 (by decide) ?_
            have hle := fr_le (x := 1) (y := 1) hB9 hD9 (show qAA * (shD s v w l ea eb pd 1 (un y)) = qBB * (shM s v w l ea eb pn lm 1 (un y)) from heq)
            have hlo := low_u (A := qAA) (B := qBB) (M := (shM s v w l ea eb pn lm 1 (un y))) (D := (shD s v w l ea eb pd 1 (un y))) hgAB hB9 hD9 heq
            exact e_ti dX10_show_205 rfl rfl ((g_fr.rf).tr fr14 (by simp)) ⟨by unfold k_show; rw [if_neg (nn_ p1), if_neg (fun q => p12 q.2), if_neg (fun q => absurd q.1 (by decide))], by rw [un_nI (show 1 < 4294967296 by decide)]; show some (Value.int (nI _)) = some (Value.int (nI (if (shD s v w l ea eb pd 1 (un y)) ≤ (shM s v w l ea eb pn lm 1 (un y)) then 1 else 0))); rw [if_neg (fun q => absurd (cp_lt.mp c197) (Nat.not_lt.mpr (hle.mpr (by rw [Nat.mul_one, Nat.mul_one]; exact q))))], by rw [un_nI (show 1 < 4294967296 by decide)]; show Fr _ 137 328 ((shM s v w l ea eb pn lm 1 (un y)) / Nat.gcd (shM s v w l ea eb pn lm 1 (un y)) (shD s v w l ea eb pd 1 (un y))) ((shD s v w l ea eb pd 1 (un y)) / Nat.gcd (shM s v w l ea eb pn lm 1 (un y)) (shD s v w l ea eb pd 1 (un y))); rw [← hlo.1, ← hlo.2]; exact hF9⟩ (Nat.le_of_ble_eq_true rfl) (Nat.le_of_ble_eq_true rfl)
          · refine g_iconst (v := nI 1) dX10_show_200 (by decide) ?_
            refine g_goto (tgt := 205) dX10_show_201 (by decide) ?_
            have hle := fr_le (x := 1) (y := 1) hB9 hD9 (show qAA * (shD s v w l ea eb pd 1 (un y)) = qBB * (shM s v w l ea eb pn lm 1 (un y)) from heq)
            have hlo := low_u (A := qAA) (B := qBB) (M := (shM s v w l ea eb pn lm 1 (un y))) (D := (shD s v w l ea eb pd 1 (un y))) hgAB hB9 hD9 heq
            exact e_ti dX10_show_205 rfl rfl ((g_fr.rf).tr fr14 (by simp)) ⟨by unfold k_show; rw [if_neg (nn_ p1), if_neg (fun q => p12 q.2), if_neg (fun q => absurd q.1 (by decide))], by rw [un_nI (show 1 < 4294967296 by decide)]; show some (Value.int (nI _)) = some (Value.int (nI (if (shD s v w l ea eb pd 1 (un y)) ≤ (shM s v w l ea eb pn lm 1 (un y)) then 1 else 0))); rw [if_pos (by have h3 := hle.mp (Nat.not_lt.mp (fun q => c197 (cp_lt.mpr q))); rw [Nat.mul_one, Nat.mul_one] at h3; exact h3)], by rw [un_nI (show 1 < 4294967296 by decide)]; show Fr _ 137 328 ((shM s v w l ea eb pn lm 1 (un y)) / Nat.gcd (shM s v w l ea eb pn lm 1 (un y)) (shD s v w l ea eb pd 1 (un y))) ((shD s v w l ea eb pd 1 (un y)) / Nat.gcd (shM s v w l ea eb pn lm 1 (un y)) (shD s v w l ea eb pd 1 (un y))); rw [← hlo.1, ← hlo.2]; exact hF9⟩ (Nat.le_of_ble_eq_true rfl) (Nat.le_of_ble_eq_true rfl)
        · exact absurd c20 (by decide)
  · refine g_iload_n dX10_show_5 rfl rfl ?_
    refine g_iconst (v := nI 4) dX10_show_6 (by decide) ?_
    refine g_icmp_eqN (tgt := 14) dX10_show_7 (by decide) (by decide) (by decide) (fun c7 => ?_) (fun c7 => ?_)
    · exact absurd c7 (by decide)
    · refine g_aload_n dX10_show_10 rfl rfl ?_
      refine cVn (st := []) dX10_show_11 (c_needNotSetting G d n h a0 hsg) sX10_289 a0 rfl rfl (by simp only [g_rm]; omega) (by simp only [g_rm]; omega) (Nat.le_of_ble_eq_true rfl) ⟨Nat.le_of_ble_eq_true rfl, Nat.le_of_ble_eq_true rfl⟩ (fun p21 => ?_) (fun p21 => g_out rfl (Nat.le_of_ble_eq_true rfl) (Nat.le_of_ble_eq_true rfl) (x_t (by unfold x_of k_show; rw [if_neg (nn_ p1), if_pos ⟨by decide, Decidable.of_not_not p21⟩]; exact ⟨by decide, rfl⟩)))
      refine g_iload_n dX10_show_14 rfl rfl ?_
      refine g_if_eqN (tgt := 23) dX10_show_15 (by decide) (by decide) (fun c15 => ?_) (fun c15 => ?_)
      · exact absurd c15 (by decide)
      · refine g_iload_n dX10_show_18 rfl rfl ?_
        refine g_iconst (v := nI 2) dX10_show_19 (by decide) ?_
        refine g_icmp_neN (tgt := 34) dX10_show_20 (by decide) (by decide) (by decide) (fun c20 => ?_) (fun c20 => ?_)
        · exact absurd c20 (by decide)
        · refine g_iload_n dX10_show_23 rfl rfl ?_
          refine g_aload_n dX10_show_24 rfl rfl ?_
          refine g_getf dX10_show_25 fX10_40 a0 rfl ?_
          refine g_getf dX10_show_28 fX10_230 t1 rfl ?_
          refine cSn (st := []) dX10_show_31 (c_needIndex G d n h (x := y) (m := nI mm)) sX10_104 rfl (by simp only [g_rm]; omega) (by simp only [g_rm]; omega) (Nat.le_of_ble_eq_true rfl) ⟨Nat.le_of_ble_eq_true rfl, Nat.le_of_ble_eq_true rfl⟩ (fun p22 => ?_) (fun p22 => g_out rfl (Nat.le_of_ble_eq_true rfl) (Nat.le_of_ble_eq_true rfl) (x_t (by unfold x_of k_show; rw [if_neg (nn_ p1), if_neg (fun q => p21 q.2), if_pos ⟨by decide, p22⟩]; exact ⟨by decide, rfl⟩)))
          obtain ⟨i, hib, rfl⟩ := nat_ix p22 (by first | decide | omega)
          have hiu := un_nI (show i < 4294967296 by omega)
          refine g_iload_n dX10_show_34 rfl rfl ?_
          refine g_tableIn (tgt := 103) dX10_show_35 (by decide) (by decide) rfl (by decide) ?_
          have hi16 : i < 16 := by omega
          have hp9 := (hK i hib).1
          have hv9 := hV i hib
          refine g_aload_n dX10_show_103 rfl rfl ?_
          refine g_getf dX10_show_104 fX10_63 a0 rfl ?_
          refine g_aload_n dX10_show_107 rfl rfl ?_
          refine g_getf dX10_show_108 fX10_40 a0 rfl ?_
          refine g_getf dX10_show_111 fX10_254 t1 rfl ?_
          refine g_iload_n dX10_show_114 rfl rfl ?_
          refine g_aaldN (r := 24 + 6 * i) dX10_show_115 t2 (by omega) (by omega) (t3 i hi16) ?_
          refine g_getf dX10_show_116 fX10_324 hp9 rfl ?_
          refine g_i2lN dX10_show_119 (by omega) ?_
          refine g_aload_n dX10_show_120 rfl rfl ?_
          refine g_getf dX10_show_121 fX10_40 a0 rfl ?_
          refine g_getf dX10_show_124 fX10_254 t1 rfl ?_
          refine g_iload_n dX10_show_127 rfl rfl ?_
          refine g_aaldN (r := 24 + 6 * i) dX10_show_128 t2 (by omega) (by omega) (t3 i hi16) ?_
          refine cVi (st := [.long (lN (v (w i))), .ref 137]) dX10_show_129 (c_bothVotes G (d + 6) n false h hp9) sX10_327 hp9 rfl rfl (by simp only [g_rm]; omega) (by simp only [g_rm]; omega) (Nat.le_of_ble_eq_true rfl) ⟨Nat.le_of_ble_eq_true rfl, Nat.le_of_ble_eq_true rfl⟩ (fun r26 h23 fr24 p25 => ?_)
          cases g_fr0 fr24
          subst p25
          refine g_i2lN dX10_show_132 (by omega) ?_
          refine cVv (st := []) dX10_show_133 (c_fbecome G (d + 3) n false h hF.r (up := (v (w i))) (low := (v (w i) + v (l i))) (by decide) (by decide) (by omega) (by omega) (by omega) (sm_room (by omega)) (sm_room (by omega))) sX10_330 hF.1 rfl rfl (by simp only [g_rm]; omega) (by simp only [g_rm]; omega) (Nat.le_of_ble_eq_true rfl) ⟨Nat.le_of_ble_eq_true rfl, Nat.le_of_ble_eq_true rfl⟩ (fun h27 fr28 p29 => ?_)
          obtain ⟨A9, B9, hF9, hgAB, hB9, heq, -, -⟩ := p29
          have hD9 : 1 ≤ _ := (show 1 ≤ v (w i) + v (l i) by omega)
          refine g_goto (tgt := 188) dX10_show_136 (by decide) ?_
          refine g_aload_n dX10_show_188 rfl rfl ?_
          refine g_getf dX10_show_189 fX10_63 (fr28.at (by intro q; simp only [List.mem_cons, List.not_mem_nil, or_false] at q; omega) a0) rfl ?_
          refine g_iconst (v := nI 1) dX10_show_192 (by decide) ?_
          refine g_iconst (v := nI 1) dX10_show_193 (by decide) ?_
          refine cVi (st := []) dX10_show_194 (c_compareWith G (d + 4) n false h27 hF9 (by decide) (by decide) (by decide)) sX10_311 (fr28.at (by intro q; simp only [List.mem_cons, List.not_mem_nil, or_false] at q; omega) hF.1) rfl rfl (by simp only [g_rm]; omega) (by simp only [g_rm]; omega) (Nat.le_of_ble_eq_true rfl) ⟨Nat.le_of_ble_eq_true rfl, Nat.le_of_ble_eq_true rfl⟩ (fun r34 h31 fr32 p33 => ?_)
          cases g_fr0 fr32
          subst p33
          refine g_if_lt (tgt := 204) dX10_show_197 (by decide) (fun c197 => ?_) (fun c197 => ?_)
          · refine g_iconst (v := nI 0) dX10_show_204 (by decide) ?_
            have hle := fr_le (x := 1) (y := 1) hB9 hD9 (show A9 * (shD s v w l ea eb pd 2 i) = B9 * (shM s v w l ea eb pn lm 2 i) from heq)
            have hlo := low_u (A := A9) (B := B9) (M := (shM s v w l ea eb pn lm 2 i)) (D := (shD s v w l ea eb pd 2 i)) hgAB hB9 hD9 heq
            exact e_ti dX10_show_205 rfl rfl ((g_fr.rf).tr fr28 (by simp)) ⟨by unfold k_show; rw [if_neg (nn_ p1), if_neg (fun q => p21 q.2), if_neg (fun q => q.2 p22)], by rw [un_nI (show 2 < 4294967296 by decide), hiu]; show some (Value.int (nI _)) = some (Value.int (nI (if (shD s v w l ea eb pd 2 i) ≤ (shM s v w l ea eb pn lm 2 i) then 1 else 0))); rw [if_neg (fun q => absurd (cp_lt.mp c197) (Nat.not_lt.mpr (hle.mpr (by rw [Nat.mul_one, Nat.mul_one]; exact q))))], by rw [un_nI (show 2 < 4294967296 by decide), hiu]; show Fr _ 137 328 ((shM s v w l ea eb pn lm 2 i) / Nat.gcd (shM s v w l ea eb pn lm 2 i) (shD s v w l ea eb pd 2 i)) ((shD s v w l ea eb pd 2 i) / Nat.gcd (shM s v w l ea eb pn lm 2 i) (shD s v w l ea eb pd 2 i)); rw [← hlo.1, ← hlo.2]; exact hF9⟩ (Nat.le_of_ble_eq_true rfl) (Nat.le_of_ble_eq_true rfl)
          · refine g_iconst (v := nI 1) dX10_show_200 (by decide) ?_
            refine g_goto (tgt := 205) dX10_show_201 (by decide) ?_
            have hle := fr_le (x := 1) (y := 1) hB9 hD9 (show A9 * (shD s v w l ea eb pd 2 i) = B9 * (shM s v w l ea eb pn lm 2 i) from heq)
            have hlo := low_u (A := A9) (B := B9) (M := (shM s v w l ea eb pn lm 2 i)) (D := (shD s v w l ea eb pd 2 i)) hgAB hB9 hD9 heq
            exact e_ti dX10_show_205 rfl rfl ((g_fr.rf).tr fr28 (by simp)) ⟨by unfold k_show; rw [if_neg (nn_ p1), if_neg (fun q => p21 q.2), if_neg (fun q => q.2 p22)], by rw [un_nI (show 2 < 4294967296 by decide), hiu]; show some (Value.int (nI _)) = some (Value.int (nI (if (shD s v w l ea eb pd 2 i) ≤ (shM s v w l ea eb pn lm 2 i) then 1 else 0))); rw [if_pos (by have h3 := hle.mp (Nat.not_lt.mp (fun q => c197 (cp_lt.mpr q))); rw [Nat.mul_one, Nat.mul_one] at h3; exact h3)], by rw [un_nI (show 2 < 4294967296 by decide), hiu]; show Fr _ 137 328 ((shM s v w l ea eb pn lm 2 i) / Nat.gcd (shM s v w l ea eb pn lm 2 i) (shD s v w l ea eb pd 2 i)) ((shD s v w l ea eb pd 2 i) / Nat.gcd (shM s v w l ea eb pn lm 2 i) (shD s v w l ea eb pd 2 i)); rw [← hlo.1, ← hlo.2]; exact hF9⟩ (Nat.le_of_ble_eq_true rfl) (Nat.le_of_ble_eq_true rfl)
  · refine g_iload_n dX10_show_5 rfl rfl ?_
    refine g_iconst (v := nI 4) dX10_show_6 (by decide) ?_
    refine g_icmp_eqN (tgt := 14) dX10_show_7 (by decide) (by decide) (by decide) (fun c7 => ?_) (fun c7 => ?_)
    · exact absurd c7 (by decide)
    · refine g_aload_n dX10_show_10 rfl rfl ?_
      refine cVn (st := []) dX10_show_11 (c_needNotSetting G d n h a0 hsg) sX10_289 a0 rfl rfl (by simp only [g_rm]; omega) (by simp only [g_rm]; omega) (Nat.le_of_ble_eq_true rfl) ⟨Nat.le_of_ble_eq_true rfl, Nat.le_of_ble_eq_true rfl⟩ (fun p35 => ?_) (fun p35 => g_out rfl (Nat.le_of_ble_eq_true rfl) (Nat.le_of_ble_eq_true rfl) (x_t (by unfold x_of k_show; rw [if_neg (nn_ p1), if_pos ⟨by decide, Decidable.of_not_not p35⟩]; exact ⟨by decide, rfl⟩)))
      refine g_iload_n dX10_show_14 rfl rfl ?_
      refine g_if_eqN (tgt := 23) dX10_show_15 (by decide) (by decide) (fun c15 => ?_) (fun c15 => ?_)
      · exact absurd c15 (by decide)
      · refine g_iload_n dX10_show_18 rfl rfl ?_
        refine g_iconst (v := nI 2) dX10_show_19 (by decide) ?_
        refine g_icmp_neN (tgt := 34) dX10_show_20 (by decide) (by decide) (by decide) (fun c20 => ?_) (fun c20 => ?_)
        · refine g_iload_n dX10_show_34 rfl rfl ?_
          refine g_tableIn (tgt := 139) dX10_show_35 (by decide) (by decide) rfl (by decide) ?_
          have hlm9 := h31 p35
          refine g_aload_n dX10_show_139 rfl rfl ?_
          refine g_getf dX10_show_140 fX10_63 a0 rfl ?_
          refine g_aload_n dX10_show_143 rfl rfl ?_
          refine g_getf dX10_show_144 fX10_40 a0 rfl ?_
          refine g_getf dX10_show_147 fX10_333 t1 rfl ?_
          refine g_i2lN dX10_show_150 (by omega) ?_
          refine g_aload_n dX10_show_151 rfl rfl ?_
          refine g_getf dX10_show_152 fX10_12 a0 rfl ?_
          refine g_getf dX10_show_155 fX10_96 z1 rfl ?_
          refine g_i2lN dX10_show_158 (by omega) ?_
          refine cVv (st := []) dX10_show_159 (c_fbecome G (d + 3) n false h hF.r (up := lm) (low := (s 6)) (by decide) (by decide) (h31 p35).1 (by omega) (by omega) (sm_room (by omega)) (sm_room (by omega))) sX10_330 hF.1 rfl rfl (by simp only [g_rm]; omega) (by simp only [g_rm]; omega) (Nat.le_of_ble_eq_true rfl) ⟨Nat.le_of_ble_eq_true rfl, Nat.le_of_ble_eq_true rfl⟩ (fun h36 fr37 p38 => ?_)
          obtain ⟨A9, B9, hF9, hgAB, hB9, heq, -, -⟩ := p38
          have hD9 : 1 ≤ _ := (h31 p35).1
          refine g_goto (tgt := 188) dX10_show_162 (by decide) ?_
          refine g_aload_n dX10_show_188 rfl rfl ?_
          refine g_getf dX10_show_189 fX10_63 (fr37.at (by intro q; simp only [List.mem_cons, List.not_mem_nil, or_false] at q; omega) a0) rfl ?_
          refine g_iconst (v := nI 1) dX10_show_192 (by decide) ?_
          refine g_iconst (v := nI 1) dX10_show_193 (by decide) ?_
          refine cVi (st := []) dX10_show_194 (c_compareWith G (d + 4) n false h36 hF9 (by decide) (by decide) (by decide)) sX10_311 (fr37.at (by intro q; simp only [List.mem_cons, List.not_mem_nil, or_false] at q; omega) hF.1) rfl rfl (by simp only [g_rm]; omega) (by simp only [g_rm]; omega) (Nat.le_of_ble_eq_true rfl) ⟨Nat.le_of_ble_eq_true rfl, Nat.le_of_ble_eq_true rfl⟩ (fun r43 h40 fr41 p42 => ?_)
          cases g_fr0 fr41
          subst p42
          refine g_if_lt (tgt := 204) dX10_show_197 (by decide) (fun c197 => ?_) (fun c197 => ?_)
          · refine g_iconst (v := nI 0) dX10_show_204 (by decide) ?_
            have hle := fr_le (x := 1) (y := 1) hB9 hD9 (show A9 * (shD s v w l ea eb pd 3 (un y)) = B9 * (shM s v w l ea eb pn lm 3 (un y)) from heq)
            have hlo := low_u (A := A9) (B := B9) (M := (shM s v w l ea eb pn lm 3 (un y))) (D := (shD s v w l ea eb pd 3 (un y))) hgAB hB9 hD9 heq
            exact e_ti dX10_show_205 rfl rfl ((g_fr.rf).tr fr37 (by simp)) ⟨by unfold k_show; rw [if_neg (nn_ p1), if_neg (fun q => p35 q.2), if_neg (fun q => absurd q.1 (by decide))], by rw [un_nI (show 3 < 4294967296 by decide)]; show some (Value.int (nI _)) = some (Value.int (nI (if (shD s v w l ea eb pd 3 (un y)) ≤ (shM s v w l ea eb pn lm 3 (un y)) then 1 else 0))); rw [if_neg (fun q => absurd (cp_lt.mp c197) (Nat.not_lt.mpr (hle.mpr (by rw [Nat.mul_one, Nat.mul_one]; exact q))))], by rw [un_nI (show 3 < 4294967296 by decide)]; show Fr _ 137 328 ((shM s v w l ea eb pn lm 3 (un y)) / Nat.gcd (shM s v w l ea eb pn lm 3 (un y)) (shD s v w l ea eb pd 3 (un y))) ((shD s v w l ea eb pd 3 (un y)) / Nat.gcd (shM s v w l ea eb pn lm 3 (un y)) (shD s v w l ea eb pd 3 (un y))); rw [← hlo.1, ← hlo.2]; exact hF9⟩ (Nat.le_of_ble_eq_true rfl) (Nat.le_of_ble_eq_true rfl)
          · refine g_iconst (v := nI 1) dX10_show_200 (by decide) ?_
            refine g_goto (tgt := 205) dX10_show_201 (by decide) ?_
            have hle := fr_le (x := 1) (y := 1) hB9 hD9 (show A9 * (shD s v w l ea eb pd 3 (un y)) = B9 * (shM s v w l ea eb pn lm 3 (un y)) from heq)
            have hlo := low_u (A := A9) (B := B9) (M := (shM s v w l ea eb pn lm 3 (un y))) (D := (shD s v w l ea eb pd 3 (un y))) hgAB hB9 hD9 heq
            exact e_ti dX10_show_205 rfl rfl ((g_fr.rf).tr fr37 (by simp)) ⟨by unfold k_show; rw [if_neg (nn_ p1), if_neg (fun q => p35 q.2), if_neg (fun q => absurd q.1 (by decide))], by rw [un_nI (show 3 < 4294967296 by decide)]; show some (Value.int (nI _)) = some (Value.int (nI (if (shD s v w l ea eb pd 3 (un y)) ≤ (shM s v w l ea eb pn lm 3 (un y)) then 1 else 0))); rw [if_pos (by have h3 := hle.mp (Nat.not_lt.mp (fun q => c197 (cp_lt.mpr q))); rw [Nat.mul_one, Nat.mul_one] at h3; exact h3)], by rw [un_nI (show 3 < 4294967296 by decide)]; show Fr _ 137 328 ((shM s v w l ea eb pn lm 3 (un y)) / Nat.gcd (shM s v w l ea eb pn lm 3 (un y)) (shD s v w l ea eb pd 3 (un y))) ((shD s v w l ea eb pd 3 (un y)) / Nat.gcd (shM s v w l ea eb pn lm 3 (un y)) (shD s v w l ea eb pd 3 (un y))); rw [← hlo.1, ← hlo.2]; exact hF9⟩ (Nat.le_of_ble_eq_true rfl) (Nat.le_of_ble_eq_true rfl)
        · exact absurd c20 (by decide)
  · refine g_iload_n dX10_show_5 rfl rfl ?_
    refine g_iconst (v := nI 4) dX10_show_6 (by decide) ?_
    refine g_icmp_eqN (tgt := 14) dX10_show_7 (by decide) (by decide) (by decide) (fun c7 => ?_) (fun c7 => ?_)
    · refine g_iload_n dX10_show_14 rfl rfl ?_
      refine g_if_eqN (tgt := 23) dX10_show_15 (by decide) (by decide) (fun c15 => ?_) (fun c15 => ?_)
      · exact absurd c15 (by decide)
      · refine g_iload_n dX10_show_18 rfl rfl ?_
        refine g_iconst (v := nI 2) dX10_show_19 (by decide) ?_
        refine g_icmp_neN (tgt := 34) dX10_show_20 (by decide) (by decide) (by decide) (fun c20 => ?_) (fun c20 => ?_)
        · refine g_iload_n dX10_show_34 rfl rfl ?_
          refine g_tableOut (tgt := 165) dX10_show_35 (by decide) (by decide) ?_
          refine g_aload_n dX10_show_165 rfl rfl ?_
          refine g_getf dX10_show_166 fX10_63 a0 rfl ?_
          refine g_aload_n dX10_show_169 rfl rfl ?_
          refine g_getf dX10_show_170 fX10_12 a0 rfl ?_
          refine g_getf dX10_show_173 fX10_119 z1 rfl ?_
          refine g_i2lN dX10_show_176 (by omega) ?_
          refine g_aload_n dX10_show_177 rfl rfl ?_
          refine g_getf dX10_show_178 fX10_12 a0 rfl ?_
          refine g_getf dX10_show_181 fX10_122 z1 rfl ?_
          refine g_i2lN dX10_show_184 (by omega) ?_
          refine cVv (st := []) dX10_show_185 (c_fbecome G (d + 3) n false h hF.r (up := (s 9)) (low := (s 10)) (by decide) (by decide) (by omega) (by omega) (by omega) (sm_room (by omega)) (sm_room (by omega))) sX10_330 hF.1 rfl rfl (by simp only [g_rm]; omega) (by simp only [g_rm]; omega) (Nat.le_of_ble_eq_true rfl) ⟨Nat.le_of_ble_eq_true rfl, Nat.le_of_ble_eq_true rfl⟩ (fun h44 fr45 p46 => ?_)
          obtain ⟨A9, B9, hF9, hgAB, hB9, heq, -, -⟩ := p46
          have hD9 : 1 ≤ _ := (show 1 ≤ s 10 by omega)
          refine g_aload_n dX10_show_188 rfl rfl ?_
          refine g_getf dX10_show_189 fX10_63 (fr45.at (by intro q; simp only [List.mem_cons, List.not_mem_nil, or_false] at q; omega) a0) rfl ?_
          refine g_iconst (v := nI 1) dX10_show_192 (by decide) ?_
          refine g_iconst (v := nI 1) dX10_show_193 (by decide) ?_
          refine cVi (st := []) dX10_show_194 (c_compareWith G (d + 4) n false h44 hF9 (by decide) (by decide) (by decide)) sX10_311 (fr45.at (by intro q; simp only [List.mem_cons, List.not_mem_nil, or_false] at q; omega) hF.1) rfl rfl (by simp only [g_rm]; omega) (by simp only [g_rm]; omega) (Nat.le_of_ble_eq_true rfl) ⟨Nat.le_of_ble_eq_true rfl, Nat.le_of_ble_eq_true rfl⟩ (fun r51 h48 fr49 p50 => ?_)
          cases g_fr0 fr49
          subst p50
          refine g_if_lt (tgt := 204) dX10_show_197 (by decide) (fun c197 => ?_) (fun c197 => ?_)
          · refine g_iconst (v := nI 0) dX10_show_204 (by decide) ?_
            have hle := fr_le (x := 1) (y := 1) hB9 hD9 (show A9 * (shD s v w l ea eb pd 4 (un y)) = B9 * (shM s v w l ea eb pn lm 4 (un y)) from heq)
            have hlo := low_u (A := A9) (B := B9) (M := (shM s v w l ea eb pn lm 4 (un y))) (D := (shD s v w l ea eb pd 4 (un y))) hgAB hB9 hD9 heq
            exact e_ti dX10_show_205 rfl rfl ((g_fr.rf).tr fr45 (by simp)) ⟨by unfold k_show; rw [if_neg (nn_ p1), if_neg (fun q => q.1 rfl), if_neg (fun q => absurd q.1 (by decide))], by rw [un_nI (show 4 < 4294967296 by decide)]; show some (Value.int (nI _)) = some (Value.int (nI (if (shD s v w l ea eb pd 4 (un y)) ≤ (shM s v w l ea eb pn lm 4 (un y)) then 1 else 0))); rw [if_neg (fun q => absurd (cp_lt.mp c197) (Nat.not_lt.mpr (hle.mpr (by rw [Nat.mul_one, Nat.mul_one]; exact q))))], by rw [un_nI (show 4 < 4294967296 by decide)]; show Fr _ 137 328 ((shM s v w l ea eb pn lm 4 (un y)) / Nat.gcd (shM s v w l ea eb pn lm 4 (un y)) (shD s v w l ea eb pd 4 (un y))) ((shD s v w l ea eb pd 4 (un y)) / Nat.gcd (shM s v w l ea eb pn lm 4 (un y)) (shD s v w l ea eb pd 4 (un y))); rw [← hlo.1, ← hlo.2]; exact hF9⟩ (Nat.le_of_ble_eq_true rfl) (Nat.le_of_ble_eq_true rfl)
          · refine g_iconst (v := nI 1) dX10_show_200 (by decide) ?_
            refine g_goto (tgt := 205) dX10_show_201 (by decide) ?_
            have hle := fr_le (x := 1) (y := 1) hB9 hD9 (show A9 * (shD s v w l ea eb pd 4 (un y)) = B9 * (shM s v w l ea eb pn lm 4 (un y)) from heq)
            have hlo := low_u (A := A9) (B := B9) (M := (shM s v w l ea eb pn lm 4 (un y))) (D := (shD s v w l ea eb pd 4 (un y))) hgAB hB9 hD9 heq
            exact e_ti dX10_show_205 rfl rfl ((g_fr.rf).tr fr45 (by simp)) ⟨by unfold k_show; rw [if_neg (nn_ p1), if_neg (fun q => q.1 rfl), if_neg (fun q => absurd q.1 (by decide))], by rw [un_nI (show 4 < 4294967296 by decide)]; show some (Value.int (nI _)) = some (Value.int (nI (if (shD s v w l ea eb pd 4 (un y)) ≤ (shM s v w l ea eb pn lm 4 (un y)) then 1 else 0))); rw [if_pos (by have h3 := hle.mp (Nat.not_lt.mp (fun q => c197 (cp_lt.mpr q))); rw [Nat.mul_one, Nat.mul_one] at h3; exact h3)], by rw [un_nI (show 4 < 4294967296 by decide)]; show Fr _ 137 328 ((shM s v w l ea eb pn lm 4 (un y)) / Nat.gcd (shM s v w l ea eb pn lm 4 (un y)) (shD s v w l ea eb pd 4 (un y))) ((shD s v w l ea eb pd 4 (un y)) / Nat.gcd (shM s v w l ea eb pn lm 4 (un y)) (shD s v w l ea eb pd 4 (un y))); rw [← hlo.1, ← hlo.2]; exact hF9⟩ (Nat.le_of_ble_eq_true rfl) (Nat.le_of_ble_eq_true rfl)
        · exact absurd c20 (by decide)
    · exact absurd c7 (by decide)
