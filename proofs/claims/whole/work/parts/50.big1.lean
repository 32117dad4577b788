abbrev ML (X : Nat → Int32) : List Value := [.int (X 0), .ref 143, .int (X 2), .int (X 3), .int (X 4), .ref 144, .int (X 6), .int (X 7), .ref 145, .int (X 9), .int (X 10), .int (X 11), .int (X 12), .ref 146, .int (X 14), .ref 147, .int (X 16), .int (X 17), .int (X 18), .int (X 19), .ref 148, .ref 149, .ref 150, .ref 151, .int (X 24), .ref 152, .ref 153, .ref 154, .int (X 28), .int (X 29), .int (X 30), .int (X 31), .ref 155, .int (X 33), .ref 156, .ref 157, .ref 158, .ref 159, .ref 160, .ref 161, .ref 162, .ref 163, .ref 164, .ref 165, .ref 166]
/-- the model's numbers: limbs of 16 bits from o on -/
def bv (B : Nat → Nat) (o : Nat) : Nat → Nat
  | 0 => 0
  | k + 1 => bv B o k + B (o + k) * 65536 ^ k
theorem bv_congr {B C : Nat → Nat} {o p k : Nat} (h : ∀ i, i < k → B (o + i) = C (p + i)) : bv B o k = bv C p k := by
  induction k with
  | zero => rfl
  | succ k ih => show bv B o k + _ = bv C p k + _; rw [ih (fun i hi => h i (by omega)), h k (by omega)]
theorem bv_lt {B : Nat → Nat} (hB : ∀ j, B j < 65536) (o k : Nat) : bv B o k < 65536 ^ k := by
  induction k with
  | zero => exact Nat.one_pos
  | succ k ih =>
    show bv B o k + B (o + k) * 65536 ^ k < 65536 ^ (k + 1)
    rw [Nat.pow_succ]
    have := Nat.mul_le_mul_right (65536 ^ k) (show B (o + k) ≤ 65535 by have := hB (o + k); omega)
    omega
theorem bv_put {B : Nat → Nat} {o k x : Nat} : bv (va_up B (o + k) x) o (k + 1) = bv B o k + x * 65536 ^ k := by
  show bv _ o k + va_up B (o + k) x (o + k) * _ = _
  rw [va_s, bv_congr (C := B) (p := o) (fun i hi => va_n (by omega))]
theorem bv_hi {B : Nat → Nat} {o k j x : Nat} (h : o + k ≤ j) : bv (va_up B j x) o k = bv B o k := bv_congr (fun i hi => va_n (by omega))
theorem up_b {B : Nat → Nat} (hB : ∀ j, B j < 65536) {i x : Nat} (hx : x < 65536) : ∀ j, va_up B i x j < 65536 := fun j => by
  unfold va_up; split
  · exact hx
  · exact hB j
theorem bv_top {B : Nat → Nat} {o k : Nat} (h : k = 0 ∨ ¬ B (o + k - 1) = 0) : k = 0 ∨ 65536 ^ (k - 1) ≤ bv B o k := by
  cases k with
  | zero => exact Or.inl rfl
  | succ k =>
    refine Or.inr ?_
    have h1 : ¬ B (o + k) = 0 := h.elim (fun q => absurd q (by omega)) (fun q => q)
    have := Nat.mul_le_mul_right (65536 ^ k) (show 1 ≤ B (o + k) by omega)
    show 65536 ^ k ≤ bv B o k + B (o + k) * 65536 ^ k
    omega
theorem bv_len {B : Nat → Nat} {o k m : Nat} (h : k = 0 ∨ ¬ B (o + k - 1) = 0) (hv : bv B o k < 65536 ^ m) : k ≤ m := by
  rcases bv_top h with q | q
  · omega
  · rcases Nat.lt_or_ge m k with z | z
    · exact absurd (Nat.lt_of_le_of_lt (Nat.le_trans (Nat.pow_le_pow_right (by decide) (by omega)) q) hv) (Nat.lt_irrefl _)
    · exact z
def RM : Nat := 65536 ^ 1190
/-- the model, its limbs and its lengths -/
def Bg (h : gH) (X : Nat → Int32) (B Z : Nat → Nat) : Prop := h 142 = some (.inr (11, ML X)) ∧ h 156 = some (.inl (0, 10800, .inl (fun k => nI (B k)))) ∧ h 157 = some (.inl (0, 9, .inl (fun k => nI (Z k)))) ∧ ∀ j, B j < 65536
/-- a number: nothing known, or its value -/
def Bs (B Z : Nat → Nat) (s : Nat) : Option Nat → Prop
  | none => True
  | some V => Z s ≤ 1190 ∧ bv B (1200 * s) (Z s) = V ∧ (Z s = 0 ∨ ¬ B (1200 * s + Z s - 1) = 0)
def Bn (h : gH) (X : Nat → Int32) (V : Nat → Option Nat) : Prop := ∃ B Z, Bg h X B Z ∧ ∀ s, s < 9 → Bs B Z s (V s)
theorem Bs.cg {B Z B' Z' : Nat → Nat} {s : Nat} {x : Option Nat} (q : Bs B Z s x) (h1 : Z' s = Z s) (h2 : ∀ i, i < 1200 → B' (1200 * s + i) = B (1200 * s + i)) : Bs B' Z' s x := by
  cases x with
  | none => trivial
  | some V =>
    obtain ⟨q1, q2, q3⟩ := q
    refine ⟨by rw [h1]; exact q1, by rw [h1, ← q2]; exact bv_congr (fun i hi => h2 i (by omega)), ?_⟩
    rw [h1]
    rcases q3 with q | q
    · exact Or.inl q
    · by_cases z : Z s = 0
      · exact Or.inl z
      · refine Or.inr ?_
        have e := h2 (Z s - 1) (by omega)
        rw [show 1200 * s + Z s - 1 = 1200 * s + (Z s - 1) by omega] at q ⊢
        rw [e]; exact q
theorem Bn.set {h' : gH} {X : Nat → Int32} {V : Nat → Option Nat} {B Z B' Z' : Nat → Nat} {s : Nat} {x : Option Nat} (hV : ∀ s, s < 9 → Bs B Z s (V s)) (hg : Bg h' X B' Z') (h1 : ∀ t, ¬ t = s → Z' t = Z t) (h2 : ∀ j, (j < 1200 * s ∨ 1200 * s + 1200 ≤ j) → B' j = B j) (hs : Bs B' Z' s x) : Bn h' X (va_up V s x) := by
  refine ⟨B', Z', hg, fun t ht => ?_⟩
  by_cases q : t = s
  · subst q; rw [va_s]; exact hs
  · rw [va_n q]
    exact (hV t ht).cg (h1 t q) (fun i hi => h2 _ (by omega))
theorem Bn.fr {h h' : gH} {S : List Nat} {X : Nat → Int32} {V : Nat → Option Nat} (z : Bn h X V) (hf : g_fr S h h') (h0 : 142 ∉ S) (h1 : 156 ∉ S) (h2 : 157 ∉ S) : Bn h' X V := by
  obtain ⟨B, Z, ⟨z1, z2, z3, z4⟩, z5⟩ := z
  exact ⟨B, Z, ⟨hf.at h0 z1, hf.at h1 z2, hf.at h2 z3, z4⟩, z5⟩
theorem Bn.cell {h : gH} {X : Nat → Int32} {V : Nat → Option Nat} (z : Bn h X V) : h 142 = some (.inr (11, ML X)) := by obtain ⟨B, Z, ⟨z1, -⟩, -⟩ := z; exact z1
theorem Bn.x {h h' : gH} {X X' : Nat → Int32} {V : Nat → Option Nat} (z : Bn h X V) (h0 : h' 142 = some (.inr (11, ML X'))) (h1 : h' 156 = h 156) (h2 : h' 157 = h 157) : Bn h' X' V := by
  obtain ⟨B, Z, ⟨z1, z2, z3, z4⟩, z5⟩ := z
  exact ⟨B, Z, ⟨h0, h1.trans z2, h2.trans z3, z4⟩, z5⟩
theorem Bn.le {h : gH} {X : Nat → Int32} {V V' : Nat → Option Nat} (z : Bn h X V) (hv : ∀ s, s < 9 → V' s = V s ∨ V' s = none) : Bn h X V' := by
  obtain ⟨B, Z, z1, z2⟩ := z
  refine ⟨B, Z, z1, fun s hs => ?_⟩
  rcases hv s hs with q | q
  · rw [q]; exact z2 s hs
  · rw [q]; trivial
theorem lN_low16 {k : Nat} (h : k < 2 ^ 64) : lN k &&& lN 65535 = lN (k % 65536) := wb_mask (k := 16) h (by decide)
set_option maxHeartbeats 4000000 in
set_option maxRecDepth 100000 in
theorem lp_trim (G : gG) (R : Room) (n : Nat) (ex : Bool) (h0 : gH) {X : Nat → Int32} {B Z0 : Nat → Nat} {s V L : Nat} (hs : s < 9) (hL0 : L ≤ 1200) : ∀ (t : Nat) (Z : Nat → Nat) (h : gH), Z s < t → Bg h X B Z → Z s ≤ L → bv B (1200 * s) (Z s) = V → (∀ k, ¬ k = s → Z k = Z0 k) → g_fr [157] h0 h →
    g_W G mX11_trim R (g_K G (q_v n ex [157] h0 (fun h' => ∃ Z', Bg h' X B Z' ∧ Z' s ≤ L ∧ bv B (1200 * s) (Z' s) = V ∧ (Z' s = 0 ∨ ¬ B (1200 * s + Z' s - 1) = 0) ∧ ∀ k, ¬ k = s → Z' k = Z0 k)) 0 0) n ex h 0 0 0 [(0, .ref 142), (1, .int (nI s))] [] := by
  intro t
  induction t with
  | zero => intro Z h hm; exact absurd hm (by omega)
  | succ t ih =>
    intro Z h ht hg hL hV hZ hf
    obtain ⟨m0, m1, m2, m3⟩ := id hg
    refine g_aload_n dX11_trim_0 rfl rfl ?_
    refine g_getf dX11_trim_1 fX11_79 m0 rfl ?_
    refine g_iload_n dX11_trim_4 rfl rfl ?_
    refine g_ialdN dX11_trim_5 m2 (by omega) (by decide) ?_
    refine g_if_leN (tgt := 44) dX11_trim_6 (by decide) (by omega) (fun c6 => ?_) (fun c6 => ?_)
    · exact e_v dX11_trim_44 rfl hf ⟨Z, ⟨m0, m1, m2, m3⟩, hL, hV, by first | exact Or.inl c6 | exact Or.inr c28, hZ⟩ (by decide) (by decide)
    · refine g_aload_n dX11_trim_9 rfl rfl ?_
      refine g_getf dX11_trim_10 fX11_76 m0 rfl ?_
      refine g_sipush (v := nI 1200) dX11_trim_13 (by decide) ?_
      refine g_iload_n dX11_trim_16 rfl rfl ?_
      refine g_imulN dX11_trim_17 ?_
      refine g_aload_n dX11_trim_18 rfl rfl ?_
      refine g_getf dX11_trim_19 fX11_79 m0 rfl ?_
      refine g_iload_n dX11_trim_22 rfl rfl ?_
      refine g_ialdN dX11_trim_23 m2 (by omega) (by decide) ?_
      refine g_iaddN dX11_trim_24 ?_
      refine g_iconst (v := nI 1) dX11_trim_25 (by decide) ?_
      refine g_isubN dX11_trim_26 (by omega) ?_
      refine g_ialdN dX11_trim_27 m1 (by omega) (by omega) ?_
      refine g_if_neN (tgt := 44) dX11_trim_28 (by decide) (by have := m3 (1200 * s + Z s - 1); omega) (fun c28 => ?_) (fun c28 => ?_)
      · exact e_v dX11_trim_44 rfl hf ⟨Z, ⟨m0, m1, m2, m3⟩, hL, hV, by first | exact Or.inl c6 | exact Or.inr c28, hZ⟩ (by decide) (by decide)
      · refine g_aload_n dX11_trim_31 rfl rfl ?_
        refine g_getf dX11_trim_32 fX11_79 m0 rfl ?_
        refine g_iload_n dX11_trim_35 rfl rfl ?_
        refine g_dup2_11 dX11_trim_36 rfl rfl ?_
        refine g_ialdN dX11_trim_37 m2 (by omega) (by decide) ?_
        refine g_iconst (v := nI 1) dX11_trim_38 (by decide) ?_
        refine g_isubN dX11_trim_39 (by omega) ?_
        refine g_iastN dX11_trim_40 m2 (by omega) (by decide) ?_
        rw [upd_nI]
        refine g_goto (tgt := 0) dX11_trim_41 (by decide) ?_
        have hz : B (1200 * s + (Z s - 1)) = 0 := by rw [show 1200 * s + (Z s - 1) = 1200 * s + Z s - 1 by omega]; exact c28
        have hv2 : bv B (1200 * s) (Z s - 1) = V := by
          rw [← hV]
          conv => rhs; rw [show Z s = Z s - 1 + 1 by omega]
          show _ = bv B (1200 * s) (Z s - 1) + B (1200 * s + (Z s - 1)) * _
          rw [hz, Nat.zero_mul, Nat.add_zero]
        exact ih (va_up Z s (Z s - 1)) _ (by rw [va_s]; omega) ⟨g_ne (by decide) m0, g_ne (by decide) m1, g_eq, m3⟩ (by rw [va_s]; omega) (by rw [va_s]; exact hv2) (fun k hk => (va_n hk).trans (hZ k hk)) (hf.up (by simp))
set_option maxHeartbeats 4000000 in
set_option maxRecDepth 100000 in
theorem c_trim (G : gG) (d n : Nat) (ex : Bool) (h : gH) {X : Nat → Int32} {B Z : Nat → Nat} {s : Nat} (hg : Bg h X B Z) (hs : s < 9) (hL : Z s ≤ 1200) : g_M G mX11_trim d 0 0 [.ref 142, .int (nI s)] n ex h (q_v n ex [157] h (fun h' => ∃ Z', Bg h' X B Z' ∧ Z' s ≤ Z s ∧ bv B (1200 * s) (Z' s) = bv B (1200 * s) (Z s) ∧ (Z' s = 0 ∨ ¬ B (1200 * s + Z' s - 1) = 0) ∧ ∀ k, ¬ k = s → Z' k = Z k)) := by
  refine g_enter (by decide) (Nat.le_of_ble_eq_true rfl) ?_
  show g_W G _ _ _ n ex h 0 0 0 [(0, .ref 142), (1, .int (nI s))] []
  exact lp_trim G _ n ex h hs hL (Z s + 1) Z h (by omega) hg (Nat.le_refl _) rfl (fun _ _ => rfl) g_fr.rf
set_option maxHeartbeats 4000000 in
set_option maxRecDepth 100000 in
theorem lp_give (G : gG) (R : Room) (n : Nat) (ex : Bool) (h0 : gH) {X : Nat → Int32} {V : Nat → Option Nat} {B0 Z0 : Nat → Nat} {s v : Nat} (hs : s < 9) (hV : ∀ s, s < 9 → Bs B0 Z0 s (V s)) : ∀ (t l : Nat) (B Z : Nat → Nat) (h : gH), l < t → l < 2 ^ 63 → Bg h X B Z → Z s ≤ 4 → bv B (1200 * s) (Z s) + l * 65536 ^ (Z s) = v → (l = 0 → Z s = 0 ∨ ¬ B (1200 * s + Z s - 1) = 0) → (∀ k, ¬ k = s → Z k = Z0 k) → (∀ j, (j < 1200 * s ∨ 1200 * s + 1200 ≤ j) → B j = B0 j) → l < 65536 ^ (4 - Z s) → g_fr [156, 157] h0 h →
    g_W G mX11_give R (g_K G (q_v n ex [156, 157] h0 (fun h' => Bn h' X (va_up V s (some v)))) 0 0) n ex h 0 0 10 [(4, .long (lN l)), (0, .ref 142), (1, .int (nI s)), (2, .long (lN v))] [] := by
  intro t
  induction t with
  | zero => intro l B Z h hm; exact absurd hm (by omega)
  | succ t ih =>
    intro l B Z h ht hl63 hg hz hval hnz hZ hO hl hf
    obtain ⟨m0, m1, m2, m3⟩ := id hg
    refine g_lload dX11_give_10 rfl ?_
    refine g_lconst (v := lN 0) dX11_give_12 (by decide) ?_
    refine g_lc_eqN (tgt := 61) dX11_give_13 dX11_give_14 (by decide) (by omega) (by omega) (fun c13 => ?_) (fun c13 => ?_)
    · exact e_v dX11_give_61 rfl hf (Bn.set hV ⟨m0, m1, m2, m3⟩ hZ hO ⟨by omega, by rw [← hval, c13, Nat.zero_mul, Nat.add_zero], hnz c13⟩) (by decide) (by decide)
    · have hz4 : Z s < 4 := by
        rcases Nat.lt_or_ge (Z s) 4 with q | q
        · exact q
        · rw [show 4 - Z s = 0 by omega] at hl; omega
      refine g_aload_n dX11_give_17 rfl rfl ?_
      refine g_getf dX11_give_18 fX11_76 m0 rfl ?_
      refine g_sipush (v := nI 1200) dX11_give_21 (by decide) ?_
      refine g_iload_n dX11_give_24 rfl rfl ?_
      refine g_imulN dX11_give_25 ?_
      refine g_aload_n dX11_give_26 rfl rfl ?_
      refine g_getf dX11_give_27 fX11_79 m0 rfl ?_
      refine g_iload_n dX11_give_30 rfl rfl ?_
      refine g_ialdN dX11_give_31 m2 (by omega) (by decide) ?_
      refine g_iaddN dX11_give_32 ?_
      refine g_lload dX11_give_33 rfl ?_
      refine g_ldc2 dX11_give_35 kX11_186 rfl ?_
      refine g_topl (show (65535 : Int64) = lN 65535 by decide) ?_
      refine g_land dX11_give_38 ?_
      refine g_topl (show (lN l) &&& (lN 65535) = lN (l % 65536) from lN_low16 (by omega)) ?_
      refine g_l2iN dX11_give_39 ?_
      refine g_iastN dX11_give_40 m1 (by omega) (by decide) ?_
      rw [upd_nI]
      refine g_aload_n dX11_give_41 rfl rfl ?_
      refine g_getf dX11_give_42 fX11_79 (g_ne (by decide) m0) rfl ?_
      refine g_iload_n dX11_give_45 rfl rfl ?_
      refine g_dup2_11 dX11_give_46 rfl rfl ?_
      refine g_ialdN dX11_give_47 (g_ne (by decide) m2) (by omega) (by decide) ?_
      refine g_iconst (v := nI 1) dX11_give_48 (by decide) ?_
      refine g_iaddN dX11_give_49 ?_
      refine g_iastN dX11_give_50 (g_ne (by decide) m2) (by omega) (by decide) ?_
      rw [upd_nI]
      refine g_lload dX11_give_51 rfl ?_
      refine g_bipush (v := nI 16) dX11_give_53 (by decide) ?_
      refine g_lushr dX11_give_55 ?_
      refine g_topl (show ((lN l).toUInt64 >>> ((nI 16).toInt64.toUInt64 &&& Int64.toUInt64 63)).toInt64 = lN (l / 65536) from lN_sh16 (by omega)) ?_
      refine g_lstore (ls' := [(4, .long (lN (l / 65536))), (0, .ref 142), (1, .int (nI s)), (2, .long (lN v))]) dX11_give_56 (by decide) rfl ?_
      refine g_goto (tgt := 10) dX11_give_58 (by decide) ?_
      refine g_pick [0, 1, 2, 3] (ls' := [(4, .long (lN (l / 65536))), (0, .ref 142), (1, .int (nI s)), (2, .long (lN v))]) rfl ?_
      refine ih (l / 65536) (va_up B (1200 * s + Z s) (l % 65536)) (va_up Z s (Z s + 1)) _ (by omega) (by omega) ⟨g_ne (by decide) (g_ne (by decide) m0), g_ne (by decide) g_eq, g_eq, up_b m3 (by omega)⟩ (by rw [va_s]; omega) ?_ ?_ (fun k hk => (va_n hk).trans (hZ k hk)) (fun j hj => (va_n (by omega)).trans (hO j hj)) (by rw [va_s]; exact Nat.lt_of_lt_of_le (Nat.div_lt_of_lt_mul (by rw [← Nat.pow_succ']; exact Nat.lt_of_lt_of_le hl (Nat.pow_le_pow_right (by decide) (by omega)))) (Nat.le_refl _)) ((hf.up (by simp)).up (by simp))
      · rw [va_s, bv_put, ← hval, Nat.pow_succ, Nat.mul_comm (65536 ^ Z s) 65536, ← Nat.mul_assoc, Nat.add_assoc, ← Nat.add_mul]
        congr 2; omega
      · intro q
        refine Or.inr ?_
        rw [va_s, show 1200 * s + (Z s + 1) - 1 = 1200 * s + Z s by omega, va_s]
        omega
set_option maxHeartbeats 4000000 in
set_option maxRecDepth 100000 in
theorem c_give (G : gG) (d n : Nat) (ex : Bool) (h : gH) {X : Nat → Int32} {V : Nat → Option Nat} {s v : Nat} (hN : Bn h X V) (hs : s < 9) (hv : v < 2 ^ 63) : g_M G mX11_give d 0 0 [.ref 142, .int (nI s), .long (lN v)] n ex h (q_v n ex [156, 157] h (fun h' => Bn h' X (va_up V s (some v)))) := by
  obtain ⟨B, Z, ⟨m0, m1, m2, m3⟩, hV⟩ := hN
  refine g_enter (by decide) (Nat.le_of_ble_eq_true rfl) ?_
  show g_W G _ _ _ n ex h 0 0 0 [(0, .ref 142), (1, .int (nI s)), (2, .long (lN v))] []
  refine g_aload_n dX11_give_0 rfl rfl ?_
  refine g_getf dX11_give_1 fX11_79 m0 rfl ?_
  refine g_iload_n dX11_give_4 rfl rfl ?_
  refine g_iconst (v := nI 0) dX11_give_5 (by decide) ?_
  refine g_iastN dX11_give_6 m2 (by omega) (by decide) ?_
  rw [upd_nI]
  refine g_lload_n dX11_give_7 rfl rfl ?_
  refine g_lstore (ls' := [(4, .long (lN v)), (0, .ref 142), (1, .int (nI s)), (2, .long (lN v))]) dX11_give_8 (by decide) rfl ?_
  refine g_pick [0, 1, 2, 3] (ls' := [(4, .long (lN v)), (0, .ref 142), (1, .int (nI s)), (2, .long (lN v))]) rfl ?_
  exact lp_give G _ n ex h hs hV (v + 1) v B (va_up Z s 0) _ (by omega) hv ⟨g_ne (by decide) m0, g_ne (by decide) m1, g_eq, m3⟩ (by rw [va_s]; omega) (by rw [va_s]; show 0 + _ = _; omega) (fun _ => Or.inl va_s) (fun k hk => va_n hk) (fun _ _ => rfl) (by rw [va_s]; omega) (g_fr.rf.up (by simp))
set_option maxHeartbeats 4000000 in
set_option maxRecDepth 100000 in
theorem lp_mcopy (G : gG) (R : Room) (n : Nat) (ex : Bool) (h0 : gH) {X : Nat → Int32} {V : Nat → Option Nat} {B0 Z0 : Nat → Nat} {s u v : Nat} (hs : s < 9) (hu : u < 9) (hsu : ¬ s = u) (hV : ∀ s, s < 9 → Bs B0 Z0 s (V s)) (hz1 : Z0 u ≤ 1190) (hz2 : bv B0 (1200 * u) (Z0 u) = v) (hz3 : Z0 u = 0 ∨ ¬ B0 (1200 * u + Z0 u - 1) = 0) : ∀ (t i : Nat) (B Z : Nat → Nat) (h : gH), Z0 u - i < t → i ≤ Z0 u → Bg h X B Z → (∀ k, ¬ k = s → Z k = Z0 k) → Z s = Z0 u → Z u = Z0 u → (∀ j, (j < 1200 * s ∨ 1200 * s + 1200 ≤ j) → B j = B0 j) → (∀ j, j < i → B (1200 * s + j) = B (1200 * u + j)) → (∀ j, j < 1200 → B (1200 * u + j) = B0 (1200 * u + j)) → g_fr [156, 157] h0 h →
    g_W G mX11_copy R (g_K G (q_v n ex [156, 157] h0 (fun h' => Bn h' X (va_up V s (some v)))) 0 0) n ex h 0 0 14 [(3, .int (nI i)), (0, .ref 142), (1, .int (nI s)), (2, .int (nI u))] [] := by
  intro t
  induction t with
  | zero => intro i B Z h hm; exact absurd hm (by omega)
  | succ t ih =>
    intro i B Z h ht hi hg hZ hZs hZu hO hI hOu hf
    obtain ⟨m0, m1, m2, m3⟩ := id hg
    refine g_iload_n dX11_copy_14 rfl rfl ?_
    refine g_aload_n dX11_copy_15 rfl rfl ?_
    refine g_getf dX11_copy_16 fX11_79 m0 rfl ?_
    refine g_iload_n dX11_copy_19 rfl rfl ?_
    refine g_ialdN dX11_copy_20 m2 (by omega) (by decide) ?_
    refine g_icmp_geN (tgt := 54) dX11_copy_21 (by decide) (by omega) (by omega) (fun c21 => ?_) (fun c21 => ?_)
    · exact e_v dX11_copy_54 rfl hf (Bn.set hV ⟨m0, m1, m2, m3⟩ hZ hO ⟨by rw [hZs]; exact hz1, by rw [hZs, ← hz2]; exact bv_congr (fun j hj => (hI j (by omega)).trans (hOu j (by omega))), by rw [hZs]; rcases hz3 with q | q; (exact Or.inl q); by_cases z : Z0 u = 0; (exact Or.inl z); exact Or.inr (by rw [show 1200 * s + Z0 u - 1 = 1200 * s + (Z0 u - 1) by omega, hI _ (by omega), hOu _ (by omega), show 1200 * u + (Z0 u - 1) = 1200 * u + Z0 u - 1 by omega]; exact q)⟩) (by decide) (by decide)
    · refine g_aload_n dX11_copy_24 rfl rfl ?_
      refine g_getf dX11_copy_25 fX11_76 m0 rfl ?_
      refine g_sipush (v := nI 1200) dX11_copy_28 (by decide) ?_
      refine g_iload_n dX11_copy_31 rfl rfl ?_
      refine g_imulN dX11_copy_32 ?_
      refine g_iload_n dX11_copy_33 rfl rfl ?_
      refine g_iaddN dX11_copy_34 ?_
      refine g_aload_n dX11_copy_35 rfl rfl ?_
      refine g_getf dX11_copy_36 fX11_76 m0 rfl ?_
      refine g_sipush (v := nI 1200) dX11_copy_39 (by decide) ?_
      refine g_iload_n dX11_copy_42 rfl rfl ?_
      refine g_imulN dX11_copy_43 ?_
      refine g_iload_n dX11_copy_44 rfl rfl ?_
      refine g_iaddN dX11_copy_45 ?_
      refine g_ialdN dX11_copy_46 m1 (by omega) (by decide) ?_
      refine g_iastN dX11_copy_47 m1 (by omega) (by decide) ?_
      rw [upd_nI]
      refine g_iincN (z := 1) (ls' := [(3, .int (nI (i + 1))), (0, .ref 142), (1, .int (nI s)), (2, .int (nI u))]) dX11_copy_48 rfl (by decide) rfl ?_
      refine g_goto (tgt := 14) dX11_copy_51 (by decide) ?_
      refine g_pick [0, 1, 2, 3] (ls' := [(3, .int (nI (i + 1))), (0, .ref 142), (1, .int (nI s)), (2, .int (nI u))]) rfl ?_
      refine ih (i + 1) (va_up B (1200 * s + i) (B (1200 * u + i))) Z _ (by omega) (by omega) ⟨g_ne (by decide) m0, g_eq, g_ne (by decide) m2, up_b m3 (m3 _)⟩ hZ hZs hZu (fun j hj => (va_n (by omega)).trans (hO j hj)) (fun j hj => ?_) (fun j hj => (va_n (by omega)).trans (hOu j hj)) (hf.up (by simp))
      rw [va_n (show ¬ 1200 * u + j = 1200 * s + i by omega)]
      by_cases q : j = i
      · subst q; rw [va_s]
      · rw [va_n (by omega)]; exact hI j (by omega)
set_option maxHeartbeats 4000000 in
set_option maxRecDepth 100000 in
theorem c_mcopy (G : gG) (d n : Nat) (ex : Bool) (h : gH) {X : Nat → Int32} {V : Nat → Option Nat} {s u v : Nat} (hN : Bn h X V) (hs : s < 9) (hu : u < 9) (hsu : ¬ s = u) (hv : V u = some v) : g_M G mX11_copy d 0 0 [.ref 142, .int (nI s), .int (nI u)] n ex h (q_v n ex [156, 157] h (fun h' => Bn h' X (va_up V s (some v)))) := by
  obtain ⟨B, Z, ⟨m0, m1, m2, m3⟩, hV⟩ := hN
  have hVu := hV u hu
  rw [hv] at hVu
  obtain ⟨q1, q2, q3⟩ := hVu
  refine g_enter (by decide) (Nat.le_of_ble_eq_true rfl) ?_
  show g_W G _ _ _ n ex h 0 0 0 [(0, .ref 142), (1, .int (nI s)), (2, .int (nI u))] []
  refine g_aload_n dX11_copy_0 rfl rfl ?_
  refine g_getf dX11_copy_1 fX11_79 m0 rfl ?_
  refine g_iload_n dX11_copy_4 rfl rfl ?_
  refine g_aload_n dX11_copy_5 rfl rfl ?_
  refine g_getf dX11_copy_6 fX11_79 m0 rfl ?_
  refine g_iload_n dX11_copy_9 rfl rfl ?_
  refine g_ialdN dX11_copy_10 m2 (by omega) (by decide) ?_
  refine g_iastN dX11_copy_11 m2 (by omega) (by decide) ?_
  rw [upd_nI]
  refine g_iconst (v := nI 0) dX11_copy_12 (by decide) ?_
  refine g_istore_n (ls' := [(3, .int (nI 0)), (0, .ref 142), (1, .int (nI s)), (2, .int (nI u))]) dX11_copy_13 rfl (by decide) rfl ?_
  refine g_pick [0, 1, 2, 3] (ls' := [(3, .int (nI 0)), (0, .ref 142), (1, .int (nI s)), (2, .int (nI u))]) rfl ?_
  exact lp_mcopy G _ n ex h hs hu hsu hV q1 q2 q3 (Z u + 1) 0 B (va_up Z s (Z u)) _ (by omega) (by omega) ⟨g_ne (by decide) m0, g_ne (by decide) m1, g_eq, m3⟩ (fun k hk => va_n hk) va_s (va_n (Ne.symm hsu)) (fun _ _ => rfl) (fun j hj => absurd hj (by omega)) (fun _ _ => rfl) (g_fr.rf.up (by simp))
theorem ti_c {F c b : Nat} (hF : F < 70368744177664) (hc : c ≤ F) (hb : b < 65536) : c + F * b < 9223372036854775808 ∧ (c + F * b) / 65536 ≤ F := by
  have h1 : F * b ≤ F * 65535 := Nat.mul_le_mul_left F (by omega)
  have h2 : c + F * b ≤ F * 65536 := by omega
  exact ⟨by omega, by rw [Nat.div_le_iff_le_mul_add_pred (by decide)]; omega⟩
theorem ti_s {x c d F b p v : Nat} (h : x + c * p = F * v) (e : d = c + F * b) : x + d % 65536 * p + d / 65536 * (p * 65536) = F * (v + b * p) := by
  have e1 : d % 65536 * p + d / 65536 * (p * 65536) = d * p := by
    rw [Nat.mul_comm p 65536, ← Nat.mul_assoc, ← Nat.add_mul]
    congr 1; omega
  rw [Nat.add_assoc, e1, e, Nat.add_mul, ← Nat.add_assoc, h, Nat.mul_add, Nat.mul_assoc]
set_option maxHeartbeats 4000000 in
set_option maxRecDepth 100000 in
theorem lp_mtimes2 (G : gG) (d n : Nat) (ex : Bool) (h0 : gH) {X : Nat → Int32} {V : Nat → Option Nat} {B0 Z0 : Nat → Nat} {s a F i : Nat} (hs : s < 9) (hr : a * F < RM) (hV : ∀ s, s < 9 → Bs B0 Z0 s (V s)) : ∀ (t c : Nat) (B Z : Nat → Nat) (h : gH), c < t → c < 9223372036854775808 → Bg h X B Z → Z s ≤ 1190 → bv B (1200 * s) (Z s) + c * 65536 ^ (Z s) = a * F → (∀ k, ¬ k = s → Z k = Z0 k) → (∀ j, (j < 1200 * s ∨ 1200 * s + 1200 ≤ j) → B j = B0 j) → g_fr [156, 157] h0 h →
    g_W G mX11_times (g_rm (d + 1) 0 0) (g_K G (q_v n ex [156, 157] h0 (fun h' => Bn h' X (va_up V s (some (a * F))))) 0 0) n ex h 0 0 71 [(6, .int (nI i)), (4, .long (lN c)), (0, .ref 142), (1, .int (nI s)), (2, .long (lN F))] [] := by
  intro t
  induction t with
  | zero => intro c B Z h hm; exact absurd hm (by omega)
  | succ t ih =>
    intro c B Z h ht hc63 hg hz hval hZ hO hf
    obtain ⟨m0, m1, m2, m3⟩ := id hg
    refine g_lload dX11_times_71 rfl ?_
    refine g_lconst (v := lN 0) dX11_times_73 (by decide) ?_
    refine g_lc_eqN (tgt := 122) dX11_times_74 dX11_times_75 (by decide) (by omega) (by omega) (fun c74 => ?_) (fun c74 => ?_)
    · have hv2 : bv B (1200 * s) (Z s) = a * F := by rw [← hval, c74, Nat.zero_mul, Nat.add_zero]
      refine g_aload_n dX11_times_122 rfl rfl ?_
      refine g_iload_n dX11_times_123 rfl rfl ?_
      refine cVv (st := []) dX11_times_124 (c_trim G d n ex h ⟨m0, m1, m2, m3⟩ hs (by omega)) sX11_188 m0 rfl rfl (by simp only [g_rm]; omega) (by simp only [g_rm]; omega) (Nat.le_of_ble_eq_true rfl) ⟨Nat.le_of_ble_eq_true rfl, Nat.le_of_ble_eq_true rfl⟩ (fun h1 fr2 p3 => ?_)
      obtain ⟨Z2, g2, q1, q2, q3, q4⟩ := p3
      refine e_v dX11_times_127 rfl ((hf).tr fr2 (by simp)) (Bn.set hV g2 (fun k hk => (q4 k hk).trans (hZ k hk)) hO ⟨?_, ?_, q3⟩) (by decide) (by decide)
      · exact bv_len q3 (by rw [q2, hv2]; exact hr)
      · rw [q2, hv2]
    · have hzr : Z s < 1190 := by
        rcases Nat.lt_or_ge (Z s) 1190 with q | q
        · exact q
        · have h9 : 65536 ^ 1190 ≤ 65536 ^ (Z s) := Nat.pow_le_pow_right (by decide) q
          have h8 := Nat.mul_le_mul_right (65536 ^ (Z s)) (show 1 ≤ c by omega)
          exact absurd hr (by show ¬ a * F < 65536 ^ 1190; omega)
      refine g_aload_n dX11_times_78 rfl rfl ?_
      refine g_getf dX11_times_79 fX11_76 m0 rfl ?_
      refine g_sipush (v := nI 1200) dX11_times_82 (by decide) ?_
      refine g_iload_n dX11_times_85 rfl rfl ?_
      refine g_imulN dX11_times_86 ?_
      refine g_aload_n dX11_times_87 rfl rfl ?_
      refine g_getf dX11_times_88 fX11_79 m0 rfl ?_
      refine g_iload_n dX11_times_91 rfl rfl ?_
      refine g_ialdN dX11_times_92 m2 (by omega) (by decide) ?_
      refine g_iaddN dX11_times_93 ?_
      refine g_lload dX11_times_94 rfl ?_
      refine g_ldc2 dX11_times_96 kX11_186 rfl ?_
      refine g_topl (show (65535 : Int64) = lN 65535 by decide) ?_
      refine g_land dX11_times_99 ?_
      refine g_topl (show (lN c) &&& (lN 65535) = lN (c % 65536) from lN_low16 (by omega)) ?_
      refine g_l2iN dX11_times_100 ?_
      refine g_iastN dX11_times_101 m1 (by omega) (by decide) ?_
      rw [upd_nI]
      refine g_aload_n dX11_times_102 rfl rfl ?_
      refine g_getf dX11_times_103 fX11_79 (g_ne (by decide) m0) rfl ?_
      refine g_iload_n dX11_times_106 rfl rfl ?_
      refine g_dup2_11 dX11_times_107 rfl rfl ?_
      refine g_ialdN dX11_times_108 (g_ne (by decide) m2) (by omega) (by decide) ?_
      refine g_iconst (v := nI 1) dX11_times_109 (by decide) ?_
      refine g_iaddN dX11_times_110 ?_
      refine g_iastN dX11_times_111 (g_ne (by decide) m2) (by omega) (by decide) ?_
      rw [upd_nI]
      refine g_lload dX11_times_112 rfl ?_
      refine g_bipush (v := nI 16) dX11_times_114 (by decide) ?_
      refine g_lushr dX11_times_116 ?_
      refine g_topl (show ((lN c).toUInt64 >>> ((nI 16).toInt64.toUInt64 &&& Int64.toUInt64 63)).toInt64 = lN (c / 65536) from lN_sh16 (by omega)) ?_
      refine g_lstore (ls' := [(4, .long (lN (c / 65536))), (6, .int (nI i)), (0, .ref 142), (1, .int (nI s)), (2, .long (lN F))]) dX11_times_117 (by decide) rfl ?_
      refine g_goto (tgt := 71) dX11_times_119 (by decide) ?_
      refine g_pick [1, 0, 2, 3, 4] (ls' := [(6, .int (nI i)), (4, .long (lN (c / 65536))), (0, .ref 142), (1, .int (nI s)), (2, .long (lN F))]) rfl ?_
      refine ih (c / 65536) (va_up B (1200 * s + Z s) (c % 65536)) (va_up Z s (Z s + 1)) _ (by omega) (by omega) ⟨g_ne (by decide) (g_ne (by decide) m0), g_ne (by decide) g_eq, g_eq, up_b m3 (by omega)⟩ (by rw [va_s]; omega) ?_ (fun k hk => (va_n hk).trans (hZ k hk)) (fun j hj => (va_n (by omega)).trans (hO j hj)) ((hf.up (by simp)).up (by simp))
      rw [va_s, bv_put, ← hval, Nat.pow_succ, Nat.mul_comm (65536 ^ Z s) 65536, ← Nat.mul_assoc, Nat.add_assoc, ← Nat.add_mul]
      congr 2; omega
set_option maxHeartbeats 4000000 in
set_option maxRecDepth 100000 in
theorem lp_mtimes (G : gG) (d n : Nat) (ex : Bool) (h0 : gH) {X : Nat → Int32} {V : Nat → Option Nat} {B0 Z0 : Nat → Nat} {s a F : Nat} (hs : s < 9) (hF : F < 70368744177664) (hr : a * F < RM) (hV : ∀ s, s < 9 → Bs B0 Z0 s (V s)) (hz : Z0 s ≤ 1190) (ha : bv B0 (1200 * s) (Z0 s) = a) : ∀ (t c i : Nat) (B : Nat → Nat) (h : gH), Z0 s - i < t → i ≤ Z0 s → Bg h X B Z0 → c ≤ F → bv B (1200 * s) i + c * 65536 ^ i = F * bv B0 (1200 * s) i → (∀ j, i ≤ j → j < 1200 → B (1200 * s + j) = B0 (1200 * s + j)) → (∀ j, (j < 1200 * s ∨ 1200 * s + 1200 ≤ j) → B j = B0 j) → g_fr [156, 157] h0 h →
    g_W G mX11_times (g_rm (d + 1) 0 0) (g_K G (q_v n ex [156, 157] h0 (fun h' => Bn h' X (va_up V s (some (a * F))))) 0 0) n ex h 0 0 6 [(6, .int (nI i)), (4, .long (lN c)), (0, .ref 142), (1, .int (nI s)), (2, .long (lN F))] [] := by
  intro t
  induction t with
  | zero => intro c i B h hm; exact absurd hm (by omega)
  | succ t ih =>
    intro c i B h ht hi hg hcF hval hB0 hO hf
    obtain ⟨m0, m1, m2, m3⟩ := id hg
    have hd_ := m3 (1200 * s + i)
    refine g_iload dX11_times_6 rfl ?_
    refine g_aload_n dX11_times_8 rfl rfl ?_
    refine g_getf dX11_times_9 fX11_79 m0 rfl ?_
    refine g_iload_n dX11_times_12 rfl rfl ?_
    refine g_ialdN dX11_times_13 m2 (by omega) (by decide) ?_
    refine g_icmp_geN (tgt := 71) dX11_times_14 (by decide) (by omega) (by omega) (fun c14 => ?_) (fun c14 => ?_)
    · refine g_pick [0, 1, 2, 3, 4] (ls' := [(6, .int (nI i)), (4, .long (lN c)), (0, .ref 142), (1, .int (nI s)), (2, .long (lN F))]) rfl ?_
      have e : i = Z0 s := by omega
      subst e
      exact lp_mtimes2 G d n ex h0 hs hr hV (c + 1) c B Z0 _ (by omega) (by omega) ⟨m0, m1, m2, m3⟩ hz (by rw [hval, ha, Nat.mul_comm]) (fun _ _ => rfl) hO hf
    · have hx := ti_c hF hcF (m3 (1200 * s + i))
      refine g_lload dX11_times_17 rfl ?_
      refine g_lload_n dX11_times_19 rfl rfl ?_
      refine g_aload_n dX11_times_20 rfl rfl ?_
      refine g_getf dX11_times_21 fX11_76 m0 rfl ?_
      refine g_sipush (v := nI 1200) dX11_times_24 (by decide) ?_
      refine g_iload_n dX11_times_27 rfl rfl ?_
      refine g_imulN dX11_times_28 ?_
      refine g_iload dX11_times_29 rfl ?_
      refine g_iaddN dX11_times_31 ?_
      refine g_ialdN dX11_times_32 m1 (by omega) (by decide) ?_
      refine g_i2lN dX11_times_33 (by omega) ?_
      refine g_lmulN dX11_times_34 ?_
      refine g_laddN dX11_times_35 ?_
      refine g_lstore (ls' := [(4, .long (lN (c + (F * (B ((1200 * s) + i)))))), (6, .int (nI i)), (0, .ref 142), (1, .int (nI s)), (2, .long (lN F))]) dX11_times_36 (by decide) rfl ?_
      refine g_aload_n dX11_times_38 rfl rfl ?_
      refine g_getf dX11_times_39 fX11_76 m0 rfl ?_
      refine g_sipush (v := nI 1200) dX11_times_42 (by decide) ?_
      refine g_iload_n dX11_times_45 rfl rfl ?_
      refine g_imulN dX11_times_46 ?_
      refine g_iload dX11_times_47 rfl ?_
      refine g_iaddN dX11_times_49 ?_
      refine g_lload dX11_times_50 rfl ?_
      refine g_ldc2 dX11_times_52 kX11_186 rfl ?_
      refine g_topl (show (65535 : Int64) = lN 65535 by decide) ?_
      refine g_land dX11_times_55 ?_
      refine g_topl (show (lN (c + (F * (B ((1200 * s) + i))))) &&& (lN 65535) = lN ((c + F * B (1200 * s + i)) % 65536) from lN_low16 (by omega)) ?_
      refine g_l2iN dX11_times_56 ?_
      refine g_iastN dX11_times_57 m1 (by omega) (by decide) ?_
      rw [upd_nI]
      refine g_lload dX11_times_58 rfl ?_
      refine g_bipush (v := nI 16) dX11_times_60 (by decide) ?_
      refine g_lushr dX11_times_62 ?_
      refine g_topl (show ((lN (c + (F * (B ((1200 * s) + i))))).toUInt64 >>> ((nI 16).toInt64.toUInt64 &&& Int64.toUInt64 63)).toInt64 = lN ((c + F * B (1200 * s + i)) / 65536) from lN_sh16 (by omega)) ?_
      refine g_lstore (ls' := [(4, .long (lN ((c + F * B (1200 * s + i)) / 65536))), (6, .int (nI i)), (0, .ref 142), (1, .int (nI s)), (2, .long (lN F))]) dX11_times_63 (by decide) rfl ?_
      refine g_iincN (z := 1) (ls' := [(6, .int (nI (i + 1))), (4, .long (lN ((c + F * B (1200 * s + i)) / 65536))), (0, .ref 142), (1, .int (nI s)), (2, .long (lN F))]) dX11_times_65 rfl (by decide) rfl ?_
      refine g_goto (tgt := 6) dX11_times_68 (by decide) ?_
      refine g_pick [0, 1, 2, 3, 4] (ls' := [(6, .int (nI (i + 1))), (4, .long (lN ((c + F * B (1200 * s + i)) / 65536))), (0, .ref 142), (1, .int (nI s)), (2, .long (lN F))]) rfl ?_
      refine ih ((c + F * B (1200 * s + i)) / 65536) (i + 1) (va_up B (1200 * s + i) ((c + F * B (1200 * s + i)) % 65536)) _ (by omega) (by omega) ⟨g_ne (by decide) m0, g_eq, g_ne (by decide) m2, up_b m3 (Nat.mod_lt _ (by decide))⟩ hx.2 ?_ (fun j h1 h2 => (va_n (by omega)).trans (hB0 j (by omega) h2)) (fun j hj => (va_n (by omega)).trans (hO j hj)) (hf.up (by simp))
      rw [bv_put, Nat.pow_succ]
      show _ = F * (bv B0 (1200 * s) i + B0 (1200 * s + i) * 65536 ^ i)
      rw [← hB0 i (by omega) (by omega)]
      exact ti_s hval rfl
set_option maxHeartbeats 4000000 in
set_option maxRecDepth 100000 in
theorem c_mtimes (G : gG) (d n : Nat) (ex : Bool) (h : gH) {X : Nat → Int32} {V : Nat → Option Nat} {s a F : Nat} (hN : Bn h X V) (hs : s < 9) (ha : V s = some a) (hF : F < 70368744177664) (hr : a * F < RM) : g_M G mX11_times (d + 1) 0 0 [.ref 142, .int (nI s), .long (lN F)] n ex h (q_v n ex [156, 157] h (fun h' => Bn h' X (va_up V s (some (a * F))))) := by
  obtain ⟨B, Z, ⟨m0, m1, m2, m3⟩, hV⟩ := hN
  have hVs := hV s hs
  rw [ha] at hVs
  obtain ⟨q1, q2, q3⟩ := hVs
  refine g_enter (by decide) (Nat.le_of_ble_eq_true rfl) ?_
  show g_W G _ _ _ n ex h 0 0 0 [(0, .ref 142), (1, .int (nI s)), (2, .long (lN F))] []
  refine g_lconst (v := lN 0) dX11_times_0 (by decide) ?_
  refine g_lstore (ls' := [(4, .long (lN 0)), (0, .ref 142), (1, .int (nI s)), (2, .long (lN F))]) dX11_times_1 (by decide) rfl ?_
  refine g_iconst (v := nI 0) dX11_times_3 (by decide) ?_
  refine g_istore (ls' := [(6, .int (nI 0)), (4, .long (lN 0)), (0, .ref 142), (1, .int (nI s)), (2, .long (lN F))]) dX11_times_4 (by decide) rfl ?_
  refine g_pick [0, 1, 2, 3, 4] (ls' := [(6, .int (nI 0)), (4, .long (lN 0)), (0, .ref 142), (1, .int (nI s)), (2, .long (lN F))]) rfl ?_
  exact lp_mtimes G d n ex h hs hF hr hV q1 q2 (Z s + 1) 0 0 B h (by omega) (by omega) ⟨m0, m1, m2, m3⟩ (by omega) (by show 0 + 0 * _ = F * 0; omega) (fun _ _ _ => rfl) (fun _ _ => rfl) g_fr.rf
set_option maxHeartbeats 4000000 in
set_option maxRecDepth 100000 in
theorem lp_power (G : gG) (d n : Nat) (ex : Bool) (h0 : gH) {X : Nat → Int32} {V0 : Nat → Option Nat} {s a F k : Nat} (hs : s < 9) (hF : F < 70368744177664) (hk : k < 2 ^ 31) (hr : ∀ i, i ≤ k → a * F ^ i < RM) : ∀ (t i : Nat) (V : Nat → Option Nat) (h : gH), k - i < t → i ≤ k → Bn h X V → V s = some (a * F ^ i) → (∀ u, ¬ u = s → V u = V0 u) → g_fr [156, 157] h0 h →
    g_W G mX11_power (g_rm (d + 2) 0 0) (g_K G (q_v n ex [156, 157] h0 (fun h' => Bn h' X (va_up V0 s (some (a * F ^ k))))) 0 0) n ex h 0 0 3 [(5, .int (nI i)), (0, .ref 142), (1, .int (nI s)), (2, .long (lN F)), (4, .int (nI k))] [] := by
  intro t
  induction t with
  | zero => intro i V h hm; exact absurd hm (by omega)
  | succ t ih =>
    intro i V h ht hi hN hv hO hf
    have m0 := hN.cell
    refine g_iload dX11_power_3 rfl ?_
    refine g_iload dX11_power_5 rfl ?_
    refine g_icmp_geN (tgt := 22) dX11_power_7 (by decide) (by omega) (by omega) (fun c7 => ?_) (fun c7 => ?_)
    · have e : i = k := by omega
      subst e
      exact e_v dX11_power_22 rfl hf (hN.le (fun u hu => Or.inl (by by_cases q : u = s; (subst q; rw [va_s, hv]); rw [va_n q, hO u q]))) (by decide) (by decide)
    · refine g_aload_n dX11_power_10 rfl rfl ?_
      refine g_iload_n dX11_power_11 rfl rfl ?_
      refine g_lload_n dX11_power_12 rfl rfl ?_
      refine cVv (st := []) dX11_power_13 (c_mtimes G d n ex h hN hs hv hF (by rw [Nat.mul_assoc, ← Nat.pow_succ]; exact hr (i + 1) (by omega))) sX11_192 m0 rfl rfl (by simp only [g_rm]; omega) (by simp only [g_rm]; omega) (Nat.le_of_ble_eq_true rfl) ⟨Nat.le_of_ble_eq_true rfl, Nat.le_of_ble_eq_true rfl⟩ (fun h1 fr2 p3 => ?_)
      refine g_iincN (z := 1) (ls' := [(5, .int (nI (i + 1))), (0, .ref 142), (1, .int (nI s)), (2, .long (lN F)), (4, .int (nI k))]) dX11_power_16 rfl (by decide) rfl ?_
      refine g_goto (tgt := 3) dX11_power_19 (by decide) ?_
      refine g_pick [0, 1, 2, 3, 4] (ls' := [(5, .int (nI (i + 1))), (0, .ref 142), (1, .int (nI s)), (2, .long (lN F)), (4, .int (nI k))]) rfl ?_
      exact ih (i + 1) (va_up V s (some (a * F ^ i * F))) _ (by omega) (by omega) p3 (by rw [va_s, Nat.pow_succ, Nat.mul_assoc]) (fun u hu => (va_n hu).trans (hO u hu)) ((hf).tr fr2 (by simp))
set_option maxHeartbeats 4000000 in
set_option maxRecDepth 100000 in
theorem c_power (G : gG) (d n : Nat) (ex : Bool) (h : gH) {X : Nat → Int32} {V : Nat → Option Nat} {s a F k : Nat} (hN : Bn h X V) (hs : s < 9) (ha : V s = some a) (hF : F < 70368744177664) (hk : k < 2 ^ 31) (hr : ∀ i, i ≤ k → a * F ^ i < RM) : g_M G mX11_power (d + 2) 0 0 [.ref 142, .int (nI s), .long (lN F), .int (nI k)] n ex h (q_v n ex [156, 157] h (fun h' => Bn h' X (va_up V s (some (a * F ^ k))))) := by
  refine g_enter (by decide) (Nat.le_of_ble_eq_true rfl) ?_
  show g_W G _ _ _ n ex h 0 0 0 [(0, .ref 142), (1, .int (nI s)), (2, .long (lN F)), (4, .int (nI k))] []
  refine g_iconst (v := nI 0) dX11_power_0 (by decide) ?_
  refine g_istore (ls' := [(5, .int (nI 0)), (0, .ref 142), (1, .int (nI s)), (2, .long (lN F)), (4, .int (nI k))]) dX11_power_1 (by decide) rfl ?_
  refine g_pick [0, 1, 2, 3, 4] (ls' := [(5, .int (nI 0)), (0, .ref 142), (1, .int (nI s)), (2, .long (lN F)), (4, .int (nI k))]) rfl ?_
  exact lp_power G d n ex h hs hF hk hr (k + 1) 0 V h (by omega) (by omega) hN (by rw [ha, Nat.pow_zero, Nat.mul_one]) (fun _ _ => rfl) g_fr.rf
