/-- how much a vote for c leads w over l -/
def ld (w l : Nat) (c : Int32) : Int := if c = nI w then 1 else if c = nI l then -1 else 0
theorem ld_b (w l : Nat) (c : Int32) : -1 ≤ ld w l c ∧ ld w l c ≤ 1 := by unfold ld; split; decide; split <;> decide
theorem ld_l (w l : Nat) (a b : Int32) : (p_lead w l a - p_lead w l b).toInt64 = lZ (ld w l a - ld w l b) := by
  unfold p_lead ld
  split
  · split
    · rfl
    · split <;> rfl
  · split
    · split
      · rfl
      · split <;> rfl
    · split
      · rfl
      · split <;> rfl
def oe (w l : Nat → Nat) (a b : Int32) (k : Nat) : Int := ld (w k) (l k) a - ld (w k) (l k) b
theorem oe_b (w l : Nat → Nat) (a b : Int32) (k : Nat) : -2 ≤ oe w l a b k ∧ oe w l a b k ≤ 2 := by
  have h1 := ld_b (w k) (l k) a
  have h2 := ld_b (w k) (l k) b
  unfold oe
  omega
def md (v w l : Nat → Nat) (k : Nat) : Nat := v (w k) - v (l k)
/-- the pair with the largest e / d -/
def mo (e : Nat → Int) (d : Nat → Nat) : Nat → Nat
  | 0 => 0
  | i + 1 => if e (mo e d i) * (d i : Int) < e i * (d (mo e d i) : Int) then i else mo e d i
theorem mo_1 (e : Nat → Int) (d : Nat → Nat) : mo e d 1 = 0 := by
  show (if e (mo e d 0) * _ < e 0 * (d (mo e d 0) : Int) then 0 else mo e d 0) = 0
  split <;> rfl
theorem mo_lt (e : Nat → Int) (d : Nat → Nat) (m : Nat) : mo e d (m + 1) < m + 1 := by
  induction m with
  | zero => rw [mo_1]; decide
  | succ m ih =>
    show (if _ then m + 1 else mo e d (m + 1)) < _
    split
    · exact Nat.lt_succ_self _
    · exact Nat.lt_succ_of_lt ih
theorem lZ_mul (a : Int) (b : Nat) : lZ a * lN b = lZ (a * b) := by
  rw [lZ_N]
  unfold lZ
  exact (Int64.ofInt_mul a b).symm
theorem lZ_sub {a F : Nat} {b : Int} (h : (F : Int) = a - b) : lN a - lZ b = lN F := by
  rw [lZ_N, lZ_N, h]
  unfold lZ
  exact (Int64.ofInt_sub a b).symm
theorem lZ_cmp {x y : Int} (x1 : -4611686018427387904 ≤ x) (x2 : x < 4611686018427387904) (y1 : -4611686018427387904 ≤ y) (y2 : y < 4611686018427387904) : lg_cmp (lZ x) (lZ y) ≤ 0 ↔ x ≤ y := by
  have hx := lZ_int (c := x) (by omega) (by omega)
  have hy := lZ_int (c := y) (by omega) (by omega)
  have h := g_lcG (x := lZ x) (y := lZ y)
  rw [Int64.lt_iff_toInt_lt, hx, hy] at h
  constructor
  · intro q
    exact Int.not_lt.mp (fun z => absurd (h.mpr z) (Int32.not_lt.mpr q))
  · intro q
    exact Int32.not_lt.mp (fun z => absurd (h.mp z) (Int.not_lt.mpr q))
theorem oe_md {e : Int} {d : Nat} (h1 : -2 ≤ e) (h2 : e ≤ 2) (hd : d ≤ 20000) : -40000 ≤ e * (d : Int) ∧ e * (d : Int) ≤ 40000 := by
  have hd' : (d : Int) ≤ 20000 := by omega
  have hd0 : (0 : Int) ≤ d := by omega
  have a1 : e * (d : Int) ≤ 2 * d := Int.mul_le_mul_of_nonneg_right h2 hd0
  have a2 : -2 * (d : Int) ≤ e * d := Int.mul_le_mul_of_nonneg_right h1 hd0
  omega
set_option maxHeartbeats 4000000 in
set_option maxRecDepth 100000 in
theorem lp_most (G : gG) (d n : Nat) (ex : Bool) (h : gH) {v w l ea eb : Nat → Nat} {sw : Nat → Int32} {ra rb : Int32} {m sr lm : Nat} (hm : m ≤ 16) (hm1 : 1 ≤ m) (hV : ∀ k, k < m → v (l k) < v (w k) ∧ v (w k) ≤ 20000) (hT : Te h m sr lm) (hK : Tk h m w l v sw ea eb) : ∀ (t i : Nat), m - i < t → i ≤ m → 1 ≤ i →
    g_W G mX8_mostOverstated (g_rm (d + 2) 0 0) (g_K G (q_r n ex [] h (fun r _ => r = 24 + 6 * mo (oe w l ra rb) (md v w l) m)) 0 0) n ex h 0 0 10 [(4, .int (nI i)), (3, .ref (24 + 6 * mo (oe w l ra rb) (md v w l) i)), (0, .ref 17), (1, .int ra), (2, .int rb)] [] := by
  obtain ⟨t1, f, t2, t3⟩ := id hT
  intro t
  induction t with
  | zero => intro i hm; exact absurd hm (by omega)
  | succ t ih =>
    intro i ht hi hi1
    refine g_iload dX8_mostOverstated_10 rfl ?_
    refine g_aload_n dX8_mostOverstated_12 rfl rfl ?_
    refine g_getf dX8_mostOverstated_13 fX8_27 t1 rfl ?_
    refine g_icmp_geN (tgt := 77) dX8_mostOverstated_16 (by decide) (by omega) (by omega) (fun c16 => ?_) (fun c16 => ?_)
    · refine g_aload_n dX8_mostOverstated_77 rfl rfl ?_
      have e : i = m := by omega
      subst e
      exact e_r dX8_mostOverstated_78 rfl g_fr.rf rfl (by decide) (by decide)
    · refine g_aload_n dX8_mostOverstated_19 rfl rfl ?_
      refine g_getf dX8_mostOverstated_20 fX8_11 t1 rfl ?_
      refine g_iload dX8_mostOverstated_23 rfl ?_
      refine g_aaldN (r := 24 + 6 * i) dX8_mostOverstated_25 t2 (by omega) (by decide) (t3 i (by omega)) ?_
      refine g_astore (ls' := [(5, .ref (24 + 6 * i)), (4, .int (nI i)), (3, .ref (24 + 6 * mo (oe w l ra rb) (md v w l) i)), (0, .ref 17), (1, .int ra), (2, .int rb)]) dX8_mostOverstated_26 (by decide) rfl ?_
      have hmo : mo (oe w l ra rb) (md v w l) i < m := Nat.lt_trans (by obtain ⟨j, rfl⟩ : ∃ j, i = j + 1 := ⟨i - 1, by omega⟩; exact mo_lt _ _ j) c16
      have o1 := oe_b w l ra rb i
      have o2 := oe_b w l ra rb (mo (oe w l ra rb) (md v w l) i)
      have v1 := hV i c16
      have v2 := hV _ hmo
      have b1 := oe_md (d := md v w l (mo (oe w l ra rb) (md v w l) i)) o1.1 o1.2 (show v _ - v _ ≤ 20000 by omega)
      have b2 := oe_md (d := md v w l i) o2.1 o2.2 (show v _ - v _ ≤ 20000 by omega)
      refine g_aload dX8_mostOverstated_28 rfl ?_
      refine g_iload_n dX8_mostOverstated_30 rfl rfl ?_
      refine g_iload_n dX8_mostOverstated_31 rfl rfl ?_
      refine cViE (st := []) dX8_mostOverstated_32 (c_overstated G d n ex h (hK i c16).1 (a := ra) (b := rb)) sX8_114 ((hK i c16).1.cell) rfl rfl (by simp only [g_rm]; omega) (by simp only [g_rm]; omega) (Nat.le_of_ble_eq_true rfl) ⟨Nat.le_of_ble_eq_true rfl, Nat.le_of_ble_eq_true rfl⟩ (fun r4 h1 fr2 p3 => ?_)
      cases g_fr0 fr2
      subst p3
      refine g_i2l dX8_mostOverstated_35 ?_
      refine g_topl (show (p_lead (w (i)) (l (i)) ra - p_lead (w (i)) (l (i)) rb).toInt64 = lZ (oe w l ra rb (i)) from ld_l _ _ _ _) ?_
      refine g_aload_n dX8_mostOverstated_36 rfl rfl ?_
      refine cViE (st := [.long (lZ (oe w l ra rb (i)))]) dX8_mostOverstated_37 (c_pmargin G (d + 1) n ex h (hK _ hmo).1 (Nat.le_of_lt (hV _ hmo).1)) sX8_64 ((hK _ hmo).1.cell) rfl rfl (by simp only [g_rm]; omega) (by simp only [g_rm]; omega) (Nat.le_of_ble_eq_true rfl) ⟨Nat.le_of_ble_eq_true rfl, Nat.le_of_ble_eq_true rfl⟩ (fun r8 h5 fr6 p7 => ?_)
      cases g_fr0 fr6
      subst p7
      refine g_i2lN dX8_mostOverstated_40 (by omega) ?_
      refine g_lmul dX8_mostOverstated_41 ?_
      refine g_topl (show (lZ (oe w l ra rb (i))) * (lN (v (w (mo (oe w l ra rb) (md v w l) i)) - v (l (mo (oe w l ra rb) (md v w l) i)))) = lZ (oe w l ra rb (i) * (md v w l (mo (oe w l ra rb) (md v w l) i) : Int)) from lZ_mul _ _) ?_
      refine g_lstore (ls' := [(6, .long (lZ (oe w l ra rb (i) * (md v w l (mo (oe w l ra rb) (md v w l) i) : Int)))), (5, .ref (24 + 6 * i)), (4, .int (nI i)), (3, .ref (24 + 6 * mo (oe w l ra rb) (md v w l) i)), (0, .ref 17), (1, .int ra), (2, .int rb)]) dX8_mostOverstated_42 (by decide) rfl ?_
      refine g_aload_n dX8_mostOverstated_44 rfl rfl ?_
      refine g_iload_n dX8_mostOverstated_45 rfl rfl ?_
      refine g_iload_n dX8_mostOverstated_46 rfl rfl ?_
      refine cViE (st := []) dX8_mostOverstated_47 (c_overstated G d n ex h (hK _ hmo).1 (a := ra) (b := rb)) sX8_114 ((hK _ hmo).1.cell) rfl rfl (by simp only [g_rm]; omega) (by simp only [g_rm]; omega) (Nat.le_of_ble_eq_true rfl) ⟨Nat.le_of_ble_eq_true rfl, Nat.le_of_ble_eq_true rfl⟩ (fun r12 h9 fr10 p11 => ?_)
      cases g_fr0 fr10
      subst p11
      refine g_i2l dX8_mostOverstated_50 ?_
      refine g_topl (show (p_lead (w (mo (oe w l ra rb) (md v w l) i)) (l (mo (oe w l ra rb) (md v w l) i)) ra - p_lead (w (mo (oe w l ra rb) (md v w l) i)) (l (mo (oe w l ra rb) (md v w l) i)) rb).toInt64 = lZ (oe w l ra rb (mo (oe w l ra rb) (md v w l) i)) from ld_l _ _ _ _) ?_
      refine g_aload dX8_mostOverstated_51 rfl ?_
      refine cViE (st := [.long (lZ (oe w l ra rb (mo (oe w l ra rb) (md v w l) i)))]) dX8_mostOverstated_53 (c_pmargin G (d + 1) n ex h (hK i c16).1 (Nat.le_of_lt (hV i c16).1)) sX8_64 ((hK i c16).1.cell) rfl rfl (by simp only [g_rm]; omega) (by simp only [g_rm]; omega) (Nat.le_of_ble_eq_true rfl) ⟨Nat.le_of_ble_eq_true rfl, Nat.le_of_ble_eq_true rfl⟩ (fun r16 h13 fr14 p15 => ?_)
      cases g_fr0 fr14
      subst p15
      refine g_i2lN dX8_mostOverstated_56 (by omega) ?_
      refine g_lmul dX8_mostOverstated_57 ?_
      refine g_topl (show (lZ (oe w l ra rb (mo (oe w l ra rb) (md v w l) i))) * (lN (v (w (i)) - v (l (i)))) = lZ (oe w l ra rb (mo (oe w l ra rb) (md v w l) i) * (md v w l (i) : Int)) from lZ_mul _ _) ?_
      refine g_lstore (ls' := [(8, .long (lZ (oe w l ra rb (mo (oe w l ra rb) (md v w l) i) * (md v w l (i) : Int)))), (6, .long (lZ (oe w l ra rb (i) * (md v w l (mo (oe w l ra rb) (md v w l) i) : Int)))), (5, .ref (24 + 6 * i)), (4, .int (nI i)), (3, .ref (24 + 6 * mo (oe w l ra rb) (md v w l) i)), (0, .ref 17), (1, .int ra), (2, .int rb)]) dX8_mostOverstated_58 (by decide) rfl ?_
      refine g_lload dX8_mostOverstated_60 rfl ?_
      refine g_lload dX8_mostOverstated_62 rfl ?_
      refine g_lcmp dX8_mostOverstated_64 ?_
      refine g_if_le (tgt := 71) dX8_mostOverstated_65 (by decide) (fun c65 => ?_) (fun c65 => ?_)
      · refine g_iincN (z := 1) (ls' := [(4, .int (nI (i + 1))), (8, .long (lZ (oe w l ra rb (mo (oe w l ra rb) (md v w l) i) * (md v w l (i) : Int)))), (6, .long (lZ (oe w l ra rb (i) * (md v w l (mo (oe w l ra rb) (md v w l) i) : Int)))), (5, .ref (24 + 6 * i)), (3, .ref (24 + 6 * mo (oe w l ra rb) (md v w l) i)), (0, .ref 17), (1, .int ra), (2, .int rb)]) dX8_mostOverstated_71 rfl (by decide) rfl ?_
        refine g_goto (tgt := 10) dX8_mostOverstated_74 (by decide) ?_
        refine g_pick [0, 4, 5, 6, 7] (ls' := [(4, .int (nI (i + 1))), (3, .ref (24 + 6 * mo (oe w l ra rb) (md v w l) i)), (0, .ref 17), (1, .int ra), (2, .int rb)]) rfl ?_
        have e : mo (oe w l ra rb) (md v w l) (i + 1) = mo (oe w l ra rb) (md v w l) i := if_neg (Int.not_lt.mpr ((lZ_cmp (x := oe w l ra rb i * (md v w l (mo (oe w l ra rb) (md v w l) i) : Int)) (y := oe w l ra rb (mo (oe w l ra rb) (md v w l) i) * (md v w l i : Int)) (by omega) (by omega) (by omega) (by omega)).mp c65))
        have := ih (i + 1) (by omega) (by omega) (by omega)
        rw [e] at this
        exact this
      · refine g_aload dX8_mostOverstated_68 rfl ?_
        refine g_astore_n (ls' := [(3, .ref (24 + 6 * i)), (8, .long (lZ (oe w l ra rb (mo (oe w l ra rb) (md v w l) i) * (md v w l (i) : Int)))), (6, .long (lZ (oe w l ra rb (i) * (md v w l (mo (oe w l ra rb) (md v w l) i) : Int)))), (5, .ref (24 + 6 * i)), (4, .int (nI i)), (0, .ref 17), (1, .int ra), (2, .int rb)]) dX8_mostOverstated_70 rfl (by decide) rfl ?_
        refine g_iincN (z := 1) (ls' := [(4, .int (nI (i + 1))), (3, .ref (24 + 6 * i)), (8, .long (lZ (oe w l ra rb (mo (oe w l ra rb) (md v w l) i) * (md v w l (i) : Int)))), (6, .long (lZ (oe w l ra rb (i) * (md v w l (mo (oe w l ra rb) (md v w l) i) : Int)))), (5, .ref (24 + 6 * i)), (0, .ref 17), (1, .int ra), (2, .int rb)]) dX8_mostOverstated_71 rfl (by decide) rfl ?_
        refine g_goto (tgt := 10) dX8_mostOverstated_74 (by decide) ?_
        refine g_pick [0, 1, 5, 6, 7] (ls' := [(4, .int (nI (i + 1))), (3, .ref (24 + 6 * i)), (0, .ref 17), (1, .int ra), (2, .int rb)]) rfl ?_
        have e : mo (oe w l ra rb) (md v w l) (i + 1) = i := if_pos (Int.not_le.mp (fun q => c65 ((lZ_cmp (x := oe w l ra rb i * (md v w l (mo (oe w l ra rb) (md v w l) i) : Int)) (y := oe w l ra rb (mo (oe w l ra rb) (md v w l) i) * (md v w l i : Int)) (by omega) (by omega) (by omega) (by omega)).mpr q)))
        have := ih (i + 1) (by omega) (by omega) (by omega)
        rw [e] at this
        exact this
set_option maxHeartbeats 4000000 in
set_option maxRecDepth 100000 in
theorem c_most (G : gG) (d n : Nat) (ex : Bool) (h : gH) {v w l ea eb : Nat → Nat} {sw : Nat → Int32} {ra rb : Int32} {m sr lm : Nat} (hm : m ≤ 16) (hm1 : 1 ≤ m) (hV : ∀ k, k < m → v (l k) < v (w k) ∧ v (w k) ≤ 20000) (hT : Te h m sr lm) (hK : Tk h m w l v sw ea eb) : g_M G mX8_mostOverstated (d + 2) 0 0 [.ref 17, .int ra, .int rb] n ex h (q_r n ex [] h (fun r _ => r = 24 + 6 * mo (oe w l ra rb) (md v w l) m)) := by
  obtain ⟨t1, f, t2, t3⟩ := id hT
  refine g_enter (by decide) (Nat.le_of_ble_eq_true rfl) ?_
  show g_W G _ _ _ n ex h 0 0 0 [(0, .ref 17), (1, .int ra), (2, .int rb)] []
  refine g_aload_n dX8_mostOverstated_0 rfl rfl ?_
  refine g_getf dX8_mostOverstated_1 fX8_11 t1 rfl ?_
  refine g_iconst (v := nI 0) dX8_mostOverstated_4 (by decide) ?_
  refine g_aaldN (r := 24 + 6 * mo (oe w l ra rb) (md v w l) 1) dX8_mostOverstated_5 t2 (by decide) (by decide) (by rw [mo_1]; exact t3 0 (by decide)) ?_
  refine g_astore_n (ls' := [(3, .ref (24 + 6 * mo (oe w l ra rb) (md v w l) 1)), (0, .ref 17), (1, .int ra), (2, .int rb)]) dX8_mostOverstated_6 rfl (by decide) rfl ?_
  refine g_iconst (v := nI 1) dX8_mostOverstated_7 (by decide) ?_
  refine g_istore (ls' := [(4, .int (nI 1)), (3, .ref (24 + 6 * mo (oe w l ra rb) (md v w l) 1)), (0, .ref 17), (1, .int ra), (2, .int rb)]) dX8_mostOverstated_8 (by decide) rfl ?_
  refine g_pick [0, 1, 2, 3, 4] (ls' := [(4, .int (nI 1)), (3, .ref (24 + 6 * mo (oe w l ra rb) (md v w l) 1)), (0, .ref 17), (1, .int ra), (2, .int rb)]) rfl ?_
  exact lp_most G d n ex h hm hm1 hV hT hK (m + 1) 1 (by omega) (by omega) (by omega)
theorem p_room {A x e : Nat} (h : A ≤ 2 ^ (51 * e)) (he : e ≤ 199) (hx : x ≤ 2 ^ 200) : A * x < 2 ^ (32 * 328) := by
  have h1 : A * x ≤ 2 ^ (51 * e) * 2 ^ 200 := Nat.mul_le_mul h hx
  have h2 : 2 ^ (51 * e) ≤ 2 ^ (51 * 199) := Nat.pow_le_pow_right (by decide) (by omega)
  have h3 : 2 ^ (51 * e) * 2 ^ 200 ≤ 2 ^ (51 * 199) * 2 ^ 200 := Nat.mul_le_mul_right _ h2
  have h4 : 2 ^ (51 * 199) * 2 ^ 200 < 2 ^ (32 * 328) := by decide +kernel
  exact Nat.lt_of_le_of_lt (Nat.le_trans h1 h3) h4
def cF2 (u g lm d : Nat) (E : Int) : Nat := (2 * u * d - E * (g * lm : Nat) : Int).toNat
theorem cmp_facts {u g N lm d : Nat} {E : Int} (h1 : g < u) (h2 : u ≤ 1000000) (h3 : N ≤ 20000) (h4 : 1 ≤ N) (h5 : lm ≤ d) (h6 : 1 ≤ d) (h7 : d ≤ 20000) (h8 : lm ≤ N) (e1 : -2 ≤ E) (e2 : E ≤ 2) : g * lm ≤ 2 * u * N ∧ 1 ≤ 2 * u * N ∧ 2 * u * N ≤ 40000000000 ∧ 2 * u * d ≤ 40000000000 ∧ (cF2 u g lm d E : Int) = (2 * u * d : Nat) - E * (g * lm : Nat) ∧ 1 ≤ cF2 u g lm d E ∧ cF2 u g lm d E ≤ 80000000000 := by
  have a1 : g * lm ≤ u * N := Nat.mul_le_mul (Nat.le_of_lt h1) h8
  have a2 : u * N ≤ 1000000 * 20000 := Nat.mul_le_mul h2 h3
  have a3 : u * d ≤ 1000000 * 20000 := Nat.mul_le_mul h2 h7
  have a4 : g * lm ≤ g * d := Nat.mul_le_mul_left _ h5
  have a5 : (g + 1) * d ≤ u * d := Nat.mul_le_mul_right _ h1
  have a6 : 1 * 1 ≤ u * N := Nat.mul_le_mul (by omega) h4
  rw [Nat.add_mul] at a5
  have a7 : 2 * u * N = 2 * (u * N) := Nat.mul_assoc _ _ _
  have a8 : 2 * u * d = 2 * (u * d) := Nat.mul_assoc _ _ _
  have a9 : (2 : Int) * u * d = (2 * u * d : Nat) := by simp
  have b1 : E * ((g * lm : Nat) : Int) ≤ 2 * ((g * lm : Nat) : Int) := Int.mul_le_mul_of_nonneg_right e2 (by omega)
  have b2 : -2 * ((g * lm : Nat) : Int) ≤ E * ((g * lm : Nat) : Int) := Int.mul_le_mul_of_nonneg_right e1 (by omega)
  have c1 : (cF2 u g lm d E : Int) = (2 * u * d : Nat) - E * (g * lm : Nat) := by
    unfold cF2
    rw [a9]
    refine Int.toNat_of_nonneg ?_
    generalize E * ((g * lm : Nat) : Int) = z at *
    generalize g * lm = y at *
    generalize g * d = x at *
    generalize u * d = r at *
    omega
  refine ⟨by omega, by omega, by omega, by omega, c1, ?_, ?_⟩
  · generalize cF2 u g lm d E = f at *
    generalize E * ((g * lm : Nat) : Int) = z at *
    generalize g * lm = y at *
    generalize g * d = x at *
    generalize u * d = r at *
    omega
  · generalize cF2 u g lm d E = f at *
    generalize E * ((g * lm : Nat) : Int) = z at *
    generalize g * lm = y at *
    generalize g * d = x at *
    generalize u * d = r at *
    omega
theorem cmp_eq {A B pn pd A1 B1 A2 B2 F1 F2 N u2 d : Nat} (hB : 1 ≤ B) (hB1 : 1 ≤ B1) (hu : 1 ≤ u2) (e : A * pd = B * pn) (e1 : A1 * (B * (u2 * N)) = B1 * (A * F1)) (e2 : A2 * (B1 * F2) = B2 * (A1 * (u2 * d))) : A2 * (pd * (N * F2)) = B2 * (pn * (F1 * d)) := by
  refine Nat.eq_of_mul_eq_mul_left (show 0 < B * B1 * u2 from Nat.mul_pos (Nat.mul_pos hB hB1) hu) ?_
  calc B * B1 * u2 * (A2 * (pd * (N * F2))) = (A2 * (B1 * F2)) * (pd * B * (u2 * N)) := by ac_rfl
    _ = B2 * (A1 * (u2 * d)) * (pd * B * (u2 * N)) := by rw [e2]
    _ = (A1 * (B * (u2 * N))) * (B2 * (u2 * d) * pd) := by ac_rfl
    _ = B1 * (A * F1) * (B2 * (u2 * d) * pd) := by rw [e1]
    _ = (A * pd) * (B1 * F1 * B2 * (u2 * d)) := by ac_rfl
    _ = B * pn * (B1 * F1 * B2 * (u2 * d)) := by rw [e]
    _ = B * B1 * u2 * (B2 * (pn * (F1 * d))) := by ac_rfl
theorem low_le {A B X Y : Nat} (hg : Nat.gcd A B = 1) (hY : 1 ≤ Y) (e : A * Y = B * X) : A ≤ X ∧ B ≤ Y := by
  have hc : Nat.Coprime A B := hg
  constructor
  · by_cases hX : X = 0
    · rw [hX, Nat.mul_zero] at e
      have : A = 0 := (Nat.mul_eq_zero.mp e).resolve_right (by omega)
      omega
    · exact Nat.le_of_dvd (by omega) (hc.dvd_of_dvd_mul_left (⟨Y, e.symm⟩ : A ∣ B * X))
  · exact Nat.le_of_dvd hY (hc.symm.dvd_of_dvd_mul_left (⟨X, e⟩ : B ∣ A * Y))
theorem cmp_le {A B A1 B1 A2 B2 F1 F2 N u2 d e : Nat} (hg : Nat.gcd A2 B2 = 1) (hB : 1 ≤ B) (hB1 : 1 ≤ B1) (hu : 1 ≤ u2) (e1 : A1 * (B * (u2 * N)) = B1 * (A * F1)) (e2 : A2 * (B1 * F2) = B2 * (A1 * (u2 * d))) (hN : 1 ≤ N) (hF : 1 ≤ F2) (hA : A ≤ 2 ^ (51 * e)) (hBB : B ≤ 2 ^ (51 * e)) (h1 : F1 * d ≤ 2251799813685248) (h2 : N * F2 ≤ 2251799813685248) : A2 ≤ 2 ^ (51 * (e + 1)) ∧ B2 ≤ 2 ^ (51 * (e + 1)) := by
  have h := cmp_eq (pn := A) (pd := B) (A := A) hB hB1 hu (Nat.mul_comm A B) e1 e2
  obtain ⟨k1, k2⟩ := low_le hg (Nat.mul_pos hB (Nat.mul_pos hN hF)) h
  rw [show 51 * (e + 1) = 51 * e + 51 by omega, Nat.pow_add]
  exact ⟨Nat.le_trans k1 (Nat.mul_le_mul hA h1), Nat.le_trans k2 (Nat.mul_le_mul hBB h2)⟩
theorem cm_le {A B D M x y : Nat} (hB : 1 ≤ B) (hD : 1 ≤ D) (e : A * D = B * M) : A * x ≤ B * y ↔ M * x ≤ D * y := by
  constructor
  · intro h
    refine Nat.le_of_mul_le_mul_left (c := B) ?_ hB
    calc B * (M * x) = (B * M) * x := by ac_rfl
      _ = A * D * x := by rw [e]
      _ = A * x * D := by ac_rfl
      _ ≤ B * y * D := Nat.mul_le_mul_right _ h
      _ = B * (D * y) := by ac_rfl
  · intro h
    refine Nat.le_of_mul_le_mul_left (c := D) ?_ hD
    calc D * (A * x) = A * D * x := by ac_rfl
      _ = B * M * x := by rw [e]
      _ = B * (M * x) := by ac_rfl
      _ ≤ B * (D * y) := Nat.mul_le_mul_left _ h
      _ = D * (B * y) := by ac_rfl
set_option maxHeartbeats 4000000 in
set_option maxRecDepth 100000 in
theorem c_compare (G : gG) (d n : Nat) (ex : Bool) (h : gH) {v w l ea eb : Nat → Nat} {sw : Nat → Int32} {ra rb : Int32} {m sr lm : Nat} (hm : m ≤ 16) (hm1 : 1 ≤ m) (hV : ∀ k, k < m → v (l k) < v (w k) ∧ v (w k) ≤ 20000) (hT : Te h m sr lm) (hK : Tk h m w l v sw ea eb) {s wn en rc : Nat → Nat} {pn pd e : Nat} (hs : Su h s v wn en rc) (hP : Pq h pn pd e) (he2 : e ≤ 199) (g1 : s 12 < s 11) (g2 : s 11 ≤ 1000000) (hN1 : 1 ≤ s 6) (hN2 : s 6 ≤ 20000) (hl1 : s 9 ≤ 1000000) (hl2 : s 10 ≤ 1000000) (hlm : ∀ k, k < m → lm ≤ md v w l k) (hlm2 : lm ≤ s 6) : g_M G mX8_compare (d + 4) 0 0 [.ref 17, .ref 1, .int ra, .int rb] n ex h (q_i n ex [19 + 1, 19 + 2, 19 + 3, 19 + 4] h (fun r h' => r = nI (if pn * ((2 * s 11 * s 6 - s 12 * lm) * md v w l (mo (oe w l ra rb) (md v w l) m)) * s 10 ≤ pd * (s 6 * cF2 (s 11) (s 12) lm (md v w l (mo (oe w l ra rb) (md v w l) m)) (oe w l ra rb (mo (oe w l ra rb) (md v w l) m))) * s 9 then 1 else 0) ∧ Pq h' (pn * ((2 * s 11 * s 6 - s 12 * lm) * md v w l (mo (oe w l ra rb) (md v w l) m))) (pd * (s 6 * cF2 (s 11) (s 12) lm (md v w l (mo (oe w l ra rb) (md v w l) m)) (oe w l ra rb (mo (oe w l ra rb) (md v w l) m)))) (e + 1))) := by
  obtain ⟨t1, f, t2, t3⟩ := id hT
  obtain ⟨z1, z2, z3, z4, z5⟩ := id hs
  obtain ⟨A, B, hF, hg, hB, he1, hpd1, hA, hBB⟩ := id hP
  have hmo : mo (oe w l ra rb) (md v w l) m < m := by obtain ⟨j, rfl⟩ : ∃ j, m = j + 1 := ⟨m - 1, by omega⟩; exact mo_lt _ _ j
  have ho := oe_b w l ra rb (mo (oe w l ra rb) (md v w l) m)
  have hmd : md v w l (mo (oe w l ra rb) (md v w l) m) ≤ 20000 := by have := hV _ hmo; show v _ - v _ ≤ 20000; omega
  have hmd1 : 1 ≤ md v w l (mo (oe w l ra rb) (md v w l) m) := by have := hV _ hmo; show 1 ≤ v _ - v _; omega
  have hlm3 := hlm _ hmo
  obtain ⟨k1, k2, k3, k4, k5, k6, k7⟩ := cmp_facts g1 g2 hN2 hN1 hlm3 hmd1 hmd hlm2 ho.1 ho.2
  refine g_enter (by decide) (Nat.le_of_ble_eq_true rfl) ?_
  show g_W G _ _ _ n ex h 0 0 0 [(0, .ref 17), (1, .ref 1), (2, .int ra), (3, .int rb)] []
  refine g_ldc2 dX8_compare_0 kX8_99 rfl ?_
  refine g_topl (show (2 : Int64) = lN 2 by decide) ?_
  refine g_aload_n dX8_compare_3 rfl rfl ?_
  refine g_getf dX8_compare_4 fX8_101 z1 rfl ?_
  refine g_i2lN dX8_compare_7 (by omega) ?_
  refine g_lmulN dX8_compare_8 ?_
  refine g_lstore (ls' := [(4, .long (lN (2 * (s 11)))), (0, .ref 17), (1, .ref 1), (2, .int ra), (3, .int rb)]) dX8_compare_9 (by decide) rfl ?_
  refine g_aload_n dX8_compare_11 rfl rfl ?_
  refine g_getf dX8_compare_12 fX8_104 z1 rfl ?_
  refine g_i2lN dX8_compare_15 (by omega) ?_
  refine g_aload_n dX8_compare_16 rfl rfl ?_
  refine g_getf dX8_compare_17 fX8_42 t1 rfl ?_
  refine g_i2lN dX8_compare_20 (by omega) ?_
  refine g_lmulN dX8_compare_21 ?_
  refine g_lstore (ls' := [(6, .long (lN ((s 12) * lm))), (4, .long (lN (2 * (s 11)))), (0, .ref 17), (1, .ref 1), (2, .int ra), (3, .int rb)]) dX8_compare_22 (by decide) rfl ?_
  refine g_lload dX8_compare_24 rfl ?_
  refine g_aload_n dX8_compare_26 rfl rfl ?_
  refine g_getf dX8_compare_27 fX8_37 z1 rfl ?_
  refine g_i2lN dX8_compare_30 (by omega) ?_
  refine g_lmulN dX8_compare_31 ?_
  refine g_lstore (ls' := [(8, .long (lN ((2 * (s 11)) * (s 6)))), (6, .long (lN ((s 12) * lm))), (4, .long (lN (2 * (s 11)))), (0, .ref 17), (1, .ref 1), (2, .int ra), (3, .int rb)]) dX8_compare_32 (by decide) rfl ?_
  refine g_aload_n dX8_compare_34 rfl rfl ?_
  refine g_getf dX8_compare_35 fX8_22 t1 rfl ?_
  refine g_lload dX8_compare_38 rfl ?_
  refine g_lload dX8_compare_40 rfl ?_
  refine g_lsubN dX8_compare_42 k1 ?_
  refine g_lload dX8_compare_43 rfl ?_
  refine cVvE (st := []) dX8_compare_45 (c_times G (d + 1) n ex h hF hg hB (by decide) (by decide) k2 (by omega) (by omega) (p_room hA he2 (Nat.le_trans (Nat.le_trans (Nat.sub_le _ _) k3) (by decide +kernel))) (p_room hBB he2 (Nat.le_trans k3 (by decide +kernel)))) sX8_107 hF.cell rfl rfl (by simp only [g_rm]; omega) (by simp only [g_rm]; omega) (Nat.le_of_ble_eq_true rfl) ⟨Nat.le_of_ble_eq_true rfl, Nat.le_of_ble_eq_true rfl⟩ (fun h1 fr2 p3 => ?_)
  obtain ⟨A1, B1, y1, y2, y3, y4, y5, y6⟩ := p3
  have hK1 := hK.fr fr2 (by intro j q; simp only [List.mem_cons, List.not_mem_nil, or_false] at q; omega) hm
  have hT1 := hT.fr fr2 (by intro q; simp only [List.mem_cons, List.not_mem_nil, or_false] at q; omega) (by intro q; simp only [List.mem_cons, List.not_mem_nil, or_false] at q; omega)
  have hroomA : A1 * (2 * s 11 * md v w l (mo (oe w l ra rb) (md v w l) m)) < 2 ^ (32 * 328) := by
    refine Nat.lt_of_le_of_lt (Nat.mul_le_mul_right _ y5) ?_
    rw [Nat.mul_assoc]
    exact p_room hA he2 (Nat.le_trans (Nat.mul_le_mul (Nat.le_trans (Nat.sub_le _ _) k3) k4) (by decide +kernel))
  have hroomB : B1 * cF2 (s 11) (s 12) lm (md v w l (mo (oe w l ra rb) (md v w l) m)) (oe w l ra rb (mo (oe w l ra rb) (md v w l) m)) < 2 ^ (32 * 328) := by
    refine Nat.lt_of_le_of_lt (Nat.mul_le_mul_right _ y6) ?_
    rw [Nat.mul_assoc]
    exact p_room hBB he2 (Nat.le_trans (Nat.mul_le_mul k3 k7) (by decide +kernel))
  refine g_aload_n dX8_compare_48 rfl rfl ?_
  refine g_iload_n dX8_compare_49 rfl rfl ?_
  refine g_iload_n dX8_compare_50 rfl rfl ?_
  refine cVrE (st := []) dX8_compare_51 (c_most G (d + 1) n ex h1 hm hm1 hV hT1 hK1 (ra := ra) (rb := rb)) sX8_110 (⟨_, hT1.1⟩) rfl rfl (by simp only [g_rm]; omega) (by simp only [g_rm]; omega) (Nat.le_of_ble_eq_true rfl) ⟨Nat.le_of_ble_eq_true rfl, Nat.le_of_ble_eq_true rfl⟩ (fun r8 h5 fr6 p7 => ?_)
  cases g_fr0 fr6
  subst p7
  refine g_astore (ls' := [(10, .ref (24 + 6 * mo (oe w l ra rb) (md v w l) m)), (8, .long (lN ((2 * (s 11)) * (s 6)))), (6, .long (lN ((s 12) * lm))), (4, .long (lN (2 * (s 11)))), (0, .ref 17), (1, .ref 1), (2, .int ra), (3, .int rb)]) dX8_compare_54 (by decide) rfl ?_
  refine g_lload dX8_compare_56 rfl ?_
  refine g_aload dX8_compare_58 rfl ?_
  refine cViE (st := [.long (lN (2 * (s 11)))]) dX8_compare_60 (c_pmargin G (d + 2) n ex h1 (hK1 _ hmo).1 (Nat.le_of_lt (hV _ hmo).1)) sX8_64 ((hK1 _ hmo).1.cell) rfl rfl (by simp only [g_rm]; omega) (by simp only [g_rm]; omega) (Nat.le_of_ble_eq_true rfl) ⟨Nat.le_of_ble_eq_true rfl, Nat.le_of_ble_eq_true rfl⟩ (fun r12 h9 fr10 p11 => ?_)
  cases g_fr0 fr10
  subst p11
  show g_W _ _ _ _ _ _ _ _ _ _ _ (Value.int (nI (md v w l (mo (oe w l ra rb) (md v w l) m))) :: _)
  refine g_i2lN dX8_compare_63 (by omega) ?_
  refine g_lmulN dX8_compare_64 ?_
  refine g_lstore (ls' := [(11, .long (lN ((2 * (s 11)) * (md v w l (mo (oe w l ra rb) (md v w l) m))))), (10, .ref (24 + 6 * mo (oe w l ra rb) (md v w l) m)), (8, .long (lN ((2 * (s 11)) * (s 6)))), (6, .long (lN ((s 12) * lm))), (4, .long (lN (2 * (s 11)))), (0, .ref 17), (1, .ref 1), (2, .int ra), (3, .int rb)]) dX8_compare_65 (by decide) rfl ?_
  refine g_aload_n dX8_compare_67 rfl rfl ?_
  refine g_getf dX8_compare_68 fX8_22 (fr2.at (by intro q; simp only [List.mem_cons, List.not_mem_nil, or_false] at q; omega) t1) rfl ?_
  refine g_lload dX8_compare_71 rfl ?_
  refine g_lload dX8_compare_73 rfl ?_
  refine g_aload dX8_compare_75 rfl ?_
  refine g_iload_n dX8_compare_77 rfl rfl ?_
  refine g_iload_n dX8_compare_78 rfl rfl ?_
  refine cViE (st := [.long (lN ((2 * (s 11)) * (md v w l (mo (oe w l ra rb) (md v w l) m)))), .long (lN ((2 * (s 11)) * (md v w l (mo (oe w l ra rb) (md v w l) m)))), .ref 19]) dX8_compare_79 (c_overstated G (d + 1) n ex h1 (hK1 _ hmo).1 (a := ra) (b := rb)) sX8_114 ((hK1 _ hmo).1.cell) rfl rfl (by simp only [g_rm]; omega) (by simp only [g_rm]; omega) (Nat.le_of_ble_eq_true rfl) ⟨Nat.le_of_ble_eq_true rfl, Nat.le_of_ble_eq_true rfl⟩ (fun r16 h13 fr14 p15 => ?_)
  cases g_fr0 fr14
  subst p15
  refine g_i2l dX8_compare_82 ?_
  refine g_topl (show (p_lead (w (mo (oe w l ra rb) (md v w l) m)) (l (mo (oe w l ra rb) (md v w l) m)) ra - p_lead (w (mo (oe w l ra rb) (md v w l) m)) (l (mo (oe w l ra rb) (md v w l) m)) rb).toInt64 = lZ (oe w l ra rb (mo (oe w l ra rb) (md v w l) m)) from ld_l _ _ _ _) ?_
  refine g_lload dX8_compare_83 rfl ?_
  refine g_lmul dX8_compare_85 ?_
  refine g_topl (show (lZ (oe w l ra rb (mo (oe w l ra rb) (md v w l) m))) * (lN ((s 12) * lm)) = lZ (oe w l ra rb (mo (oe w l ra rb) (md v w l) m) * ((s 12 * lm : Nat) : Int)) from lZ_mul _ _) ?_
  refine g_lsub dX8_compare_86 ?_
  refine g_topl (show (lN ((2 * (s 11)) * (md v w l (mo (oe w l ra rb) (md v w l) m)))) - (lZ (oe w l ra rb (mo (oe w l ra rb) (md v w l) m) * ((s 12 * lm : Nat) : Int))) = lN (cF2 (s 11) (s 12) lm (md v w l (mo (oe w l ra rb) (md v w l) m)) (oe w l ra rb (mo (oe w l ra rb) (md v w l) m))) from lZ_sub k5) ?_
  refine cVvE (st := []) dX8_compare_87 (c_times G (d + 1) n ex h1 y1 y2 y3 (by decide) (by decide) k6 (by omega) (by omega) hroomA hroomB) sX8_107 y1.cell rfl rfl (by simp only [g_rm]; omega) (by simp only [g_rm]; omega) (Nat.le_of_ble_eq_true rfl) ⟨Nat.le_of_ble_eq_true rfl, Nat.le_of_ble_eq_true rfl⟩ (fun h17 fr18 p19 => ?_)
  obtain ⟨A2, B2, x1, x2, x3, x4, x5, x6⟩ := p19
  have hq1 := cmp_eq hB y3 (show 1 ≤ 2 * s 11 by omega) he1 y4 x4
  have hf1 : (2 * s 11 * s 6 - s 12 * lm) * md v w l (mo (oe w l ra rb) (md v w l) m) ≤ 2251799813685248 := Nat.le_trans (Nat.mul_le_mul (Nat.le_trans (Nat.sub_le _ _) k3) hmd) (by decide)
  have hf2 : s 6 * cF2 (s 11) (s 12) lm (md v w l (mo (oe w l ra rb) (md v w l) m)) (oe w l ra rb (mo (oe w l ra rb) (md v w l) m)) ≤ 2251799813685248 := Nat.le_trans (Nat.mul_le_mul hN2 k7) (by decide)
  have hq2 := cmp_le x2 hB y3 (show 1 ≤ 2 * s 11 by omega) y4 x4 hN1 k6 hA hBB hf1 hf2
  refine g_aload_n dX8_compare_90 rfl rfl ?_
  refine g_getf dX8_compare_91 fX8_22 (fr18.at (by intro q; simp only [List.mem_cons, List.not_mem_nil, or_false] at q; omega) (fr2.at (by intro q; simp only [List.mem_cons, List.not_mem_nil, or_false] at q; omega) t1)) rfl ?_
  refine g_aload_n dX8_compare_94 rfl rfl ?_
  refine g_getf dX8_compare_95 fX8_93 (fr18.at (by intro q; simp only [List.mem_cons, List.not_mem_nil, or_false] at q; omega) (fr2.at (by intro q; simp only [List.mem_cons, List.not_mem_nil, or_false] at q; omega) z1)) rfl ?_
  refine g_aload_n dX8_compare_98 rfl rfl ?_
  refine g_getf dX8_compare_99 fX8_90 (fr18.at (by intro q; simp only [List.mem_cons, List.not_mem_nil, or_false] at q; omega) (fr2.at (by intro q; simp only [List.mem_cons, List.not_mem_nil, or_false] at q; omega) z1)) rfl ?_
  refine cViE (st := []) dX8_compare_102 (c_compareWith G (d + 1) n ex h17 x1 (by decide) hl1 hl2) sX8_96 x1.cell rfl rfl (by simp only [g_rm]; omega) (by simp only [g_rm]; omega) (Nat.le_of_ble_eq_true rfl) ⟨Nat.le_of_ble_eq_true rfl, Nat.le_of_ble_eq_true rfl⟩ (fun r24 h21 fr22 p23 => ?_)
  cases g_fr0 fr22
  subst p23
  have hpd : 1 ≤ pd * (s 6 * cF2 (s 11) (s 12) lm (md v w l (mo (oe w l ra rb) (md v w l) m)) (oe w l ra rb (mo (oe w l ra rb) (md v w l) m))) := Nat.mul_pos hpd1 (Nat.mul_pos hN1 k6)
  have hle : A2 * s 10 ≤ B2 * s 9 ↔ pn * ((2 * s 11 * s 6 - s 12 * lm) * md v w l (mo (oe w l ra rb) (md v w l) m)) * s 10 ≤ pd * (s 6 * cF2 (s 11) (s 12) lm (md v w l (mo (oe w l ra rb) (md v w l) m)) (oe w l ra rb (mo (oe w l ra rb) (md v w l) m))) * s 9 := cm_le x3 hpd hq1
  refine g_if_gt (tgt := 112) dX8_compare_105 (by decide) (fun c105 => ?_) (fun c105 => ?_)
  · refine g_iconst (v := nI 0) dX8_compare_112 (by decide) ?_
    exact e_i dX8_compare_113 rfl rfl (((g_fr.rf).tr fr2 (by simp)).tr fr18 (by simp)) ⟨by first | (rw [if_neg (fun q => absurd (cp_gt.mp c105) (Nat.not_lt.mpr (hle.mpr q)))]) | (rw [if_pos (hle.mp (Nat.not_lt.mp (fun q => c105 (cp_gt.mpr q))))]), A2, B2, x1, x2, x3, hq1, hpd, hq2.1, hq2.2⟩ (by decide) (by decide)
  · refine g_iconst (v := nI 1) dX8_compare_108 (by decide) ?_
    refine g_goto (tgt := 113) dX8_compare_109 (by decide) ?_
    exact e_i dX8_compare_113 rfl rfl (((g_fr.rf).tr fr2 (by simp)).tr fr18 (by simp)) ⟨by first | (rw [if_neg (fun q => absurd (cp_gt.mp c105) (Nat.not_lt.mpr (hle.mpr q)))]) | (rw [if_pos (hle.mp (Nat.not_lt.mp (fun q => c105 (cp_gt.mpr q))))]), A2, B2, x1, x2, x3, hq1, hpd, hq2.1, hq2.2⟩ (by decide) (by decide)
set_option maxHeartbeats 4000000 in
set_option maxRecDepth 100000 in
theorem lp_agree (G : gG) (R : Room) (n : Nat) (ex : Bool) (h : gH) {v w l ea eb fv ft : Nat → Nat} {sw : Nat → Int32} {m sr lm fm fr0 : Nat} (hm : m ≤ 16) (hwl : ∀ k, k < m → w k < 8 ∧ l k < 8) (hfv : ∀ k, fv k < 2 ^ 31) (hT : Te h m sr lm) (hK : Tk h m w l v sw ea eb) (hFc : Fc h fv ft fm fr0) : ∀ (t i : Nat), m - i < t → i ≤ m → (∀ k, k < i → fv (l k) < fv (w k)) →
    g_W G mX8_agreeWith R (g_K G (q_i n ex [] h (fun r _ => ∃ b, r = nI b ∧ b ≤ 1 ∧ (b = 1 ↔ ∀ k, k < m → fv (l k) < fv (w k)))) 0 0) n ex h 0 0 2 [(2, .int (nI i)), (0, .ref 17), (1, .ref 120)] [] := by
  obtain ⟨t1, f, t2, t3⟩ := id hT
  obtain ⟨u1, u2, u3⟩ := id hFc
  intro t
  induction t with
  | zero => intro i hm; exact absurd hm (by omega)
  | succ t ih =>
    intro i ht hi hI
    refine g_iload_n dX8_agreeWith_2 rfl rfl ?_
    refine g_aload_n dX8_agreeWith_3 rfl rfl ?_
    refine g_getf dX8_agreeWith_4 fX8_27 t1 rfl ?_
    refine g_icmp_geN (tgt := 49) dX8_agreeWith_7 (by decide) (by omega) (by omega) (fun c7 => ?_) (fun c7 => ?_)
    · refine g_iconst (v := nI 1) dX8_agreeWith_49 (by decide) ?_
      exact e_i dX8_agreeWith_50 rfl rfl g_fr.rf ⟨_, rfl, by decide, by first | exact ⟨fun q => absurd q (by decide), fun q => absurd (q i c7) (by omega)⟩ | exact ⟨fun _ k hk => hI k (by omega), fun _ => rfl⟩⟩ (by decide) (by decide)
    · refine g_aload_n dX8_agreeWith_10 rfl rfl ?_
      refine g_getf dX8_agreeWith_11 fX8_117 u1 rfl ?_
      refine g_aload_n dX8_agreeWith_14 rfl rfl ?_
      refine g_getf dX8_agreeWith_15 fX8_11 t1 rfl ?_
      refine g_iload_n dX8_agreeWith_18 rfl rfl ?_
      refine g_aaldN (r := 24 + 6 * i) dX8_agreeWith_19 t2 (by omega) (by decide) (t3 i (by omega)) ?_
      have hw8 := hwl i c7
      refine g_getf dX8_agreeWith_20 fX8_74 ((hK i c7).1) rfl ?_
      refine g_ialdN dX8_agreeWith_23 u2 hw8.1 (by decide) ?_
      refine g_aload_n dX8_agreeWith_24 rfl rfl ?_
      refine g_getf dX8_agreeWith_25 fX8_117 u1 rfl ?_
      refine g_aload_n dX8_agreeWith_28 rfl rfl ?_
      refine g_getf dX8_agreeWith_29 fX8_11 t1 rfl ?_
      refine g_iload_n dX8_agreeWith_32 rfl rfl ?_
      refine g_aaldN (r := 24 + 6 * i) dX8_agreeWith_33 t2 (by omega) (by decide) (t3 i (by omega)) ?_
      refine g_getf dX8_agreeWith_34 fX8_77 ((hK i c7).1) rfl ?_
      refine g_ialdN dX8_agreeWith_37 u2 hw8.2 (by decide) ?_
      refine g_icmp_gtN (tgt := 43) dX8_agreeWith_38 (by decide) (hfv _) (hfv _) (fun c38 => ?_) (fun c38 => ?_)
      · refine g_iincN (z := 1) (ls' := [(2, .int (nI (i + 1))), (0, .ref 17), (1, .ref 120)]) dX8_agreeWith_43 rfl (by decide) rfl ?_
        refine g_goto (tgt := 2) dX8_agreeWith_46 (by decide) ?_
        refine g_pick [0, 1, 2] (ls' := [(2, .int (nI (i + 1))), (0, .ref 17), (1, .ref 120)]) rfl ?_
        exact ih (i + 1) (by omega) (by omega) (fun k hk => by by_cases q : k = i; (subst q; exact c38); exact hI k (by omega))
      · refine g_iconst (v := nI 0) dX8_agreeWith_41 (by decide) ?_
        exact e_i dX8_agreeWith_42 rfl rfl g_fr.rf ⟨_, rfl, by decide, by first | exact ⟨fun q => absurd q (by decide), fun q => absurd (q i c7) (by omega)⟩ | exact ⟨fun _ k hk => hI k (by omega), fun _ => rfl⟩⟩ (by decide) (by decide)
set_option maxHeartbeats 4000000 in
set_option maxRecDepth 100000 in
theorem c_agree (G : gG) (d n : Nat) (ex : Bool) (h : gH) {v w l ea eb fv ft : Nat → Nat} {sw : Nat → Int32} {m sr lm fm fr0 : Nat} (hm : m ≤ 16) (hwl : ∀ k, k < m → w k < 8 ∧ l k < 8) (hfv : ∀ k, fv k < 2 ^ 31) (hT : Te h m sr lm) (hK : Tk h m w l v sw ea eb) (hFc : Fc h fv ft fm fr0) : g_M G mX8_agreeWith d 0 0 [.ref 17, .ref 120] n ex h (q_i n ex [] h (fun r _ => ∃ b, r = nI b ∧ b ≤ 1 ∧ (b = 1 ↔ ∀ k, k < m → fv (l k) < fv (w k)))) := by
  refine g_enter (by decide) (Nat.le_of_ble_eq_true rfl) ?_
  show g_W G _ _ _ n ex h 0 0 0 [(0, .ref 17), (1, .ref 120)] []
  refine g_iconst (v := nI 0) dX8_agreeWith_0 (by decide) ?_
  refine g_istore_n (ls' := [(2, .int (nI 0)), (0, .ref 17), (1, .ref 120)]) dX8_agreeWith_1 rfl (by decide) rfl ?_
  refine g_pick [0, 1, 2] (ls' := [(2, .int (nI 0)), (0, .ref 17), (1, .ref 120)]) rfl ?_
  exact lp_agree G _ n ex h hm hwl hfv hT hK hFc (m + 1) 0 (by omega) (by omega) (fun k hk => absurd hk (Nat.not_lt_zero k))
