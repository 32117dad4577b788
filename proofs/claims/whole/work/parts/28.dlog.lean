/-- the log of draws: ballots, what they were seen as, how often drawn, draws for candidates; different, draws, blanks -/
def Dl (h : gH) (bl ti df : Nat → Nat) (se : Nat → Int32) (D dr bk : Nat) : Prop := h 12 = some (.inr (1, [.ref 13, .ref 14, .ref 15, .ref 16, .int (nI D), .int (nI dr), .int (nI bk)])) ∧ h 13 = some (.inl (0, 200, .inl (fun k => nI (bl k)))) ∧ h 14 = some (.inl (0, 200, .inl se)) ∧ h 15 = some (.inl (0, 200, .inl (fun k => nI (ti k)))) ∧ h 16 = some (.inl (0, 8, .inl (fun k => nI (df k))))
theorem Dl.cell {h : gH} {bl ti df : Nat → Nat} {se : Nat → Int32} {D dr bk : Nat} (z : Dl h bl ti df se D dr bk) : ∃ fs, h 12 = some (.inr (1, fs)) := ⟨_, z.1⟩
theorem Dl.fr {h h' : gH} {S : List Nat} {bl ti df : Nat → Nat} {se : Nat → Int32} {D dr bk : Nat} (z : Dl h bl ti df se D dr bk) (hf : g_fr S h h') (hS : ∀ i ∈ S, i < 12 ∨ 16 < i) : Dl h' bl ti df se D dr bk := by
  obtain ⟨h1, h2, h3, h4, h5⟩ := z
  exact ⟨hf.at (fun q => by have := hS _ q; omega) h1, hf.at (fun q => by have := hS _ q; omega) h2, hf.at (fun q => by have := hS _ q; omega) h3, hf.at (fun q => by have := hS _ q; omega) h4, hf.at (fun q => by have := hS _ q; omega) h5⟩
set_option maxHeartbeats 4000000 in
set_option maxRecDepth 100000 in
theorem lp_dlEmpty (G : gG) (R : Room) (n : Nat) (ex : Bool) (h0 : gH) {bl ti df : Nat → Nat} {se : Nat → Int32} : ∀ (t i : Nat) (h : gH), 8 - i < t → i ≤ 8 → Dl h bl ti (fe df i) se 0 0 0 → g_fr [12, 16] h0 h →
    g_W G mX1_empty R (g_K G (q_v n ex [12, 16] h0 (fun h' => Dl h' bl ti (fe df 8) se 0 0 0)) 0 0) n ex h 0 0 17 [(1, .int (nI i)), (0, .ref 12)] [] := by
  intro t
  induction t with
  | zero => intro i h ht; exact absurd ht (by omega)
  | succ t ih =>
    intro i h ht hi hF hf
    obtain ⟨z1, z2, z3, z4, z5⟩ := hF
    refine g_iload_n dX1_empty_17 rfl rfl ?_
    refine g_bipush (v := nI 8) dX1_empty_18 (by decide) ?_
    refine g_icmp_geN (tgt := 36) dX1_empty_20 (by decide) (by omega) (by omega) (fun c20 => ?_) (fun c20 => ?_)
    · have e : i = 8 := by omega
      subst e
      exact e_v dX1_empty_36 rfl hf ⟨z1, z2, z3, z4, z5⟩ (by decide) (by decide)
    · refine g_aload_n dX1_empty_23 rfl rfl ?_
      refine g_getf dX1_empty_24 fX1_21 z1 rfl ?_
      refine g_iload_n dX1_empty_27 rfl rfl ?_
      refine g_iconst (v := nI 0) dX1_empty_28 (by decide) ?_
      refine g_iastN dX1_empty_29 z5 (by omega) (by decide) ?_
      rw [upd_nI]
      refine g_iincN (z := 1) (ls' := [(1, .int (nI (i + 1))), (0, .ref 12)]) dX1_empty_30 rfl (by decide) rfl ?_
      refine g_goto (tgt := 17) dX1_empty_33 (by decide) ?_
      refine g_pick [0, 1] (ls' := [(1, .int (nI (i + 1))), (0, .ref 12)]) rfl ?_
      exact ih (i + 1) _ (by omega) (by omega) ⟨g_ne (by decide) z1, g_ne (by decide) z2, g_ne (by decide) z3, g_ne (by decide) z4, by rw [← fe_s]; exact g_eq⟩ (hf.up (by simp))
set_option maxHeartbeats 4000000 in
set_option maxRecDepth 100000 in
theorem c_dlEmpty (G : gG) (d n : Nat) (ex : Bool) (h : gH) {bl ti df : Nat → Nat} {se : Nat → Int32} {D dr bk : Nat} (hl : Dl h bl ti df se D dr bk) : g_M G mX1_empty d 0 0 [.ref 12] n ex h (q_v n ex [12, 16] h (fun h' => Dl h' bl ti (fe df 8) se 0 0 0)) := by
  obtain ⟨z1, z2, z3, z4, z5⟩ := hl
  refine g_enter (by decide) (Nat.le_of_ble_eq_true rfl) ?_
  show g_W G _ _ _ n ex h 0 0 0 [(0, .ref 12)] []
  refine g_aload_n dX1_empty_0 rfl rfl ?_
  refine g_iconst (v := nI 0) dX1_empty_1 (by decide) ?_
  refine g_put (fs' := [.ref 13, .ref 14, .ref 15, .ref 16, .int (nI 0), .int (nI dr), .int (nI bk)]) dX1_empty_2 fX1_24 z1 (Nat.le_of_ble_eq_true rfl) rfl rfl rfl ?_
  refine g_aload_n dX1_empty_5 rfl rfl ?_
  refine g_iconst (v := nI 0) dX1_empty_6 (by decide) ?_
  refine g_put (fs' := [.ref 13, .ref 14, .ref 15, .ref 16, .int (nI 0), .int (nI 0), .int (nI bk)]) dX1_empty_7 fX1_28 g_eq (Nat.le_of_ble_eq_true rfl) rfl rfl rfl ?_
  refine g_aload_n dX1_empty_10 rfl rfl ?_
  refine g_iconst (v := nI 0) dX1_empty_11 (by decide) ?_
  refine g_put (fs' := [.ref 13, .ref 14, .ref 15, .ref 16, .int (nI 0), .int (nI 0), .int (nI 0)]) dX1_empty_12 fX1_31 g_eq (Nat.le_of_ble_eq_true rfl) rfl rfl rfl ?_
  refine g_iconst (v := nI 0) dX1_empty_15 (by decide) ?_
  refine g_istore_n (ls' := [(1, .int (nI 0)), (0, .ref 12)]) dX1_empty_16 rfl (by decide) rfl ?_
  refine g_pick [0, 1] (ls' := [(1, .int (nI 0)), (0, .ref 12)]) rfl ?_
  exact lp_dlEmpty G _ n ex h 9 0 _ (by omega) (by omega) ⟨g_eq, g_ne (by decide) (g_ne (by decide) (g_ne (by decide) z2)), g_ne (by decide) (g_ne (by decide) (g_ne (by decide) z3)), g_ne (by decide) (g_ne (by decide) (g_ne (by decide) z4)), by rw [fe_0]; exact g_ne (by decide) (g_ne (by decide) (g_ne (by decide) z5))⟩ (((g_fr.rf.up (by simp)).up (by simp)).up (by simp))
set_option maxHeartbeats 4000000 in
set_option maxRecDepth 100000 in
theorem c_addBlank (G : gG) (d n : Nat) (ex : Bool) (h : gH) {bl ti df : Nat → Nat} {se : Nat → Int32} {D dr bk : Nat} (hl : Dl h bl ti df se D dr bk) : g_M G mX1_addBlank d 0 0 [.ref 12] n ex h (q_v n ex [12] h (fun h' => Dl h' bl ti df se D (dr + 1) (bk + 1))) := by
  obtain ⟨z1, z2, z3, z4, z5⟩ := hl
  refine g_enter (by decide) (Nat.le_of_ble_eq_true rfl) ?_
  show g_W G _ _ _ n ex h 0 0 0 [(0, .ref 12)] []
  refine g_aload_n dX1_addBlank_0 rfl rfl ?_
  refine g_dup dX1_addBlank_1 rfl ?_
  refine g_getf dX1_addBlank_2 fX1_28 z1 rfl ?_
  refine g_iconst (v := nI 1) dX1_addBlank_5 (by decide) ?_
  refine g_iaddN dX1_addBlank_6 ?_
  refine g_put (fs' := [.ref 13, .ref 14, .ref 15, .ref 16, .int (nI D), .int (nI (dr + 1)), .int (nI bk)]) dX1_addBlank_7 fX1_28 z1 (Nat.le_of_ble_eq_true rfl) rfl rfl rfl ?_
  refine g_aload_n dX1_addBlank_10 rfl rfl ?_
  refine g_dup dX1_addBlank_11 rfl ?_
  refine g_getf dX1_addBlank_12 fX1_31 g_eq rfl ?_
  refine g_iconst (v := nI 1) dX1_addBlank_15 (by decide) ?_
  refine g_iaddN dX1_addBlank_16 ?_
  refine g_put (fs' := [.ref 13, .ref 14, .ref 15, .ref 16, .int (nI D), .int (nI (dr + 1)), .int (nI (bk + 1))]) dX1_addBlank_17 fX1_31 g_eq (Nat.le_of_ble_eq_true rfl) rfl rfl rfl ?_
  exact e_v dX1_addBlank_20 rfl ((g_fr.rf.up (by simp)).up (by simp)) ⟨g_eq, g_ne (by decide) (g_ne (by decide) z2), g_ne (by decide) (g_ne (by decide) z3), g_ne (by decide) (g_ne (by decide) z4), g_ne (by decide) (g_ne (by decide) z5)⟩ (by decide) (by decide)
set_option maxHeartbeats 4000000 in
set_option maxRecDepth 100000 in
theorem c_isPlace (G : gG) (d n : Nat) (ex : Bool) (h : gH) {bl ti df : Nat → Nat} {se : Nat → Int32} {D dr bk : Nat} (hl : Dl h bl ti df se D dr bk) {x : Nat} (hx : x < 2 ^ 31) (hD : D < 2 ^ 31) : g_M G mX1_isPlace d 0 0 [.ref 12, .int (nI x)] n ex h (q_i n ex [] h (fun r _ => r = nI (if x < D then 1 else 0))) := by
  obtain ⟨z1, z2, z3, z4, z5⟩ := hl
  refine g_enter (by decide) (Nat.le_of_ble_eq_true rfl) ?_
  show g_W G _ _ _ n ex h 0 0 0 [(0, .ref 12), (1, .int (nI x))] []
  refine g_iload_n dX1_isPlace_0 rfl rfl ?_
  refine g_if_ltN (tgt := 16) dX1_isPlace_1 (by decide) (by omega) (fun c1 => ?_) (fun c1 => ?_)
  · exact c1.elim
  · refine g_iload_n dX1_isPlace_4 rfl rfl ?_
    refine g_aload_n dX1_isPlace_5 rfl rfl ?_
    refine g_getf dX1_isPlace_6 fX1_24 z1 rfl ?_
    refine g_icmp_geN (tgt := 16) dX1_isPlace_9 (by decide) hx hD (fun c9 => ?_) (fun c9 => ?_)
    · refine g_iconst (v := nI 0) dX1_isPlace_16 (by decide) ?_
      exact e_i dX1_isPlace_17 rfl rfl g_fr.rf (by first | rw [if_pos c9] | rw [if_neg (by omega)]) (by decide) (by decide)
    · refine g_iconst (v := nI 1) dX1_isPlace_12 (by decide) ?_
      refine g_goto (tgt := 17) dX1_isPlace_13 (by decide) ?_
      exact e_i dX1_isPlace_17 rfl rfl g_fr.rf (by first | rw [if_pos c9] | rw [if_neg (by omega)]) (by decide) (by decide)
set_option maxHeartbeats 4000000 in
set_option maxRecDepth 100000 in
theorem c_isPlaceM (G : gG) (d n : Nat) (ex : Bool) (h : gH) {bl ti df : Nat → Nat} {se : Nat → Int32} {D dr bk : Nat} (hl : Dl h bl ti df se D dr bk) : g_M G mX1_isPlace d 0 0 [.ref 12, .int (-1)] n ex h (q_i n ex [] h (fun r _ => r = nI 0)) := by
  obtain ⟨z1, z2, z3, z4, z5⟩ := hl
  refine g_enter (by decide) (Nat.le_of_ble_eq_true rfl) ?_
  show g_W G _ _ _ n ex h 0 0 0 [(0, .ref 12), (1, .int (-1))] []
  refine g_iload_n dX1_isPlace_0 rfl rfl ?_
  refine g_if_lt (tgt := 16) dX1_isPlace_1 (by decide) (fun c1 => ?_) (fun c1 => ?_)
  · refine g_iconst (v := nI 0) dX1_isPlace_16 (by decide) ?_
    exact e_i dX1_isPlace_17 rfl rfl g_fr.rf rfl (by decide) (by decide)
  · exact absurd (show (-1 : Int32) < 0 by decide) c1
/-- the place of a ballot, or none -/
def po_P (bl : Nat → Nat) (D b : Nat) (r : Int32) : Prop := (∃ k, k < D ∧ bl k = b ∧ (∀ j, j < k → bl j ≠ b) ∧ r = nI k) ∨ ((∀ j, j < D → bl j ≠ b) ∧ r = -1)
set_option maxHeartbeats 4000000 in
set_option maxRecDepth 100000 in
theorem lp_placeOf (G : gG) (R : Room) (n : Nat) (ex : Bool) (h : gH) {bl ti df : Nat → Nat} {se : Nat → Int32} {D dr bk : Nat} (hl : Dl h bl ti df se D dr bk) {b : Nat} (hD : D ≤ 200) (hb : b < 2 ^ 31) (hbl : ∀ k, bl k < 2 ^ 31) : ∀ (t i : Nat), D - i < t → i ≤ D → (∀ j, j < i → bl j ≠ b) →
    g_W G mX1_placeOf R (g_K G (q_i n ex [] h (fun r _ => po_P bl D b r)) 0 0) n ex h 0 0 2 [(2, .int (nI i)), (0, .ref 12), (1, .int (nI b))] [] := by
  obtain ⟨z1, z2, z3, z4, z5⟩ := hl
  intro t
  induction t with
  | zero => intro i ht; exact absurd ht (by omega)
  | succ t ih =>
    intro i ht hi hI
    refine g_iload_n dX1_placeOf_2 rfl rfl ?_
    refine g_aload_n dX1_placeOf_3 rfl rfl ?_
    refine g_getf dX1_placeOf_4 fX1_24 z1 rfl ?_
    refine g_icmp_geN (tgt := 28) dX1_placeOf_7 (by decide) (by omega) (by omega) (fun c7 => ?_) (fun c7 => ?_)
    · refine g_iconst (v := -1) dX1_placeOf_28 (by decide) ?_
      exact e_i dX1_placeOf_29 rfl rfl g_fr.rf (by first | exact Or.inl ⟨i, by omega, c17, hI, rfl⟩ | exact Or.inr ⟨fun j hj => hI j (by omega), rfl⟩) (by decide) (by decide)
    · refine g_aload_n dX1_placeOf_10 rfl rfl ?_
      refine g_getf dX1_placeOf_11 fX1_9 z1 rfl ?_
      refine g_iload_n dX1_placeOf_14 rfl rfl ?_
      refine g_ialdN dX1_placeOf_15 z2 (by omega) (by decide) ?_
      refine g_iload_n dX1_placeOf_16 rfl rfl ?_
      refine g_icmp_neN (tgt := 22) dX1_placeOf_17 (by decide) (hbl _) hb (fun c17 => ?_) (fun c17 => ?_)
      · refine g_iincN (z := 1) (ls' := [(2, .int (nI (i + 1))), (0, .ref 12), (1, .int (nI b))]) dX1_placeOf_22 rfl (by decide) rfl ?_
        refine g_goto (tgt := 2) dX1_placeOf_25 (by decide) ?_
        refine g_pick [0, 1, 2] (ls' := [(2, .int (nI (i + 1))), (0, .ref 12), (1, .int (nI b))]) rfl ?_
        exact ih (i + 1) (by omega) (by omega) (fun j hj => by by_cases q : j = i; (subst q; exact c17); exact hI j (by omega))
      · refine g_iload_n dX1_placeOf_20 rfl rfl ?_
        exact e_i dX1_placeOf_21 rfl rfl g_fr.rf (by first | exact Or.inl ⟨i, by omega, c17, hI, rfl⟩ | exact Or.inr ⟨fun j hj => hI j (by omega), rfl⟩) (by decide) (by decide)
set_option maxHeartbeats 4000000 in
set_option maxRecDepth 100000 in
theorem c_placeOf (G : gG) (d n : Nat) (ex : Bool) (h : gH) {bl ti df : Nat → Nat} {se : Nat → Int32} {D dr bk : Nat} (hl : Dl h bl ti df se D dr bk) {b : Nat} (hD : D ≤ 200) (hb : b < 2 ^ 31) (hbl : ∀ k, bl k < 2 ^ 31) : g_M G mX1_placeOf d 0 0 [.ref 12, .int (nI b)] n ex h (q_i n ex [] h (fun r _ => po_P bl D b r)) := by
  have hl' := hl
  obtain ⟨z1, z2, z3, z4, z5⟩ := hl
  refine g_enter (by decide) (Nat.le_of_ble_eq_true rfl) ?_
  show g_W G _ _ _ n ex h 0 0 0 [(0, .ref 12), (1, .int (nI b))] []
  refine g_iconst (v := nI 0) dX1_placeOf_0 (by decide) ?_
  refine g_istore_n (ls' := [(2, .int (nI 0)), (0, .ref 12), (1, .int (nI b))]) dX1_placeOf_1 rfl (by decide) rfl ?_
  refine g_pick [0, 1, 2] (ls' := [(2, .int (nI 0)), (0, .ref 12), (1, .int (nI b))]) rfl ?_
  exact lp_placeOf G _ n ex h hl' hD hb hbl (D + 1) 0 (by omega) (by omega) (fun j hj => absurd hj (by omega))
set_option maxHeartbeats 4000000 in
set_option maxRecDepth 100000 in
theorem c_seenAt (G : gG) (d n : Nat) (ex : Bool) (h : gH) {bl ti df : Nat → Nat} {se : Nat → Int32} {D dr bk : Nat} (hl : Dl h bl ti df se D dr bk) {x : Nat} (hxD : x < D) (hD : D ≤ 200) : g_M G mX1_seen (d + 1) 0 0 [.ref 12, .int (nI x)] n ex h (q_i n ex [] h (fun r _ => r = se x)) := by
  have hl' := hl
  obtain ⟨z1, z2, z3, z4, z5⟩ := hl
  refine g_enter (by decide) (Nat.le_of_ble_eq_true rfl) ?_
  show g_W G _ _ _ n ex h 0 0 0 [(0, .ref 12), (1, .int (nI x))] []
  refine g_aload_n dX1_seen_0 rfl rfl ?_
  refine g_iload_n dX1_seen_1 rfl rfl ?_
  refine cVi (st := []) dX1_seen_2 (c_isPlace G d n ex h hl' (by omega) (by omega)) sX1_38 z1 rfl rfl (by simp only [g_rm]; omega) (by simp only [g_rm]; omega) (Nat.le_of_ble_eq_true rfl) ⟨Nat.le_of_ble_eq_true rfl, Nat.le_of_ble_eq_true rfl⟩ (fun r4 h1 fr2 p3 => ?_)
  cases g_fr0 fr2
  subst p3
  refine g_if_eqN (tgt := 17) dX1_seen_5 (by decide) (by split <;> omega) (fun c5 => ?_) (fun c5 => ?_)
  · exact absurd c5 (by rw [if_pos hxD]; decide)
  · refine g_aload_n dX1_seen_8 rfl rfl ?_
    refine g_getf dX1_seen_9 fX1_15 z1 rfl ?_
    refine g_iload_n dX1_seen_12 rfl rfl ?_
    refine g_ialdN dX1_seen_13 z3 (by omega) (by decide) ?_
    refine g_goto (tgt := 19) dX1_seen_14 (by decide) ?_
    exact e_i dX1_seen_19 rfl rfl g_fr.rf rfl (by decide) (by decide)
set_option maxHeartbeats 4000000 in
set_option maxRecDepth 100000 in
theorem c_seenNo (G : gG) (d n : Nat) (ex : Bool) (h : gH) {bl ti df : Nat → Nat} {se : Nat → Int32} {D dr bk : Nat} (hl : Dl h bl ti df se D dr bk) : g_M G mX1_seen (d + 1) 0 0 [.ref 12, .int (-1)] n ex h (q_i n ex [] h (fun r _ => r = (-2))) := by
  have hl' := hl
  obtain ⟨z1, z2, z3, z4, z5⟩ := hl
  refine g_enter (by decide) (Nat.le_of_ble_eq_true rfl) ?_
  show g_W G _ _ _ n ex h 0 0 0 [(0, .ref 12), (1, .int (-1))] []
  refine g_aload_n dX1_seen_0 rfl rfl ?_
  refine g_iload_n dX1_seen_1 rfl rfl ?_
  refine cVi (st := []) dX1_seen_2 (c_isPlaceM G d n ex h hl') sX1_38 z1 rfl rfl (by simp only [g_rm]; omega) (by simp only [g_rm]; omega) (Nat.le_of_ble_eq_true rfl) ⟨Nat.le_of_ble_eq_true rfl, Nat.le_of_ble_eq_true rfl⟩ (fun r4 h1 fr2 p3 => ?_)
  cases g_fr0 fr2
  subst p3
  refine g_if_eqN (tgt := 17) dX1_seen_5 (by decide) (by decide) (fun c5 => ?_) (fun c5 => ?_)
  · refine g_bipush (v := -2) dX1_seen_17 (by decide) ?_
    exact e_i dX1_seen_19 rfl rfl g_fr.rf rfl (by decide) (by decide)
  · exact absurd rfl c5
set_option maxHeartbeats 4000000 in
set_option maxRecDepth 100000 in
theorem c_timesAt (G : gG) (d n : Nat) (ex : Bool) (h : gH) {bl ti df : Nat → Nat} {se : Nat → Int32} {D dr bk : Nat} (hl : Dl h bl ti df se D dr bk) {x : Nat} (hxD : x < D) (hD : D ≤ 200) : g_M G mX1_times (d + 1) 0 0 [.ref 12, .int (nI x)] n ex h (q_i n ex [] h (fun r _ => r = nI (ti x))) := by
  have hl' := hl
  obtain ⟨z1, z2, z3, z4, z5⟩ := hl
  refine g_enter (by decide) (Nat.le_of_ble_eq_true rfl) ?_
  show g_W G _ _ _ n ex h 0 0 0 [(0, .ref 12), (1, .int (nI x))] []
  refine g_aload_n dX1_times_0 rfl rfl ?_
  refine g_iload_n dX1_times_1 rfl rfl ?_
  refine cVi (st := []) dX1_times_2 (c_isPlace G d n ex h hl' (by omega) (by omega)) sX1_38 z1 rfl rfl (by simp only [g_rm]; omega) (by simp only [g_rm]; omega) (Nat.le_of_ble_eq_true rfl) ⟨Nat.le_of_ble_eq_true rfl, Nat.le_of_ble_eq_true rfl⟩ (fun r4 h1 fr2 p3 => ?_)
  cases g_fr0 fr2
  subst p3
  refine g_if_eqN (tgt := 17) dX1_times_5 (by decide) (by split <;> omega) (fun c5 => ?_) (fun c5 => ?_)
  · exact absurd c5 (by rw [if_pos hxD]; decide)
  · refine g_aload_n dX1_times_8 rfl rfl ?_
    refine g_getf dX1_times_9 fX1_18 z1 rfl ?_
    refine g_iload_n dX1_times_12 rfl rfl ?_
    refine g_ialdN dX1_times_13 z4 (by omega) (by decide) ?_
    refine g_goto (tgt := 18) dX1_times_14 (by decide) ?_
    exact e_i dX1_times_18 rfl rfl g_fr.rf rfl (by decide) (by decide)
set_option maxHeartbeats 4000000 in
set_option maxRecDepth 100000 in
theorem c_timesNo (G : gG) (d n : Nat) (ex : Bool) (h : gH) {bl ti df : Nat → Nat} {se : Nat → Int32} {D dr bk : Nat} (hl : Dl h bl ti df se D dr bk) : g_M G mX1_times (d + 1) 0 0 [.ref 12, .int (-1)] n ex h (q_i n ex [] h (fun r _ => r = nI 0)) := by
  have hl' := hl
  obtain ⟨z1, z2, z3, z4, z5⟩ := hl
  refine g_enter (by decide) (Nat.le_of_ble_eq_true rfl) ?_
  show g_W G _ _ _ n ex h 0 0 0 [(0, .ref 12), (1, .int (-1))] []
  refine g_aload_n dX1_times_0 rfl rfl ?_
  refine g_iload_n dX1_times_1 rfl rfl ?_
  refine cVi (st := []) dX1_times_2 (c_isPlaceM G d n ex h hl') sX1_38 z1 rfl rfl (by simp only [g_rm]; omega) (by simp only [g_rm]; omega) (Nat.le_of_ble_eq_true rfl) ⟨Nat.le_of_ble_eq_true rfl, Nat.le_of_ble_eq_true rfl⟩ (fun r4 h1 fr2 p3 => ?_)
  cases g_fr0 fr2
  subst p3
  refine g_if_eqN (tgt := 17) dX1_times_5 (by decide) (by decide) (fun c5 => ?_) (fun c5 => ?_)
  · refine g_iconst (v := nI 0) dX1_times_17 (by decide) ?_
    exact e_i dX1_times_18 rfl rfl g_fr.rf rfl (by decide) (by decide)
  · exact absurd rfl c5
set_option maxHeartbeats 4000000 in
set_option maxRecDepth 100000 in
theorem c_ballotAtAt (G : gG) (d n : Nat) (ex : Bool) (h : gH) {bl ti df : Nat → Nat} {se : Nat → Int32} {D dr bk : Nat} (hl : Dl h bl ti df se D dr bk) {x : Nat} (hxD : x < D) (hD : D ≤ 200) : g_M G mX1_ballotAt (d + 1) 0 0 [.ref 12, .int (nI x)] n ex h (q_i n ex [] h (fun r _ => r = nI (bl x))) := by
  have hl' := hl
  obtain ⟨z1, z2, z3, z4, z5⟩ := hl
  refine g_enter (by decide) (Nat.le_of_ble_eq_true rfl) ?_
  show g_W G _ _ _ n ex h 0 0 0 [(0, .ref 12), (1, .int (nI x))] []
  refine g_aload_n dX1_ballotAt_0 rfl rfl ?_
  refine g_iload_n dX1_ballotAt_1 rfl rfl ?_
  refine cVi (st := []) dX1_ballotAt_2 (c_isPlace G d n ex h hl' (by omega) (by omega)) sX1_38 z1 rfl rfl (by simp only [g_rm]; omega) (by simp only [g_rm]; omega) (Nat.le_of_ble_eq_true rfl) ⟨Nat.le_of_ble_eq_true rfl, Nat.le_of_ble_eq_true rfl⟩ (fun r4 h1 fr2 p3 => ?_)
  cases g_fr0 fr2
  subst p3
  refine g_if_eqN (tgt := 17) dX1_ballotAt_5 (by decide) (by split <;> omega) (fun c5 => ?_) (fun c5 => ?_)
  · exact absurd c5 (by rw [if_pos hxD]; decide)
  · refine g_aload_n dX1_ballotAt_8 rfl rfl ?_
    refine g_getf dX1_ballotAt_9 fX1_9 z1 rfl ?_
    refine g_iload_n dX1_ballotAt_12 rfl rfl ?_
    refine g_ialdN dX1_ballotAt_13 z2 (by omega) (by decide) ?_
    refine g_goto (tgt := 18) dX1_ballotAt_14 (by decide) ?_
    exact e_i dX1_ballotAt_18 rfl rfl g_fr.rf rfl (by decide) (by decide)
set_option maxHeartbeats 4000000 in
set_option maxRecDepth 100000 in
theorem c_ballotAtNo (G : gG) (d n : Nat) (ex : Bool) (h : gH) {bl ti df : Nat → Nat} {se : Nat → Int32} {D dr bk : Nat} (hl : Dl h bl ti df se D dr bk) : g_M G mX1_ballotAt (d + 1) 0 0 [.ref 12, .int (-1)] n ex h (q_i n ex [] h (fun r _ => r = nI 0)) := by
  have hl' := hl
  obtain ⟨z1, z2, z3, z4, z5⟩ := hl
  refine g_enter (by decide) (Nat.le_of_ble_eq_true rfl) ?_
  show g_W G _ _ _ n ex h 0 0 0 [(0, .ref 12), (1, .int (-1))] []
  refine g_aload_n dX1_ballotAt_0 rfl rfl ?_
  refine g_iload_n dX1_ballotAt_1 rfl rfl ?_
  refine cVi (st := []) dX1_ballotAt_2 (c_isPlaceM G d n ex h hl') sX1_38 z1 rfl rfl (by simp only [g_rm]; omega) (by simp only [g_rm]; omega) (Nat.le_of_ble_eq_true rfl) ⟨Nat.le_of_ble_eq_true rfl, Nat.le_of_ble_eq_true rfl⟩ (fun r4 h1 fr2 p3 => ?_)
  cases g_fr0 fr2
  subst p3
  refine g_if_eqN (tgt := 17) dX1_ballotAt_5 (by decide) (by decide) (fun c5 => ?_) (fun c5 => ?_)
  · refine g_iconst (v := nI 0) dX1_ballotAt_17 (by decide) ?_
    exact e_i dX1_ballotAt_18 rfl rfl g_fr.rf rfl (by decide) (by decide)
  · exact absurd rfl c5
set_option maxHeartbeats 4000000 in
set_option maxRecDepth 100000 in
theorem c_lastNew (G : gG) (d n : Nat) (ex : Bool) (h : gH) {bl ti df : Nat → Nat} {se : Nat → Int32} {D dr bk : Nat} (hl : Dl h bl ti df se D dr bk) (hD1 : 1 ≤ D) (hD : D ≤ 200) : g_M G mX1_lastNew d 0 0 [.ref 12] n ex h (q_i n ex [] h (fun r _ => r = nI (bl (D - 1)))) := by
  obtain ⟨z1, z2, z3, z4, z5⟩ := hl
  refine g_enter (by decide) (Nat.le_of_ble_eq_true rfl) ?_
  show g_W G _ _ _ n ex h 0 0 0 [(0, .ref 12)] []
  refine g_aload_n dX1_lastNew_0 rfl rfl ?_
  refine g_getf dX1_lastNew_1 fX1_24 z1 rfl ?_
  refine g_iconst (v := nI 1) dX1_lastNew_4 (by decide) ?_
  refine g_icmp_geN (tgt := 12) dX1_lastNew_5 (by decide) (by omega) (by omega) (fun c5 => ?_) (fun c5 => ?_)
  · refine g_aload_n dX1_lastNew_12 rfl rfl ?_
    refine g_getf dX1_lastNew_13 fX1_9 z1 rfl ?_
    refine g_aload_n dX1_lastNew_16 rfl rfl ?_
    refine g_getf dX1_lastNew_17 fX1_24 z1 rfl ?_
    refine g_iconst (v := nI 1) dX1_lastNew_20 (by decide) ?_
    refine g_isubN dX1_lastNew_21 (by omega) ?_
    refine g_ialdN dX1_lastNew_22 z2 (by omega) (by decide) ?_
    exact e_i dX1_lastNew_23 rfl rfl g_fr.rf rfl (by decide) (by decide)
  · exact absurd c5 (by omega)
set_option maxHeartbeats 4000000 in
set_option maxRecDepth 100000 in
theorem c_seeLast (G : gG) (d n : Nat) (ex : Bool) (h : gH) {bl ti df : Nat → Nat} {se : Nat → Int32} {D dr bk : Nat} (hl : Dl h bl ti df se D dr bk) {x : Int32} (hD1 : 1 ≤ D) (hD : D ≤ 200) : g_M G mX1_seeLast (d + 1) 0 0 [.ref 12, .int x] n ex h (q_i n ex [14] h (fun r h' => r = nI (D - 1) ∧ Dl h' bl ti df (upd se (D - 1) x) D dr bk)) := by
  have hl' := hl
  obtain ⟨z1, z2, z3, z4, z5⟩ := hl
  refine g_enter (by decide) (Nat.le_of_ble_eq_true rfl) ?_
  show g_W G _ _ _ n ex h 0 0 0 [(0, .ref 12), (1, .int x)] []
  refine g_aload_n dX1_seeLast_0 rfl rfl ?_
  refine g_getf dX1_seeLast_1 fX1_24 z1 rfl ?_
  refine g_iconst (v := nI 1) dX1_seeLast_4 (by decide) ?_
  refine g_isubN dX1_seeLast_5 (by omega) ?_
  refine g_istore_n (ls' := [(2, .int (nI (D - 1))), (0, .ref 12), (1, .int x)]) dX1_seeLast_6 rfl (by decide) rfl ?_
  refine g_aload_n dX1_seeLast_7 rfl rfl ?_
  refine g_iload_n dX1_seeLast_8 rfl rfl ?_
  refine cVi (st := []) dX1_seeLast_9 (c_isPlace G d n ex h hl' (by omega) (by omega)) sX1_38 z1 rfl rfl (by simp only [g_rm]; omega) (by simp only [g_rm]; omega) (Nat.le_of_ble_eq_true rfl) ⟨Nat.le_of_ble_eq_true rfl, Nat.le_of_ble_eq_true rfl⟩ (fun r4 h1 fr2 p3 => ?_)
  cases g_fr0 fr2
  subst p3
  refine g_if_eqN (tgt := 22) dX1_seeLast_12 (by decide) (by split <;> omega) (fun c12 => ?_) (fun c12 => ?_)
  · exact absurd c12 (by rw [if_pos (by omega)]; decide)
  · refine g_aload_n dX1_seeLast_15 rfl rfl ?_
    refine g_getf dX1_seeLast_16 fX1_15 z1 rfl ?_
    refine g_iload_n dX1_seeLast_19 rfl rfl ?_
    refine g_iload_n dX1_seeLast_20 rfl rfl ?_
    refine g_iastN dX1_seeLast_21 z3 (by omega) (by decide) ?_
    refine g_iload_n dX1_seeLast_22 rfl rfl ?_
    exact e_i dX1_seeLast_23 rfl rfl (g_fr.rf.up (by simp)) ⟨rfl, ⟨g_ne (by decide) z1, g_ne (by decide) z2, g_eq, g_ne (by decide) z4, g_ne (by decide) z5⟩⟩ (by decide) (by decide)
set_option maxHeartbeats 4000000 in
set_option maxRecDepth 100000 in
theorem c_countC (G : gG) (d n : Nat) (ex : Bool) (h : gH) {bl ti df : Nat → Nat} {se : Nat → Int32} {D dr bk : Nat} (hl : Dl h bl ti df se D dr bk) {x c : Nat} (hxD : x < D) (hD : D ≤ 200) (hc : c < 8) (hse : se x = nI c) : g_M G mX1_countFor (d + 2) 0 0 [.ref 12, .int (nI x)] n ex h (q_i n ex [16] h (fun r h' => r = nI c ∧ Dl h' bl ti (va_up df c (df c + 1)) se D dr bk)) := by
  have hl' := hl
  obtain ⟨z1, z2, z3, z4, z5⟩ := hl
  refine g_enter (by decide) (Nat.le_of_ble_eq_true rfl) ?_
  show g_W G _ _ _ n ex h 0 0 0 [(0, .ref 12), (1, .int (nI x))] []
  refine g_aload_n dX1_countFor_0 rfl rfl ?_
  refine g_iload_n dX1_countFor_1 rfl rfl ?_
  refine cVi (st := []) dX1_countFor_2 (c_seenAt G d n ex h hl' hxD hD) sX1_42 z1 rfl rfl (by simp only [g_rm]; omega) (by simp only [g_rm]; omega) (Nat.le_of_ble_eq_true rfl) ⟨Nat.le_of_ble_eq_true rfl, Nat.le_of_ble_eq_true rfl⟩ (fun r4 h1 fr2 p3 => ?_)
  cases g_fr0 fr2
  rw [hse] at p3
  subst p3
  refine g_istore_n (ls' := [(2, .int (nI c)), (0, .ref 12), (1, .int (nI x))]) dX1_countFor_5 rfl (by decide) rfl ?_
  refine g_iload_n dX1_countFor_6 rfl rfl ?_
  refine g_if_ltN (tgt := 26) dX1_countFor_7 (by decide) (by omega) (fun c7 => ?_) (fun c7 => ?_)
  · exact c7.elim
  · refine g_iload_n dX1_countFor_10 rfl rfl ?_
    refine g_bipush (v := nI 8) dX1_countFor_11 (by decide) ?_
    refine g_icmp_geN (tgt := 26) dX1_countFor_13 (by decide) (by omega) (by decide) (fun c13 => ?_) (fun c13 => ?_)
    · exact absurd c13 (by omega)
    · refine g_aload_n dX1_countFor_16 rfl rfl ?_
      refine g_getf dX1_countFor_17 fX1_21 z1 rfl ?_
      refine g_iload_n dX1_countFor_20 rfl rfl ?_
      refine g_dup2_11 dX1_countFor_21 rfl rfl ?_
      refine g_ialdN dX1_countFor_22 z5 (by omega) (by decide) ?_
      refine g_iconst (v := nI 1) dX1_countFor_23 (by decide) ?_
      refine g_iaddN dX1_countFor_24 ?_
      refine g_iastN dX1_countFor_25 z5 (by omega) (by decide) ?_
      rw [upd_nI]
      refine g_iload_n dX1_countFor_26 rfl rfl ?_
      exact e_i dX1_countFor_27 rfl rfl (g_fr.rf.up (by simp)) ⟨rfl, ⟨g_ne (by decide) z1, g_ne (by decide) z2, g_ne (by decide) z3, g_ne (by decide) z4, g_eq⟩⟩ (by decide) (by decide)
set_option maxHeartbeats 4000000 in
set_option maxRecDepth 100000 in
theorem c_countN (G : gG) (d n : Nat) (ex : Bool) (h : gH) {bl ti df : Nat → Nat} {se : Nat → Int32} {D dr bk : Nat} (hl : Dl h bl ti df se D dr bk) {x : Nat} (hxD : x < D) (hD : D ≤ 200) (hse : se x = -1) : g_M G mX1_countFor (d + 2) 0 0 [.ref 12, .int (nI x)] n ex h (q_i n ex [] h (fun r _ => r = -1)) := by
  have hl' := hl
  obtain ⟨z1, z2, z3, z4, z5⟩ := hl
  refine g_enter (by decide) (Nat.le_of_ble_eq_true rfl) ?_
  show g_W G _ _ _ n ex h 0 0 0 [(0, .ref 12), (1, .int (nI x))] []
  refine g_aload_n dX1_countFor_0 rfl rfl ?_
  refine g_iload_n dX1_countFor_1 rfl rfl ?_
  refine cVi (st := []) dX1_countFor_2 (c_seenAt G d n ex h hl' hxD hD) sX1_42 z1 rfl rfl (by simp only [g_rm]; omega) (by simp only [g_rm]; omega) (Nat.le_of_ble_eq_true rfl) ⟨Nat.le_of_ble_eq_true rfl, Nat.le_of_ble_eq_true rfl⟩ (fun r4 h1 fr2 p3 => ?_)
  cases g_fr0 fr2
  rw [hse] at p3
  subst p3
  refine g_istore_n (ls' := [(2, .int (-1)), (0, .ref 12), (1, .int (nI x))]) dX1_countFor_5 rfl (by decide) rfl ?_
  refine g_iload_n dX1_countFor_6 rfl rfl ?_
  refine g_if_lt (tgt := 26) dX1_countFor_7 (by decide) (fun c7 => ?_) (fun c7 => ?_)
  · refine g_iload_n dX1_countFor_26 rfl rfl ?_
    exact e_i dX1_countFor_27 rfl rfl g_fr.rf rfl (by decide) (by decide)
  · exact absurd (show (-1 : Int32) < 0 by decide) c7
set_option maxHeartbeats 4000000 in
set_option maxRecDepth 100000 in
theorem c_countNo (G : gG) (d n : Nat) (ex : Bool) (h : gH) {bl ti df : Nat → Nat} {se : Nat → Int32} {D dr bk : Nat} (hl : Dl h bl ti df se D dr bk) : g_M G mX1_countFor (d + 2) 0 0 [.ref 12, .int (-1)] n ex h (q_i n ex [] h (fun r _ => r = -2)) := by
  have hl' := hl
  obtain ⟨z1, z2, z3, z4, z5⟩ := hl
  refine g_enter (by decide) (Nat.le_of_ble_eq_true rfl) ?_
  show g_W G _ _ _ n ex h 0 0 0 [(0, .ref 12), (1, .int (-1))] []
  refine g_aload_n dX1_countFor_0 rfl rfl ?_
  refine g_iload_n dX1_countFor_1 rfl rfl ?_
  refine cVi (st := []) dX1_countFor_2 (c_seenNo G d n ex h hl') sX1_42 z1 rfl rfl (by simp only [g_rm]; omega) (by simp only [g_rm]; omega) (Nat.le_of_ble_eq_true rfl) ⟨Nat.le_of_ble_eq_true rfl, Nat.le_of_ble_eq_true rfl⟩ (fun r4 h1 fr2 p3 => ?_)
  cases g_fr0 fr2
  subst p3
  refine g_istore_n (ls' := [(2, .int (-2)), (0, .ref 12), (1, .int (-1))]) dX1_countFor_5 rfl (by decide) rfl ?_
  refine g_iload_n dX1_countFor_6 rfl rfl ?_
  refine g_if_lt (tgt := 26) dX1_countFor_7 (by decide) (fun c7 => ?_) (fun c7 => ?_)
  · refine g_iload_n dX1_countFor_26 rfl rfl ?_
    exact e_i dX1_countFor_27 rfl rfl g_fr.rf rfl (by decide) (by decide)
  · exact absurd (show (-2 : Int32) < 0 by decide) c7
