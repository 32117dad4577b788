theorem upd_nI (v : Nat → Nat) (c x : Nat) : upd (fun k => nI (v k)) c (nI x) = fun k => nI (va_up v c x k) := by
  funext k
  unfold upd va_up
  by_cases q : k = c
  · rw [if_pos q, if_pos q]
  · rw [if_neg q, if_neg q]
theorem i2b_nI {b : Nat} (h : b < 128) : (nI b).toInt8.toInt32 = nI b := by
  have : ∀ b : Fin 128, (nI b.val).toInt8.toInt32 = nI b.val := by decide
  exact this ⟨b, h⟩
theorem nar_b {b : Nat} (h : b < 128) : vp_nar .byte (nI b) = nI b := by rw [vp_nar_byte]; exact i2b_nI h
theorem nar_z {b : Nat} (h : b < 2) : vp_nar .boolean (nI b) = nI b := by
  have : ∀ b : Fin 2, vp_nar .boolean (nI b.val) = nI b.val := by decide
  exact this ⟨b, h⟩
theorem va_s {α : Type} {f : Nat → α} {k : Nat} {x : α} : va_up f k x k = x := if_pos rfl
theorem va_n {α : Type} {f : Nat → α} {k j : Nat} {x : α} (h : j ≠ k) : va_up f k x j = f j := if_neg h
abbrev SuO (s : Nat → Nat) : List Value := [.ref 2, .ref 3, .ref 4, .ref 5, .int (nI (s 4)), .int (nI (s 5)), .int (nI (s 6)), .int (nI (s 7)), .int (nI (s 8)), .int (nI (s 9)), .int (nI (s 10)), .int (nI (s 11)), .int (nI (s 12))]
/-- the Setup: s 4 candidates, 5 batches, 6 ballots, 7 winners, 8 cap, 9, 10 limit, 11, 12 gamma; votes, winners, ends, records -/
def Su (h : gH) (s v wn en rc : Nat → Nat) : Prop := h 1 = some (.inr (7, SuO s)) ∧ h 2 = some (.inl (0, 8, .inl (fun k => nI (v k)))) ∧ h 3 = some (.inl (2, 8, .inl (fun k => nI (wn k)))) ∧ h 4 = some (.inl (0, 64, .inl (fun k => nI (en k)))) ∧ h 5 = some (.inl (1, 20000, .inl (fun k => nI (rc k))))
theorem Su.fr {h h' : gH} {S : List Nat} {s v wn en rc : Nat → Nat} (z : Su h s v wn en rc) (hf : g_fr S h h') (hS : ∀ i ∈ S, 5 < i ∨ i = 0) : Su h' s v wn en rc := by
  obtain ⟨h1, h2, h3, h4, h5⟩ := z
  exact ⟨hf.at (fun q => by have := hS _ q; omega) h1, hf.at (fun q => by have := hS _ q; omega) h2, hf.at (fun q => by have := hS _ q; omega) h3, hf.at (fun q => by have := hS _ q; omega) h4, hf.at (fun q => by have := hS _ q; omega) h5⟩
set_option maxHeartbeats 4000000 in
set_option maxRecDepth 100000 in
theorem c_addCandidate (G : gG) (d n : Nat) (ex : Bool) (h : gH) {s v wn en rc : Nat → Nat} (hs : Su h s v wn en rc) {x : Nat} (h8 : s 4 < 8) : g_M G mX7_addCandidate d 0 0 [.ref 1, .int (nI x)] n ex h (q_i n ex [1, 2] h (fun r h' => r = nI (s 4) ∧ Su h' (va_up s 4 (s 4 + 1)) (va_up v (s 4) x) wn en rc)) := by
  obtain ⟨z1, z2, z3, z4, z5⟩ := hs
  refine g_enter (by decide) (Nat.le_of_ble_eq_true rfl) ?_
  show g_W G _ _ _ n ex h 0 0 0 [(0, .ref 1), (1, .int (nI x))] []
  refine g_aload_n dX7_addCandidate_0 rfl rfl ?_
  refine g_getf dX7_addCandidate_1 fX7_9 z1 rfl ?_
  refine g_aload_n dX7_addCandidate_4 rfl rfl ?_
  refine g_getf dX7_addCandidate_5 fX7_45 z1 rfl ?_
  refine g_iload_n dX7_addCandidate_8 rfl rfl ?_
  refine g_iastN dX7_addCandidate_9 z2 h8 (by decide) ?_
  rw [upd_nI]
  refine g_aload_n dX7_addCandidate_10 rfl rfl ?_
  refine g_dup dX7_addCandidate_11 rfl ?_
  refine g_getf dX7_addCandidate_12 fX7_45 (g_ne (by decide) z1) rfl ?_
  refine g_iconst (v := nI 1) dX7_addCandidate_15 (by decide) ?_
  refine g_iaddN dX7_addCandidate_16 ?_
  refine g_put (fs' := [.ref 2, .ref 3, .ref 4, .ref 5, .int (nI ((s 4) + 1)), .int (nI (s 5)), .int (nI (s 6)), .int (nI (s 7)), .int (nI (s 8)), .int (nI (s 9)), .int (nI (s 10)), .int (nI (s 11)), .int (nI (s 12))]) dX7_addCandidate_17 fX7_45 (g_ne (by decide) z1) (Nat.le_of_ble_eq_true rfl) rfl rfl rfl ?_
  refine g_aload_n dX7_addCandidate_20 rfl rfl ?_
  refine g_getf dX7_addCandidate_21 fX7_45 g_eq rfl ?_
  refine g_iconst (v := nI 1) dX7_addCandidate_24 (by decide) ?_
  refine g_isubN dX7_addCandidate_25 (by omega) ?_
  exact e_i dX7_addCandidate_26 rfl rfl ((g_fr.rf.up (by simp)).up (by simp)) ⟨by rw [show s 4 + 1 - 1 = s 4 by omega], ⟨g_eq, g_ne (by decide) g_eq, g_ne (by decide) (g_ne (by decide) z3), g_ne (by decide) (g_ne (by decide) z4), g_ne (by decide) (g_ne (by decide) z5)⟩⟩ (by decide) (by decide)
set_option maxHeartbeats 4000000 in
set_option maxRecDepth 100000 in
theorem c_addBatch (G : gG) (d n : Nat) (ex : Bool) (h : gH) {s v wn en rc : Nat → Nat} (hs : Su h s v wn en rc) {x : Nat} (h64 : s 5 < 64) : g_M G mX7_addBatch d 0 0 [.ref 1, .int (nI x)] n ex h (q_i n ex [1, 4] h (fun r h' => r = nI (s 6) ∧ Su h' (va_up (va_up s 6 (s 6 + x)) 5 (s 5 + 1)) v wn (va_up en (s 5) (s 6 + x)) rc)) := by
  obtain ⟨z1, z2, z3, z4, z5⟩ := hs
  refine g_enter (by decide) (Nat.le_of_ble_eq_true rfl) ?_
  show g_W G _ _ _ n ex h 0 0 0 [(0, .ref 1), (1, .int (nI x))] []
  refine g_aload_n dX7_addBatch_0 rfl rfl ?_
  refine g_getf dX7_addBatch_1 fX7_48 z1 rfl ?_
  refine g_istore_n (ls' := [(2, .int (nI (s 6))), (0, .ref 1), (1, .int (nI x))]) dX7_addBatch_4 rfl (by decide) rfl ?_
  refine g_aload_n dX7_addBatch_5 rfl rfl ?_
  refine g_dup dX7_addBatch_6 rfl ?_
  refine g_getf dX7_addBatch_7 fX7_48 z1 rfl ?_
  refine g_iload_n dX7_addBatch_10 rfl rfl ?_
  refine g_iaddN dX7_addBatch_11 ?_
  refine g_put (fs' := [.ref 2, .ref 3, .ref 4, .ref 5, .int (nI (s 4)), .int (nI (s 5)), .int (nI ((s 6) + x)), .int (nI (s 7)), .int (nI (s 8)), .int (nI (s 9)), .int (nI (s 10)), .int (nI (s 11)), .int (nI (s 12))]) dX7_addBatch_12 fX7_48 z1 (Nat.le_of_ble_eq_true rfl) rfl rfl rfl ?_
  refine g_aload_n dX7_addBatch_15 rfl rfl ?_
  refine g_getf dX7_addBatch_16 fX7_19 g_eq rfl ?_
  refine g_aload_n dX7_addBatch_19 rfl rfl ?_
  refine g_getf dX7_addBatch_20 fX7_51 g_eq rfl ?_
  refine g_aload_n dX7_addBatch_23 rfl rfl ?_
  refine g_getf dX7_addBatch_24 fX7_48 g_eq rfl ?_
  refine g_iastN dX7_addBatch_27 (g_ne (by decide) z4) h64 (by decide) ?_
  rw [upd_nI]
  refine g_aload_n dX7_addBatch_28 rfl rfl ?_
  refine g_dup dX7_addBatch_29 rfl ?_
  refine g_getf dX7_addBatch_30 fX7_51 (g_ne (by decide) g_eq) rfl ?_
  refine g_iconst (v := nI 1) dX7_addBatch_33 (by decide) ?_
  refine g_iaddN dX7_addBatch_34 ?_
  refine g_put (fs' := [.ref 2, .ref 3, .ref 4, .ref 5, .int (nI (s 4)), .int (nI ((s 5) + 1)), .int (nI ((s 6) + x)), .int (nI (s 7)), .int (nI (s 8)), .int (nI (s 9)), .int (nI (s 10)), .int (nI (s 11)), .int (nI (s 12))]) dX7_addBatch_35 fX7_51 (g_ne (by decide) g_eq) (Nat.le_of_ble_eq_true rfl) rfl rfl rfl ?_
  refine g_iload_n dX7_addBatch_38 rfl rfl ?_
  exact e_i dX7_addBatch_39 rfl rfl (((g_fr.rf.up (by simp)).up (by simp)).up (by simp)) ⟨rfl, ⟨g_eq, g_ne (by decide) (g_ne (by decide) (g_ne (by decide) z2)), g_ne (by decide) (g_ne (by decide) (g_ne (by decide) z3)), g_ne (by decide) g_eq, g_ne (by decide) (g_ne (by decide) (g_ne (by decide) z5))⟩⟩ (by decide) (by decide)
set_option maxHeartbeats 4000000 in
set_option maxRecDepth 100000 in
theorem c_readOf (G : gG) (d n : Nat) (ex : Bool) (h : gH) {s v wn en rc : Nat → Nat} (hs : Su h s v wn en rc) {x : Nat} (hk : x < 20000) : g_M G mX7_readOf d 0 0 [.ref 1, .int (nI x)] n ex h (q_i n ex [] h (fun r _ => r = nI (rc x) - nI 1)) := by
  obtain ⟨z1, z2, z3, z4, z5⟩ := hs
  refine g_enter (by decide) (Nat.le_of_ble_eq_true rfl) ?_
  show g_W G _ _ _ n ex h 0 0 0 [(0, .ref 1), (1, .int (nI x))] []
  refine g_aload_n dX7_readOf_0 rfl rfl ?_
  refine g_getf dX7_readOf_1 fX7_22 z1 rfl ?_
  refine g_iload_n dX7_readOf_4 rfl rfl ?_
  refine g_baldN dX7_readOf_5 z5 hk (by decide) ?_
  refine g_iconst (v := nI 1) dX7_readOf_6 (by decide) ?_
  refine g_isub dX7_readOf_7 ?_
  exact e_i dX7_readOf_8 rfl rfl g_fr.rf rfl (by decide) (by decide)
def rc_set (rc : Nat → Nat) (a b c : Nat) : Nat → Nat := fun k => if a ≤ k ∧ k < b then c else rc k
theorem rc_0 (rc : Nat → Nat) (a c : Nat) : rc_set rc a a c = rc := by
  funext k
  exact if_neg (by omega)
theorem rc_s {rc : Nat → Nat} {a i c : Nat} (h : a ≤ i) : va_up (rc_set rc a i c) i c = rc_set rc a (i + 1) c := by
  funext k
  unfold rc_set va_up
  by_cases q : k = i
  · rw [if_pos q, if_pos (by omega)]
  · rw [if_neg q]
    by_cases z : a ≤ k ∧ k < i
    · exact (if_pos z).trans (if_pos (show a ≤ k ∧ k < i + 1 by omega)).symm
    · exact (if_neg z).trans (if_neg (show ¬ (a ≤ k ∧ k < i + 1) by omega)).symm
set_option maxHeartbeats 4000000 in
set_option maxRecDepth 100000 in
theorem lp_readAs (G : gG) (R : Room) (n : Nat) (ex : Bool) (h0 : gH) {s v wn en rc : Nat → Nat} {a m cc : Nat} {x : Int32} (hcc : cc < 128) (ham : a + m ≤ 20000) : ∀ (t i : Nat) (h : gH), a + m - i < t → a ≤ i → i ≤ a + m → h 1 = some (.inr (7, SuO s)) → h 2 = some (.inl (0, 8, .inl (fun k => nI (v k)))) → h 3 = some (.inl (2, 8, .inl (fun k => nI (wn k)))) → h 4 = some (.inl (0, 64, .inl (fun k => nI (en k)))) → h 5 = some (.inl (1, 20000, .inl (fun k => nI (rc_set rc a i cc k)))) → g_fr [5] h0 h →
    g_W G mX7_readAs R (g_K G (q_v n ex [5] h0 (fun h' => Su h' s v wn en (rc_set rc a (a + m) cc))) 0 0) n ex h 0 0 9 [(5, .int (nI i)), (4, .int (nI cc)), (0, .ref 1), (1, .int (nI a)), (2, .int (nI m)), (3, .int x)] [] := by
  intro t
  induction t with
  | zero => intro i h hm; exact absurd hm (by omega)
  | succ t ih =>
    intro i h ht hi hi2 z1 z2 z3 z4 z5 hf
    refine g_iload dX7_readAs_9 rfl ?_
    refine g_iload_n dX7_readAs_11 rfl rfl ?_
    refine g_iload_n dX7_readAs_12 rfl rfl ?_
    refine g_iaddN dX7_readAs_13 ?_
    refine g_icmp_geN (tgt := 32) dX7_readAs_14 (by decide) (by omega) (by omega) (fun c14 => ?_) (fun c14 => ?_)
    · have e : i = a + m := by omega
      subst e
      exact e_v dX7_readAs_32 rfl hf ⟨z1, z2, z3, z4, z5⟩ (by decide) (by decide)
    · refine g_aload_n dX7_readAs_17 rfl rfl ?_
      refine g_getf dX7_readAs_18 fX7_22 z1 rfl ?_
      refine g_iload dX7_readAs_21 rfl ?_
      refine g_iload dX7_readAs_23 rfl ?_
      refine g_bastN dX7_readAs_25 z5 (by omega) (by decide) ?_
      rw [nar_b (by omega), upd_nI]
      refine g_iincN (z := 1) (ls' := [(5, .int (nI (i + 1))), (4, .int (nI cc)), (0, .ref 1), (1, .int (nI a)), (2, .int (nI m)), (3, .int x)]) dX7_readAs_26 rfl (by decide) rfl ?_
      refine g_goto (tgt := 9) dX7_readAs_29 (by decide) ?_
      refine g_pick [0, 1, 2, 3, 4, 5] (ls' := [(5, .int (nI (i + 1))), (4, .int (nI cc)), (0, .ref 1), (1, .int (nI a)), (2, .int (nI m)), (3, .int x)]) rfl ?_
      exact ih (i + 1) _ (by omega) (by omega) (by omega) (g_ne (by decide) z1) (g_ne (by decide) z2) (g_ne (by decide) z3) (g_ne (by decide) z4) (by rw [← rc_s (by omega)]; exact g_eq) (hf.up (by simp))
set_option maxHeartbeats 4000000 in
set_option maxRecDepth 100000 in
theorem c_readAs (G : gG) (d n : Nat) (ex : Bool) (h : gH) {s v wn en rc : Nat → Nat} (hs : Su h s v wn en rc) {a m cc : Nat} {x : Int32} (hx : x + nI 1 = nI cc) (hcc : cc ≤ 8) (ham : a + m ≤ 20000) : g_M G mX7_readAs d 0 0 [.ref 1, .int (nI a), .int (nI m), .int x] n ex h (q_v n ex [5] h (fun h' => Su h' s v wn en (rc_set rc a (a + m) cc))) := by
  obtain ⟨z1, z2, z3, z4, z5⟩ := hs
  refine g_enter (by decide) (Nat.le_of_ble_eq_true rfl) ?_
  show g_W G _ _ _ n ex h 0 0 0 [(0, .ref 1), (1, .int (nI a)), (2, .int (nI m)), (3, .int x)] []
  refine g_iload_n dX7_readAs_0 rfl rfl ?_
  refine g_iconst (v := nI 1) dX7_readAs_1 (by decide) ?_
  refine g_iadd dX7_readAs_2 ?_
  refine g_top (show x + (nI 1) = nI cc from hx) ?_
  refine g_i2b dX7_readAs_3 ?_
  refine g_top (show (nI cc).toInt8.toInt32 = nI cc from i2b_nI (by omega)) ?_
  refine g_istore (ls' := [(4, .int (nI cc)), (0, .ref 1), (1, .int (nI a)), (2, .int (nI m)), (3, .int x)]) dX7_readAs_4 (by decide) rfl ?_
  refine g_iload_n dX7_readAs_6 rfl rfl ?_
  refine g_istore (ls' := [(5, .int (nI a)), (4, .int (nI cc)), (0, .ref 1), (1, .int (nI a)), (2, .int (nI m)), (3, .int x)]) dX7_readAs_7 (by decide) rfl ?_
  refine g_pick [0, 1, 2, 3, 4, 5] (ls' := [(5, .int (nI a)), (4, .int (nI cc)), (0, .ref 1), (1, .int (nI a)), (2, .int (nI m)), (3, .int x)]) rfl ?_
  exact lp_readAs G _ n ex h (by omega) ham (m + 1) a h (by omega) (Nat.le_refl _) (by omega) z1 z2 z3 z4 (by rw [rc_0]; exact z5) g_fr.rf
/-- the first place at which the search for a batch ends -/
def bo_P (en : Nat → Nat) (B x r : Nat) : Prop := (∀ k, k < r → k + 1 < B ∧ en k ≤ x) ∧ ¬ (r + 1 < B ∧ en r ≤ x)
set_option maxHeartbeats 4000000 in
set_option maxRecDepth 100000 in
theorem lp_batchOf (G : gG) (R : Room) (n : Nat) (ex : Bool) (h : gH) {s v wn en rc : Nat → Nat} (hs : Su h s v wn en rc) {x : Nat} (hB1 : 1 ≤ s 5) (hB : s 5 ≤ 64) (hx : x < 2 ^ 31) (hen : ∀ k, en k < 2 ^ 31) : ∀ (t i : Nat), s 5 - i < t → i < s 5 → (∀ k, k < i → k + 1 < s 5 ∧ en k ≤ x) →
    g_W G mX7_batchOf R (g_K G (q_i n ex [] h (fun r _ => ∃ b, r = nI b ∧ bo_P en (s 5) x b)) 0 0) n ex h 0 0 2 [(2, .int (nI i)), (0, .ref 1), (1, .int (nI x))] [] := by
  obtain ⟨z1, z2, z3, z4, z5⟩ := hs
  intro t
  induction t with
  | zero => intro i hm; exact absurd hm (by omega)
  | succ t ih =>
    intro i ht hi hI
    refine g_iload_n dX7_batchOf_2 rfl rfl ?_
    refine g_aload_n dX7_batchOf_3 rfl rfl ?_
    refine g_getf dX7_batchOf_4 fX7_51 z1 rfl ?_
    refine g_iconst (v := nI 1) dX7_batchOf_7 (by decide) ?_
    refine g_isubN dX7_batchOf_8 (by omega) ?_
    refine g_icmp_geN (tgt := 28) dX7_batchOf_9 (by decide) (by omega) (by omega) (fun c9 => ?_) (fun c9 => ?_)
    · refine g_iload_n dX7_batchOf_28 rfl rfl ?_
      exact e_i dX7_batchOf_29 rfl rfl g_fr.rf ⟨i, rfl, hI, by omega⟩ (by decide) (by decide)
    · refine g_iload_n dX7_batchOf_12 rfl rfl ?_
      refine g_aload_n dX7_batchOf_13 rfl rfl ?_
      refine g_getf dX7_batchOf_14 fX7_19 z1 rfl ?_
      refine g_iload_n dX7_batchOf_17 rfl rfl ?_
      refine g_ialdN dX7_batchOf_18 z4 (by omega) (by decide) ?_
      refine g_icmp_ltN (tgt := 28) dX7_batchOf_19 (by decide) (by omega) (hen _) (fun c19 => ?_) (fun c19 => ?_)
      · refine g_iload_n dX7_batchOf_28 rfl rfl ?_
        exact e_i dX7_batchOf_29 rfl rfl g_fr.rf ⟨i, rfl, hI, by omega⟩ (by decide) (by decide)
      · refine g_iincN (z := 1) (ls' := [(2, .int (nI (i + 1))), (0, .ref 1), (1, .int (nI x))]) dX7_batchOf_22 rfl (by decide) rfl ?_
        refine g_goto (tgt := 2) dX7_batchOf_25 (by decide) ?_
        refine g_pick [0, 1, 2] (ls' := [(2, .int (nI (i + 1))), (0, .ref 1), (1, .int (nI x))]) rfl ?_
        exact ih (i + 1) (by omega) (by omega) (fun k hk => by by_cases q : k = i; (subst q; exact ⟨by omega, c19⟩); exact hI k (by omega))
set_option maxHeartbeats 4000000 in
set_option maxRecDepth 100000 in
theorem c_batchOf (G : gG) (d n : Nat) (ex : Bool) (h : gH) {s v wn en rc : Nat → Nat} (hs : Su h s v wn en rc) {x : Nat} (hB1 : 1 ≤ s 5) (hB : s 5 ≤ 64) (hx : x < 2 ^ 31) (hen : ∀ k, en k < 2 ^ 31) : g_M G mX7_batchOf d 0 0 [.ref 1, .int (nI x)] n ex h (q_i n ex [] h (fun r _ => ∃ b, r = nI b ∧ bo_P en (s 5) x b)) := by
  obtain ⟨z1, z2, z3, z4, z5⟩ := hs
  refine g_enter (by decide) (Nat.le_of_ble_eq_true rfl) ?_
  show g_W G _ _ _ n ex h 0 0 0 [(0, .ref 1), (1, .int (nI x))] []
  refine g_iconst (v := nI 0) dX7_batchOf_0 (by decide) ?_
  refine g_istore_n (ls' := [(2, .int (nI 0)), (0, .ref 1), (1, .int (nI x))]) dX7_batchOf_1 rfl (by decide) rfl ?_
  refine g_pick [0, 1, 2] (ls' := [(2, .int (nI 0)), (0, .ref 1), (1, .int (nI x))]) rfl ?_
  exact lp_batchOf G _ n ex h ⟨z1, z2, z3, z4, z5⟩ hB1 hB hx hen (s 5 + 1) 0 (by omega) (by omega) (fun k hk => absurd hk (by omega))
theorem shl1 {k : Nat} (h : k < 31) : nI 1 <<< (nI k &&& 31) = nI (2 ^ k) := by
  have : ∀ k : Fin 31, nI 1 <<< (nI k.val &&& 31) = nI (2 ^ k.val) := by decide
  exact this ⟨k, h⟩
/-- the coins of a draw -/
def ck_P (N K : Nat) : Prop := K ≤ 15 ∧ (∀ k, k < K → 2 ^ k < N) ∧ (K = 15 ∨ N ≤ 2 ^ K)
set_option maxHeartbeats 4000000 in
set_option maxRecDepth 100000 in
theorem lp_coinsADraw (G : gG) (R : Room) (n : Nat) (ex : Bool) (h : gH) {s v wn en rc : Nat → Nat} (hs : Su h s v wn en rc) (hN : s 6 < 2 ^ 31) : ∀ (t i : Nat), 15 - i < t → i ≤ 15 → (∀ k, k < i → 2 ^ k < s 6) →
    g_W G mX7_coinsADraw R (g_K G (q_i n ex [] h (fun r _ => ∃ K, r = nI K ∧ ck_P (s 6) K)) 0 0) n ex h 0 0 2 [(1, .int (nI i)), (0, .ref 1)] [] := by
  obtain ⟨z1, z2, z3, z4, z5⟩ := hs
  intro t
  induction t with
  | zero => intro i hm; exact absurd hm (by omega)
  | succ t ih =>
    intro i ht hi hI
    refine g_iload_n dX7_coinsADraw_2 rfl rfl ?_
    refine g_bipush (v := nI 15) dX7_coinsADraw_3 (by decide) ?_
    refine g_icmp_geN (tgt := 24) dX7_coinsADraw_5 (by decide) (by omega) (by omega) (fun c5 => ?_) (fun c5 => ?_)
    · refine g_iload_n dX7_coinsADraw_24 rfl rfl ?_
      exact e_i dX7_coinsADraw_25 rfl rfl g_fr.rf ⟨i, rfl, by omega, hI, by first | exact Or.inr c15 | exact Or.inl (by omega)⟩ (by decide) (by decide)
    · have hp : 2 ^ i < 2 ^ 31 := Nat.pow_lt_pow_right (by decide) (by omega)
      refine g_iconst (v := nI 1) dX7_coinsADraw_8 (by decide) ?_
      refine g_iload_n dX7_coinsADraw_9 rfl rfl ?_
      refine g_ishl dX7_coinsADraw_10 ?_
      refine g_top (show (nI 1) <<< ((nI i) &&& 31) = nI (2 ^ i) from shl1 (by omega)) ?_
      refine g_aload_n dX7_coinsADraw_11 rfl rfl ?_
      refine g_getf dX7_coinsADraw_12 fX7_48 z1 rfl ?_
      refine g_icmp_geN (tgt := 24) dX7_coinsADraw_15 (by decide) hp hN (fun c15 => ?_) (fun c15 => ?_)
      · refine g_iload_n dX7_coinsADraw_24 rfl rfl ?_
        exact e_i dX7_coinsADraw_25 rfl rfl g_fr.rf ⟨i, rfl, by omega, hI, by first | exact Or.inr c15 | exact Or.inl (by omega)⟩ (by decide) (by decide)
      · refine g_iincN (z := 1) (ls' := [(1, .int (nI (i + 1))), (0, .ref 1)]) dX7_coinsADraw_18 rfl (by decide) rfl ?_
        refine g_goto (tgt := 2) dX7_coinsADraw_21 (by decide) ?_
        refine g_pick [0, 1] (ls' := [(1, .int (nI (i + 1))), (0, .ref 1)]) rfl ?_
        exact ih (i + 1) (by omega) (by omega) (fun k hk => by by_cases q : k = i; (subst q; exact c15); exact hI k (by omega))
set_option maxHeartbeats 4000000 in
set_option maxRecDepth 100000 in
theorem c_coinsADraw (G : gG) (d n : Nat) (ex : Bool) (h : gH) {s v wn en rc : Nat → Nat} (hs : Su h s v wn en rc) (hN : s 6 < 2 ^ 31) : g_M G mX7_coinsADraw d 0 0 [.ref 1] n ex h (q_i n ex [] h (fun r _ => ∃ K, r = nI K ∧ ck_P (s 6) K)) := by
  obtain ⟨z1, z2, z3, z4, z5⟩ := hs
  refine g_enter (by decide) (Nat.le_of_ble_eq_true rfl) ?_
  show g_W G _ _ _ n ex h 0 0 0 [(0, .ref 1)] []
  refine g_iconst (v := nI 0) dX7_coinsADraw_0 (by decide) ?_
  refine g_istore_n (ls' := [(1, .int (nI 0)), (0, .ref 1)]) dX7_coinsADraw_1 rfl (by decide) rfl ?_
  refine g_pick [0, 1] (ls' := [(1, .int (nI 0)), (0, .ref 1)]) rfl ?_
  exact lp_coinsADraw G _ n ex h ⟨z1, z2, z3, z4, z5⟩ hN 16 0 (by omega) (by omega) (fun k hk => absurd hk (by omega))
