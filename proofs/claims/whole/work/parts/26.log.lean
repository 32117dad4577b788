/-- how many of the first i have more votes than x -/
def ab (v : Nat → Nat) (x : Nat) : Nat → Nat
  | 0 => 0
  | i + 1 => ab v x i + (if x < v i then 1 else 0)
theorem ab_le (v : Nat → Nat) (x i : Nat) : ab v x i ≤ i := by
  induction i with
  | zero => exact Nat.le_refl 0
  | succ i ih =>
    show ab v x i + _ ≤ i + 1
    split <;> omega
def wi (s v : Nat → Nat) (c : Nat) : Nat := if ab v (v c) (s 4) < s 7 then 1 else 0
theorem wi_le (s v : Nat → Nat) (c : Nat) : wi s v c ≤ 1 := by unfold wi; split <;> decide
set_option maxHeartbeats 4000000 in
set_option maxRecDepth 100000 in
theorem lp_among (G : gG) (R : Room) (n : Nat) (ex : Bool) (h : gH) {s v wn en rc : Nat → Nat} (hs : Su h s v wn en rc) {c : Nat} (hC : s 4 ≤ 8) (hc : c < 8) (hv : ∀ k, v k < 2 ^ 31) (hW : s 7 < 2 ^ 31) : ∀ (t i : Nat), s 4 - i < t → i ≤ s 4 →
    g_W G mX7_isAmongTheMost R (g_K G (q_i n ex [] h (fun r _ => r = nI (wi s v c))) 0 0) n ex h 0 0 4 [(3, .int (nI i)), (2, .int (nI (ab v (v c) i))), (0, .ref 1), (1, .int (nI c))] [] := by
  obtain ⟨z1, z2, z3, z4, z5⟩ := hs
  intro t
  induction t with
  | zero => intro i hm; exact absurd hm (by omega)
  | succ t ih =>
    intro i ht hi
    have hab := ab_le v (v c) i
    refine g_iload_n dX7_isAmongTheMost_4 rfl rfl ?_
    refine g_aload_n dX7_isAmongTheMost_5 rfl rfl ?_
    refine g_getf dX7_isAmongTheMost_6 fX7_45 z1 rfl ?_
    refine g_icmp_geN (tgt := 36) dX7_isAmongTheMost_9 (by decide) (by omega) (by omega) (fun c9 => ?_) (fun c9 => ?_)
    · refine g_iload_n dX7_isAmongTheMost_36 rfl rfl ?_
      refine g_aload_n dX7_isAmongTheMost_37 rfl rfl ?_
      refine g_getf dX7_isAmongTheMost_38 fX7_26 z1 rfl ?_
      refine g_icmp_geN (tgt := 48) dX7_isAmongTheMost_41 (by decide) (by omega) (by omega) (fun c41 => ?_) (fun c41 => ?_)
      · refine g_iconst (v := nI 0) dX7_isAmongTheMost_48 (by decide) ?_
        have e : i = s 4 := by omega
        subst e
        exact e_i dX7_isAmongTheMost_49 rfl rfl g_fr.rf (by unfold wi; first | (rw [if_pos c41]) | (rw [if_neg (by omega)])) (by decide) (by decide)
      · refine g_iconst (v := nI 1) dX7_isAmongTheMost_44 (by decide) ?_
        refine g_goto (tgt := 49) dX7_isAmongTheMost_45 (by decide) ?_
        have e : i = s 4 := by omega
        subst e
        exact e_i dX7_isAmongTheMost_49 rfl rfl g_fr.rf (by unfold wi; first | (rw [if_pos c41]) | (rw [if_neg (by omega)])) (by decide) (by decide)
    · refine g_aload_n dX7_isAmongTheMost_12 rfl rfl ?_
      refine g_getf dX7_isAmongTheMost_13 fX7_9 z1 rfl ?_
      refine g_iload_n dX7_isAmongTheMost_16 rfl rfl ?_
      refine g_ialdN dX7_isAmongTheMost_17 z2 (by omega) (by decide) ?_
      refine g_aload_n dX7_isAmongTheMost_18 rfl rfl ?_
      refine g_getf dX7_isAmongTheMost_19 fX7_9 z1 rfl ?_
      refine g_iload_n dX7_isAmongTheMost_22 rfl rfl ?_
      refine g_ialdN dX7_isAmongTheMost_23 z2 (by omega) (by decide) ?_
      refine g_icmp_leN (tgt := 30) dX7_isAmongTheMost_24 (by decide) (hv _) (hv _) (fun c24 => ?_) (fun c24 => ?_)
      · refine g_iincN (z := 1) (ls' := [(3, .int (nI (i + 1))), (2, .int (nI (ab v (v c) i))), (0, .ref 1), (1, .int (nI c))]) dX7_isAmongTheMost_30 rfl (by decide) rfl ?_
        refine g_goto (tgt := 4) dX7_isAmongTheMost_33 (by decide) ?_
        refine g_pick [0, 1, 2, 3] (ls' := [(3, .int (nI (i + 1))), (2, .int (nI (ab v (v c) i))), (0, .ref 1), (1, .int (nI c))]) rfl ?_
        rw [show (ab v (v c) i) = ab v (v c) (i + 1) by show _ = ab v (v c) i + _; rw [if_neg (by omega), Nat.add_zero]]
        exact ih (i + 1) (by omega) (by omega)
      · refine g_iincN (z := 1) (ls' := [(2, .int (nI ((ab v (v c) i) + 1))), (3, .int (nI i)), (0, .ref 1), (1, .int (nI c))]) dX7_isAmongTheMost_27 rfl (by decide) rfl ?_
        refine g_iincN (z := 1) (ls' := [(3, .int (nI (i + 1))), (2, .int (nI ((ab v (v c) i) + 1))), (0, .ref 1), (1, .int (nI c))]) dX7_isAmongTheMost_30 rfl (by decide) rfl ?_
        refine g_goto (tgt := 4) dX7_isAmongTheMost_33 (by decide) ?_
        refine g_pick [0, 1, 2, 3] (ls' := [(3, .int (nI (i + 1))), (2, .int (nI ((ab v (v c) i) + 1))), (0, .ref 1), (1, .int (nI c))]) rfl ?_
        rw [show ((ab v (v c) i) + 1) = ab v (v c) (i + 1) by show _ = ab v (v c) i + _; rw [if_pos c24]]
        exact ih (i + 1) (by omega) (by omega)
set_option maxHeartbeats 4000000 in
set_option maxRecDepth 100000 in
theorem c_among (G : gG) (d n : Nat) (ex : Bool) (h : gH) {s v wn en rc : Nat → Nat} (hs : Su h s v wn en rc) {c : Nat} (hC : s 4 ≤ 8) (hc : c < 8) (hv : ∀ k, v k < 2 ^ 31) (hW : s 7 < 2 ^ 31) : g_M G mX7_isAmongTheMost d 0 0 [.ref 1, .int (nI c)] n ex h (q_i n ex [] h (fun r _ => r = nI (wi s v c))) := by
  obtain ⟨z1, z2, z3, z4, z5⟩ := hs
  refine g_enter (by decide) (Nat.le_of_ble_eq_true rfl) ?_
  show g_W G _ _ _ n ex h 0 0 0 [(0, .ref 1), (1, .int (nI c))] []
  refine g_iconst (v := nI 0) dX7_isAmongTheMost_0 (by decide) ?_
  refine g_istore_n (ls' := [(2, .int (nI 0)), (0, .ref 1), (1, .int (nI c))]) dX7_isAmongTheMost_1 rfl (by decide) rfl ?_
  refine g_iconst (v := nI 0) dX7_isAmongTheMost_2 (by decide) ?_
  refine g_istore_n (ls' := [(3, .int (nI 0)), (2, .int (nI 0)), (0, .ref 1), (1, .int (nI c))]) dX7_isAmongTheMost_3 rfl (by decide) rfl ?_
  refine g_pick [0, 1, 2, 3] (ls' := [(3, .int (nI 0)), (2, .int (nI 0)), (0, .ref 1), (1, .int (nI c))]) rfl ?_
  exact lp_among G _ n ex h ⟨z1, z2, z3, z4, z5⟩ hC hc hv hW (s 4 + 1) 0 (by omega) (by omega)
def hw_ (s v : Nat → Nat) : Nat → Nat
  | 0 => 0
  | i + 1 => hw_ s v i + wi s v i
theorem hw_le (s v : Nat → Nat) (i : Nat) : hw_ s v i ≤ i := by
  induction i with
  | zero => exact Nat.le_refl 0
  | succ i ih =>
    have := wi_le s v i
    show hw_ s v i + wi s v i ≤ i + 1
    omega
def fit_ (s v : Nat → Nat) : Prop := 2 ≤ s 4 ∧ s 7 < s 4 ∧ 1 ≤ s 6 ∧ (∀ c, c < s 4 → v c ≤ s 6) ∧ hw_ s v (s 4) = s 7
set_option maxHeartbeats 4000000 in
set_option maxRecDepth 100000 in
theorem lp_isFit (G : gG) (d n : Nat) (ex : Bool) (h : gH) {s v wn en rc : Nat → Nat} (hs : Su h s v wn en rc) (hC : s 4 ≤ 8) (hv : ∀ k, v k < 2 ^ 31) (hW : s 7 < 2 ^ 31) (hN : s 6 < 2 ^ 31) (h1 : 2 ≤ s 4) (h2 : s 7 < s 4) (h3 : 1 ≤ s 6) : ∀ (t i : Nat), s 4 - i < t → i ≤ s 4 → (∀ c, c < i → v c ≤ s 6) →
    g_W G mX7_isFit (g_rm (d + 1) 0 0) (g_K G (q_i n ex [] h (fun r _ => ∃ b, r = nI b ∧ b ≤ 1 ∧ (b = 1 ↔ fit_ s v))) 0 0) n ex h 0 0 33 [(2, .int (nI i)), (1, .int (nI (hw_ s v i))), (0, .ref 1)] [] := by
  have hs' := hs
  obtain ⟨z1, z2, z3, z4, z5⟩ := hs
  intro t
  induction t with
  | zero => intro i hm; exact absurd hm (by omega)
  | succ t ih =>
    intro i ht hi hI
    have hhw := hw_le s v i
    have hwl := wi_le s v i
    refine g_iload_n dX7_isFit_33 rfl rfl ?_
    refine g_aload_n dX7_isFit_34 rfl rfl ?_
    refine g_getf dX7_isFit_35 fX7_45 z1 rfl ?_
    refine g_icmp_geN (tgt := 73) dX7_isFit_38 (by decide) (by omega) (by omega) (fun c38 => ?_) (fun c38 => ?_)
    · refine g_iload_n dX7_isFit_73 rfl rfl ?_
      refine g_aload_n dX7_isFit_74 rfl rfl ?_
      refine g_getf dX7_isFit_75 fX7_26 z1 rfl ?_
      refine g_icmp_neN (tgt := 85) dX7_isFit_78 (by decide) (by omega) (by omega) (fun c78 => ?_) (fun c78 => ?_)
      · refine g_iconst (v := nI 0) dX7_isFit_85 (by decide) ?_
        exact e_i dX7_isFit_86 rfl rfl g_fr.rf ⟨_, rfl, by decide, by first | exact ⟨fun _ => ⟨h1, h2, h3, (by have e : i = s 4 := (by omega); rw [← e]; exact hI), (by have e : i = s 4 := (by omega); rw [← e]; exact c78)⟩, fun _ => rfl⟩ | exact ⟨fun q => absurd q (by decide), fun q => absurd (q.2.2.2.1 i c38) (by omega)⟩ | exact ⟨fun q => absurd q (by decide), fun q => absurd q.2.2.2.2 (by have e : i = s 4 := (by omega); rw [← e]; exact c78)⟩⟩ (by decide) (by decide)
      · refine g_iconst (v := nI 1) dX7_isFit_81 (by decide) ?_
        refine g_goto (tgt := 86) dX7_isFit_82 (by decide) ?_
        exact e_i dX7_isFit_86 rfl rfl g_fr.rf ⟨_, rfl, by decide, by first | exact ⟨fun _ => ⟨h1, h2, h3, (by have e : i = s 4 := (by omega); rw [← e]; exact hI), (by have e : i = s 4 := (by omega); rw [← e]; exact c78)⟩, fun _ => rfl⟩ | exact ⟨fun q => absurd q (by decide), fun q => absurd (q.2.2.2.1 i c38) (by omega)⟩ | exact ⟨fun q => absurd q (by decide), fun q => absurd q.2.2.2.2 (by have e : i = s 4 := (by omega); rw [← e]; exact c78)⟩⟩ (by decide) (by decide)
    · refine g_aload_n dX7_isFit_41 rfl rfl ?_
      refine g_getf dX7_isFit_42 fX7_9 z1 rfl ?_
      refine g_iload_n dX7_isFit_45 rfl rfl ?_
      refine g_ialdN dX7_isFit_46 z2 (by omega) (by decide) ?_
      refine g_aload_n dX7_isFit_47 rfl rfl ?_
      refine g_getf dX7_isFit_48 fX7_48 z1 rfl ?_
      refine g_icmp_leN (tgt := 56) dX7_isFit_51 (by decide) (hv _) hN (fun c51 => ?_) (fun c51 => ?_)
      · refine g_aload_n dX7_isFit_56 rfl rfl ?_
        refine g_iload_n dX7_isFit_57 rfl rfl ?_
        refine cVi (st := []) dX7_isFit_58 (c_among G d n ex h hs' hC (by omega) hv hW) sX7_54 z1 rfl rfl (by simp only [g_rm]; omega) (by simp only [g_rm]; omega) (Nat.le_of_ble_eq_true rfl) ⟨Nat.le_of_ble_eq_true rfl, Nat.le_of_ble_eq_true rfl⟩ (fun r4 h1 fr2 p3 => ?_)
        cases g_fr0 fr2
        subst p3
        refine g_if_eqN (tgt := 67) dX7_isFit_61 (by decide) (by omega) (fun c61 => ?_) (fun c61 => ?_)
        · refine g_iincN (z := 1) (ls' := [(2, .int (nI (i + 1))), (1, .int (nI (hw_ s v i))), (0, .ref 1)]) dX7_isFit_67 rfl (by decide) rfl ?_
          refine g_goto (tgt := 33) dX7_isFit_70 (by decide) ?_
          refine g_pick [0, 1, 2] (ls' := [(2, .int (nI (i + 1))), (1, .int (nI (hw_ s v i))), (0, .ref 1)]) rfl ?_
          rw [show (hw_ s v i) = hw_ s v (i + 1) by show _ = hw_ s v i + wi s v i; omega]
          exact ih (i + 1) (by omega) (by omega) (fun c hc => by by_cases q : c = i; (subst q; exact c51); exact hI c (by omega))
        · refine g_iincN (z := 1) (ls' := [(1, .int (nI ((hw_ s v i) + 1))), (2, .int (nI i)), (0, .ref 1)]) dX7_isFit_64 rfl (by decide) rfl ?_
          refine g_iincN (z := 1) (ls' := [(2, .int (nI (i + 1))), (1, .int (nI ((hw_ s v i) + 1))), (0, .ref 1)]) dX7_isFit_67 rfl (by decide) rfl ?_
          refine g_goto (tgt := 33) dX7_isFit_70 (by decide) ?_
          refine g_pick [0, 1, 2] (ls' := [(2, .int (nI (i + 1))), (1, .int (nI ((hw_ s v i) + 1))), (0, .ref 1)]) rfl ?_
          rw [show ((hw_ s v i) + 1) = hw_ s v (i + 1) by show _ = hw_ s v i + wi s v i; have := wi_le s v i; omega]
          exact ih (i + 1) (by omega) (by omega) (fun c hc => by by_cases q : c = i; (subst q; exact c51); exact hI c (by omega))
      · refine g_iconst (v := nI 0) dX7_isFit_54 (by decide) ?_
        exact e_i dX7_isFit_55 rfl rfl g_fr.rf ⟨_, rfl, by decide, by first | exact ⟨fun _ => ⟨h1, h2, h3, (by have e : i = s 4 := (by omega); rw [← e]; exact hI), (by have e : i = s 4 := (by omega); rw [← e]; exact c78)⟩, fun _ => rfl⟩ | exact ⟨fun q => absurd q (by decide), fun q => absurd (q.2.2.2.1 i c38) (by omega)⟩ | exact ⟨fun q => absurd q (by decide), fun q => absurd q.2.2.2.2 (by have e : i = s 4 := (by omega); rw [← e]; exact c78)⟩⟩ (by decide) (by decide)
set_option maxHeartbeats 4000000 in
set_option maxRecDepth 100000 in
theorem c_isFit (G : gG) (d n : Nat) (ex : Bool) (h : gH) {s v wn en rc : Nat → Nat} (hs : Su h s v wn en rc) (hC : s 4 ≤ 8) (hv : ∀ k, v k < 2 ^ 31) (hW : s 7 < 2 ^ 31) (hN : s 6 < 2 ^ 31) : g_M G mX7_isFit (d + 1) 0 0 [.ref 1] n ex h (q_i n ex [] h (fun r _ => ∃ b, r = nI b ∧ b ≤ 1 ∧ (b = 1 ↔ fit_ s v))) := by
  have hs' := hs
  obtain ⟨z1, z2, z3, z4, z5⟩ := hs
  refine g_enter (by decide) (Nat.le_of_ble_eq_true rfl) ?_
  show g_W G _ _ _ n ex h 0 0 0 [(0, .ref 1)] []
  refine g_aload_n dX7_isFit_0 rfl rfl ?_
  refine g_getf dX7_isFit_1 fX7_45 z1 rfl ?_
  refine g_iconst (v := nI 2) dX7_isFit_4 (by decide) ?_
  refine g_icmp_ltN (tgt := 27) dX7_isFit_5 (by decide) (by omega) (by omega) (fun c5 => ?_) (fun c5 => ?_)
  · refine g_iconst (v := nI 0) dX7_isFit_27 (by decide) ?_
    exact e_i dX7_isFit_28 rfl rfl g_fr.rf ⟨_, rfl, by decide, fun q => absurd q (by decide), fun q => absurd q (by intro z; have := z.1; have := z.2.1; have := z.2.2.1; omega)⟩ (by decide) (by decide)
  · refine g_aload_n dX7_isFit_8 rfl rfl ?_
    refine g_getf dX7_isFit_9 fX7_26 z1 rfl ?_
    refine g_aload_n dX7_isFit_12 rfl rfl ?_
    refine g_getf dX7_isFit_13 fX7_45 z1 rfl ?_
    refine g_icmp_geN (tgt := 27) dX7_isFit_16 (by decide) (by omega) (by omega) (fun c16 => ?_) (fun c16 => ?_)
    · refine g_iconst (v := nI 0) dX7_isFit_27 (by decide) ?_
      exact e_i dX7_isFit_28 rfl rfl g_fr.rf ⟨_, rfl, by decide, fun q => absurd q (by decide), fun q => absurd q (by intro z; have := z.1; have := z.2.1; have := z.2.2.1; omega)⟩ (by decide) (by decide)
    · refine g_aload_n dX7_isFit_19 rfl rfl ?_
      refine g_getf dX7_isFit_20 fX7_48 z1 rfl ?_
      refine g_iconst (v := nI 1) dX7_isFit_23 (by decide) ?_
      refine g_icmp_geN (tgt := 29) dX7_isFit_24 (by decide) (by omega) (by omega) (fun c24 => ?_) (fun c24 => ?_)
      · refine g_iconst (v := nI 0) dX7_isFit_29 (by decide) ?_
        refine g_istore_n (ls' := [(1, .int (nI 0)), (0, .ref 1)]) dX7_isFit_30 rfl (by decide) rfl ?_
        refine g_iconst (v := nI 0) dX7_isFit_31 (by decide) ?_
        refine g_istore_n (ls' := [(2, .int (nI 0)), (1, .int (nI 0)), (0, .ref 1)]) dX7_isFit_32 rfl (by decide) rfl ?_
        refine g_pick [0, 1, 2] (ls' := [(2, .int (nI 0)), (1, .int (nI 0)), (0, .ref 1)]) rfl ?_
        exact lp_isFit G d n ex h hs' hC hv hW hN (by omega) (by omega) (by omega) (s 4 + 1) 0 (by omega) (by omega) (fun c hc => absurd hc (by omega))
      · refine g_iconst (v := nI 0) dX7_isFit_27 (by decide) ?_
        exact e_i dX7_isFit_28 rfl rfl g_fr.rf ⟨_, rfl, by decide, fun q => absurd q (by decide), fun q => absurd q (by intro z; have := z.1; have := z.2.1; have := z.2.2.1; omega)⟩ (by decide) (by decide)
def wm (s v wn : Nat → Nat) (i : Nat) : Nat → Nat := fun c => if c < i then wi s v c else wn c
theorem wm_0 (s v wn : Nat → Nat) : wm s v wn 0 = wn := by funext c; exact if_neg (by omega)
theorem wm_s (s v wn : Nat → Nat) (i : Nat) : va_up (wm s v wn i) i (wi s v i) = wm s v wn (i + 1) := by
  funext c
  unfold va_up
  by_cases q : c = i
  · rw [if_pos q, q]; exact (if_pos (Nat.lt_succ_self i)).symm
  · rw [if_neg q]
    by_cases z : c < i
    · exact (if_pos z).trans (if_pos (show c < i + 1 by omega)).symm
    · exact (if_neg z).trans (if_neg (show ¬ c < i + 1 by omega)).symm
set_option maxHeartbeats 4000000 in
set_option maxRecDepth 100000 in
theorem lp_mark (G : gG) (d n : Nat) (ex : Bool) (h0 : gH) {s v wn en rc : Nat → Nat} (hC : s 4 ≤ 8) (hv : ∀ k, v k < 2 ^ 31) (hW : s 7 < 2 ^ 31) : ∀ (t i : Nat) (h : gH), s 4 - i < t → i ≤ s 4 → Su h s v (wm s v wn i) en rc → g_fr [3] h0 h →
    g_W G mX7_markWinners (g_rm (d + 1) 0 0) (g_K G (q_v n ex [3] h0 (fun h' => Su h' s v (wm s v wn (s 4)) en rc)) 0 0) n ex h 0 0 2 [(1, .int (nI i)), (0, .ref 1)] [] := by
  intro t
  induction t with
  | zero => intro i h hm; exact absurd hm (by omega)
  | succ t ih =>
    intro i h ht hi hs hf
    have hs' := hs
    obtain ⟨z1, z2, z3, z4, z5⟩ := hs
    have hwl := wi_le s v i
    refine g_iload_n dX7_markWinners_2 rfl rfl ?_
    refine g_aload_n dX7_markWinners_3 rfl rfl ?_
    refine g_getf dX7_markWinners_4 fX7_45 z1 rfl ?_
    refine g_icmp_geN (tgt := 27) dX7_markWinners_7 (by decide) (by omega) (by omega) (fun c7 => ?_) (fun c7 => ?_)
    · have e : i = s 4 := by omega
      subst e
      exact e_v dX7_markWinners_27 rfl hf hs' (by decide) (by decide)
    · refine g_aload_n dX7_markWinners_10 rfl rfl ?_
      refine g_getf dX7_markWinners_11 fX7_15 z1 rfl ?_
      refine g_iload_n dX7_markWinners_14 rfl rfl ?_
      refine g_aload_n dX7_markWinners_15 rfl rfl ?_
      refine g_iload_n dX7_markWinners_16 rfl rfl ?_
      refine cVi (st := [.int (nI i), .ref 3]) dX7_markWinners_17 (c_among G d n ex h hs' hC (by omega) hv hW) sX7_54 z1 rfl rfl (by simp only [g_rm]; omega) (by simp only [g_rm]; omega) (Nat.le_of_ble_eq_true rfl) ⟨Nat.le_of_ble_eq_true rfl, Nat.le_of_ble_eq_true rfl⟩ (fun r4 h1 fr2 p3 => ?_)
      cases g_fr0 fr2
      subst p3
      refine g_zastN dX7_markWinners_20 z3 (by omega) (by decide) ?_
      rw [nar_z (by omega), upd_nI]
      refine g_iincN (z := 1) (ls' := [(1, .int (nI (i + 1))), (0, .ref 1)]) dX7_markWinners_21 rfl (by decide) rfl ?_
      refine g_goto (tgt := 2) dX7_markWinners_24 (by decide) ?_
      refine g_pick [0, 1] (ls' := [(1, .int (nI (i + 1))), (0, .ref 1)]) rfl ?_
      exact ih (i + 1) _ (by omega) (by omega) ⟨g_ne (by decide) z1, g_ne (by decide) z2, by rw [← wm_s]; exact g_eq, g_ne (by decide) z4, g_ne (by decide) z5⟩ (hf.up (by simp))
set_option maxHeartbeats 4000000 in
set_option maxRecDepth 100000 in
theorem c_mark (G : gG) (d n : Nat) (ex : Bool) (h : gH) {s v wn en rc : Nat → Nat} (hs : Su h s v wn en rc) (hC : s 4 ≤ 8) (hv : ∀ k, v k < 2 ^ 31) (hW : s 7 < 2 ^ 31) : g_M G mX7_markWinners (d + 1) 0 0 [.ref 1] n ex h (q_v n ex [3] h (fun h' => Su h' s v (wm s v wn (s 4)) en rc)) := by
  refine g_enter (by decide) (Nat.le_of_ble_eq_true rfl) ?_
  show g_W G _ _ _ n ex h 0 0 0 [(0, .ref 1)] []
  refine g_iconst (v := nI 0) dX7_markWinners_0 (by decide) ?_
  refine g_istore_n (ls' := [(1, .int (nI 0)), (0, .ref 1)]) dX7_markWinners_1 rfl (by decide) rfl ?_
  refine g_pick [0, 1] (ls' := [(1, .int (nI 0)), (0, .ref 1)]) rfl ?_
  exact lp_mark G d n ex h hC hv hW (s 4 + 1) 0 h (by omega) (by omega) (by rw [wm_0]; exact hs) g_fr.rf
