theorem nat_ix {x : Int32} {m : Nat} (h : 0 ≤ x ∧ x < nI m) (hm : m < 2 ^ 31) : ∃ j : Nat, j < m ∧ x = nI j := by
  obtain ⟨j, hj, rfl⟩ := nI_of (Int32.not_lt.mpr h.1)
  exact ⟨j, (nI_ltI hj hm).mp h.2, rfl⟩
def k_batch (s : Nat → Nat) (sg : Nat) (x : Int32) : Nat := if ¬ (nI 1 ≤ x ∧ x ≤ nI 4000) then 1 else if ¬ sg = 0 then 2 else if 64 ≤ s 5 ∨ 20000 < s 6 + un x then 3 else 0
def k_set (sg : Nat) (x y : Int32) : Nat := if ¬ (0 ≤ x ∧ x < nI 2) then 1 else if ¬ (nI 1 ≤ y ∧ y ≤ nI (if un x = 0 then 7 else 200)) then 2 else if ¬ sg = 0 then 3 else 0
def k_fraction (sg : Nat) (x y z : Int32) : Nat := if ¬ (0 ≤ x ∧ x < nI 2) then 1 else if ¬ (nI 1 ≤ y ∧ y ≤ nI 1000000) then 2 else if ¬ (nI 1 ≤ z ∧ z ≤ nI 1000000) then 2 else if (if un x = 0 then un z ≤ un y else un y ≤ un z) then 2 else if ¬ sg = 0 then 3 else 0
def k_record (s : Nat → Nat) (sg : Nat) (x y z : Int32) : Nat := if ¬ (0 ≤ x ∧ x < nI (s 6)) then 1 else if y < nI 1 ∨ s 6 - un x < un y then 1 else if ¬ (z = -1 ∨ (0 ≤ z ∧ z < nI (s 4))) then 1 else if ¬ sg = 0 then 2 else 0
def k_digit (sg k : Nat) (x : Int32) : Nat := if ¬ (nI 0 ≤ x ∧ x ≤ nI 9) then 1 else if ¬ sg = 0 then 2 else if 20 ≤ k then 3 else 0
def k_coins (m : Nat) (x : Int32) : Nat := if ¬ (nI 0 ≤ x ∧ x ≤ nI 32) then 1 else if 4000 - m < un x then 2 else 0
set_option maxHeartbeats 4000000 in
set_option maxRecDepth 100000 in
theorem c_batch (G : gG) (d n : Nat) (h : gH) {sg cm sd : Nat} (a0 : Au h sg cm sd) (hsg : sg < 2 ^ 31) {s v wn en rc : Nat → Nat} (hs : Su h s v wn en rc) {x : Int32} (h5 : s 5 ≤ 64) (h6 : s 6 ≤ 20000) : g_M G mX10_batch (d + 7) 8 48 [.ref 0, .int x] n false h (q_t n [1, 4] h (fun r h' => k_batch s sg x = 0 ∧ r = some (.int (nI (s 6))) ∧ Su h' (va_up (va_up s 6 (s 6 + un x)) 5 (s 5 + 1)) v wn (va_up en (s 5) (s 6 + un x)) rc) (x_of [xIA, xIS, xUO] (k_batch s sg x))) := by
  have hs' := hs
  obtain ⟨z1, z2, z3, z4, z5⟩ := hs'
  refine g_enter (by decide) (Nat.le_of_ble_eq_true rfl) ?_
  show g_W G _ _ _ n false h 0 0 0 [(0, .ref 0), (1, .int x)] []
  refine g_iload_n dX10_batch_0 rfl rfl ?_
  refine g_iconst (v := nI 1) dX10_batch_1 (by decide) ?_
  refine g_sipush (v := nI 4000) dX10_batch_2 (by decide) ?_
  refine cSn (st := []) dX10_batch_5 (c_needNumber G d n h (x := x) (a := nI 1) (b := nI 4000)) sX10_72 rfl (by simp only [g_rm]; omega) (by simp only [g_rm]; omega) (Nat.le_of_ble_eq_true rfl) ⟨Nat.le_of_ble_eq_true rfl, Nat.le_of_ble_eq_true rfl⟩ (fun p1 => ?_) (fun p1 => g_out rfl (Nat.le_of_ble_eq_true rfl) (Nat.le_of_ble_eq_true rfl) (x_t (by unfold x_of k_batch; rw [if_pos p1]; exact ⟨by decide, rfl⟩)))
  obtain ⟨y, hya, hyb, rfl⟩ := nat_of (by first | decide | omega) p1 (by decide)
  have hyu := un_nI (show y < 4294967296 by omega)
  refine g_aload_n dX10_batch_8 rfl rfl ?_
  refine g_iconst (v := nI 0) dX10_batch_9 (by decide) ?_
  refine cVn (st := []) dX10_batch_10 (c_needStage G d n h (x := 0) (a0) hsg (by decide)) sX10_76 a0 rfl rfl (by simp only [g_rm]; omega) (by simp only [g_rm]; omega) (Nat.le_of_ble_eq_true rfl) ⟨Nat.le_of_ble_eq_true rfl, Nat.le_of_ble_eq_true rfl⟩ (fun p2 => ?_) (fun p2 => g_out rfl (Nat.le_of_ble_eq_true rfl) (Nat.le_of_ble_eq_true rfl) (x_t (by unfold x_of k_batch; rw [if_neg (nn_ p1), if_pos p2]; exact ⟨by decide, rfl⟩)))
  refine g_aload_n dX10_batch_13 rfl rfl ?_
  refine g_getf dX10_batch_14 fX10_12 a0 rfl ?_
  refine g_getf dX10_batch_17 fX10_93 z1 rfl ?_
  refine g_bipush (v := nI 64) dX10_batch_20 (by decide) ?_
  refine g_icmp_geN (tgt := 40) dX10_batch_22 (by decide) (by omega) (by decide) (fun c22 => ?_) (fun c22 => ?_)
  · exact g_throw (text := "no room for a batch more") (names := xUp) dX10_batch_40 dX10_batch_43 dX10_batch_44 dX10_batch_46 dX10_batch_49 rfl rfl (by decide) (by decide) tw_82_86 (by decide) (by show 2 + 3 < _; simp only [g_rm]; omega) (by show 0 + 82 ≤ _; simp only [g_rm]; omega) (Nat.le_of_ble_eq_true rfl) (Nat.le_of_ble_eq_true rfl) (Nat.le_of_ble_eq_true rfl) (Nat.le_of_ble_eq_true rfl) (x_t (by unfold x_of k_batch; rw [if_neg (nn_ p1), if_neg (nn_ p2), if_pos (by omega)]; exact ⟨by decide, rfl⟩))
  · refine g_iload_n dX10_batch_25 rfl rfl ?_
    refine g_sipush (v := nI 20000) dX10_batch_26 (by decide) ?_
    refine g_aload_n dX10_batch_29 rfl rfl ?_
    refine g_getf dX10_batch_30 fX10_12 a0 rfl ?_
    refine g_getf dX10_batch_33 fX10_96 z1 rfl ?_
    refine g_isubN dX10_batch_36 (by omega) ?_
    refine g_icmp_leN (tgt := 50) dX10_batch_37 (by decide) (by omega) (by omega) (fun c37 => ?_) (fun c37 => ?_)
    · refine g_aload_n dX10_batch_50 rfl rfl ?_
      refine g_getf dX10_batch_51 fX10_12 a0 rfl ?_
      refine g_iload_n dX10_batch_54 rfl rfl ?_
      refine cVi (st := []) dX10_batch_55 (c_addBatch G (d + 6) n false h hs (by omega) (x := y)) sX10_101 z1 rfl rfl (by simp only [g_rm]; omega) (by simp only [g_rm]; omega) (Nat.le_of_ble_eq_true rfl) ⟨Nat.le_of_ble_eq_true rfl, Nat.le_of_ble_eq_true rfl⟩ (fun r6 h3 fr4 p5 => ?_)
      obtain ⟨e1, hs2⟩ := p5
      subst e1
      exact e_ti dX10_batch_58 rfl rfl ((g_fr.rf).tr fr4 (by simp)) ⟨(by unfold k_batch; rw [if_neg (nn_ p1), if_neg (nn_ p2), if_neg (by omega)]), rfl, by rw [hyu]; exact hs2⟩ (Nat.le_of_ble_eq_true rfl) (Nat.le_of_ble_eq_true rfl)
    · exact g_throw (text := "no room for a batch more") (names := xUp) dX10_batch_40 dX10_batch_43 dX10_batch_44 dX10_batch_46 dX10_batch_49 rfl rfl (by decide) (by decide) tw_82_86 (by decide) (by show 2 + 3 < _; simp only [g_rm]; omega) (by show 0 + 82 ≤ _; simp only [g_rm]; omega) (Nat.le_of_ble_eq_true rfl) (Nat.le_of_ble_eq_true rfl) (Nat.le_of_ble_eq_true rfl) (Nat.le_of_ble_eq_true rfl) (x_t (by unfold x_of k_batch; rw [if_neg (nn_ p1), if_neg (nn_ p2), if_pos (by omega)]; exact ⟨by decide, rfl⟩))
set_option maxHeartbeats 4000000 in
set_option maxRecDepth 100000 in
theorem c_set (G : gG) (d n : Nat) (h : gH) {sg cm sd : Nat} (a0 : Au h sg cm sd) (hsg : sg < 2 ^ 31) {s v wn en rc : Nat → Nat} (hs : Su h s v wn en rc) {x y : Int32} : g_M G mX10_set (d + 7) 8 48 [.ref 0, .int x, .int y] n false h (q_t n [1] h (fun r h' => k_set sg x y = 0 ∧ r = some (.int (nI (if un x = 0 then s 7 else s 8))) ∧ Su h' (va_up s (if un x = 0 then 7 else 8) (un y)) v wn en rc) (x_of [xIB, xIA, xIS] (k_set sg x y))) := by
  have hs' := hs
  obtain ⟨z1, z2, z3, z4, z5⟩ := hs'
  refine g_enter (by decide) (Nat.le_of_ble_eq_true rfl) ?_
  show g_W G _ _ _ n false h 0 0 0 [(0, .ref 0), (1, .int x), (2, .int y)] []
  refine g_iload_n dX10_set_0 rfl rfl ?_
  refine g_iconst (v := nI 2) dX10_set_1 (by decide) ?_
  refine cSn (st := []) dX10_set_2 (c_needIndex G d n h (x := x) (m := nI 2)) sX10_104 rfl (by simp only [g_rm]; omega) (by simp only [g_rm]; omega) (Nat.le_of_ble_eq_true rfl) ⟨Nat.le_of_ble_eq_true rfl, Nat.le_of_ble_eq_true rfl⟩ (fun p1 => ?_) (fun p1 => g_out rfl (Nat.le_of_ble_eq_true rfl) (Nat.le_of_ble_eq_true rfl) (x_t (by unfold x_of k_set; rw [if_pos p1]; exact ⟨by decide, rfl⟩)))
  obtain ⟨j, hjb, rfl⟩ := nat_ix p1 (by first | decide | omega)
  have hju := un_nI (show j < 4294967296 by omega)
  refine g_iload_n dX10_set_5 rfl rfl ?_
  refine g_iconst (v := nI 1) dX10_set_6 (by decide) ?_
  refine g_iload_n dX10_set_7 rfl rfl ?_
  refine g_if_neN (tgt := 16) dX10_set_8 (by decide) (by omega) (fun c8 => ?_) (fun c8 => ?_)
  · refine g_sipush (v := nI 200) dX10_set_16 (by decide) ?_
    refine cSn (st := []) dX10_set_19 (c_needNumber G d n h (x := y) (a := nI 1) (b := nI 200)) sX10_72 rfl (by simp only [g_rm]; omega) (by simp only [g_rm]; omega) (Nat.le_of_ble_eq_true rfl) ⟨Nat.le_of_ble_eq_true rfl, Nat.le_of_ble_eq_true rfl⟩ (fun p2 => ?_) (fun p2 => g_out rfl (Nat.le_of_ble_eq_true rfl) (Nat.le_of_ble_eq_true rfl) (x_t (by unfold x_of k_set; rw [if_neg (nn_ p1), if_pos (show ¬ (nI 1 ≤ y ∧ y ≤ nI (if un (nI j) = 0 then 7 else 200)) by rw [hju, if_neg c8]; exact p2)]; exact ⟨by decide, rfl⟩)))
    obtain ⟨z, hza, hzb, rfl⟩ := nat_of (by decide) p2 (by decide)
    have hzu := un_nI (show z < 4294967296 by omega)
    refine g_aload_n dX10_set_22 rfl rfl ?_
    refine g_iconst (v := nI 0) dX10_set_23 (by decide) ?_
    refine cVn (st := []) dX10_set_24 (c_needStage G d n h (x := 0) (a0) hsg (by decide)) sX10_76 a0 rfl rfl (by simp only [g_rm]; omega) (by simp only [g_rm]; omega) (Nat.le_of_ble_eq_true rfl) ⟨Nat.le_of_ble_eq_true rfl, Nat.le_of_ble_eq_true rfl⟩ (fun p3 => ?_) (fun p3 => g_out rfl (Nat.le_of_ble_eq_true rfl) (Nat.le_of_ble_eq_true rfl) (x_t (by unfold x_of k_set; rw [if_neg (nn_ p1), if_neg (nn_ (show nI 1 ≤ _ ∧ _ ≤ nI (if un (nI j) = 0 then 7 else 200) by rw [hju, if_neg c8]; exact p2)), if_pos p3]; exact ⟨by decide, rfl⟩)))
    refine g_iload_n dX10_set_27 rfl rfl ?_
    refine g_if_neN (tgt := 50) dX10_set_28 (by decide) (by omega) (fun c28 => ?_) (fun c28 => ?_)
    · refine g_aload_n dX10_set_50 rfl rfl ?_
      refine g_getf dX10_set_51 fX10_12 a0 rfl ?_
      refine g_getf dX10_set_54 fX10_111 z1 rfl ?_
      refine g_istore_n (ls' := [(3, .int (nI (s 8))), (0, .ref 0), (1, .int (nI j)), (2, .int (nI z))]) dX10_set_57 rfl (by decide) rfl ?_
      refine g_aload_n dX10_set_58 rfl rfl ?_
      refine g_getf dX10_set_59 fX10_12 a0 rfl ?_
      refine g_iload_n dX10_set_62 rfl rfl ?_
      refine g_put (fs' := [.ref 2, .ref 3, .ref 4, .ref 5, .int (nI (s 4)), .int (nI (s 5)), .int (nI (s 6)), .int (nI (s 7)), .int (nI z), .int (nI (s 9)), .int (nI (s 10)), .int (nI (s 11)), .int (nI (s 12))]) dX10_set_63 fX10_111 z1 (Nat.le_of_ble_eq_true rfl) rfl rfl rfl ?_
      refine g_iload_n dX10_set_66 rfl rfl ?_
      exact e_ti dX10_set_67 rfl rfl (g_fr.rf.up (by simp)) ⟨(by unfold k_set; rw [if_neg (nn_ p1), if_neg (nn_ (show nI 1 ≤ _ ∧ _ ≤ nI (if un (nI j) = 0 then 7 else 200) by rw [hju, if_neg c8]; exact p2)), if_neg (nn_ p3)]), by rw [hju, if_neg c8], by rw [hju, hzu, if_neg c8]; exact ⟨g_eq, g_ne (by decide) z2, g_ne (by decide) z3, g_ne (by decide) z4, g_ne (by decide) z5⟩⟩ (Nat.le_of_ble_eq_true rfl) (Nat.le_of_ble_eq_true rfl)
    · exact absurd c28 c8
  · refine g_bipush (v := nI 7) dX10_set_11 (by decide) ?_
    refine g_goto (tgt := 19) dX10_set_13 (by decide) ?_
    refine cSn (st := []) dX10_set_19 (c_needNumber G d n h (x := y) (a := nI 1) (b := nI 7)) sX10_72 rfl (by simp only [g_rm]; omega) (by simp only [g_rm]; omega) (Nat.le_of_ble_eq_true rfl) ⟨Nat.le_of_ble_eq_true rfl, Nat.le_of_ble_eq_true rfl⟩ (fun p4 => ?_) (fun p4 => g_out rfl (Nat.le_of_ble_eq_true rfl) (Nat.le_of_ble_eq_true rfl) (x_t (by unfold x_of k_set; rw [if_neg (nn_ p1), if_pos (show ¬ (nI 1 ≤ y ∧ y ≤ nI (if un (nI j) = 0 then 7 else 200)) by rw [hju, if_pos c8]; exact p4)]; exact ⟨by decide, rfl⟩)))
    obtain ⟨z, hza, hzb, rfl⟩ := nat_of (by decide) p4 (by decide)
    have hzu := un_nI (show z < 4294967296 by omega)
    refine g_aload_n dX10_set_22 rfl rfl ?_
    refine g_iconst (v := nI 0) dX10_set_23 (by decide) ?_
    refine cVn (st := []) dX10_set_24 (c_needStage G d n h (x := 0) (a0) hsg (by decide)) sX10_76 a0 rfl rfl (by simp only [g_rm]; omega) (by simp only [g_rm]; omega) (Nat.le_of_ble_eq_true rfl) ⟨Nat.le_of_ble_eq_true rfl, Nat.le_of_ble_eq_true rfl⟩ (fun p5 => ?_) (fun p5 => g_out rfl (Nat.le_of_ble_eq_true rfl) (Nat.le_of_ble_eq_true rfl) (x_t (by unfold x_of k_set; rw [if_neg (nn_ p1), if_neg (nn_ (show nI 1 ≤ _ ∧ _ ≤ nI (if un (nI j) = 0 then 7 else 200) by rw [hju, if_pos c8]; exact p4)), if_pos p5]; exact ⟨by decide, rfl⟩)))
    refine g_iload_n dX10_set_27 rfl rfl ?_
    refine g_if_neN (tgt := 50) dX10_set_28 (by decide) (by omega) (fun c28 => ?_) (fun c28 => ?_)
    · exact absurd c8 c28
    · refine g_aload_n dX10_set_31 rfl rfl ?_
      refine g_getf dX10_set_32 fX10_12 a0 rfl ?_
      refine g_getf dX10_set_35 fX10_108 z1 rfl ?_
      refine g_istore_n (ls' := [(3, .int (nI (s 7))), (0, .ref 0), (1, .int (nI j)), (2, .int (nI z))]) dX10_set_38 rfl (by decide) rfl ?_
      refine g_aload_n dX10_set_39 rfl rfl ?_
      refine g_getf dX10_set_40 fX10_12 a0 rfl ?_
      refine g_iload_n dX10_set_43 rfl rfl ?_
      refine g_put (fs' := [.ref 2, .ref 3, .ref 4, .ref 5, .int (nI (s 4)), .int (nI (s 5)), .int (nI (s 6)), .int (nI z), .int (nI (s 8)), .int (nI (s 9)), .int (nI (s 10)), .int (nI (s 11)), .int (nI (s 12))]) dX10_set_44 fX10_108 z1 (Nat.le_of_ble_eq_true rfl) rfl rfl rfl ?_
      refine g_goto (tgt := 66) dX10_set_47 (by decide) ?_
      refine g_iload_n dX10_set_66 rfl rfl ?_
      exact e_ti dX10_set_67 rfl rfl (g_fr.rf.up (by simp)) ⟨(by unfold k_set; rw [if_neg (nn_ p1), if_neg (nn_ (show nI 1 ≤ _ ∧ _ ≤ nI (if un (nI j) = 0 then 7 else 200) by rw [hju, if_pos c8]; exact p4)), if_neg (nn_ p5)]), by rw [hju, if_pos c8], by rw [hju, hzu, if_pos c8]; exact ⟨g_eq, g_ne (by decide) z2, g_ne (by decide) z3, g_ne (by decide) z4, g_ne (by decide) z5⟩⟩ (Nat.le_of_ble_eq_true rfl) (Nat.le_of_ble_eq_true rfl)
set_option maxHeartbeats 4000000 in
set_option maxRecDepth 100000 in
theorem c_fraction (G : gG) (d n : Nat) (h : gH) {sg cm sd : Nat} (a0 : Au h sg cm sd) (hsg : sg < 2 ^ 31) {s v wn en rc : Nat → Nat} (hs : Su h s v wn en rc) {x y z : Int32} : g_M G mX10_fraction (d + 7) 8 48 [.ref 0, .int x, .int y, .int z] n false h (q_t n [1] h (fun r h' => k_fraction sg x y z = 0 ∧ r = none ∧ Su h' (if un x = 0 then va_up (va_up s 9 (un y)) 10 (un z) else va_up (va_up s 11 (un y)) 12 (un z)) v wn en rc) (x_of [xIB, xIA, xIS] (k_fraction sg x y z))) := by
  have hs' := hs
  obtain ⟨z1, z2, z3, z4, z5⟩ := hs'
  refine g_enter (by decide) (Nat.le_of_ble_eq_true rfl) ?_
  show g_W G _ _ _ n false h 0 0 0 [(0, .ref 0), (1, .int x), (2, .int y), (3, .int z)] []
  refine g_iload_n dX10_fraction_0 rfl rfl ?_
  refine g_iconst (v := nI 2) dX10_fraction_1 (by decide) ?_
  refine cSn (st := []) dX10_fraction_2 (c_needIndex G d n h (x := x) (m := nI 2)) sX10_104 rfl (by simp only [g_rm]; omega) (by simp only [g_rm]; omega) (Nat.le_of_ble_eq_true rfl) ⟨Nat.le_of_ble_eq_true rfl, Nat.le_of_ble_eq_true rfl⟩ (fun p1 => ?_) (fun p1 => g_out rfl (Nat.le_of_ble_eq_true rfl) (Nat.le_of_ble_eq_true rfl) (x_t (by unfold x_of k_fraction; rw [if_pos p1]; exact ⟨by decide, rfl⟩)))
  obtain ⟨j, hjb, rfl⟩ := nat_ix p1 (by first | decide | omega)
  have hju := un_nI (show j < 4294967296 by omega)
  refine g_iload_n dX10_fraction_5 rfl rfl ?_
  refine g_iconst (v := nI 1) dX10_fraction_6 (by decide) ?_
  refine g_ldc dX10_fraction_7 kX10_71 rfl ?_
  refine g_top (show (1000000 : Int32) = nI 1000000 by decide) ?_
  refine cSn (st := []) dX10_fraction_9 (c_needNumber G d n h (x := y) (a := nI 1) (b := nI 1000000)) sX10_72 rfl (by simp only [g_rm]; omega) (by simp only [g_rm]; omega) (Nat.le_of_ble_eq_true rfl) ⟨Nat.le_of_ble_eq_true rfl, Nat.le_of_ble_eq_true rfl⟩ (fun p2 => ?_) (fun p2 => g_out rfl (Nat.le_of_ble_eq_true rfl) (Nat.le_of_ble_eq_true rfl) (x_t (by unfold x_of k_fraction; rw [if_neg (nn_ p1), if_pos p2]; exact ⟨by decide, rfl⟩)))
  obtain ⟨a, haa, hab, rfl⟩ := nat_of (by decide) p2 (by decide)
  have hau := un_nI (show a < 4294967296 by omega)
  refine g_iload_n dX10_fraction_12 rfl rfl ?_
  refine g_iconst (v := nI 1) dX10_fraction_13 (by decide) ?_
  refine g_ldc dX10_fraction_14 kX10_71 rfl ?_
  refine g_top (show (1000000 : Int32) = nI 1000000 by decide) ?_
  refine cSn (st := []) dX10_fraction_16 (c_needNumber G d n h (x := z) (a := nI 1) (b := nI 1000000)) sX10_72 rfl (by simp only [g_rm]; omega) (by simp only [g_rm]; omega) (Nat.le_of_ble_eq_true rfl) ⟨Nat.le_of_ble_eq_true rfl, Nat.le_of_ble_eq_true rfl⟩ (fun p3 => ?_) (fun p3 => g_out rfl (Nat.le_of_ble_eq_true rfl) (Nat.le_of_ble_eq_true rfl) (x_t (by unfold x_of k_fraction; rw [if_neg (nn_ p1), if_neg (nn_ p2), if_pos p3]; exact ⟨by decide, rfl⟩)))
  obtain ⟨b, hba, hbb, rfl⟩ := nat_of (by decide) p3 (by decide)
  have hbu := un_nI (show b < 4294967296 by omega)
  refine g_iload_n dX10_fraction_19 rfl rfl ?_
  refine g_if_neN (tgt := 31) dX10_fraction_20 (by decide) (by omega) (fun c20 => ?_) (fun c20 => ?_)
  · refine g_iload_n dX10_fraction_31 rfl rfl ?_
    refine g_iload_n dX10_fraction_32 rfl rfl ?_
    refine g_icmp_gtN (tgt := 46) dX10_fraction_33 (by decide) (by omega) (by omega) (fun c33 => ?_) (fun c33 => ?_)
    · skip
      refine g_aload_n dX10_fraction_46 rfl rfl ?_
      refine g_iconst (v := nI 0) dX10_fraction_47 (by decide) ?_
      refine cVn (st := []) dX10_fraction_48 (c_needStage G d n h (x := 0) (a0) hsg (by decide)) sX10_76 a0 rfl rfl (by simp only [g_rm]; omega) (by simp only [g_rm]; omega) (Nat.le_of_ble_eq_true rfl) ⟨Nat.le_of_ble_eq_true rfl, Nat.le_of_ble_eq_true rfl⟩ (fun p4 => ?_) (fun p4 => g_out rfl (Nat.le_of_ble_eq_true rfl) (Nat.le_of_ble_eq_true rfl) (x_t (by unfold x_of k_fraction; rw [if_neg (nn_ p1), if_neg (nn_ p2), if_neg (nn_ p3), if_neg (show ¬ (if un (nI j) = 0 then un (nI b) ≤ un (nI a) else un (nI a) ≤ un (nI b)) by rw [hju, hau, hbu, if_neg c20]; omega), if_pos p4]; exact ⟨by decide, rfl⟩)))
      refine g_iload_n dX10_fraction_51 rfl rfl ?_
      refine g_if_neN (tgt := 74) dX10_fraction_52 (by decide) (by omega) (fun c52 => ?_) (fun c52 => ?_)
      · refine g_aload_n dX10_fraction_74 rfl rfl ?_
        refine g_getf dX10_fraction_75 fX10_12 a0 rfl ?_
        refine g_iload_n dX10_fraction_78 rfl rfl ?_
        refine g_put (fs' := [.ref 2, .ref 3, .ref 4, .ref 5, .int (nI (s 4)), .int (nI (s 5)), .int (nI (s 6)), .int (nI (s 7)), .int (nI (s 8)), .int (nI (s 9)), .int (nI (s 10)), .int (nI a), .int (nI (s 12))]) dX10_fraction_79 fX10_125 z1 (Nat.le_of_ble_eq_true rfl) rfl rfl rfl ?_
        refine g_aload_n dX10_fraction_82 rfl rfl ?_
        refine g_getf dX10_fraction_83 fX10_12 (g_ne (by decide) a0) rfl ?_
        refine g_iload_n dX10_fraction_86 rfl rfl ?_
        refine g_put (fs' := [.ref 2, .ref 3, .ref 4, .ref 5, .int (nI (s 4)), .int (nI (s 5)), .int (nI (s 6)), .int (nI (s 7)), .int (nI (s 8)), .int (nI (s 9)), .int (nI (s 10)), .int (nI a), .int (nI b)]) dX10_fraction_87 fX10_128 g_eq (Nat.le_of_ble_eq_true rfl) rfl rfl rfl ?_
        exact e_tv dX10_fraction_90 rfl ((g_fr.rf.up (by simp)).up (by simp)) ⟨(by unfold k_fraction; rw [if_neg (nn_ p1), if_neg (nn_ p2), if_neg (nn_ p3), if_neg (show ¬ (if un (nI j) = 0 then un (nI b) ≤ un (nI a) else un (nI a) ≤ un (nI b)) by rw [hju, hau, hbu, if_neg c20]; omega), if_neg (nn_ p4)]), rfl, by rw [hju, hau, hbu, if_neg c20]; exact ⟨g_eq, g_ne (by decide) (g_ne (by decide) z2), g_ne (by decide) (g_ne (by decide) z3), g_ne (by decide) (g_ne (by decide) z4), g_ne (by decide) (g_ne (by decide) z5)⟩⟩ (Nat.le_of_ble_eq_true rfl) (Nat.le_of_ble_eq_true rfl)
      · exact absurd c52 c20
    · exact g_throw (text := "the fraction is not on its side of 1") (names := xUp) dX10_fraction_36 dX10_fraction_39 dX10_fraction_40 dX10_fraction_42 dX10_fraction_45 rfl rfl (by decide) (by decide) tw_114_118 (by decide) (by show 2 + 3 < _; simp only [g_rm]; omega) (by show 0 + 82 ≤ _; simp only [g_rm]; omega) (Nat.le_of_ble_eq_true rfl) (Nat.le_of_ble_eq_true rfl) (Nat.le_of_ble_eq_true rfl) (Nat.le_of_ble_eq_true rfl) (x_t (by unfold x_of k_fraction; rw [if_neg (nn_ p1), if_neg (nn_ p2), if_neg (nn_ p3), if_pos (show (if un (nI j) = 0 then un (nI b) ≤ un (nI a) else un (nI a) ≤ un (nI b)) by rw [hju, hau, hbu, if_neg c20]; omega)]; exact ⟨by decide, rfl⟩))
  · refine g_iload_n dX10_fraction_23 rfl rfl ?_
    refine g_iload_n dX10_fraction_24 rfl rfl ?_
    refine g_icmp_ltN (tgt := 46) dX10_fraction_25 (by decide) (by omega) (by omega) (fun c25 => ?_) (fun c25 => ?_)
    · skip
      refine g_aload_n dX10_fraction_46 rfl rfl ?_
      refine g_iconst (v := nI 0) dX10_fraction_47 (by decide) ?_
      refine cVn (st := []) dX10_fraction_48 (c_needStage G d n h (x := 0) (a0) hsg (by decide)) sX10_76 a0 rfl rfl (by simp only [g_rm]; omega) (by simp only [g_rm]; omega) (Nat.le_of_ble_eq_true rfl) ⟨Nat.le_of_ble_eq_true rfl, Nat.le_of_ble_eq_true rfl⟩ (fun p5 => ?_) (fun p5 => g_out rfl (Nat.le_of_ble_eq_true rfl) (Nat.le_of_ble_eq_true rfl) (x_t (by unfold x_of k_fraction; rw [if_neg (nn_ p1), if_neg (nn_ p2), if_neg (nn_ p3), if_neg (show ¬ (if un (nI j) = 0 then un (nI b) ≤ un (nI a) else un (nI a) ≤ un (nI b)) by rw [hju, hau, hbu, if_pos c20]; omega), if_pos p5]; exact ⟨by decide, rfl⟩)))
      refine g_iload_n dX10_fraction_51 rfl rfl ?_
      refine g_if_neN (tgt := 74) dX10_fraction_52 (by decide) (by omega) (fun c52 => ?_) (fun c52 => ?_)
      · exact absurd c20 c52
      · refine g_aload_n dX10_fraction_55 rfl rfl ?_
        refine g_getf dX10_fraction_56 fX10_12 a0 rfl ?_
        refine g_iload_n dX10_fraction_59 rfl rfl ?_
        refine g_put (fs' := [.ref 2, .ref 3, .ref 4, .ref 5, .int (nI (s 4)), .int (nI (s 5)), .int (nI (s 6)), .int (nI (s 7)), .int (nI (s 8)), .int (nI a), .int (nI (s 10)), .int (nI (s 11)), .int (nI (s 12))]) dX10_fraction_60 fX10_119 z1 (Nat.le_of_ble_eq_true rfl) rfl rfl rfl ?_
        refine g_aload_n dX10_fraction_63 rfl rfl ?_
        refine g_getf dX10_fraction_64 fX10_12 (g_ne (by decide) a0) rfl ?_
        refine g_iload_n dX10_fraction_67 rfl rfl ?_
        refine g_put (fs' := [.ref 2, .ref 3, .ref 4, .ref 5, .int (nI (s 4)), .int (nI (s 5)), .int (nI (s 6)), .int (nI (s 7)), .int (nI (s 8)), .int (nI a), .int (nI b), .int (nI (s 11)), .int (nI (s 12))]) dX10_fraction_68 fX10_122 g_eq (Nat.le_of_ble_eq_true rfl) rfl rfl rfl ?_
        refine g_goto (tgt := 90) dX10_fraction_71 (by decide) ?_
        exact e_tv dX10_fraction_90 rfl ((g_fr.rf.up (by simp)).up (by simp)) ⟨(by unfold k_fraction; rw [if_neg (nn_ p1), if_neg (nn_ p2), if_neg (nn_ p3), if_neg (show ¬ (if un (nI j) = 0 then un (nI b) ≤ un (nI a) else un (nI a) ≤ un (nI b)) by rw [hju, hau, hbu, if_pos c20]; omega), if_neg (nn_ p5)]), rfl, by rw [hju, hau, hbu, if_pos c20]; exact ⟨g_eq, g_ne (by decide) (g_ne (by decide) z2), g_ne (by decide) (g_ne (by decide) z3), g_ne (by decide) (g_ne (by decide) z4), g_ne (by decide) (g_ne (by decide) z5)⟩⟩ (Nat.le_of_ble_eq_true rfl) (Nat.le_of_ble_eq_true rfl)
    · refine g_goto (tgt := 36) dX10_fraction_28 (by decide) ?_
      exact g_throw (text := "the fraction is not on its side of 1") (names := xUp) dX10_fraction_36 dX10_fraction_39 dX10_fraction_40 dX10_fraction_42 dX10_fraction_45 rfl rfl (by decide) (by decide) tw_114_118 (by decide) (by show 2 + 3 < _; simp only [g_rm]; omega) (by show 0 + 82 ≤ _; simp only [g_rm]; omega) (Nat.le_of_ble_eq_true rfl) (Nat.le_of_ble_eq_true rfl) (Nat.le_of_ble_eq_true rfl) (Nat.le_of_ble_eq_true rfl) (x_t (by unfold x_of k_fraction; rw [if_neg (nn_ p1), if_neg (nn_ p2), if_neg (nn_ p3), if_pos (show (if un (nI j) = 0 then un (nI b) ≤ un (nI a) else un (nI a) ≤ un (nI b)) by rw [hju, hau, hbu, if_pos c20]; omega)]; exact ⟨by decide, rfl⟩))
set_option maxHeartbeats 4000000 in
set_option maxRecDepth 100000 in
theorem c_record (G : gG) (d n : Nat) (h : gH) {sg cm sd : Nat} (a0 : Au h sg cm sd) (hsg : sg < 2 ^ 31) {s v wn en rc : Nat → Nat} (hs : Su h s v wn en rc) {x y z : Int32} (h6 : s 6 ≤ 20000) (h4 : s 4 ≤ 8) : g_M G mX10_record (d + 8) 8 48 [.ref 0, .int x, .int y, .int z] n false h (q_t n [5] h (fun r h' => k_record s sg x y z = 0 ∧ r = none ∧ Su h' s v wn en (rc_set rc (un x) (un x + un y) (un (z + nI 1)))) (x_of [xIB, xIS] (k_record s sg x y z))) := by
  have hs' := hs
  obtain ⟨z1, z2, z3, z4, z5⟩ := hs'
  refine g_enter (by decide) (Nat.le_of_ble_eq_true rfl) ?_
  show g_W G _ _ _ n false h 0 0 0 [(0, .ref 0), (1, .int x), (2, .int y), (3, .int z)] []
  refine g_iload_n dX10_record_0 rfl rfl ?_
  refine g_aload_n dX10_record_1 rfl rfl ?_
  refine g_getf dX10_record_2 fX10_12 a0 rfl ?_
  refine g_getf dX10_record_5 fX10_96 z1 rfl ?_
  refine cSn (st := []) dX10_record_8 (c_needIndex G d n h (x := x) (m := nI (s 6))) sX10_104 rfl (by simp only [g_rm]; omega) (by simp only [g_rm]; omega) (Nat.le_of_ble_eq_true rfl) ⟨Nat.le_of_ble_eq_true rfl, Nat.le_of_ble_eq_true rfl⟩ (fun p1 => ?_) (fun p1 => g_out rfl (Nat.le_of_ble_eq_true rfl) (Nat.le_of_ble_eq_true rfl) (x_t (by unfold x_of k_record; rw [if_pos p1]; exact ⟨by decide, rfl⟩)))
  obtain ⟨j, hjb, rfl⟩ := nat_ix p1 (by first | decide | omega)
  have hju := un_nI (show j < 4294967296 by omega)
  refine g_iload_n dX10_record_11 rfl rfl ?_
  refine g_iconst (v := nI 1) dX10_record_12 (by decide) ?_
  refine g_icmp_lt (tgt := 29) dX10_record_13 (by decide) (fun c13 => ?_) (fun c13 => ?_)
  · exact g_throw (text := "no such last ballot") (names := xUp) dX10_record_29 dX10_record_32 dX10_record_33 dX10_record_35 dX10_record_38 rfl rfl (by decide) (by decide) tw_131_135 (by decide) (by show 2 + 3 < _; simp only [g_rm]; omega) (by show 0 + 82 ≤ _; simp only [g_rm]; omega) (Nat.le_of_ble_eq_true rfl) (Nat.le_of_ble_eq_true rfl) (Nat.le_of_ble_eq_true rfl) (Nat.le_of_ble_eq_true rfl) (x_t (by unfold x_of k_record; rw [if_neg (nn_ p1), if_pos (Or.inl c13)]; exact ⟨by decide, rfl⟩))
  · obtain ⟨m, hm31, rfl⟩ := nI_of (fun q => c13 (Int32.lt_trans q (by decide)))
    have hmu := un_nI (show m < 4294967296 by omega)
    have hm1 : 1 ≤ m := (nI_leI (by decide) hm31).mp (Int32.not_lt.mp c13)
    refine g_iload_n dX10_record_16 rfl rfl ?_
    refine g_aload_n dX10_record_17 rfl rfl ?_
    refine g_getf dX10_record_18 fX10_12 a0 rfl ?_
    refine g_getf dX10_record_21 fX10_96 z1 rfl ?_
    refine g_iload_n dX10_record_24 rfl rfl ?_
    refine g_isubN dX10_record_25 (by omega) ?_
    refine g_icmp_leN (tgt := 39) dX10_record_26 (by decide) (by omega) (by omega) (fun c26 => ?_) (fun c26 => ?_)
    · refine g_aload_n dX10_record_39 rfl rfl ?_
      refine g_iload_n dX10_record_40 rfl rfl ?_
      refine cVn (st := []) dX10_record_41 (c_needCand G d n h (x := z) a0 hs) sX10_136 a0 rfl rfl (by simp only [g_rm]; omega) (by simp only [g_rm]; omega) (Nat.le_of_ble_eq_true rfl) ⟨Nat.le_of_ble_eq_true rfl, Nat.le_of_ble_eq_true rfl⟩ (fun p2 => ?_) (fun p2 => g_out rfl (Nat.le_of_ble_eq_true rfl) (Nat.le_of_ble_eq_true rfl) (x_t (by unfold x_of k_record; rw [if_neg (nn_ p1), if_neg (fun q => q.elim c13 (by rw [hju, hmu]; omega)), if_pos p2]; exact ⟨by decide, rfl⟩)))
      have p2x := p2
      refine g_aload_n dX10_record_44 rfl rfl ?_
      refine g_iconst (v := nI 0) dX10_record_45 (by decide) ?_
      refine cVn (st := []) dX10_record_46 (c_needStage G d n h (x := 0) (a0) hsg (by decide)) sX10_76 a0 rfl rfl (by simp only [g_rm]; omega) (by simp only [g_rm]; omega) (Nat.le_of_ble_eq_true rfl) ⟨Nat.le_of_ble_eq_true rfl, Nat.le_of_ble_eq_true rfl⟩ (fun p3 => ?_) (fun p3 => g_out rfl (Nat.le_of_ble_eq_true rfl) (Nat.le_of_ble_eq_true rfl) (x_t (by unfold x_of k_record; rw [if_neg (nn_ p1), if_neg (fun q => q.elim c13 (by rw [hju, hmu]; omega)), if_neg (nn_ p2), if_pos p3]; exact ⟨by decide, rfl⟩)))
      have hcc : un (z + nI 1) ≤ 8 := by
        rcases p2x with q | q
        · rw [q]; decide
        · obtain ⟨c9, hc9, rfl⟩ := nat_ix q (by omega)
          rw [nI_add, un_nI (by omega)]; omega
      refine g_aload_n dX10_record_49 rfl rfl ?_
      refine g_getf dX10_record_50 fX10_12 a0 rfl ?_
      refine g_iload_n dX10_record_53 rfl rfl ?_
      refine g_iload_n dX10_record_54 rfl rfl ?_
      refine g_iload_n dX10_record_55 rfl rfl ?_
      refine cVv (st := []) dX10_record_56 (c_readAs G (d + 7) n false h hs (x := z) (cc := un (z + nI 1)) (nI_un _).symm hcc (a := j) (m := m) (by omega)) sX10_139 z1 rfl rfl (by simp only [g_rm]; omega) (by simp only [g_rm]; omega) (Nat.le_of_ble_eq_true rfl) ⟨Nat.le_of_ble_eq_true rfl, Nat.le_of_ble_eq_true rfl⟩ (fun h4 fr5 p6 => ?_)
      exact e_tv dX10_record_59 rfl ((g_fr.rf).tr fr5 (by simp)) ⟨(by unfold k_record; rw [if_neg (nn_ p1), if_neg (fun q => q.elim c13 (by rw [hju, hmu]; omega)), if_neg (nn_ p2), if_neg (nn_ p3)]), rfl, by rw [hju, hmu]; exact p6⟩ (Nat.le_of_ble_eq_true rfl) (Nat.le_of_ble_eq_true rfl)
    · exact g_throw (text := "no such last ballot") (names := xUp) dX10_record_29 dX10_record_32 dX10_record_33 dX10_record_35 dX10_record_38 rfl rfl (by decide) (by decide) tw_131_135 (by decide) (by show 2 + 3 < _; simp only [g_rm]; omega) (by show 0 + 82 ≤ _; simp only [g_rm]; omega) (Nat.le_of_ble_eq_true rfl) (Nat.le_of_ble_eq_true rfl) (Nat.le_of_ble_eq_true rfl) (Nat.le_of_ble_eq_true rfl) (x_t (by unfold x_of k_record; rw [if_neg (nn_ p1), if_pos (Or.inr (by rw [hju, hmu]; omega))]; exact ⟨by decide, rfl⟩))
set_option maxHeartbeats 4000000 in
set_option maxRecDepth 100000 in
theorem c_digit (G : gG) (d n : Nat) (h : gH) {sg cm sd : Nat} (a0 : Au h sg cm sd) (hsg : sg < 2 ^ 31) {dg : Nat → Nat} {k : Nat} {x : Int32} (hS : Sd h dg k) (hk : k ≤ 20) : g_M G mX10_digit (d + 7) 8 48 [.ref 0, .int x] n false h (q_t n [8, 9] h (fun r h' => k_digit sg k x = 0 ∧ r = some (.int (nI (k + 1))) ∧ Sd h' (va_up dg k (un x)) (k + 1)) (x_of [xIA, xIS, xUO] (k_digit sg k x))) := by
  have s1 := hS.1
  refine g_enter (by decide) (Nat.le_of_ble_eq_true rfl) ?_
  show g_W G _ _ _ n false h 0 0 0 [(0, .ref 0), (1, .int x)] []
  refine g_iload_n dX10_digit_0 rfl rfl ?_
  refine g_iconst (v := nI 0) dX10_digit_1 (by decide) ?_
  refine g_bipush (v := nI 9) dX10_digit_2 (by decide) ?_
  refine cSn (st := []) dX10_digit_4 (c_needNumber G d n h (x := x) (a := nI 0) (b := nI 9)) sX10_72 rfl (by simp only [g_rm]; omega) (by simp only [g_rm]; omega) (Nat.le_of_ble_eq_true rfl) ⟨Nat.le_of_ble_eq_true rfl, Nat.le_of_ble_eq_true rfl⟩ (fun p1 => ?_) (fun p1 => g_out rfl (Nat.le_of_ble_eq_true rfl) (Nat.le_of_ble_eq_true rfl) (x_t (by unfold x_of k_digit; rw [if_pos p1]; exact ⟨by decide, rfl⟩)))
  obtain ⟨y, hya, hyb, rfl⟩ := nat_of (by first | decide | omega) p1 (by decide)
  have hyu := un_nI (show y < 4294967296 by omega)
  refine g_aload_n dX10_digit_7 rfl rfl ?_
  refine g_iconst (v := nI 0) dX10_digit_8 (by decide) ?_
  refine cVn (st := []) dX10_digit_9 (c_needStage G d n h (x := 0) (a0) hsg (by decide)) sX10_76 a0 rfl rfl (by simp only [g_rm]; omega) (by simp only [g_rm]; omega) (Nat.le_of_ble_eq_true rfl) ⟨Nat.le_of_ble_eq_true rfl, Nat.le_of_ble_eq_true rfl⟩ (fun p2 => ?_) (fun p2 => g_out rfl (Nat.le_of_ble_eq_true rfl) (Nat.le_of_ble_eq_true rfl) (x_t (by unfold x_of k_digit; rw [if_neg (nn_ p1), if_pos p2]; exact ⟨by decide, rfl⟩)))
  refine g_aload_n dX10_digit_12 rfl rfl ?_
  refine g_getf dX10_digit_13 fX10_26 a0 rfl ?_
  refine g_getf dX10_digit_16 fX10_142 s1 rfl ?_
  refine g_bipush (v := nI 20) dX10_digit_19 (by decide) ?_
  refine g_icmp_ltN (tgt := 34) dX10_digit_21 (by decide) (by omega) (by decide) (fun c21 => ?_) (fun c21 => ?_)
  · refine g_aload_n dX10_digit_34 rfl rfl ?_
    refine g_getf dX10_digit_35 fX10_26 a0 rfl ?_
    refine g_iload_n dX10_digit_38 rfl rfl ?_
    refine cVi (st := []) dX10_digit_39 (c_addDigit G (d + 6) n false h hS c21 (x := y)) sX10_147 s1 rfl rfl (by simp only [g_rm]; omega) (by simp only [g_rm]; omega) (Nat.le_of_ble_eq_true rfl) ⟨Nat.le_of_ble_eq_true rfl, Nat.le_of_ble_eq_true rfl⟩ (fun r6 h3 fr4 p5 => ?_)
    obtain ⟨e1, hs2⟩ := p5
    subst e1
    exact e_ti dX10_digit_42 rfl rfl ((g_fr.rf).tr fr4 (by simp)) ⟨(by unfold k_digit; rw [if_neg (nn_ p1), if_neg (nn_ p2), if_neg (by omega)]), rfl, by rw [hyu]; exact hs2⟩ (Nat.le_of_ble_eq_true rfl) (Nat.le_of_ble_eq_true rfl)
  · exact g_throw (text := "no room for a digit more") (names := xUp) dX10_digit_24 dX10_digit_27 dX10_digit_28 dX10_digit_30 dX10_digit_33 rfl rfl (by decide) (by decide) tw_82_86 (by decide) (by show 2 + 3 < _; simp only [g_rm]; omega) (by show 0 + 82 ≤ _; simp only [g_rm]; omega) (Nat.le_of_ble_eq_true rfl) (Nat.le_of_ble_eq_true rfl) (Nat.le_of_ble_eq_true rfl) (Nat.le_of_ble_eq_true rfl) (x_t (by unfold x_of k_digit; rw [if_neg (nn_ p1), if_neg (nn_ p2), if_pos c21]; exact ⟨by decide, rfl⟩))
set_option maxHeartbeats 4000000 in
set_option maxRecDepth 100000 in
theorem c_coins (G : gG) (d n : Nat) (h : gH) {sg cm sd : Nat} (a0 : Au h sg cm sd) {c : Nat → Nat} {m : Nat} {x y : Int32} (hC : Co h c m) : g_M G mX10_coins (d + 7) 8 48 [.ref 0, .int x, .int y] n false h (q_t n [6, 7] h (fun r h' => k_coins m y = 0 ∧ r = some (.int (nI (m + un y))) ∧ Co h' (ca c m (un y) x) (m + un y)) (x_of [xIA, xUO] (k_coins m y))) := by
  obtain ⟨f0, rg, c6, c7, hf0, hm, hC5, hC6⟩ := id hC
  refine g_enter (by decide) (Nat.le_of_ble_eq_true rfl) ?_
  show g_W G _ _ _ n false h 0 0 0 [(0, .ref 0), (1, .int x), (2, .int y)] []
  refine g_iload_n dX10_coins_0 rfl rfl ?_
  refine g_iconst (v := nI 0) dX10_coins_1 (by decide) ?_
  refine g_bipush (v := nI 32) dX10_coins_2 (by decide) ?_
  refine cSn (st := []) dX10_coins_4 (c_needNumber G d n h (x := y) (a := nI 0) (b := nI 32)) sX10_72 rfl (by simp only [g_rm]; omega) (by simp only [g_rm]; omega) (Nat.le_of_ble_eq_true rfl) ⟨Nat.le_of_ble_eq_true rfl, Nat.le_of_ble_eq_true rfl⟩ (fun p1 => ?_) (fun p1 => g_out rfl (Nat.le_of_ble_eq_true rfl) (Nat.le_of_ble_eq_true rfl) (x_t (by unfold x_of k_coins; rw [if_pos p1]; exact ⟨by decide, rfl⟩)))
  obtain ⟨q, hqa, hqb, rfl⟩ := nat_of (by first | decide | omega) p1 (by decide)
  have hqu := un_nI (show q < 4294967296 by omega)
  refine g_iload_n dX10_coins_7 rfl rfl ?_
  refine g_sipush (v := nI 4000) dX10_coins_8 (by decide) ?_
  refine g_aload_n dX10_coins_11 rfl rfl ?_
  refine g_getf dX10_coins_12 fX10_19 a0 rfl ?_
  refine g_getf dX10_coins_15 fX10_150 c6 rfl ?_
  refine g_isubN dX10_coins_18 (by omega) ?_
  refine g_icmp_leN (tgt := 32) dX10_coins_19 (by decide) (by omega) (by omega) (fun c19 => ?_) (fun c19 => ?_)
  · refine g_aload_n dX10_coins_32 rfl rfl ?_
    refine g_getf dX10_coins_33 fX10_19 a0 rfl ?_
    refine g_iload_n dX10_coins_36 rfl rfl ?_
    refine g_iload_n dX10_coins_37 rfl rfl ?_
    refine cVi (st := []) dX10_coins_38 (c_addCoins G (d + 6) n false h (x := x) hC (by omega) (by omega)) sX10_153 c6 rfl rfl (by simp only [g_rm]; omega) (by simp only [g_rm]; omega) (Nat.le_of_ble_eq_true rfl) ⟨Nat.le_of_ble_eq_true rfl, Nat.le_of_ble_eq_true rfl⟩ (fun r5 h2 fr3 p4 => ?_)
    obtain ⟨e1, hs2⟩ := p4
    subst e1
    exact e_ti dX10_coins_41 rfl rfl ((g_fr.rf).tr fr3 (by simp)) ⟨(by unfold k_coins; rw [if_neg (nn_ p1), if_neg (by rw [hqu]; omega)]), by rw [hqu], by rw [hqu]; exact hs2⟩ (Nat.le_of_ble_eq_true rfl) (Nat.le_of_ble_eq_true rfl)
  · exact g_throw (text := "no room for so many coins") (names := xUp) dX10_coins_22 dX10_coins_25 dX10_coins_26 dX10_coins_28 dX10_coins_31 rfl rfl (by decide) (by decide) tw_82_86 (by decide) (by show 2 + 3 < _; simp only [g_rm]; omega) (by show 0 + 82 ≤ _; simp only [g_rm]; omega) (Nat.le_of_ble_eq_true rfl) (Nat.le_of_ble_eq_true rfl) (Nat.le_of_ble_eq_true rfl) (Nat.le_of_ble_eq_true rfl) (x_t (by unfold x_of k_coins; rw [if_neg (nn_ p1), if_pos (by rw [hqu]; omega)]; exact ⟨by decide, rfl⟩))
