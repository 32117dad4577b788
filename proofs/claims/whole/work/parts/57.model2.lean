set_option maxHeartbeats 4000000 in
set_option maxRecDepth 100000 in
theorem c_mfraction (G : gG) (d n : Nat) (ex : Bool) (h : gH) {cd wt : Int32} {s : Nat → Nat} {k m sg cm sd mm dr dd bk rt : Nat} {x y z : Int32} (m0 : Mc h cd s k m sg cm sd mm dr dd bk rt wt) (hsg : sg < 2 ^ 31) : g_M G mX11_fraction d 0 0 [.ref 142, .int x, .int y, .int z] n ex h (q_v n ex [142] h (fun h' => (¬ k_fraction sg x y z = 0 ∧ Mc h' (nI (k_fraction sg x y z)) s k m sg cm sd mm dr dd bk rt wt ∧ g_fr [142] h h') ∨ (k_fraction sg x y z = 0 ∧ Mc h' (nI (k_fraction sg x y z)) (if un x = 0 then va_up (va_up s 9 (un y)) 10 (un z) else va_up (va_up s 11 (un y)) 12 (un z)) k m sg cm sd mm dr dd bk rt wt))) := by
  refine g_enter (by decide) (Nat.le_of_ble_eq_true rfl) ?_
  show g_W G _ _ _ n ex h 0 0 0 [(0, .ref 142), (1, .int x), (2, .int y), (3, .int z)] []
  refine g_iload_n dX11_fraction_0 rfl rfl ?_
  refine g_iconst (v := nI 1) dX11_fraction_1 (by decide) ?_
  refine g_icmp_lt (tgt := 43) dX11_fraction_2 (by decide) (fun c2 => ?_) (fun c2 => ?_)
  · refine g_iconst (v := nI 0) dX11_fraction_43 (by decide) ?_
    refine g_istore (ls' := [(4, .int (nI 0)), (0, .ref 142), (1, .int x), (2, .int y), (3, .int z)]) dX11_fraction_44 (by decide) rfl ?_
    refine g_aload_n dX11_fraction_46 rfl rfl ?_
    refine g_iload_n dX11_fraction_47 rfl rfl ?_
    refine g_if_lt (tgt := 56) dX11_fraction_48 (by decide) (fun c48 => ?_) (fun c48 => ?_)
    · refine g_iconst (v := nI 1) dX11_fraction_56 (by decide) ?_
      refine g_goto (tgt := 81) dX11_fraction_57 (by decide) ?_
      refine g_put (fs' := [.int (nI 1), .ref 143, .int (nI (s 4)), .int (nI (s 7)), .int (nI (s 8)), .ref 144, .int (nI (s 5)), .int (nI (s 6)), .ref 145, .int (nI (s 9)), .int (nI (s 10)), .int (nI (s 11)), .int (nI (s 12)), .ref 146, .int (nI k), .ref 147, .int (nI m), .int (nI sg), .int (nI cm), .int (nI sd), .ref 148, .ref 149, .ref 150, .ref 151, .int (nI mm), .ref 152, .ref 153, .ref 154, .int (nI dr), .int (nI dd), .int (nI bk), .int wt, .ref 155, .int (nI rt), .ref 156, .ref 157, .ref 158, .ref 159, .ref 160, .ref 161, .ref 162, .ref 163, .ref 164, .ref 165, .ref 166]) dX11_fraction_81 fX11_1 m0 (Nat.le_of_ble_eq_true rfl) rfl rfl rfl ?_
      refine g_aload_n dX11_fraction_84 rfl rfl ?_
      refine g_getf (v := .int (nI 1)) dX11_fraction_85 fX11_1 g_eq rfl ?_
      refine g_if_leN (tgt := 92) dX11_fraction_88 (by decide) (by decide) (fun c88 => ?_) (fun c88 => ?_)
      · exact absurd c88 (by decide)
      · have ek : k_fraction sg x y z = 1 := (by have hu_x := un_b x; have hu_y := un_b y; have hu_z := un_b z; unfold k_fraction; (repeat' split) <;> first | rfl | (exfalso; simp only [i_lt, i_le, i_eq, it0, itm, ifp, nI_toInt (show 0 < 2147483648 by first | decide | omega), nI_toInt (show 1 < 2147483648 by first | decide | omega), nI_toInt (show 2 < 2147483648 by first | decide | omega), nI_toInt (show 1000000 < 2147483648 by first | decide | omega)] at * <;> omega))
        exact e_v dX11_fraction_91 rfl (g_fr.rf.up (by simp)) (Or.inl ⟨by rw [ek]; decide, by rw [ek]; exact g_eq, g_fr.rf.up (by simp)⟩) (by decide) (by decide)
    · refine g_iload_n dX11_fraction_51 rfl rfl ?_
      refine g_iconst (v := nI 1) dX11_fraction_52 (by decide) ?_
      refine g_icmp_le (tgt := 60) dX11_fraction_53 (by decide) (fun c53 => ?_) (fun c53 => ?_)
      · refine g_iload dX11_fraction_60 rfl ?_
        refine g_if_neN (tgt := 69) dX11_fraction_62 (by decide) (by decide) (fun c62 => ?_) (fun c62 => ?_)
        · exact absurd c62 (by decide)
        · refine g_iconst (v := nI 2) dX11_fraction_65 (by decide) ?_
          refine g_goto (tgt := 81) dX11_fraction_66 (by decide) ?_
          refine g_put (fs' := [.int (nI 2), .ref 143, .int (nI (s 4)), .int (nI (s 7)), .int (nI (s 8)), .ref 144, .int (nI (s 5)), .int (nI (s 6)), .ref 145, .int (nI (s 9)), .int (nI (s 10)), .int (nI (s 11)), .int (nI (s 12)), .ref 146, .int (nI k), .ref 147, .int (nI m), .int (nI sg), .int (nI cm), .int (nI sd), .ref 148, .ref 149, .ref 150, .ref 151, .int (nI mm), .ref 152, .ref 153, .ref 154, .int (nI dr), .int (nI dd), .int (nI bk), .int wt, .ref 155, .int (nI rt), .ref 156, .ref 157, .ref 158, .ref 159, .ref 160, .ref 161, .ref 162, .ref 163, .ref 164, .ref 165, .ref 166]) dX11_fraction_81 fX11_1 m0 (Nat.le_of_ble_eq_true rfl) rfl rfl rfl ?_
          refine g_aload_n dX11_fraction_84 rfl rfl ?_
          refine g_getf (v := .int (nI 2)) dX11_fraction_85 fX11_1 g_eq rfl ?_
          refine g_if_leN (tgt := 92) dX11_fraction_88 (by decide) (by decide) (fun c88 => ?_) (fun c88 => ?_)
          · exact absurd c88 (by decide)
          · have ek : k_fraction sg x y z = 2 := (by have hu_x := un_b x; have hu_y := un_b y; have hu_z := un_b z; unfold k_fraction; (repeat' split) <;> first | rfl | (exfalso; simp only [i_lt, i_le, i_eq, it0, itm, ifp, nI_toInt (show 0 < 2147483648 by first | decide | omega), nI_toInt (show 1 < 2147483648 by first | decide | omega), nI_toInt (show 2 < 2147483648 by first | decide | omega), nI_toInt (show 1000000 < 2147483648 by first | decide | omega)] at * <;> omega))
            exact e_v dX11_fraction_91 rfl (g_fr.rf.up (by simp)) (Or.inl ⟨by rw [ek]; decide, by rw [ek]; exact g_eq, g_fr.rf.up (by simp)⟩) (by decide) (by decide)
      · refine g_iconst (v := nI 1) dX11_fraction_56 (by decide) ?_
        refine g_goto (tgt := 81) dX11_fraction_57 (by decide) ?_
        refine g_put (fs' := [.int (nI 1), .ref 143, .int (nI (s 4)), .int (nI (s 7)), .int (nI (s 8)), .ref 144, .int (nI (s 5)), .int (nI (s 6)), .ref 145, .int (nI (s 9)), .int (nI (s 10)), .int (nI (s 11)), .int (nI (s 12)), .ref 146, .int (nI k), .ref 147, .int (nI m), .int (nI sg), .int (nI cm), .int (nI sd), .ref 148, .ref 149, .ref 150, .ref 151, .int (nI mm), .ref 152, .ref 153, .ref 154, .int (nI dr), .int (nI dd), .int (nI bk), .int wt, .ref 155, .int (nI rt), .ref 156, .ref 157, .ref 158, .ref 159, .ref 160, .ref 161, .ref 162, .ref 163, .ref 164, .ref 165, .ref 166]) dX11_fraction_81 fX11_1 m0 (Nat.le_of_ble_eq_true rfl) rfl rfl rfl ?_
        refine g_aload_n dX11_fraction_84 rfl rfl ?_
        refine g_getf (v := .int (nI 1)) dX11_fraction_85 fX11_1 g_eq rfl ?_
        refine g_if_leN (tgt := 92) dX11_fraction_88 (by decide) (by decide) (fun c88 => ?_) (fun c88 => ?_)
        · exact absurd c88 (by decide)
        · have ek : k_fraction sg x y z = 1 := (by have hu_x := un_b x; have hu_y := un_b y; have hu_z := un_b z; unfold k_fraction; (repeat' split) <;> first | rfl | (exfalso; simp only [i_lt, i_le, i_eq, it0, itm, ifp, nI_toInt (show 0 < 2147483648 by first | decide | omega), nI_toInt (show 1 < 2147483648 by first | decide | omega), nI_toInt (show 2 < 2147483648 by first | decide | omega), nI_toInt (show 1000000 < 2147483648 by first | decide | omega)] at * <;> omega))
          exact e_v dX11_fraction_91 rfl (g_fr.rf.up (by simp)) (Or.inl ⟨by rw [ek]; decide, by rw [ek]; exact g_eq, g_fr.rf.up (by simp)⟩) (by decide) (by decide)
  · refine g_iload_n dX11_fraction_5 rfl rfl ?_
    refine g_ldc dX11_fraction_6 kX11_230 rfl ?_
    refine g_top (show (1000000 : Int32) = nI 1000000 by decide) ?_
    refine g_icmp_gt (tgt := 43) dX11_fraction_8 (by decide) (fun c8 => ?_) (fun c8 => ?_)
    · refine g_iconst (v := nI 0) dX11_fraction_43 (by decide) ?_
      refine g_istore (ls' := [(4, .int (nI 0)), (0, .ref 142), (1, .int x), (2, .int y), (3, .int z)]) dX11_fraction_44 (by decide) rfl ?_
      refine g_aload_n dX11_fraction_46 rfl rfl ?_
      refine g_iload_n dX11_fraction_47 rfl rfl ?_
      refine g_if_lt (tgt := 56) dX11_fraction_48 (by decide) (fun c48 => ?_) (fun c48 => ?_)
      · refine g_iconst (v := nI 1) dX11_fraction_56 (by decide) ?_
        refine g_goto (tgt := 81) dX11_fraction_57 (by decide) ?_
        refine g_put (fs' := [.int (nI 1), .ref 143, .int (nI (s 4)), .int (nI (s 7)), .int (nI (s 8)), .ref 144, .int (nI (s 5)), .int (nI (s 6)), .ref 145, .int (nI (s 9)), .int (nI (s 10)), .int (nI (s 11)), .int (nI (s 12)), .ref 146, .int (nI k), .ref 147, .int (nI m), .int (nI sg), .int (nI cm), .int (nI sd), .ref 148, .ref 149, .ref 150, .ref 151, .int (nI mm), .ref 152, .ref 153, .ref 154, .int (nI dr), .int (nI dd), .int (nI bk), .int wt, .ref 155, .int (nI rt), .ref 156, .ref 157, .ref 158, .ref 159, .ref 160, .ref 161, .ref 162, .ref 163, .ref 164, .ref 165, .ref 166]) dX11_fraction_81 fX11_1 m0 (Nat.le_of_ble_eq_true rfl) rfl rfl rfl ?_
        refine g_aload_n dX11_fraction_84 rfl rfl ?_
        refine g_getf (v := .int (nI 1)) dX11_fraction_85 fX11_1 g_eq rfl ?_
        refine g_if_leN (tgt := 92) dX11_fraction_88 (by decide) (by decide) (fun c88 => ?_) (fun c88 => ?_)
        · exact absurd c88 (by decide)
        · have ek : k_fraction sg x y z = 1 := (by have hu_x := un_b x; have hu_y := un_b y; have hu_z := un_b z; unfold k_fraction; (repeat' split) <;> first | rfl | (exfalso; simp only [i_lt, i_le, i_eq, it0, itm, ifp, nI_toInt (show 0 < 2147483648 by first | decide | omega), nI_toInt (show 1 < 2147483648 by first | decide | omega), nI_toInt (show 2 < 2147483648 by first | decide | omega), nI_toInt (show 1000000 < 2147483648 by first | decide | omega)] at * <;> omega))
          exact e_v dX11_fraction_91 rfl (g_fr.rf.up (by simp)) (Or.inl ⟨by rw [ek]; decide, by rw [ek]; exact g_eq, g_fr.rf.up (by simp)⟩) (by decide) (by decide)
      · refine g_iload_n dX11_fraction_51 rfl rfl ?_
        refine g_iconst (v := nI 1) dX11_fraction_52 (by decide) ?_
        refine g_icmp_le (tgt := 60) dX11_fraction_53 (by decide) (fun c53 => ?_) (fun c53 => ?_)
        · refine g_iload dX11_fraction_60 rfl ?_
          refine g_if_neN (tgt := 69) dX11_fraction_62 (by decide) (by decide) (fun c62 => ?_) (fun c62 => ?_)
          · exact absurd c62 (by decide)
          · refine g_iconst (v := nI 2) dX11_fraction_65 (by decide) ?_
            refine g_goto (tgt := 81) dX11_fraction_66 (by decide) ?_
            refine g_put (fs' := [.int (nI 2), .ref 143, .int (nI (s 4)), .int (nI (s 7)), .int (nI (s 8)), .ref 144, .int (nI (s 5)), .int (nI (s 6)), .ref 145, .int (nI (s 9)), .int (nI (s 10)), .int (nI (s 11)), .int (nI (s 12)), .ref 146, .int (nI k), .ref 147, .int (nI m), .int (nI sg), .int (nI cm), .int (nI sd), .ref 148, .ref 149, .ref 150, .ref 151, .int (nI mm), .ref 152, .ref 153, .ref 154, .int (nI dr), .int (nI dd), .int (nI bk), .int wt, .ref 155, .int (nI rt), .ref 156, .ref 157, .ref 158, .ref 159, .ref 160, .ref 161, .ref 162, .ref 163, .ref 164, .ref 165, .ref 166]) dX11_fraction_81 fX11_1 m0 (Nat.le_of_ble_eq_true rfl) rfl rfl rfl ?_
            refine g_aload_n dX11_fraction_84 rfl rfl ?_
            refine g_getf (v := .int (nI 2)) dX11_fraction_85 fX11_1 g_eq rfl ?_
            refine g_if_leN (tgt := 92) dX11_fraction_88 (by decide) (by decide) (fun c88 => ?_) (fun c88 => ?_)
            · exact absurd c88 (by decide)
            · have ek : k_fraction sg x y z = 2 := (by have hu_x := un_b x; have hu_y := un_b y; have hu_z := un_b z; unfold k_fraction; (repeat' split) <;> first | rfl | (exfalso; simp only [i_lt, i_le, i_eq, it0, itm, ifp, nI_toInt (show 0 < 2147483648 by first | decide | omega), nI_toInt (show 1 < 2147483648 by first | decide | omega), nI_toInt (show 2 < 2147483648 by first | decide | omega), nI_toInt (show 1000000 < 2147483648 by first | decide | omega)] at * <;> omega))
              exact e_v dX11_fraction_91 rfl (g_fr.rf.up (by simp)) (Or.inl ⟨by rw [ek]; decide, by rw [ek]; exact g_eq, g_fr.rf.up (by simp)⟩) (by decide) (by decide)
        · refine g_iconst (v := nI 1) dX11_fraction_56 (by decide) ?_
          refine g_goto (tgt := 81) dX11_fraction_57 (by decide) ?_
          refine g_put (fs' := [.int (nI 1), .ref 143, .int (nI (s 4)), .int (nI (s 7)), .int (nI (s 8)), .ref 144, .int (nI (s 5)), .int (nI (s 6)), .ref 145, .int (nI (s 9)), .int (nI (s 10)), .int (nI (s 11)), .int (nI (s 12)), .ref 146, .int (nI k), .ref 147, .int (nI m), .int (nI sg), .int (nI cm), .int (nI sd), .ref 148, .ref 149, .ref 150, .ref 151, .int (nI mm), .ref 152, .ref 153, .ref 154, .int (nI dr), .int (nI dd), .int (nI bk), .int wt, .ref 155, .int (nI rt), .ref 156, .ref 157, .ref 158, .ref 159, .ref 160, .ref 161, .ref 162, .ref 163, .ref 164, .ref 165, .ref 166]) dX11_fraction_81 fX11_1 m0 (Nat.le_of_ble_eq_true rfl) rfl rfl rfl ?_
          refine g_aload_n dX11_fraction_84 rfl rfl ?_
          refine g_getf (v := .int (nI 1)) dX11_fraction_85 fX11_1 g_eq rfl ?_
          refine g_if_leN (tgt := 92) dX11_fraction_88 (by decide) (by decide) (fun c88 => ?_) (fun c88 => ?_)
          · exact absurd c88 (by decide)
          · have ek : k_fraction sg x y z = 1 := (by have hu_x := un_b x; have hu_y := un_b y; have hu_z := un_b z; unfold k_fraction; (repeat' split) <;> first | rfl | (exfalso; simp only [i_lt, i_le, i_eq, it0, itm, ifp, nI_toInt (show 0 < 2147483648 by first | decide | omega), nI_toInt (show 1 < 2147483648 by first | decide | omega), nI_toInt (show 2 < 2147483648 by first | decide | omega), nI_toInt (show 1000000 < 2147483648 by first | decide | omega)] at * <;> omega))
            exact e_v dX11_fraction_91 rfl (g_fr.rf.up (by simp)) (Or.inl ⟨by rw [ek]; decide, by rw [ek]; exact g_eq, g_fr.rf.up (by simp)⟩) (by decide) (by decide)
    · refine g_iload_n dX11_fraction_11 rfl rfl ?_
      refine g_iconst (v := nI 1) dX11_fraction_12 (by decide) ?_
      refine g_icmp_lt (tgt := 43) dX11_fraction_13 (by decide) (fun c13 => ?_) (fun c13 => ?_)
      · refine g_iconst (v := nI 0) dX11_fraction_43 (by decide) ?_
        refine g_istore (ls' := [(4, .int (nI 0)), (0, .ref 142), (1, .int x), (2, .int y), (3, .int z)]) dX11_fraction_44 (by decide) rfl ?_
        refine g_aload_n dX11_fraction_46 rfl rfl ?_
        refine g_iload_n dX11_fraction_47 rfl rfl ?_
        refine g_if_lt (tgt := 56) dX11_fraction_48 (by decide) (fun c48 => ?_) (fun c48 => ?_)
        · refine g_iconst (v := nI 1) dX11_fraction_56 (by decide) ?_
          refine g_goto (tgt := 81) dX11_fraction_57 (by decide) ?_
          refine g_put (fs' := [.int (nI 1), .ref 143, .int (nI (s 4)), .int (nI (s 7)), .int (nI (s 8)), .ref 144, .int (nI (s 5)), .int (nI (s 6)), .ref 145, .int (nI (s 9)), .int (nI (s 10)), .int (nI (s 11)), .int (nI (s 12)), .ref 146, .int (nI k), .ref 147, .int (nI m), .int (nI sg), .int (nI cm), .int (nI sd), .ref 148, .ref 149, .ref 150, .ref 151, .int (nI mm), .ref 152, .ref 153, .ref 154, .int (nI dr), .int (nI dd), .int (nI bk), .int wt, .ref 155, .int (nI rt), .ref 156, .ref 157, .ref 158, .ref 159, .ref 160, .ref 161, .ref 162, .ref 163, .ref 164, .ref 165, .ref 166]) dX11_fraction_81 fX11_1 m0 (Nat.le_of_ble_eq_true rfl) rfl rfl rfl ?_
          refine g_aload_n dX11_fraction_84 rfl rfl ?_
          refine g_getf (v := .int (nI 1)) dX11_fraction_85 fX11_1 g_eq rfl ?_
          refine g_if_leN (tgt := 92) dX11_fraction_88 (by decide) (by decide) (fun c88 => ?_) (fun c88 => ?_)
          · exact absurd c88 (by decide)
          · have ek : k_fraction sg x y z = 1 := (by have hu_x := un_b x; have hu_y := un_b y; have hu_z := un_b z; unfold k_fraction; (repeat' split) <;> first | rfl | (exfalso; simp only [i_lt, i_le, i_eq, it0, itm, ifp, nI_toInt (show 0 < 2147483648 by first | decide | omega), nI_toInt (show 1 < 2147483648 by first | decide | omega), nI_toInt (show 2 < 2147483648 by first | decide | omega), nI_toInt (show 1000000 < 2147483648 by first | decide | omega)] at * <;> omega))
            exact e_v dX11_fraction_91 rfl (g_fr.rf.up (by simp)) (Or.inl ⟨by rw [ek]; decide, by rw [ek]; exact g_eq, g_fr.rf.up (by simp)⟩) (by decide) (by decide)
        · refine g_iload_n dX11_fraction_51 rfl rfl ?_
          refine g_iconst (v := nI 1) dX11_fraction_52 (by decide) ?_
          refine g_icmp_le (tgt := 60) dX11_fraction_53 (by decide) (fun c53 => ?_) (fun c53 => ?_)
          · refine g_iload dX11_fraction_60 rfl ?_
            refine g_if_neN (tgt := 69) dX11_fraction_62 (by decide) (by decide) (fun c62 => ?_) (fun c62 => ?_)
            · exact absurd c62 (by decide)
            · refine g_iconst (v := nI 2) dX11_fraction_65 (by decide) ?_
              refine g_goto (tgt := 81) dX11_fraction_66 (by decide) ?_
              refine g_put (fs' := [.int (nI 2), .ref 143, .int (nI (s 4)), .int (nI (s 7)), .int (nI (s 8)), .ref 144, .int (nI (s 5)), .int (nI (s 6)), .ref 145, .int (nI (s 9)), .int (nI (s 10)), .int (nI (s 11)), .int (nI (s 12)), .ref 146, .int (nI k), .ref 147, .int (nI m), .int (nI sg), .int (nI cm), .int (nI sd), .ref 148, .ref 149, .ref 150, .ref 151, .int (nI mm), .ref 152, .ref 153, .ref 154, .int (nI dr), .int (nI dd), .int (nI bk), .int wt, .ref 155, .int (nI rt), .ref 156, .ref 157, .ref 158, .ref 159, .ref 160, .ref 161, .ref 162, .ref 163, .ref 164, .ref 165, .ref 166]) dX11_fraction_81 fX11_1 m0 (Nat.le_of_ble_eq_true rfl) rfl rfl rfl ?_
              refine g_aload_n dX11_fraction_84 rfl rfl ?_
              refine g_getf (v := .int (nI 2)) dX11_fraction_85 fX11_1 g_eq rfl ?_
              refine g_if_leN (tgt := 92) dX11_fraction_88 (by decide) (by decide) (fun c88 => ?_) (fun c88 => ?_)
              · exact absurd c88 (by decide)
              · have ek : k_fraction sg x y z = 2 := (by have hu_x := un_b x; have hu_y := un_b y; have hu_z := un_b z; unfold k_fraction; (repeat' split) <;> first | rfl | (exfalso; simp only [i_lt, i_le, i_eq, it0, itm, ifp, nI_toInt (show 0 < 2147483648 by first | decide | omega), nI_toInt (show 1 < 2147483648 by first | decide | omega), nI_toInt (show 2 < 2147483648 by first | decide | omega), nI_toInt (show 1000000 < 2147483648 by first | decide | omega)] at * <;> omega))
                exact e_v dX11_fraction_91 rfl (g_fr.rf.up (by simp)) (Or.inl ⟨by rw [ek]; decide, by rw [ek]; exact g_eq, g_fr.rf.up (by simp)⟩) (by decide) (by decide)
          · refine g_iconst (v := nI 1) dX11_fraction_56 (by decide) ?_
            refine g_goto (tgt := 81) dX11_fraction_57 (by decide) ?_
            refine g_put (fs' := [.int (nI 1), .ref 143, .int (nI (s 4)), .int (nI (s 7)), .int (nI (s 8)), .ref 144, .int (nI (s 5)), .int (nI (s 6)), .ref 145, .int (nI (s 9)), .int (nI (s 10)), .int (nI (s 11)), .int (nI (s 12)), .ref 146, .int (nI k), .ref 147, .int (nI m), .int (nI sg), .int (nI cm), .int (nI sd), .ref 148, .ref 149, .ref 150, .ref 151, .int (nI mm), .ref 152, .ref 153, .ref 154, .int (nI dr), .int (nI dd), .int (nI bk), .int wt, .ref 155, .int (nI rt), .ref 156, .ref 157, .ref 158, .ref 159, .ref 160, .ref 161, .ref 162, .ref 163, .ref 164, .ref 165, .ref 166]) dX11_fraction_81 fX11_1 m0 (Nat.le_of_ble_eq_true rfl) rfl rfl rfl ?_
            refine g_aload_n dX11_fraction_84 rfl rfl ?_
            refine g_getf (v := .int (nI 1)) dX11_fraction_85 fX11_1 g_eq rfl ?_
            refine g_if_leN (tgt := 92) dX11_fraction_88 (by decide) (by decide) (fun c88 => ?_) (fun c88 => ?_)
            · exact absurd c88 (by decide)
            · have ek : k_fraction sg x y z = 1 := (by have hu_x := un_b x; have hu_y := un_b y; have hu_z := un_b z; unfold k_fraction; (repeat' split) <;> first | rfl | (exfalso; simp only [i_lt, i_le, i_eq, it0, itm, ifp, nI_toInt (show 0 < 2147483648 by first | decide | omega), nI_toInt (show 1 < 2147483648 by first | decide | omega), nI_toInt (show 2 < 2147483648 by first | decide | omega), nI_toInt (show 1000000 < 2147483648 by first | decide | omega)] at * <;> omega))
              exact e_v dX11_fraction_91 rfl (g_fr.rf.up (by simp)) (Or.inl ⟨by rw [ek]; decide, by rw [ek]; exact g_eq, g_fr.rf.up (by simp)⟩) (by decide) (by decide)
      · refine g_iload_n dX11_fraction_16 rfl rfl ?_
        refine g_ldc dX11_fraction_17 kX11_230 rfl ?_
        refine g_top (show (1000000 : Int32) = nI 1000000 by decide) ?_
        refine g_icmp_gt (tgt := 43) dX11_fraction_19 (by decide) (fun c19 => ?_) (fun c19 => ?_)
        · refine g_iconst (v := nI 0) dX11_fraction_43 (by decide) ?_
          refine g_istore (ls' := [(4, .int (nI 0)), (0, .ref 142), (1, .int x), (2, .int y), (3, .int z)]) dX11_fraction_44 (by decide) rfl ?_
          refine g_aload_n dX11_fraction_46 rfl rfl ?_
          refine g_iload_n dX11_fraction_47 rfl rfl ?_
          refine g_if_lt (tgt := 56) dX11_fraction_48 (by decide) (fun c48 => ?_) (fun c48 => ?_)
          · refine g_iconst (v := nI 1) dX11_fraction_56 (by decide) ?_
            refine g_goto (tgt := 81) dX11_fraction_57 (by decide) ?_
            refine g_put (fs' := [.int (nI 1), .ref 143, .int (nI (s 4)), .int (nI (s 7)), .int (nI (s 8)), .ref 144, .int (nI (s 5)), .int (nI (s 6)), .ref 145, .int (nI (s 9)), .int (nI (s 10)), .int (nI (s 11)), .int (nI (s 12)), .ref 146, .int (nI k), .ref 147, .int (nI m), .int (nI sg), .int (nI cm), .int (nI sd), .ref 148, .ref 149, .ref 150, .ref 151, .int (nI mm), .ref 152, .ref 153, .ref 154, .int (nI dr), .int (nI dd), .int (nI bk), .int wt, .ref 155, .int (nI rt), .ref 156, .ref 157, .ref 158, .ref 159, .ref 160, .ref 161, .ref 162, .ref 163, .ref 164, .ref 165, .ref 166]) dX11_fraction_81 fX11_1 m0 (Nat.le_of_ble_eq_true rfl) rfl rfl rfl ?_
            refine g_aload_n dX11_fraction_84 rfl rfl ?_
            refine g_getf (v := .int (nI 1)) dX11_fraction_85 fX11_1 g_eq rfl ?_
            refine g_if_leN (tgt := 92) dX11_fraction_88 (by decide) (by decide) (fun c88 => ?_) (fun c88 => ?_)
            · exact absurd c88 (by decide)
            · have ek : k_fraction sg x y z = 1 := (by have hu_x := un_b x; have hu_y := un_b y; have hu_z := un_b z; unfold k_fraction; (repeat' split) <;> first | rfl | (exfalso; simp only [i_lt, i_le, i_eq, it0, itm, ifp, nI_toInt (show 0 < 2147483648 by first | decide | omega), nI_toInt (show 1 < 2147483648 by first | decide | omega), nI_toInt (show 2 < 2147483648 by first | decide | omega), nI_toInt (show 1000000 < 2147483648 by first | decide | omega)] at * <;> omega))
              exact e_v dX11_fraction_91 rfl (g_fr.rf.up (by simp)) (Or.inl ⟨by rw [ek]; decide, by rw [ek]; exact g_eq, g_fr.rf.up (by simp)⟩) (by decide) (by decide)
          · refine g_iload_n dX11_fraction_51 rfl rfl ?_
            refine g_iconst (v := nI 1) dX11_fraction_52 (by decide) ?_
            refine g_icmp_le (tgt := 60) dX11_fraction_53 (by decide) (fun c53 => ?_) (fun c53 => ?_)
            · refine g_iload dX11_fraction_60 rfl ?_
              refine g_if_neN (tgt := 69) dX11_fraction_62 (by decide) (by decide) (fun c62 => ?_) (fun c62 => ?_)
              · exact absurd c62 (by decide)
              · refine g_iconst (v := nI 2) dX11_fraction_65 (by decide) ?_
                refine g_goto (tgt := 81) dX11_fraction_66 (by decide) ?_
                refine g_put (fs' := [.int (nI 2), .ref 143, .int (nI (s 4)), .int (nI (s 7)), .int (nI (s 8)), .ref 144, .int (nI (s 5)), .int (nI (s 6)), .ref 145, .int (nI (s 9)), .int (nI (s 10)), .int (nI (s 11)), .int (nI (s 12)), .ref 146, .int (nI k), .ref 147, .int (nI m), .int (nI sg), .int (nI cm), .int (nI sd), .ref 148, .ref 149, .ref 150, .ref 151, .int (nI mm), .ref 152, .ref 153, .ref 154, .int (nI dr), .int (nI dd), .int (nI bk), .int wt, .ref 155, .int (nI rt), .ref 156, .ref 157, .ref 158, .ref 159, .ref 160, .ref 161, .ref 162, .ref 163, .ref 164, .ref 165, .ref 166]) dX11_fraction_81 fX11_1 m0 (Nat.le_of_ble_eq_true rfl) rfl rfl rfl ?_
                refine g_aload_n dX11_fraction_84 rfl rfl ?_
                refine g_getf (v := .int (nI 2)) dX11_fraction_85 fX11_1 g_eq rfl ?_
                refine g_if_leN (tgt := 92) dX11_fraction_88 (by decide) (by decide) (fun c88 => ?_) (fun c88 => ?_)
                · exact absurd c88 (by decide)
                · have ek : k_fraction sg x y z = 2 := (by have hu_x := un_b x; have hu_y := un_b y; have hu_z := un_b z; unfold k_fraction; (repeat' split) <;> first | rfl | (exfalso; simp only [i_lt, i_le, i_eq, it0, itm, ifp, nI_toInt (show 0 < 2147483648 by first | decide | omega), nI_toInt (show 1 < 2147483648 by first | decide | omega), nI_toInt (show 2 < 2147483648 by first | decide | omega), nI_toInt (show 1000000 < 2147483648 by first | decide | omega)] at * <;> omega))
                  exact e_v dX11_fraction_91 rfl (g_fr.rf.up (by simp)) (Or.inl ⟨by rw [ek]; decide, by rw [ek]; exact g_eq, g_fr.rf.up (by simp)⟩) (by decide) (by decide)
            · refine g_iconst (v := nI 1) dX11_fraction_56 (by decide) ?_
              refine g_goto (tgt := 81) dX11_fraction_57 (by decide) ?_
              refine g_put (fs' := [.int (nI 1), .ref 143, .int (nI (s 4)), .int (nI (s 7)), .int (nI (s 8)), .ref 144, .int (nI (s 5)), .int (nI (s 6)), .ref 145, .int (nI (s 9)), .int (nI (s 10)), .int (nI (s 11)), .int (nI (s 12)), .ref 146, .int (nI k), .ref 147, .int (nI m), .int (nI sg), .int (nI cm), .int (nI sd), .ref 148, .ref 149, .ref 150, .ref 151, .int (nI mm), .ref 152, .ref 153, .ref 154, .int (nI dr), .int (nI dd), .int (nI bk), .int wt, .ref 155, .int (nI rt), .ref 156, .ref 157, .ref 158, .ref 159, .ref 160, .ref 161, .ref 162, .ref 163, .ref 164, .ref 165, .ref 166]) dX11_fraction_81 fX11_1 m0 (Nat.le_of_ble_eq_true rfl) rfl rfl rfl ?_
              refine g_aload_n dX11_fraction_84 rfl rfl ?_
              refine g_getf (v := .int (nI 1)) dX11_fraction_85 fX11_1 g_eq rfl ?_
              refine g_if_leN (tgt := 92) dX11_fraction_88 (by decide) (by decide) (fun c88 => ?_) (fun c88 => ?_)
              · exact absurd c88 (by decide)
              · have ek : k_fraction sg x y z = 1 := (by have hu_x := un_b x; have hu_y := un_b y; have hu_z := un_b z; unfold k_fraction; (repeat' split) <;> first | rfl | (exfalso; simp only [i_lt, i_le, i_eq, it0, itm, ifp, nI_toInt (show 0 < 2147483648 by first | decide | omega), nI_toInt (show 1 < 2147483648 by first | decide | omega), nI_toInt (show 2 < 2147483648 by first | decide | omega), nI_toInt (show 1000000 < 2147483648 by first | decide | omega)] at * <;> omega))
                exact e_v dX11_fraction_91 rfl (g_fr.rf.up (by simp)) (Or.inl ⟨by rw [ek]; decide, by rw [ek]; exact g_eq, g_fr.rf.up (by simp)⟩) (by decide) (by decide)
        · refine g_iload_n dX11_fraction_22 rfl rfl ?_
          refine g_if_ne (tgt := 34) dX11_fraction_23 (by decide) (fun c23 => ?_) (fun c23 => ?_)
          · refine g_iload_n dX11_fraction_34 rfl rfl ?_
            refine g_iload_n dX11_fraction_35 rfl rfl ?_
            refine g_icmp_le (tgt := 43) dX11_fraction_36 (by decide) (fun c36 => ?_) (fun c36 => ?_)
            · refine g_iconst (v := nI 0) dX11_fraction_43 (by decide) ?_
              refine g_istore (ls' := [(4, .int (nI 0)), (0, .ref 142), (1, .int x), (2, .int y), (3, .int z)]) dX11_fraction_44 (by decide) rfl ?_
              refine g_aload_n dX11_fraction_46 rfl rfl ?_
              refine g_iload_n dX11_fraction_47 rfl rfl ?_
              refine g_if_lt (tgt := 56) dX11_fraction_48 (by decide) (fun c48 => ?_) (fun c48 => ?_)
              · refine g_iconst (v := nI 1) dX11_fraction_56 (by decide) ?_
                refine g_goto (tgt := 81) dX11_fraction_57 (by decide) ?_
                refine g_put (fs' := [.int (nI 1), .ref 143, .int (nI (s 4)), .int (nI (s 7)), .int (nI (s 8)), .ref 144, .int (nI (s 5)), .int (nI (s 6)), .ref 145, .int (nI (s 9)), .int (nI (s 10)), .int (nI (s 11)), .int (nI (s 12)), .ref 146, .int (nI k), .ref 147, .int (nI m), .int (nI sg), .int (nI cm), .int (nI sd), .ref 148, .ref 149, .ref 150, .ref 151, .int (nI mm), .ref 152, .ref 153, .ref 154, .int (nI dr), .int (nI dd), .int (nI bk), .int wt, .ref 155, .int (nI rt), .ref 156, .ref 157, .ref 158, .ref 159, .ref 160, .ref 161, .ref 162, .ref 163, .ref 164, .ref 165, .ref 166]) dX11_fraction_81 fX11_1 m0 (Nat.le_of_ble_eq_true rfl) rfl rfl rfl ?_
                refine g_aload_n dX11_fraction_84 rfl rfl ?_
                refine g_getf (v := .int (nI 1)) dX11_fraction_85 fX11_1 g_eq rfl ?_
                refine g_if_leN (tgt := 92) dX11_fraction_88 (by decide) (by decide) (fun c88 => ?_) (fun c88 => ?_)
                · exact absurd c88 (by decide)
                · have ek : k_fraction sg x y z = 1 := (by have hu_x := un_b x; have hu_y := un_b y; have hu_z := un_b z; unfold k_fraction; (repeat' split) <;> first | rfl | (exfalso; simp only [i_lt, i_le, i_eq, it0, itm, ifp, nI_toInt (show 0 < 2147483648 by first | decide | omega), nI_toInt (show 1 < 2147483648 by first | decide | omega), nI_toInt (show 2 < 2147483648 by first | decide | omega), nI_toInt (show 1000000 < 2147483648 by first | decide | omega)] at * <;> omega))
                  exact e_v dX11_fraction_91 rfl (g_fr.rf.up (by simp)) (Or.inl ⟨by rw [ek]; decide, by rw [ek]; exact g_eq, g_fr.rf.up (by simp)⟩) (by decide) (by decide)
              · refine g_iload_n dX11_fraction_51 rfl rfl ?_
                refine g_iconst (v := nI 1) dX11_fraction_52 (by decide) ?_
                refine g_icmp_le (tgt := 60) dX11_fraction_53 (by decide) (fun c53 => ?_) (fun c53 => ?_)
                · refine g_iload dX11_fraction_60 rfl ?_
                  refine g_if_neN (tgt := 69) dX11_fraction_62 (by decide) (by decide) (fun c62 => ?_) (fun c62 => ?_)
                  · exact absurd c62 (by decide)
                  · refine g_iconst (v := nI 2) dX11_fraction_65 (by decide) ?_
                    refine g_goto (tgt := 81) dX11_fraction_66 (by decide) ?_
                    refine g_put (fs' := [.int (nI 2), .ref 143, .int (nI (s 4)), .int (nI (s 7)), .int (nI (s 8)), .ref 144, .int (nI (s 5)), .int (nI (s 6)), .ref 145, .int (nI (s 9)), .int (nI (s 10)), .int (nI (s 11)), .int (nI (s 12)), .ref 146, .int (nI k), .ref 147, .int (nI m), .int (nI sg), .int (nI cm), .int (nI sd), .ref 148, .ref 149, .ref 150, .ref 151, .int (nI mm), .ref 152, .ref 153, .ref 154, .int (nI dr), .int (nI dd), .int (nI bk), .int wt, .ref 155, .int (nI rt), .ref 156, .ref 157, .ref 158, .ref 159, .ref 160, .ref 161, .ref 162, .ref 163, .ref 164, .ref 165, .ref 166]) dX11_fraction_81 fX11_1 m0 (Nat.le_of_ble_eq_true rfl) rfl rfl rfl ?_
                    refine g_aload_n dX11_fraction_84 rfl rfl ?_
                    refine g_getf (v := .int (nI 2)) dX11_fraction_85 fX11_1 g_eq rfl ?_
                    refine g_if_leN (tgt := 92) dX11_fraction_88 (by decide) (by decide) (fun c88 => ?_) (fun c88 => ?_)
                    · exact absurd c88 (by decide)
                    · have ek : k_fraction sg x y z = 2 := (by have hu_x := un_b x; have hu_y := un_b y; have hu_z := un_b z; unfold k_fraction; (repeat' split) <;> first | rfl | (exfalso; simp only [i_lt, i_le, i_eq, it0, itm, ifp, nI_toInt (show 0 < 2147483648 by first | decide | omega), nI_toInt (show 1 < 2147483648 by first | decide | omega), nI_toInt (show 2 < 2147483648 by first | decide | omega), nI_toInt (show 1000000 < 2147483648 by first | decide | omega)] at * <;> omega))
                      exact e_v dX11_fraction_91 rfl (g_fr.rf.up (by simp)) (Or.inl ⟨by rw [ek]; decide, by rw [ek]; exact g_eq, g_fr.rf.up (by simp)⟩) (by decide) (by decide)
                · refine g_iconst (v := nI 1) dX11_fraction_56 (by decide) ?_
                  refine g_goto (tgt := 81) dX11_fraction_57 (by decide) ?_
                  refine g_put (fs' := [.int (nI 1), .ref 143, .int (nI (s 4)), .int (nI (s 7)), .int (nI (s 8)), .ref 144, .int (nI (s 5)), .int (nI (s 6)), .ref 145, .int (nI (s 9)), .int (nI (s 10)), .int (nI (s 11)), .int (nI (s 12)), .ref 146, .int (nI k), .ref 147, .int (nI m), .int (nI sg), .int (nI cm), .int (nI sd), .ref 148, .ref 149, .ref 150, .ref 151, .int (nI mm), .ref 152, .ref 153, .ref 154, .int (nI dr), .int (nI dd), .int (nI bk), .int wt, .ref 155, .int (nI rt), .ref 156, .ref 157, .ref 158, .ref 159, .ref 160, .ref 161, .ref 162, .ref 163, .ref 164, .ref 165, .ref 166]) dX11_fraction_81 fX11_1 m0 (Nat.le_of_ble_eq_true rfl) rfl rfl rfl ?_
                  refine g_aload_n dX11_fraction_84 rfl rfl ?_
                  refine g_getf (v := .int (nI 1)) dX11_fraction_85 fX11_1 g_eq rfl ?_
                  refine g_if_leN (tgt := 92) dX11_fraction_88 (by decide) (by decide) (fun c88 => ?_) (fun c88 => ?_)
                  · exact absurd c88 (by decide)
                  · have ek : k_fraction sg x y z = 1 := (by have hu_x := un_b x; have hu_y := un_b y; have hu_z := un_b z; unfold k_fraction; (repeat' split) <;> first | rfl | (exfalso; simp only [i_lt, i_le, i_eq, it0, itm, ifp, nI_toInt (show 0 < 2147483648 by first | decide | omega), nI_toInt (show 1 < 2147483648 by first | decide | omega), nI_toInt (show 2 < 2147483648 by first | decide | omega), nI_toInt (show 1000000 < 2147483648 by first | decide | omega)] at * <;> omega))
                    exact e_v dX11_fraction_91 rfl (g_fr.rf.up (by simp)) (Or.inl ⟨by rw [ek]; decide, by rw [ek]; exact g_eq, g_fr.rf.up (by simp)⟩) (by decide) (by decide)
            · refine g_iconst (v := nI 1) dX11_fraction_39 (by decide) ?_
              refine g_goto (tgt := 44) dX11_fraction_40 (by decide) ?_
              refine g_istore (ls' := [(4, .int (nI 1)), (0, .ref 142), (1, .int x), (2, .int y), (3, .int z)]) dX11_fraction_44 (by decide) rfl ?_
              refine g_aload_n dX11_fraction_46 rfl rfl ?_
              refine g_iload_n dX11_fraction_47 rfl rfl ?_
              refine g_if_lt (tgt := 56) dX11_fraction_48 (by decide) (fun c48 => ?_) (fun c48 => ?_)
              · refine g_iconst (v := nI 1) dX11_fraction_56 (by decide) ?_
                refine g_goto (tgt := 81) dX11_fraction_57 (by decide) ?_
                refine g_put (fs' := [.int (nI 1), .ref 143, .int (nI (s 4)), .int (nI (s 7)), .int (nI (s 8)), .ref 144, .int (nI (s 5)), .int (nI (s 6)), .ref 145, .int (nI (s 9)), .int (nI (s 10)), .int (nI (s 11)), .int (nI (s 12)), .ref 146, .int (nI k), .ref 147, .int (nI m), .int (nI sg), .int (nI cm), .int (nI sd), .ref 148, .ref 149, .ref 150, .ref 151, .int (nI mm), .ref 152, .ref 153, .ref 154, .int (nI dr), .int (nI dd), .int (nI bk), .int wt, .ref 155, .int (nI rt), .ref 156, .ref 157, .ref 158, .ref 159, .ref 160, .ref 161, .ref 162, .ref 163, .ref 164, .ref 165, .ref 166]) dX11_fraction_81 fX11_1 m0 (Nat.le_of_ble_eq_true rfl) rfl rfl rfl ?_
                refine g_aload_n dX11_fraction_84 rfl rfl ?_
                refine g_getf (v := .int (nI 1)) dX11_fraction_85 fX11_1 g_eq rfl ?_
                refine g_if_leN (tgt := 92) dX11_fraction_88 (by decide) (by decide) (fun c88 => ?_) (fun c88 => ?_)
                · exact absurd c88 (by decide)
                · have ek : k_fraction sg x y z = 1 := (by have hu_x := un_b x; have hu_y := un_b y; have hu_z := un_b z; unfold k_fraction; (repeat' split) <;> first | rfl | (exfalso; simp only [i_lt, i_le, i_eq, it0, itm, ifp, nI_toInt (show 0 < 2147483648 by first | decide | omega), nI_toInt (show 1 < 2147483648 by first | decide | omega), nI_toInt (show 2 < 2147483648 by first | decide | omega), nI_toInt (show 1000000 < 2147483648 by first | decide | omega)] at * <;> omega))
                  exact e_v dX11_fraction_91 rfl (g_fr.rf.up (by simp)) (Or.inl ⟨by rw [ek]; decide, by rw [ek]; exact g_eq, g_fr.rf.up (by simp)⟩) (by decide) (by decide)
              · refine g_iload_n dX11_fraction_51 rfl rfl ?_
                refine g_iconst (v := nI 1) dX11_fraction_52 (by decide) ?_
                refine g_icmp_le (tgt := 60) dX11_fraction_53 (by decide) (fun c53 => ?_) (fun c53 => ?_)
                · refine g_iload dX11_fraction_60 rfl ?_
                  refine g_if_neN (tgt := 69) dX11_fraction_62 (by decide) (by decide) (fun c62 => ?_) (fun c62 => ?_)
                  · refine g_aload_n dX11_fraction_69 rfl rfl ?_
                    refine g_getf (v := .int (nI sg)) dX11_fraction_70 fX11_231 m0 rfl ?_
                    refine g_if_eqN (tgt := 80) dX11_fraction_73 (by decide) (by omega) (fun c73 => ?_) (fun c73 => ?_)
                    · refine g_iconst (v := nI 0) dX11_fraction_80 (by decide) ?_
                      refine g_put (fs' := [.int (nI 0), .ref 143, .int (nI (s 4)), .int (nI (s 7)), .int (nI (s 8)), .ref 144, .int (nI (s 5)), .int (nI (s 6)), .ref 145, .int (nI (s 9)), .int (nI (s 10)), .int (nI (s 11)), .int (nI (s 12)), .ref 146, .int (nI k), .ref 147, .int (nI m), .int (nI sg), .int (nI cm), .int (nI sd), .ref 148, .ref 149, .ref 150, .ref 151, .int (nI mm), .ref 152, .ref 153, .ref 154, .int (nI dr), .int (nI dd), .int (nI bk), .int wt, .ref 155, .int (nI rt), .ref 156, .ref 157, .ref 158, .ref 159, .ref 160, .ref 161, .ref 162, .ref 163, .ref 164, .ref 165, .ref 166]) dX11_fraction_81 fX11_1 m0 (Nat.le_of_ble_eq_true rfl) rfl rfl rfl ?_
                      refine g_aload_n dX11_fraction_84 rfl rfl ?_
                      refine g_getf (v := .int (nI 0)) dX11_fraction_85 fX11_1 g_eq rfl ?_
                      refine g_if_leN (tgt := 92) dX11_fraction_88 (by decide) (by decide) (fun c88 => ?_) (fun c88 => ?_)
                      · obtain ⟨j, hj1, rfl⟩ := nat0 c48
                        obtain ⟨a, ha1, rfl⟩ := nat0 (x := y) (fun z => c2 (Int32.lt_trans z (by decide)))
                        obtain ⟨b, hb1, rfl⟩ := nat0 (x := z) (fun z => c13 (Int32.lt_trans z (by decide)))
                        have hju := un_nI (show j < 4294967296 by omega)
                        have hau := un_nI (show a < 4294967296 by omega)
                        have hbu := un_nI (show b < 4294967296 by omega)
                        refine g_iload_n dX11_fraction_92 rfl rfl ?_
                        refine g_if_neN (tgt := 109) dX11_fraction_93 (by decide) (by omega) (fun c93 => ?_) (fun c93 => ?_)
                        · refine g_aload_n dX11_fraction_109 rfl rfl ?_
                          refine g_iload_n dX11_fraction_110 rfl rfl ?_
                          refine g_put (fs' := [.int (nI 0), .ref 143, .int (nI (s 4)), .int (nI (s 7)), .int (nI (s 8)), .ref 144, .int (nI (s 5)), .int (nI (s 6)), .ref 145, .int (nI (s 9)), .int (nI (s 10)), .int (nI a), .int (nI (s 12)), .ref 146, .int (nI k), .ref 147, .int (nI m), .int (nI sg), .int (nI cm), .int (nI sd), .ref 148, .ref 149, .ref 150, .ref 151, .int (nI mm), .ref 152, .ref 153, .ref 154, .int (nI dr), .int (nI dd), .int (nI bk), .int wt, .ref 155, .int (nI rt), .ref 156, .ref 157, .ref 158, .ref 159, .ref 160, .ref 161, .ref 162, .ref 163, .ref 164, .ref 165, .ref 166]) dX11_fraction_111 fX11_36 g_eq (Nat.le_of_ble_eq_true rfl) rfl rfl rfl ?_
                          refine g_aload_n dX11_fraction_114 rfl rfl ?_
                          refine g_iload_n dX11_fraction_115 rfl rfl ?_
                          refine g_put (fs' := [.int (nI 0), .ref 143, .int (nI (s 4)), .int (nI (s 7)), .int (nI (s 8)), .ref 144, .int (nI (s 5)), .int (nI (s 6)), .ref 145, .int (nI (s 9)), .int (nI (s 10)), .int (nI a), .int (nI b), .ref 146, .int (nI k), .ref 147, .int (nI m), .int (nI sg), .int (nI cm), .int (nI sd), .ref 148, .ref 149, .ref 150, .ref 151, .int (nI mm), .ref 152, .ref 153, .ref 154, .int (nI dr), .int (nI dd), .int (nI bk), .int wt, .ref 155, .int (nI rt), .ref 156, .ref 157, .ref 158, .ref 159, .ref 160, .ref 161, .ref 162, .ref 163, .ref 164, .ref 165, .ref 166]) dX11_fraction_116 fX11_39 g_eq (Nat.le_of_ble_eq_true rfl) rfl rfl rfl ?_
                          have ek : k_fraction sg (nI j) (nI a) (nI b) = 0 := (by have hu__nI_j_ := un_b (nI j); have hu__nI_a_ := un_b (nI a); have hu__nI_b_ := un_b (nI b); unfold k_fraction; (repeat' split) <;> first | rfl | (exfalso; simp only [i_lt, i_le, i_eq, it0, itm, ifp, nI_toInt (show 0 < 2147483648 by first | decide | omega), nI_toInt (show 1 < 2147483648 by first | decide | omega), nI_toInt (show 2 < 2147483648 by first | decide | omega), nI_toInt (show 1000000 < 2147483648 by first | decide | omega), nI_toInt (show j < 2147483648 by first | decide | omega), nI_toInt (show a < 2147483648 by first | decide | omega), nI_toInt (show b < 2147483648 by first | decide | omega)] at * <;> omega))
                          exact e_v dX11_fraction_119 rfl (((g_fr.rf.up (by simp)).up (by simp)).up (by simp)) (Or.inr ⟨ek, by rw [ek, hju, hau, hbu, if_neg c93]; exact g_eq⟩) (by decide) (by decide)
                        · refine g_aload_n dX11_fraction_96 rfl rfl ?_
                          refine g_iload_n dX11_fraction_97 rfl rfl ?_
                          refine g_put (fs' := [.int (nI 0), .ref 143, .int (nI (s 4)), .int (nI (s 7)), .int (nI (s 8)), .ref 144, .int (nI (s 5)), .int (nI (s 6)), .ref 145, .int (nI a), .int (nI (s 10)), .int (nI (s 11)), .int (nI (s 12)), .ref 146, .int (nI k), .ref 147, .int (nI m), .int (nI sg), .int (nI cm), .int (nI sd), .ref 148, .ref 149, .ref 150, .ref 151, .int (nI mm), .ref 152, .ref 153, .ref 154, .int (nI dr), .int (nI dd), .int (nI bk), .int wt, .ref 155, .int (nI rt), .ref 156, .ref 157, .ref 158, .ref 159, .ref 160, .ref 161, .ref 162, .ref 163, .ref 164, .ref 165, .ref 166]) dX11_fraction_98 fX11_30 g_eq (Nat.le_of_ble_eq_true rfl) rfl rfl rfl ?_
                          refine g_aload_n dX11_fraction_101 rfl rfl ?_
                          refine g_iload_n dX11_fraction_102 rfl rfl ?_
                          refine g_put (fs' := [.int (nI 0), .ref 143, .int (nI (s 4)), .int (nI (s 7)), .int (nI (s 8)), .ref 144, .int (nI (s 5)), .int (nI (s 6)), .ref 145, .int (nI a), .int (nI b), .int (nI (s 11)), .int (nI (s 12)), .ref 146, .int (nI k), .ref 147, .int (nI m), .int (nI sg), .int (nI cm), .int (nI sd), .ref 148, .ref 149, .ref 150, .ref 151, .int (nI mm), .ref 152, .ref 153, .ref 154, .int (nI dr), .int (nI dd), .int (nI bk), .int wt, .ref 155, .int (nI rt), .ref 156, .ref 157, .ref 158, .ref 159, .ref 160, .ref 161, .ref 162, .ref 163, .ref 164, .ref 165, .ref 166]) dX11_fraction_103 fX11_33 g_eq (Nat.le_of_ble_eq_true rfl) rfl rfl rfl ?_
                          refine g_goto (tgt := 119) dX11_fraction_106 (by decide) ?_
                          have ek : k_fraction sg (nI j) (nI a) (nI b) = 0 := (by have hu__nI_j_ := un_b (nI j); have hu__nI_a_ := un_b (nI a); have hu__nI_b_ := un_b (nI b); unfold k_fraction; (repeat' split) <;> first | rfl | (exfalso; simp only [i_lt, i_le, i_eq, it0, itm, ifp, nI_toInt (show 0 < 2147483648 by first | decide | omega), nI_toInt (show 1 < 2147483648 by first | decide | omega), nI_toInt (show 2 < 2147483648 by first | decide | omega), nI_toInt (show 1000000 < 2147483648 by first | decide | omega), nI_toInt (show j < 2147483648 by first | decide | omega), nI_toInt (show a < 2147483648 by first | decide | omega), nI_toInt (show b < 2147483648 by first | decide | omega)] at * <;> omega))
                          exact e_v dX11_fraction_119 rfl (((g_fr.rf.up (by simp)).up (by simp)).up (by simp)) (Or.inr ⟨ek, by rw [ek, hju, hau, hbu, if_pos c93]; exact g_eq⟩) (by decide) (by decide)
                      · exact absurd c88 (by decide)
                    · refine g_iconst (v := nI 3) dX11_fraction_76 (by decide) ?_
                      refine g_goto (tgt := 81) dX11_fraction_77 (by decide) ?_
                      refine g_put (fs' := [.int (nI 3), .ref 143, .int (nI (s 4)), .int (nI (s 7)), .int (nI (s 8)), .ref 144, .int (nI (s 5)), .int (nI (s 6)), .ref 145, .int (nI (s 9)), .int (nI (s 10)), .int (nI (s 11)), .int (nI (s 12)), .ref 146, .int (nI k), .ref 147, .int (nI m), .int (nI sg), .int (nI cm), .int (nI sd), .ref 148, .ref 149, .ref 150, .ref 151, .int (nI mm), .ref 152, .ref 153, .ref 154, .int (nI dr), .int (nI dd), .int (nI bk), .int wt, .ref 155, .int (nI rt), .ref 156, .ref 157, .ref 158, .ref 159, .ref 160, .ref 161, .ref 162, .ref 163, .ref 164, .ref 165, .ref 166]) dX11_fraction_81 fX11_1 m0 (Nat.le_of_ble_eq_true rfl) rfl rfl rfl ?_
                      refine g_aload_n dX11_fraction_84 rfl rfl ?_
                      refine g_getf (v := .int (nI 3)) dX11_fraction_85 fX11_1 g_eq rfl ?_
                      refine g_if_leN (tgt := 92) dX11_fraction_88 (by decide) (by decide) (fun c88 => ?_) (fun c88 => ?_)
                      · exact absurd c88 (by decide)
                      · have ek : k_fraction sg x y z = 3 := (by have hu_x := un_b x; have hu_y := un_b y; have hu_z := un_b z; unfold k_fraction; (repeat' split) <;> first | rfl | (exfalso; simp only [i_lt, i_le, i_eq, it0, itm, ifp, nI_toInt (show 0 < 2147483648 by first | decide | omega), nI_toInt (show 1 < 2147483648 by first | decide | omega), nI_toInt (show 2 < 2147483648 by first | decide | omega), nI_toInt (show 1000000 < 2147483648 by first | decide | omega)] at * <;> omega))
                        exact e_v dX11_fraction_91 rfl (g_fr.rf.up (by simp)) (Or.inl ⟨by rw [ek]; decide, by rw [ek]; exact g_eq, g_fr.rf.up (by simp)⟩) (by decide) (by decide)
                  · exact absurd c62 (by decide)
                · refine g_iconst (v := nI 1) dX11_fraction_56 (by decide) ?_
                  refine g_goto (tgt := 81) dX11_fraction_57 (by decide) ?_
                  refine g_put (fs' := [.int (nI 1), .ref 143, .int (nI (s 4)), .int (nI (s 7)), .int (nI (s 8)), .ref 144, .int (nI (s 5)), .int (nI (s 6)), .ref 145, .int (nI (s 9)), .int (nI (s 10)), .int (nI (s 11)), .int (nI (s 12)), .ref 146, .int (nI k), .ref 147, .int (nI m), .int (nI sg), .int (nI cm), .int (nI sd), .ref 148, .ref 149, .ref 150, .ref 151, .int (nI mm), .ref 152, .ref 153, .ref 154, .int (nI dr), .int (nI dd), .int (nI bk), .int wt, .ref 155, .int (nI rt), .ref 156, .ref 157, .ref 158, .ref 159, .ref 160, .ref 161, .ref 162, .ref 163, .ref 164, .ref 165, .ref 166]) dX11_fraction_81 fX11_1 m0 (Nat.le_of_ble_eq_true rfl) rfl rfl rfl ?_
                  refine g_aload_n dX11_fraction_84 rfl rfl ?_
                  refine g_getf (v := .int (nI 1)) dX11_fraction_85 fX11_1 g_eq rfl ?_
                  refine g_if_leN (tgt := 92) dX11_fraction_88 (by decide) (by decide) (fun c88 => ?_) (fun c88 => ?_)
                  · exact absurd c88 (by decide)
                  · have ek : k_fraction sg x y z = 1 := (by have hu_x := un_b x; have hu_y := un_b y; have hu_z := un_b z; unfold k_fraction; (repeat' split) <;> first | rfl | (exfalso; simp only [i_lt, i_le, i_eq, it0, itm, ifp, nI_toInt (show 0 < 2147483648 by first | decide | omega), nI_toInt (show 1 < 2147483648 by first | decide | omega), nI_toInt (show 2 < 2147483648 by first | decide | omega), nI_toInt (show 1000000 < 2147483648 by first | decide | omega)] at * <;> omega))
                    exact e_v dX11_fraction_91 rfl (g_fr.rf.up (by simp)) (Or.inl ⟨by rw [ek]; decide, by rw [ek]; exact g_eq, g_fr.rf.up (by simp)⟩) (by decide) (by decide)
          · refine g_iload_n dX11_fraction_26 rfl rfl ?_
            refine g_iload_n dX11_fraction_27 rfl rfl ?_
            refine g_icmp_ge (tgt := 43) dX11_fraction_28 (by decide) (fun c28 => ?_) (fun c28 => ?_)
            · refine g_iconst (v := nI 0) dX11_fraction_43 (by decide) ?_
              refine g_istore (ls' := [(4, .int (nI 0)), (0, .ref 142), (1, .int x), (2, .int y), (3, .int z)]) dX11_fraction_44 (by decide) rfl ?_
              refine g_aload_n dX11_fraction_46 rfl rfl ?_
              refine g_iload_n dX11_fraction_47 rfl rfl ?_
              refine g_if_lt (tgt := 56) dX11_fraction_48 (by decide) (fun c48 => ?_) (fun c48 => ?_)
              · refine g_iconst (v := nI 1) dX11_fraction_56 (by decide) ?_
                refine g_goto (tgt := 81) dX11_fraction_57 (by decide) ?_
                refine g_put (fs' := [.int (nI 1), .ref 143, .int (nI (s 4)), .int (nI (s 7)), .int (nI (s 8)), .ref 144, .int (nI (s 5)), .int (nI (s 6)), .ref 145, .int (nI (s 9)), .int (nI (s 10)), .int (nI (s 11)), .int (nI (s 12)), .ref 146, .int (nI k), .ref 147, .int (nI m), .int (nI sg), .int (nI cm), .int (nI sd), .ref 148, .ref 149, .ref 150, .ref 151, .int (nI mm), .ref 152, .ref 153, .ref 154, .int (nI dr), .int (nI dd), .int (nI bk), .int wt, .ref 155, .int (nI rt), .ref 156, .ref 157, .ref 158, .ref 159, .ref 160, .ref 161, .ref 162, .ref 163, .ref 164, .ref 165, .ref 166]) dX11_fraction_81 fX11_1 m0 (Nat.le_of_ble_eq_true rfl) rfl rfl rfl ?_
                refine g_aload_n dX11_fraction_84 rfl rfl ?_
                refine g_getf (v := .int (nI 1)) dX11_fraction_85 fX11_1 g_eq rfl ?_
                refine g_if_leN (tgt := 92) dX11_fraction_88 (by decide) (by decide) (fun c88 => ?_) (fun c88 => ?_)
                · exact absurd c88 (by decide)
                · have ek : k_fraction sg x y z = 1 := (by have hu_x := un_b x; have hu_y := un_b y; have hu_z := un_b z; unfold k_fraction; (repeat' split) <;> first | rfl | (exfalso; simp only [i_lt, i_le, i_eq, it0, itm, ifp, nI_toInt (show 0 < 2147483648 by first | decide | omega), nI_toInt (show 1 < 2147483648 by first | decide | omega), nI_toInt (show 2 < 2147483648 by first | decide | omega), nI_toInt (show 1000000 < 2147483648 by first | decide | omega)] at * <;> omega))
                  exact e_v dX11_fraction_91 rfl (g_fr.rf.up (by simp)) (Or.inl ⟨by rw [ek]; decide, by rw [ek]; exact g_eq, g_fr.rf.up (by simp)⟩) (by decide) (by decide)
              · refine g_iload_n dX11_fraction_51 rfl rfl ?_
                refine g_iconst (v := nI 1) dX11_fraction_52 (by decide) ?_
                refine g_icmp_le (tgt := 60) dX11_fraction_53 (by decide) (fun c53 => ?_) (fun c53 => ?_)
                · refine g_iload dX11_fraction_60 rfl ?_
                  refine g_if_neN (tgt := 69) dX11_fraction_62 (by decide) (by decide) (fun c62 => ?_) (fun c62 => ?_)
                  · exact absurd c62 (by decide)
                  · refine g_iconst (v := nI 2) dX11_fraction_65 (by decide) ?_
                    refine g_goto (tgt := 81) dX11_fraction_66 (by decide) ?_
                    refine g_put (fs' := [.int (nI 2), .ref 143, .int (nI (s 4)), .int (nI (s 7)), .int (nI (s 8)), .ref 144, .int (nI (s 5)), .int (nI (s 6)), .ref 145, .int (nI (s 9)), .int (nI (s 10)), .int (nI (s 11)), .int (nI (s 12)), .ref 146, .int (nI k), .ref 147, .int (nI m), .int (nI sg), .int (nI cm), .int (nI sd), .ref 148, .ref 149, .ref 150, .ref 151, .int (nI mm), .ref 152, .ref 153, .ref 154, .int (nI dr), .int (nI dd), .int (nI bk), .int wt, .ref 155, .int (nI rt), .ref 156, .ref 157, .ref 158, .ref 159, .ref 160, .ref 161, .ref 162, .ref 163, .ref 164, .ref 165, .ref 166]) dX11_fraction_81 fX11_1 m0 (Nat.le_of_ble_eq_true rfl) rfl rfl rfl ?_
                    refine g_aload_n dX11_fraction_84 rfl rfl ?_
                    refine g_getf (v := .int (nI 2)) dX11_fraction_85 fX11_1 g_eq rfl ?_
                    refine g_if_leN (tgt := 92) dX11_fraction_88 (by decide) (by decide) (fun c88 => ?_) (fun c88 => ?_)
                    · exact absurd c88 (by decide)
                    · have ek : k_fraction sg x y z = 2 := (by have hu_x := un_b x; have hu_y := un_b y; have hu_z := un_b z; unfold k_fraction; (repeat' split) <;> first | rfl | (exfalso; simp only [i_lt, i_le, i_eq, it0, itm, ifp, nI_toInt (show 0 < 2147483648 by first | decide | omega), nI_toInt (show 1 < 2147483648 by first | decide | omega), nI_toInt (show 2 < 2147483648 by first | decide | omega), nI_toInt (show 1000000 < 2147483648 by first | decide | omega)] at * <;> omega))
                      exact e_v dX11_fraction_91 rfl (g_fr.rf.up (by simp)) (Or.inl ⟨by rw [ek]; decide, by rw [ek]; exact g_eq, g_fr.rf.up (by simp)⟩) (by decide) (by decide)
                · refine g_iconst (v := nI 1) dX11_fraction_56 (by decide) ?_
                  refine g_goto (tgt := 81) dX11_fraction_57 (by decide) ?_
                  refine g_put (fs' := [.int (nI 1), .ref 143, .int (nI (s 4)), .int (nI (s 7)), .int (nI (s 8)), .ref 144, .int (nI (s 5)), .int (nI (s 6)), .ref 145, .int (nI (s 9)), .int (nI (s 10)), .int (nI (s 11)), .int (nI (s 12)), .ref 146, .int (nI k), .ref 147, .int (nI m), .int (nI sg), .int (nI cm), .int (nI sd), .ref 148, .ref 149, .ref 150, .ref 151, .int (nI mm), .ref 152, .ref 153, .ref 154, .int (nI dr), .int (nI dd), .int (nI bk), .int wt, .ref 155, .int (nI rt), .ref 156, .ref 157, .ref 158, .ref 159, .ref 160, .ref 161, .ref 162, .ref 163, .ref 164, .ref 165, .ref 166]) dX11_fraction_81 fX11_1 m0 (Nat.le_of_ble_eq_true rfl) rfl rfl rfl ?_
                  refine g_aload_n dX11_fraction_84 rfl rfl ?_
                  refine g_getf (v := .int (nI 1)) dX11_fraction_85 fX11_1 g_eq rfl ?_
                  refine g_if_leN (tgt := 92) dX11_fraction_88 (by decide) (by decide) (fun c88 => ?_) (fun c88 => ?_)
                  · exact absurd c88 (by decide)
                  · have ek : k_fraction sg x y z = 1 := (by have hu_x := un_b x; have hu_y := un_b y; have hu_z := un_b z; unfold k_fraction; (repeat' split) <;> first | rfl | (exfalso; simp only [i_lt, i_le, i_eq, it0, itm, ifp, nI_toInt (show 0 < 2147483648 by first | decide | omega), nI_toInt (show 1 < 2147483648 by first | decide | omega), nI_toInt (show 2 < 2147483648 by first | decide | omega), nI_toInt (show 1000000 < 2147483648 by first | decide | omega)] at * <;> omega))
                    exact e_v dX11_fraction_91 rfl (g_fr.rf.up (by simp)) (Or.inl ⟨by rw [ek]; decide, by rw [ek]; exact g_eq, g_fr.rf.up (by simp)⟩) (by decide) (by decide)
            · refine g_goto (tgt := 39) dX11_fraction_31 (by decide) ?_
              refine g_iconst (v := nI 1) dX11_fraction_39 (by decide) ?_
              refine g_goto (tgt := 44) dX11_fraction_40 (by decide) ?_
              refine g_istore (ls' := [(4, .int (nI 1)), (0, .ref 142), (1, .int x), (2, .int y), (3, .int z)]) dX11_fraction_44 (by decide) rfl ?_
              refine g_aload_n dX11_fraction_46 rfl rfl ?_
              refine g_iload_n dX11_fraction_47 rfl rfl ?_
              refine g_if_lt (tgt := 56) dX11_fraction_48 (by decide) (fun c48 => ?_) (fun c48 => ?_)
              · refine g_iconst (v := nI 1) dX11_fraction_56 (by decide) ?_
                refine g_goto (tgt := 81) dX11_fraction_57 (by decide) ?_
                refine g_put (fs' := [.int (nI 1), .ref 143, .int (nI (s 4)), .int (nI (s 7)), .int (nI (s 8)), .ref 144, .int (nI (s 5)), .int (nI (s 6)), .ref 145, .int (nI (s 9)), .int (nI (s 10)), .int (nI (s 11)), .int (nI (s 12)), .ref 146, .int (nI k), .ref 147, .int (nI m), .int (nI sg), .int (nI cm), .int (nI sd), .ref 148, .ref 149, .ref 150, .ref 151, .int (nI mm), .ref 152, .ref 153, .ref 154, .int (nI dr), .int (nI dd), .int (nI bk), .int wt, .ref 155, .int (nI rt), .ref 156, .ref 157, .ref 158, .ref 159, .ref 160, .ref 161, .ref 162, .ref 163, .ref 164, .ref 165, .ref 166]) dX11_fraction_81 fX11_1 m0 (Nat.le_of_ble_eq_true rfl) rfl rfl rfl ?_
                refine g_aload_n dX11_fraction_84 rfl rfl ?_
                refine g_getf (v := .int (nI 1)) dX11_fraction_85 fX11_1 g_eq rfl ?_
                refine g_if_leN (tgt := 92) dX11_fraction_88 (by decide) (by decide) (fun c88 => ?_) (fun c88 => ?_)
                · exact absurd c88 (by decide)
                · have ek : k_fraction sg x y z = 1 := (by have hu_x := un_b x; have hu_y := un_b y; have hu_z := un_b z; unfold k_fraction; (repeat' split) <;> first | rfl | (exfalso; simp only [i_lt, i_le, i_eq, it0, itm, ifp, nI_toInt (show 0 < 2147483648 by first | decide | omega), nI_toInt (show 1 < 2147483648 by first | decide | omega), nI_toInt (show 2 < 2147483648 by first | decide | omega), nI_toInt (show 1000000 < 2147483648 by first | decide | omega)] at * <;> omega))
                  exact e_v dX11_fraction_91 rfl (g_fr.rf.up (by simp)) (Or.inl ⟨by rw [ek]; decide, by rw [ek]; exact g_eq, g_fr.rf.up (by simp)⟩) (by decide) (by decide)
              · refine g_iload_n dX11_fraction_51 rfl rfl ?_
                refine g_iconst (v := nI 1) dX11_fraction_52 (by decide) ?_
                refine g_icmp_le (tgt := 60) dX11_fraction_53 (by decide) (fun c53 => ?_) (fun c53 => ?_)
                · refine g_iload dX11_fraction_60 rfl ?_
                  refine g_if_neN (tgt := 69) dX11_fraction_62 (by decide) (by decide) (fun c62 => ?_) (fun c62 => ?_)
                  · refine g_aload_n dX11_fraction_69 rfl rfl ?_
                    refine g_getf (v := .int (nI sg)) dX11_fraction_70 fX11_231 m0 rfl ?_
                    refine g_if_eqN (tgt := 80) dX11_fraction_73 (by decide) (by omega) (fun c73 => ?_) (fun c73 => ?_)
                    · refine g_iconst (v := nI 0) dX11_fraction_80 (by decide) ?_
                      refine g_put (fs' := [.int (nI 0), .ref 143, .int (nI (s 4)), .int (nI (s 7)), .int (nI (s 8)), .ref 144, .int (nI (s 5)), .int (nI (s 6)), .ref 145, .int (nI (s 9)), .int (nI (s 10)), .int (nI (s 11)), .int (nI (s 12)), .ref 146, .int (nI k), .ref 147, .int (nI m), .int (nI sg), .int (nI cm), .int (nI sd), .ref 148, .ref 149, .ref 150, .ref 151, .int (nI mm), .ref 152, .ref 153, .ref 154, .int (nI dr), .int (nI dd), .int (nI bk), .int wt, .ref 155, .int (nI rt), .ref 156, .ref 157, .ref 158, .ref 159, .ref 160, .ref 161, .ref 162, .ref 163, .ref 164, .ref 165, .ref 166]) dX11_fraction_81 fX11_1 m0 (Nat.le_of_ble_eq_true rfl) rfl rfl rfl ?_
                      refine g_aload_n dX11_fraction_84 rfl rfl ?_
                      refine g_getf (v := .int (nI 0)) dX11_fraction_85 fX11_1 g_eq rfl ?_
                      refine g_if_leN (tgt := 92) dX11_fraction_88 (by decide) (by decide) (fun c88 => ?_) (fun c88 => ?_)
                      · obtain ⟨j, hj1, rfl⟩ := nat0 c48
                        obtain ⟨a, ha1, rfl⟩ := nat0 (x := y) (fun z => c2 (Int32.lt_trans z (by decide)))
                        obtain ⟨b, hb1, rfl⟩ := nat0 (x := z) (fun z => c13 (Int32.lt_trans z (by decide)))
                        have hju := un_nI (show j < 4294967296 by omega)
                        have hau := un_nI (show a < 4294967296 by omega)
                        have hbu := un_nI (show b < 4294967296 by omega)
                        refine g_iload_n dX11_fraction_92 rfl rfl ?_
                        refine g_if_neN (tgt := 109) dX11_fraction_93 (by decide) (by omega) (fun c93 => ?_) (fun c93 => ?_)
                        · refine g_aload_n dX11_fraction_109 rfl rfl ?_
                          refine g_iload_n dX11_fraction_110 rfl rfl ?_
                          refine g_put (fs' := [.int (nI 0), .ref 143, .int (nI (s 4)), .int (nI (s 7)), .int (nI (s 8)), .ref 144, .int (nI (s 5)), .int (nI (s 6)), .ref 145, .int (nI (s 9)), .int (nI (s 10)), .int (nI a), .int (nI (s 12)), .ref 146, .int (nI k), .ref 147, .int (nI m), .int (nI sg), .int (nI cm), .int (nI sd), .ref 148, .ref 149, .ref 150, .ref 151, .int (nI mm), .ref 152, .ref 153, .ref 154, .int (nI dr), .int (nI dd), .int (nI bk), .int wt, .ref 155, .int (nI rt), .ref 156, .ref 157, .ref 158, .ref 159, .ref 160, .ref 161, .ref 162, .ref 163, .ref 164, .ref 165, .ref 166]) dX11_fraction_111 fX11_36 g_eq (Nat.le_of_ble_eq_true rfl) rfl rfl rfl ?_
                          refine g_aload_n dX11_fraction_114 rfl rfl ?_
                          refine g_iload_n dX11_fraction_115 rfl rfl ?_
                          refine g_put (fs' := [.int (nI 0), .ref 143, .int (nI (s 4)), .int (nI (s 7)), .int (nI (s 8)), .ref 144, .int (nI (s 5)), .int (nI (s 6)), .ref 145, .int (nI (s 9)), .int (nI (s 10)), .int (nI a), .int (nI b), .ref 146, .int (nI k), .ref 147, .int (nI m), .int (nI sg), .int (nI cm), .int (nI sd), .ref 148, .ref 149, .ref 150, .ref 151, .int (nI mm), .ref 152, .ref 153, .ref 154, .int (nI dr), .int (nI dd), .int (nI bk), .int wt, .ref 155, .int (nI rt), .ref 156, .ref 157, .ref 158, .ref 159, .ref 160, .ref 161, .ref 162, .ref 163, .ref 164, .ref 165, .ref 166]) dX11_fraction_116 fX11_39 g_eq (Nat.le_of_ble_eq_true rfl) rfl rfl rfl ?_
                          have ek : k_fraction sg (nI j) (nI a) (nI b) = 0 := (by have hu__nI_j_ := un_b (nI j); have hu__nI_a_ := un_b (nI a); have hu__nI_b_ := un_b (nI b); unfold k_fraction; (repeat' split) <;> first | rfl | (exfalso; simp only [i_lt, i_le, i_eq, it0, itm, ifp, nI_toInt (show 0 < 2147483648 by first | decide | omega), nI_toInt (show 1 < 2147483648 by first | decide | omega), nI_toInt (show 2 < 2147483648 by first | decide | omega), nI_toInt (show 1000000 < 2147483648 by first | decide | omega), nI_toInt (show j < 2147483648 by first | decide | omega), nI_toInt (show a < 2147483648 by first | decide | omega), nI_toInt (show b < 2147483648 by first | decide | omega)] at * <;> omega))
                          exact e_v dX11_fraction_119 rfl (((g_fr.rf.up (by simp)).up (by simp)).up (by simp)) (Or.inr ⟨ek, by rw [ek, hju, hau, hbu, if_neg c93]; exact g_eq⟩) (by decide) (by decide)
                        · refine g_aload_n dX11_fraction_96 rfl rfl ?_
                          refine g_iload_n dX11_fraction_97 rfl rfl ?_
                          refine g_put (fs' := [.int (nI 0), .ref 143, .int (nI (s 4)), .int (nI (s 7)), .int (nI (s 8)), .ref 144, .int (nI (s 5)), .int (nI (s 6)), .ref 145, .int (nI a), .int (nI (s 10)), .int (nI (s 11)), .int (nI (s 12)), .ref 146, .int (nI k), .ref 147, .int (nI m), .int (nI sg), .int (nI cm), .int (nI sd), .ref 148, .ref 149, .ref 150, .ref 151, .int (nI mm), .ref 152, .ref 153, .ref 154, .int (nI dr), .int (nI dd), .int (nI bk), .int wt, .ref 155, .int (nI rt), .ref 156, .ref 157, .ref 158, .ref 159, .ref 160, .ref 161, .ref 162, .ref 163, .ref 164, .ref 165, .ref 166]) dX11_fraction_98 fX11_30 g_eq (Nat.le_of_ble_eq_true rfl) rfl rfl rfl ?_
                          refine g_aload_n dX11_fraction_101 rfl rfl ?_
                          refine g_iload_n dX11_fraction_102 rfl rfl ?_
                          refine g_put (fs' := [.int (nI 0), .ref 143, .int (nI (s 4)), .int (nI (s 7)), .int (nI (s 8)), .ref 144, .int (nI (s 5)), .int (nI (s 6)), .ref 145, .int (nI a), .int (nI b), .int (nI (s 11)), .int (nI (s 12)), .ref 146, .int (nI k), .ref 147, .int (nI m), .int (nI sg), .int (nI cm), .int (nI sd), .ref 148, .ref 149, .ref 150, .ref 151, .int (nI mm), .ref 152, .ref 153, .ref 154, .int (nI dr), .int (nI dd), .int (nI bk), .int wt, .ref 155, .int (nI rt), .ref 156, .ref 157, .ref 158, .ref 159, .ref 160, .ref 161, .ref 162, .ref 163, .ref 164, .ref 165, .ref 166]) dX11_fraction_103 fX11_33 g_eq (Nat.le_of_ble_eq_true rfl) rfl rfl rfl ?_
                          refine g_goto (tgt := 119) dX11_fraction_106 (by decide) ?_
                          have ek : k_fraction sg (nI j) (nI a) (nI b) = 0 := (by have hu__nI_j_ := un_b (nI j); have hu__nI_a_ := un_b (nI a); have hu__nI_b_ := un_b (nI b); unfold k_fraction; (repeat' split) <;> first | rfl | (exfalso; simp only [i_lt, i_le, i_eq, it0, itm, ifp, nI_toInt (show 0 < 2147483648 by first | decide | omega), nI_toInt (show 1 < 2147483648 by first | decide | omega), nI_toInt (show 2 < 2147483648 by first | decide | omega), nI_toInt (show 1000000 < 2147483648 by first | decide | omega), nI_toInt (show j < 2147483648 by first | decide | omega), nI_toInt (show a < 2147483648 by first | decide | omega), nI_toInt (show b < 2147483648 by first | decide | omega)] at * <;> omega))
                          exact e_v dX11_fraction_119 rfl (((g_fr.rf.up (by simp)).up (by simp)).up (by simp)) (Or.inr ⟨ek, by rw [ek, hju, hau, hbu, if_pos c93]; exact g_eq⟩) (by decide) (by decide)
                      · exact absurd c88 (by decide)
                    · refine g_iconst (v := nI 3) dX11_fraction_76 (by decide) ?_
                      refine g_goto (tgt := 81) dX11_fraction_77 (by decide) ?_
                      refine g_put (fs' := [.int (nI 3), .ref 143, .int (nI (s 4)), .int (nI (s 7)), .int (nI (s 8)), .ref 144, .int (nI (s 5)), .int (nI (s 6)), .ref 145, .int (nI (s 9)), .int (nI (s 10)), .int (nI (s 11)), .int (nI (s 12)), .ref 146, .int (nI k), .ref 147, .int (nI m), .int (nI sg), .int (nI cm), .int (nI sd), .ref 148, .ref 149, .ref 150, .ref 151, .int (nI mm), .ref 152, .ref 153, .ref 154, .int (nI dr), .int (nI dd), .int (nI bk), .int wt, .ref 155, .int (nI rt), .ref 156, .ref 157, .ref 158, .ref 159, .ref 160, .ref 161, .ref 162, .ref 163, .ref 164, .ref 165, .ref 166]) dX11_fraction_81 fX11_1 m0 (Nat.le_of_ble_eq_true rfl) rfl rfl rfl ?_
                      refine g_aload_n dX11_fraction_84 rfl rfl ?_
                      refine g_getf (v := .int (nI 3)) dX11_fraction_85 fX11_1 g_eq rfl ?_
                      refine g_if_leN (tgt := 92) dX11_fraction_88 (by decide) (by decide) (fun c88 => ?_) (fun c88 => ?_)
                      · exact absurd c88 (by decide)
                      · have ek : k_fraction sg x y z = 3 := (by have hu_x := un_b x; have hu_y := un_b y; have hu_z := un_b z; unfold k_fraction; (repeat' split) <;> first | rfl | (exfalso; simp only [i_lt, i_le, i_eq, it0, itm, ifp, nI_toInt (show 0 < 2147483648 by first | decide | omega), nI_toInt (show 1 < 2147483648 by first | decide | omega), nI_toInt (show 2 < 2147483648 by first | decide | omega), nI_toInt (show 1000000 < 2147483648 by first | decide | omega)] at * <;> omega))
                        exact e_v dX11_fraction_91 rfl (g_fr.rf.up (by simp)) (Or.inl ⟨by rw [ek]; decide, by rw [ek]; exact g_eq, g_fr.rf.up (by simp)⟩) (by decide) (by decide)
                  · exact absurd c62 (by decide)
                · refine g_iconst (v := nI 1) dX11_fraction_56 (by decide) ?_
                  refine g_goto (tgt := 81) dX11_fraction_57 (by decide) ?_
                  refine g_put (fs' := [.int (nI 1), .ref 143, .int (nI (s 4)), .int (nI (s 7)), .int (nI (s 8)), .ref 144, .int (nI (s 5)), .int (nI (s 6)), .ref 145, .int (nI (s 9)), .int (nI (s 10)), .int (nI (s 11)), .int (nI (s 12)), .ref 146, .int (nI k), .ref 147, .int (nI m), .int (nI sg), .int (nI cm), .int (nI sd), .ref 148, .ref 149, .ref 150, .ref 151, .int (nI mm), .ref 152, .ref 153, .ref 154, .int (nI dr), .int (nI dd), .int (nI bk), .int wt, .ref 155, .int (nI rt), .ref 156, .ref 157, .ref 158, .ref 159, .ref 160, .ref 161, .ref 162, .ref 163, .ref 164, .ref 165, .ref 166]) dX11_fraction_81 fX11_1 m0 (Nat.le_of_ble_eq_true rfl) rfl rfl rfl ?_
                  refine g_aload_n dX11_fraction_84 rfl rfl ?_
                  refine g_getf (v := .int (nI 1)) dX11_fraction_85 fX11_1 g_eq rfl ?_
                  refine g_if_leN (tgt := 92) dX11_fraction_88 (by decide) (by decide) (fun c88 => ?_) (fun c88 => ?_)
                  · exact absurd c88 (by decide)
                  · have ek : k_fraction sg x y z = 1 := (by have hu_x := un_b x; have hu_y := un_b y; have hu_z := un_b z; unfold k_fraction; (repeat' split) <;> first | rfl | (exfalso; simp only [i_lt, i_le, i_eq, it0, itm, ifp, nI_toInt (show 0 < 2147483648 by first | decide | omega), nI_toInt (show 1 < 2147483648 by first | decide | omega), nI_toInt (show 2 < 2147483648 by first | decide | omega), nI_toInt (show 1000000 < 2147483648 by first | decide | omega)] at * <;> omega))
                    exact e_v dX11_fraction_91 rfl (g_fr.rf.up (by simp)) (Or.inl ⟨by rw [ek]; decide, by rw [ek]; exact g_eq, g_fr.rf.up (by simp)⟩) (by decide) (by decide)
set_option maxHeartbeats 4000000 in
set_option maxRecDepth 100000 in
theorem c_isVote (G : gG) (d n : Nat) (ex : Bool) (h : gH) {cd wt : Int32} {s : Nat → Nat} {k m sg cm sd mm dr dd bk rt : Nat} {x : Int32} (m0 : Mc h cd s k m sg cm sd mm dr dd bk rt wt) : g_M G mX11_isVote d 0 0 [.ref 142, .int x] n ex h (q_i n ex [] h (fun r _ => ∃ b, r = nI b ∧ b ≤ 1 ∧ (b = 1 ↔ (-1 ≤ x ∧ x < nI (s 4))))) := by
  refine g_enter (by decide) (Nat.le_of_ble_eq_true rfl) ?_
  show g_W G _ _ _ n ex h 0 0 0 [(0, .ref 142), (1, .int x)] []
  refine g_iload_n dX11_isVote_0 rfl rfl ?_
  refine g_iconst (v := -1) dX11_isVote_1 (by decide) ?_
  refine g_icmp_lt (tgt := 17) dX11_isVote_2 (by decide) (fun c2 => ?_) (fun c2 => ?_)
  · refine g_iconst (v := nI 0) dX11_isVote_17 (by decide) ?_
    exact e_i dX11_isVote_18 rfl rfl g_fr.rf ⟨0, rfl, by decide, ⟨fun q => absurd q (by decide), fun q => by exfalso; simp only [i_lt, i_le, itm] at * <;> omega⟩⟩ (by decide) (by decide)
  · refine g_iload_n dX11_isVote_5 rfl rfl ?_
    refine g_aload_n dX11_isVote_6 rfl rfl ?_
    refine g_getf (v := .int (nI (s 4))) dX11_isVote_7 fX11_234 m0 rfl ?_
    refine g_icmp_ge (tgt := 17) dX11_isVote_10 (by decide) (fun c10 => ?_) (fun c10 => ?_)
    · refine g_iconst (v := nI 0) dX11_isVote_17 (by decide) ?_
      exact e_i dX11_isVote_18 rfl rfl g_fr.rf ⟨0, rfl, by decide, ⟨fun q => absurd q (by decide), fun q => by exfalso; simp only [i_lt, i_le, itm] at * <;> omega⟩⟩ (by decide) (by decide)
    · refine g_iconst (v := nI 1) dX11_isVote_13 (by decide) ?_
      refine g_goto (tgt := 18) dX11_isVote_14 (by decide) ?_
      exact e_i dX11_isVote_18 rfl rfl g_fr.rf ⟨1, rfl, by decide, ⟨fun _ => by simp only [i_lt, i_le, itm] at * <;> omega, fun _ => rfl⟩⟩ (by decide) (by decide)
set_option maxHeartbeats 4000000 in
set_option maxRecDepth 100000 in
theorem lp_mrecord (G : gG) (R : Room) (P : gH → Prop) (n : Nat) (ex : Bool) (h0 : gH) {wt : Int32} {s : Nat → Nat} {k m sg cm sd mm dr dd bk rt : Nat} {rI : Nat → Int32} {p q : Nat} {z : Int32} (hy : p + q ≤ 20000) (hz : z = -1 ∨ ∃ c, c < 8 ∧ z = nI c) (hP : ∀ h, Mc h (nI 0) s k m sg cm sd mm dr dd bk rt wt → h 145 = some (.inl (1, 20000, .inl (rsf rI p (p + q) z))) → P h) : ∀ (t i : Nat) (h : gH), q - i < t → i ≤ q → Mc h (nI 0) s k m sg cm sd mm dr dd bk rt wt → h 145 = some (.inl (1, 20000, .inl (rsf rI p (p + i) z))) → g_fr [142, 145] h0 h →
    g_W G mX11_record R (g_K G (q_v n ex [142, 145] h0 P) 0 0) n ex h 0 0 58 [(4, .int (nI i)), (0, .ref 142), (1, .int (nI p)), (2, .int (nI q)), (3, .int z)] [] := by
  intro t
  induction t with
  | zero => intro i h hm; exact absurd hm (by omega)
  | succ t ih =>
    intro i h ht hi m0 a5 hf
    refine g_iload dX11_record_58 rfl ?_
    refine g_iload_n dX11_record_60 rfl rfl ?_
    refine g_icmp_geN (tgt := 88) dX11_record_61 (by decide) (by omega) (by omega) (fun c61 => ?_) (fun c61 => ?_)
    · have e : i = q := by omega
      subst e
      exact e_v dX11_record_88 rfl hf (hP _ m0 a5) (by decide) (by decide)
    · refine g_aload_n dX11_record_64 rfl rfl ?_
      refine g_getf (v := .int (nI 0)) dX11_record_65 fX11_1 m0 rfl ?_
      refine g_if_neN (tgt := 88) dX11_record_68 (by decide) (by decide) (fun c68 => ?_) (fun c68 => ?_)
      · exact absurd c68 (by decide)
      · refine g_aload_n dX11_record_71 rfl rfl ?_
        refine g_getf (v := .ref 145) dX11_record_72 fX11_26 m0 rfl ?_
        refine g_iload_n dX11_record_75 rfl rfl ?_
        refine g_iload dX11_record_76 rfl ?_
        refine g_iaddN dX11_record_78 ?_
        refine g_iload_n dX11_record_79 rfl rfl ?_
        refine g_i2b dX11_record_80 ?_
        refine g_bastN dX11_record_81 a5 (by omega) (by decide) ?_
        refine g_iincN (z := 1) (ls' := [(4, .int (nI (i + 1))), (0, .ref 142), (1, .int (nI p)), (2, .int (nI q)), (3, .int z)]) dX11_record_82 rfl (by decide) rfl ?_
        refine g_goto (tgt := 58) dX11_record_85 (by decide) ?_
        refine g_pick [0, 1, 2, 3, 4] (ls' := [(4, .int (nI (i + 1))), (0, .ref 142), (1, .int (nI p)), (2, .int (nI q)), (3, .int z)]) rfl ?_
        exact ih (i + 1) _ (by omega) (by omega) (g_ne (by decide) m0) (by rw [← rsf_s (nar_v (C := 0) hz)]; exact g_eq) (hf.up (by simp))
set_option maxHeartbeats 4000000 in
set_option maxRecDepth 100000 in
theorem c_mrecord (G : gG) (d n : Nat) (ex : Bool) (h : gH) {cd wt : Int32} {s : Nat → Nat} {k m sg cm sd mm dr dd bk rt : Nat} {rI : Nat → Int32} {x y z : Int32} (m0 : Mc h cd s k m sg cm sd mm dr dd bk rt wt) (a5 : h 145 = some (.inl (1, 20000, .inl rI))) (h6 : s 6 ≤ 20000) (h4 : s 4 ≤ 8) (hsg : sg < 2 ^ 31) : g_M G mX11_record (d + 1) 0 0 [.ref 142, .int x, .int y, .int z] n ex h (q_v n ex [142, 145] h (fun h' => (¬ k_record s sg x y z = 0 ∧ Mc h' (nI (k_record s sg x y z)) s k m sg cm sd mm dr dd bk rt wt ∧ g_fr [142] h h') ∨ (k_record s sg x y z = 0 ∧ Mc h' (nI (k_record s sg x y z)) s k m sg cm sd mm dr dd bk rt wt ∧ h' 145 = some (.inl (1, 20000, .inl (rsf rI (un x) (un x + un y) z)))))) := by
  refine g_enter (by decide) (Nat.le_of_ble_eq_true rfl) ?_
  show g_W G _ _ _ n ex h 0 0 0 [(0, .ref 142), (1, .int x), (2, .int y), (3, .int z)] []
  refine g_aload_n dX11_record_0 rfl rfl ?_
  refine g_iload_n dX11_record_1 rfl rfl ?_
  refine g_if_lt (tgt := 36) dX11_record_2 (by decide) (fun c2 => ?_) (fun c2 => ?_)
  · refine g_iconst (v := nI 1) dX11_record_36 (by decide) ?_
    refine g_goto (tgt := 52) dX11_record_37 (by decide) ?_
    refine g_put (fs' := [.int (nI 1), .ref 143, .int (nI (s 4)), .int (nI (s 7)), .int (nI (s 8)), .ref 144, .int (nI (s 5)), .int (nI (s 6)), .ref 145, .int (nI (s 9)), .int (nI (s 10)), .int (nI (s 11)), .int (nI (s 12)), .ref 146, .int (nI k), .ref 147, .int (nI m), .int (nI sg), .int (nI cm), .int (nI sd), .ref 148, .ref 149, .ref 150, .ref 151, .int (nI mm), .ref 152, .ref 153, .ref 154, .int (nI dr), .int (nI dd), .int (nI bk), .int wt, .ref 155, .int (nI rt), .ref 156, .ref 157, .ref 158, .ref 159, .ref 160, .ref 161, .ref 162, .ref 163, .ref 164, .ref 165, .ref 166]) dX11_record_52 fX11_1 m0 (Nat.le_of_ble_eq_true rfl) rfl rfl rfl ?_
    refine g_iconst (v := nI 0) dX11_record_55 (by decide) ?_
    refine g_istore (ls' := [(4, .int (nI 0)), (0, .ref 142), (1, .int x), (2, .int y), (3, .int z)]) dX11_record_56 (by decide) rfl ?_
    refine g_iload dX11_record_58 rfl ?_
    refine g_iload_n dX11_record_60 rfl rfl ?_
    refine g_icmp_ge (tgt := 88) dX11_record_61 (by decide) (fun c61 => ?_) (fun c61 => ?_)
    · have ek : k_record s sg x y z = 1 := (by have hu_x := un_b x; have hu_y := un_b y; unfold k_record; (repeat' split) <;> first | rfl | (exfalso; simp only [i_lt, i_le, i_eq, it0, itm, ifp, nI_toInt (show 0 < 2147483648 by first | decide | omega), nI_toInt (show 1 < 2147483648 by first | decide | omega), nI_toInt (show s 6 < 2147483648 by first | decide | omega), nI_toInt (show s 4 < 2147483648 by first | decide | omega)] at * <;> omega))
      exact e_v dX11_record_88 rfl (g_fr.rf.up (by simp)) (Or.inl ⟨by rw [ek]; decide, by rw [ek]; exact g_eq, g_fr.rf.up (by simp)⟩) (by decide) (by decide)
    · refine g_aload_n dX11_record_64 rfl rfl ?_
      refine g_getf (v := .int (nI 1)) dX11_record_65 fX11_1 g_eq rfl ?_
      refine g_if_neN (tgt := 88) dX11_record_68 (by decide) (by decide) (fun c68 => ?_) (fun c68 => ?_)
      · have ek : k_record s sg x y z = 1 := (by have hu_x := un_b x; have hu_y := un_b y; unfold k_record; (repeat' split) <;> first | rfl | (exfalso; simp only [i_lt, i_le, i_eq, it0, itm, ifp, nI_toInt (show 0 < 2147483648 by first | decide | omega), nI_toInt (show 1 < 2147483648 by first | decide | omega), nI_toInt (show s 6 < 2147483648 by first | decide | omega), nI_toInt (show s 4 < 2147483648 by first | decide | omega)] at * <;> omega))
        exact e_v dX11_record_88 rfl (g_fr.rf.up (by simp)) (Or.inl ⟨by rw [ek]; decide, by rw [ek]; exact g_eq, g_fr.rf.up (by simp)⟩) (by decide) (by decide)
      · exact absurd c68 (by decide)
  · refine g_iload_n dX11_record_5 rfl rfl ?_
    refine g_iconst (v := nI 1) dX11_record_6 (by decide) ?_
    refine g_icmp_lt (tgt := 36) dX11_record_7 (by decide) (fun c7 => ?_) (fun c7 => ?_)
    · refine g_iconst (v := nI 1) dX11_record_36 (by decide) ?_
      refine g_goto (tgt := 52) dX11_record_37 (by decide) ?_
      refine g_put (fs' := [.int (nI 1), .ref 143, .int (nI (s 4)), .int (nI (s 7)), .int (nI (s 8)), .ref 144, .int (nI (s 5)), .int (nI (s 6)), .ref 145, .int (nI (s 9)), .int (nI (s 10)), .int (nI (s 11)), .int (nI (s 12)), .ref 146, .int (nI k), .ref 147, .int (nI m), .int (nI sg), .int (nI cm), .int (nI sd), .ref 148, .ref 149, .ref 150, .ref 151, .int (nI mm), .ref 152, .ref 153, .ref 154, .int (nI dr), .int (nI dd), .int (nI bk), .int wt, .ref 155, .int (nI rt), .ref 156, .ref 157, .ref 158, .ref 159, .ref 160, .ref 161, .ref 162, .ref 163, .ref 164, .ref 165, .ref 166]) dX11_record_52 fX11_1 m0 (Nat.le_of_ble_eq_true rfl) rfl rfl rfl ?_
      refine g_iconst (v := nI 0) dX11_record_55 (by decide) ?_
      refine g_istore (ls' := [(4, .int (nI 0)), (0, .ref 142), (1, .int x), (2, .int y), (3, .int z)]) dX11_record_56 (by decide) rfl ?_
      refine g_iload dX11_record_58 rfl ?_
      refine g_iload_n dX11_record_60 rfl rfl ?_
      refine g_icmp_ge (tgt := 88) dX11_record_61 (by decide) (fun c61 => ?_) (fun c61 => ?_)
      · have ek : k_record s sg x y z = 1 := (by have hu_x := un_b x; have hu_y := un_b y; unfold k_record; (repeat' split) <;> first | rfl | (exfalso; simp only [i_lt, i_le, i_eq, it0, itm, ifp, nI_toInt (show 0 < 2147483648 by first | decide | omega), nI_toInt (show 1 < 2147483648 by first | decide | omega), nI_toInt (show s 6 < 2147483648 by first | decide | omega), nI_toInt (show s 4 < 2147483648 by first | decide | omega)] at * <;> omega))
        exact e_v dX11_record_88 rfl (g_fr.rf.up (by simp)) (Or.inl ⟨by rw [ek]; decide, by rw [ek]; exact g_eq, g_fr.rf.up (by simp)⟩) (by decide) (by decide)
      · refine g_aload_n dX11_record_64 rfl rfl ?_
        refine g_getf (v := .int (nI 1)) dX11_record_65 fX11_1 g_eq rfl ?_
        refine g_if_neN (tgt := 88) dX11_record_68 (by decide) (by decide) (fun c68 => ?_) (fun c68 => ?_)
        · have ek : k_record s sg x y z = 1 := (by have hu_x := un_b x; have hu_y := un_b y; unfold k_record; (repeat' split) <;> first | rfl | (exfalso; simp only [i_lt, i_le, i_eq, it0, itm, ifp, nI_toInt (show 0 < 2147483648 by first | decide | omega), nI_toInt (show 1 < 2147483648 by first | decide | omega), nI_toInt (show s 6 < 2147483648 by first | decide | omega), nI_toInt (show s 4 < 2147483648 by first | decide | omega)] at * <;> omega))
          exact e_v dX11_record_88 rfl (g_fr.rf.up (by simp)) (Or.inl ⟨by rw [ek]; decide, by rw [ek]; exact g_eq, g_fr.rf.up (by simp)⟩) (by decide) (by decide)
        · exact absurd c68 (by decide)
    · refine g_iload_n dX11_record_10 rfl rfl ?_
      refine g_aload_n dX11_record_11 rfl rfl ?_
      refine g_getf (v := .int (nI (s 6))) dX11_record_12 fX11_240 m0 rfl ?_
      refine g_icmp_gt (tgt := 36) dX11_record_15 (by decide) (fun c15 => ?_) (fun c15 => ?_)
      · refine g_iconst (v := nI 1) dX11_record_36 (by decide) ?_
        refine g_goto (tgt := 52) dX11_record_37 (by decide) ?_
        refine g_put (fs' := [.int (nI 1), .ref 143, .int (nI (s 4)), .int (nI (s 7)), .int (nI (s 8)), .ref 144, .int (nI (s 5)), .int (nI (s 6)), .ref 145, .int (nI (s 9)), .int (nI (s 10)), .int (nI (s 11)), .int (nI (s 12)), .ref 146, .int (nI k), .ref 147, .int (nI m), .int (nI sg), .int (nI cm), .int (nI sd), .ref 148, .ref 149, .ref 150, .ref 151, .int (nI mm), .ref 152, .ref 153, .ref 154, .int (nI dr), .int (nI dd), .int (nI bk), .int wt, .ref 155, .int (nI rt), .ref 156, .ref 157, .ref 158, .ref 159, .ref 160, .ref 161, .ref 162, .ref 163, .ref 164, .ref 165, .ref 166]) dX11_record_52 fX11_1 m0 (Nat.le_of_ble_eq_true rfl) rfl rfl rfl ?_
        refine g_iconst (v := nI 0) dX11_record_55 (by decide) ?_
        refine g_istore (ls' := [(4, .int (nI 0)), (0, .ref 142), (1, .int x), (2, .int y), (3, .int z)]) dX11_record_56 (by decide) rfl ?_
        refine g_iload dX11_record_58 rfl ?_
        refine g_iload_n dX11_record_60 rfl rfl ?_
        refine g_icmp_ge (tgt := 88) dX11_record_61 (by decide) (fun c61 => ?_) (fun c61 => ?_)
        · have ek : k_record s sg x y z = 1 := (by have hu_x := un_b x; have hu_y := un_b y; unfold k_record; (repeat' split) <;> first | rfl | (exfalso; simp only [i_lt, i_le, i_eq, it0, itm, ifp, nI_toInt (show 0 < 2147483648 by first | decide | omega), nI_toInt (show 1 < 2147483648 by first | decide | omega), nI_toInt (show s 6 < 2147483648 by first | decide | omega), nI_toInt (show s 4 < 2147483648 by first | decide | omega)] at * <;> omega))
          exact e_v dX11_record_88 rfl (g_fr.rf.up (by simp)) (Or.inl ⟨by rw [ek]; decide, by rw [ek]; exact g_eq, g_fr.rf.up (by simp)⟩) (by decide) (by decide)
        · refine g_aload_n dX11_record_64 rfl rfl ?_
          refine g_getf (v := .int (nI 1)) dX11_record_65 fX11_1 g_eq rfl ?_
          refine g_if_neN (tgt := 88) dX11_record_68 (by decide) (by decide) (fun c68 => ?_) (fun c68 => ?_)
          · have ek : k_record s sg x y z = 1 := (by have hu_x := un_b x; have hu_y := un_b y; unfold k_record; (repeat' split) <;> first | rfl | (exfalso; simp only [i_lt, i_le, i_eq, it0, itm, ifp, nI_toInt (show 0 < 2147483648 by first | decide | omega), nI_toInt (show 1 < 2147483648 by first | decide | omega), nI_toInt (show s 6 < 2147483648 by first | decide | omega), nI_toInt (show s 4 < 2147483648 by first | decide | omega)] at * <;> omega))
            exact e_v dX11_record_88 rfl (g_fr.rf.up (by simp)) (Or.inl ⟨by rw [ek]; decide, by rw [ek]; exact g_eq, g_fr.rf.up (by simp)⟩) (by decide) (by decide)
          · exact absurd c68 (by decide)
      · obtain ⟨q, hq1, hq2, rfl⟩ := nat_of (b := s 6) (by omega) ⟨Int32.not_lt.mp c7, Int32.not_lt.mp c15⟩ (by decide)
        refine g_iload_n dX11_record_18 rfl rfl ?_
        refine g_aload_n dX11_record_19 rfl rfl ?_
        refine g_getf (v := .int (nI (s 6))) dX11_record_20 fX11_240 m0 rfl ?_
        refine g_iload_n dX11_record_23 rfl rfl ?_
        refine g_isubN dX11_record_24 (by omega) ?_
        refine g_icmp_gt (tgt := 36) dX11_record_25 (by decide) (fun c25 => ?_) (fun c25 => ?_)
        · refine g_iconst (v := nI 1) dX11_record_36 (by decide) ?_
          refine g_goto (tgt := 52) dX11_record_37 (by decide) ?_
          refine g_put (fs' := [.int (nI 1), .ref 143, .int (nI (s 4)), .int (nI (s 7)), .int (nI (s 8)), .ref 144, .int (nI (s 5)), .int (nI (s 6)), .ref 145, .int (nI (s 9)), .int (nI (s 10)), .int (nI (s 11)), .int (nI (s 12)), .ref 146, .int (nI k), .ref 147, .int (nI m), .int (nI sg), .int (nI cm), .int (nI sd), .ref 148, .ref 149, .ref 150, .ref 151, .int (nI mm), .ref 152, .ref 153, .ref 154, .int (nI dr), .int (nI dd), .int (nI bk), .int wt, .ref 155, .int (nI rt), .ref 156, .ref 157, .ref 158, .ref 159, .ref 160, .ref 161, .ref 162, .ref 163, .ref 164, .ref 165, .ref 166]) dX11_record_52 fX11_1 m0 (Nat.le_of_ble_eq_true rfl) rfl rfl rfl ?_
          refine g_iconst (v := nI 0) dX11_record_55 (by decide) ?_
          refine g_istore (ls' := [(4, .int (nI 0)), (0, .ref 142), (1, .int x), (2, .int (nI q)), (3, .int z)]) dX11_record_56 (by decide) rfl ?_
          refine g_iload dX11_record_58 rfl ?_
          refine g_iload_n dX11_record_60 rfl rfl ?_
          refine g_icmp_ge (tgt := 88) dX11_record_61 (by decide) (fun c61 => ?_) (fun c61 => ?_)
          · have ek : k_record s sg x (nI q) z = 1 := (by have hu_x := un_b x; have hu__nI_q_ := un_b (nI q); unfold k_record; (repeat' split) <;> first | rfl | (exfalso; simp only [i_lt, i_le, i_eq, it0, itm, ifp, nI_toInt (show 0 < 2147483648 by first | decide | omega), nI_toInt (show 1 < 2147483648 by first | decide | omega), nI_toInt (show s 6 < 2147483648 by first | decide | omega), nI_toInt (show s 4 < 2147483648 by first | decide | omega), nI_toInt (show q < 2147483648 by first | decide | omega), nI_toInt (show s 6 - q < 2147483648 by first | decide | omega)] at * <;> omega))
            exact e_v dX11_record_88 rfl (g_fr.rf.up (by simp)) (Or.inl ⟨by rw [ek]; decide, by rw [ek]; exact g_eq, g_fr.rf.up (by simp)⟩) (by decide) (by decide)
          · refine g_aload_n dX11_record_64 rfl rfl ?_
            refine g_getf (v := .int (nI 1)) dX11_record_65 fX11_1 g_eq rfl ?_
            refine g_if_neN (tgt := 88) dX11_record_68 (by decide) (by decide) (fun c68 => ?_) (fun c68 => ?_)
            · have ek : k_record s sg x (nI q) z = 1 := (by have hu_x := un_b x; have hu__nI_q_ := un_b (nI q); unfold k_record; (repeat' split) <;> first | rfl | (exfalso; simp only [i_lt, i_le, i_eq, it0, itm, ifp, nI_toInt (show 0 < 2147483648 by first | decide | omega), nI_toInt (show 1 < 2147483648 by first | decide | omega), nI_toInt (show s 6 < 2147483648 by first | decide | omega), nI_toInt (show s 4 < 2147483648 by first | decide | omega), nI_toInt (show q < 2147483648 by first | decide | omega), nI_toInt (show s 6 - q < 2147483648 by first | decide | omega)] at * <;> omega))
              exact e_v dX11_record_88 rfl (g_fr.rf.up (by simp)) (Or.inl ⟨by rw [ek]; decide, by rw [ek]; exact g_eq, g_fr.rf.up (by simp)⟩) (by decide) (by decide)
            · exact absurd c68 (by decide)
        · refine g_aload_n dX11_record_28 rfl rfl ?_
          refine g_iload_n dX11_record_29 rfl rfl ?_
          refine cVi (st := [.ref 142]) dX11_record_30 (c_isVote G d n ex h m0 (x := z)) sX11_243 m0 rfl rfl (by simp only [g_rm]; omega) (by simp only [g_rm]; omega) (Nat.le_of_ble_eq_true rfl) ⟨Nat.le_of_ble_eq_true rfl, Nat.le_of_ble_eq_true rfl⟩ (fun r4 h1 fr2 p3 => ?_)
          cases g_fr0 fr2
          obtain ⟨b, rfl, hb1, hb2⟩ := p3
          refine g_if_neN (tgt := 40) dX11_record_33 (by decide) (by omega) (fun c33 => ?_) (fun c33 => ?_)
          · refine g_aload_n dX11_record_40 rfl rfl ?_
            refine g_getf (v := .int (nI sg)) dX11_record_41 fX11_231 m0 rfl ?_
            refine g_if_eqN (tgt := 51) dX11_record_44 (by decide) (by omega) (fun c44 => ?_) (fun c44 => ?_)
            · obtain ⟨p, hp1, rfl⟩ := nat0 c2
              have hpu := un_nI (show p < 4294967296 by omega)
              have hqu := un_nI (show q < 4294967296 by omega)
              refine g_iconst (v := nI 0) dX11_record_51 (by decide) ?_
              refine g_put (fs' := [.int (nI 0), .ref 143, .int (nI (s 4)), .int (nI (s 7)), .int (nI (s 8)), .ref 144, .int (nI (s 5)), .int (nI (s 6)), .ref 145, .int (nI (s 9)), .int (nI (s 10)), .int (nI (s 11)), .int (nI (s 12)), .ref 146, .int (nI k), .ref 147, .int (nI m), .int (nI sg), .int (nI cm), .int (nI sd), .ref 148, .ref 149, .ref 150, .ref 151, .int (nI mm), .ref 152, .ref 153, .ref 154, .int (nI dr), .int (nI dd), .int (nI bk), .int wt, .ref 155, .int (nI rt), .ref 156, .ref 157, .ref 158, .ref 159, .ref 160, .ref 161, .ref 162, .ref 163, .ref 164, .ref 165, .ref 166]) dX11_record_52 fX11_1 m0 (Nat.le_of_ble_eq_true rfl) rfl rfl rfl ?_
              refine g_iconst (v := nI 0) dX11_record_55 (by decide) ?_
              refine g_istore (ls' := [(4, .int (nI 0)), (0, .ref 142), (1, .int (nI p)), (2, .int (nI q)), (3, .int z)]) dX11_record_56 (by decide) rfl ?_
              have ek : k_record s sg (nI p) (nI q) z = 0 := (by have hu__nI_p_ := un_b (nI p); have hu__nI_q_ := un_b (nI q); unfold k_record; (repeat' split) <;> first | rfl | (exfalso; simp only [i_lt, i_le, i_eq, it0, itm, ifp, nI_toInt (show 0 < 2147483648 by first | decide | omega), nI_toInt (show 1 < 2147483648 by first | decide | omega), nI_toInt (show s 6 < 2147483648 by first | decide | omega), nI_toInt (show s 4 < 2147483648 by first | decide | omega), nI_toInt (show q < 2147483648 by first | decide | omega), nI_toInt (show s 6 - q < 2147483648 by first | decide | omega), nI_toInt (show p < 2147483648 by first | decide | omega)] at * <;> omega))
              refine g_pick [0, 1, 2, 3, 4] (ls' := [(4, .int (nI 0)), (0, .ref 142), (1, .int (nI p)), (2, .int (nI q)), (3, .int z)]) rfl ?_
              have hz9 : -1 ≤ z ∧ z < nI (s 4) := hb2.mp (by omega)
              have hz : z = -1 ∨ ∃ c, c < 8 ∧ z = nI c := by
                by_cases q0 : z < 0
                · refine Or.inl ?_
                  have h1 := hz9.1
                  simp only [i_lt, i_le, i_eq, it0, itm] at q0 h1 ⊢
                  omega
                · obtain ⟨c, hc1, rfl⟩ := nat0 q0
                  exact Or.inr ⟨c, by have := (nI_ltI hc1 (by omega)).mp hz9.2; omega, rfl⟩
              have hpq : p + q ≤ s 6 := by
                have h1 := c25
                simp only [i_lt, nI_toInt (show p < 2147483648 by omega), nI_toInt (show s 6 - q < 2147483648 by omega)] at h1
                omega
              exact lp_mrecord G _ _ n ex h (rI := rI) (by omega) hz (fun h2 x1 x2 => Or.inr ⟨ek, by rw [ek]; exact x1, by rw [hpu, hqu]; exact x2⟩) (q + 1) 0 _ (by omega) (by omega) g_eq (by rw [show rsf rI p (p + 0) z = rI from rsf_0 _ _ _]; exact g_ne (by decide) a5) (g_fr.rf.up (by simp))
            · refine g_iconst (v := nI 2) dX11_record_47 (by decide) ?_
              refine g_goto (tgt := 52) dX11_record_48 (by decide) ?_
              refine g_put (fs' := [.int (nI 2), .ref 143, .int (nI (s 4)), .int (nI (s 7)), .int (nI (s 8)), .ref 144, .int (nI (s 5)), .int (nI (s 6)), .ref 145, .int (nI (s 9)), .int (nI (s 10)), .int (nI (s 11)), .int (nI (s 12)), .ref 146, .int (nI k), .ref 147, .int (nI m), .int (nI sg), .int (nI cm), .int (nI sd), .ref 148, .ref 149, .ref 150, .ref 151, .int (nI mm), .ref 152, .ref 153, .ref 154, .int (nI dr), .int (nI dd), .int (nI bk), .int wt, .ref 155, .int (nI rt), .ref 156, .ref 157, .ref 158, .ref 159, .ref 160, .ref 161, .ref 162, .ref 163, .ref 164, .ref 165, .ref 166]) dX11_record_52 fX11_1 m0 (Nat.le_of_ble_eq_true rfl) rfl rfl rfl ?_
              refine g_iconst (v := nI 0) dX11_record_55 (by decide) ?_
              refine g_istore (ls' := [(4, .int (nI 0)), (0, .ref 142), (1, .int x), (2, .int (nI q)), (3, .int z)]) dX11_record_56 (by decide) rfl ?_
              refine g_iload dX11_record_58 rfl ?_
              refine g_iload_n dX11_record_60 rfl rfl ?_
              refine g_icmp_ge (tgt := 88) dX11_record_61 (by decide) (fun c61 => ?_) (fun c61 => ?_)
              · have ek : k_record s sg x (nI q) z = 2 := (by have hu_x := un_b x; have hu__nI_q_ := un_b (nI q); unfold k_record; (repeat' split) <;> first | rfl | (exfalso; simp only [i_lt, i_le, i_eq, it0, itm, ifp, nI_toInt (show 0 < 2147483648 by first | decide | omega), nI_toInt (show 1 < 2147483648 by first | decide | omega), nI_toInt (show s 6 < 2147483648 by first | decide | omega), nI_toInt (show s 4 < 2147483648 by first | decide | omega), nI_toInt (show q < 2147483648 by first | decide | omega), nI_toInt (show s 6 - q < 2147483648 by first | decide | omega)] at * <;> omega))
                exact e_v dX11_record_88 rfl (g_fr.rf.up (by simp)) (Or.inl ⟨by rw [ek]; decide, by rw [ek]; exact g_eq, g_fr.rf.up (by simp)⟩) (by decide) (by decide)
              · refine g_aload_n dX11_record_64 rfl rfl ?_
                refine g_getf (v := .int (nI 2)) dX11_record_65 fX11_1 g_eq rfl ?_
                refine g_if_neN (tgt := 88) dX11_record_68 (by decide) (by decide) (fun c68 => ?_) (fun c68 => ?_)
                · have ek : k_record s sg x (nI q) z = 2 := (by have hu_x := un_b x; have hu__nI_q_ := un_b (nI q); unfold k_record; (repeat' split) <;> first | rfl | (exfalso; simp only [i_lt, i_le, i_eq, it0, itm, ifp, nI_toInt (show 0 < 2147483648 by first | decide | omega), nI_toInt (show 1 < 2147483648 by first | decide | omega), nI_toInt (show s 6 < 2147483648 by first | decide | omega), nI_toInt (show s 4 < 2147483648 by first | decide | omega), nI_toInt (show q < 2147483648 by first | decide | omega), nI_toInt (show s 6 - q < 2147483648 by first | decide | omega)] at * <;> omega))
                  exact e_v dX11_record_88 rfl (g_fr.rf.up (by simp)) (Or.inl ⟨by rw [ek]; decide, by rw [ek]; exact g_eq, g_fr.rf.up (by simp)⟩) (by decide) (by decide)
                · exact absurd c68 (by decide)
          · refine g_iconst (v := nI 1) dX11_record_36 (by decide) ?_
            refine g_goto (tgt := 52) dX11_record_37 (by decide) ?_
            refine g_put (fs' := [.int (nI 1), .ref 143, .int (nI (s 4)), .int (nI (s 7)), .int (nI (s 8)), .ref 144, .int (nI (s 5)), .int (nI (s 6)), .ref 145, .int (nI (s 9)), .int (nI (s 10)), .int (nI (s 11)), .int (nI (s 12)), .ref 146, .int (nI k), .ref 147, .int (nI m), .int (nI sg), .int (nI cm), .int (nI sd), .ref 148, .ref 149, .ref 150, .ref 151, .int (nI mm), .ref 152, .ref 153, .ref 154, .int (nI dr), .int (nI dd), .int (nI bk), .int wt, .ref 155, .int (nI rt), .ref 156, .ref 157, .ref 158, .ref 159, .ref 160, .ref 161, .ref 162, .ref 163, .ref 164, .ref 165, .ref 166]) dX11_record_52 fX11_1 m0 (Nat.le_of_ble_eq_true rfl) rfl rfl rfl ?_
            refine g_iconst (v := nI 0) dX11_record_55 (by decide) ?_
            refine g_istore (ls' := [(4, .int (nI 0)), (0, .ref 142), (1, .int x), (2, .int (nI q)), (3, .int z)]) dX11_record_56 (by decide) rfl ?_
            refine g_iload dX11_record_58 rfl ?_
            refine g_iload_n dX11_record_60 rfl rfl ?_
            refine g_icmp_ge (tgt := 88) dX11_record_61 (by decide) (fun c61 => ?_) (fun c61 => ?_)
            · have ek : k_record s sg x (nI q) z = 1 := (by have hu_x := un_b x; have hu__nI_q_ := un_b (nI q); unfold k_record; (repeat' split) <;> first | rfl | (exfalso; simp only [i_lt, i_le, i_eq, it0, itm, ifp, nI_toInt (show 0 < 2147483648 by first | decide | omega), nI_toInt (show 1 < 2147483648 by first | decide | omega), nI_toInt (show s 6 < 2147483648 by first | decide | omega), nI_toInt (show s 4 < 2147483648 by first | decide | omega), nI_toInt (show q < 2147483648 by first | decide | omega), nI_toInt (show s 6 - q < 2147483648 by first | decide | omega)] at * <;> omega))
              exact e_v dX11_record_88 rfl (g_fr.rf.up (by simp)) (Or.inl ⟨by rw [ek]; decide, by rw [ek]; exact g_eq, g_fr.rf.up (by simp)⟩) (by decide) (by decide)
            · refine g_aload_n dX11_record_64 rfl rfl ?_
              refine g_getf (v := .int (nI 1)) dX11_record_65 fX11_1 g_eq rfl ?_
              refine g_if_neN (tgt := 88) dX11_record_68 (by decide) (by decide) (fun c68 => ?_) (fun c68 => ?_)
              · have ek : k_record s sg x (nI q) z = 1 := (by have hu_x := un_b x; have hu__nI_q_ := un_b (nI q); unfold k_record; (repeat' split) <;> first | rfl | (exfalso; simp only [i_lt, i_le, i_eq, it0, itm, ifp, nI_toInt (show 0 < 2147483648 by first | decide | omega), nI_toInt (show 1 < 2147483648 by first | decide | omega), nI_toInt (show s 6 < 2147483648 by first | decide | omega), nI_toInt (show s 4 < 2147483648 by first | decide | omega), nI_toInt (show q < 2147483648 by first | decide | omega), nI_toInt (show s 6 - q < 2147483648 by first | decide | omega)] at * <;> omega))
                exact e_v dX11_record_88 rfl (g_fr.rf.up (by simp)) (Or.inl ⟨by rw [ek]; decide, by rw [ek]; exact g_eq, g_fr.rf.up (by simp)⟩) (by decide) (by decide)
              · exact absurd c68 (by decide)
set_option maxHeartbeats 4000000 in
set_option maxRecDepth 100000 in
theorem c_mdigit (G : gG) (d n : Nat) (ex : Bool) (h : gH) {cd wt : Int32} {s : Nat → Nat} {k m sg cm sd mm dr dd bk rt : Nat} {dg : Nat → Nat} {x : Int32} (m0 : Mc h cd s k m sg cm sd mm dr dd bk rt wt) (a6 : h 146 = some (.inl (0, 20, .inl (fun k => nI (dg k))))) (hk : k ≤ 20) (hsg : sg < 2 ^ 31) : g_M G mX11_digit d 0 0 [.ref 142, .int x] n ex h (q_i n ex [142, 146] h (fun r h' => (¬ k_digit sg k x = 0 ∧ Mc h' (nI (k_digit sg k x)) s k m sg cm sd mm dr dd bk rt wt ∧ g_fr [142] h h') ∨ (k_digit sg k x = 0 ∧ r = nI (k + 1) ∧ Mc h' (nI (k_digit sg k x)) s (k + 1) m sg cm sd mm dr dd bk rt wt ∧ h' 146 = some (.inl (0, 20, .inl (fun i => nI (va_up dg k (un x) i))))))) := by
  refine g_enter (by decide) (Nat.le_of_ble_eq_true rfl) ?_
  show g_W G _ _ _ n ex h 0 0 0 [(0, .ref 142), (1, .int x)] []
  refine g_aload_n dX11_digit_0 rfl rfl ?_
  refine g_iload_n dX11_digit_1 rfl rfl ?_
  refine g_if_lt (tgt := 11) dX11_digit_2 (by decide) (fun c2 => ?_) (fun c2 => ?_)
  · refine g_iconst (v := nI 1) dX11_digit_11 (by decide) ?_
    refine g_goto (tgt := 40) dX11_digit_12 (by decide) ?_
    refine g_put (fs' := [.int (nI 1), .ref 143, .int (nI (s 4)), .int (nI (s 7)), .int (nI (s 8)), .ref 144, .int (nI (s 5)), .int (nI (s 6)), .ref 145, .int (nI (s 9)), .int (nI (s 10)), .int (nI (s 11)), .int (nI (s 12)), .ref 146, .int (nI k), .ref 147, .int (nI m), .int (nI sg), .int (nI cm), .int (nI sd), .ref 148, .ref 149, .ref 150, .ref 151, .int (nI mm), .ref 152, .ref 153, .ref 154, .int (nI dr), .int (nI dd), .int (nI bk), .int wt, .ref 155, .int (nI rt), .ref 156, .ref 157, .ref 158, .ref 159, .ref 160, .ref 161, .ref 162, .ref 163, .ref 164, .ref 165, .ref 166]) dX11_digit_40 fX11_1 m0 (Nat.le_of_ble_eq_true rfl) rfl rfl rfl ?_
    refine g_aload_n dX11_digit_43 rfl rfl ?_
    refine g_getf (v := .int (nI 1)) dX11_digit_44 fX11_1 g_eq rfl ?_
    refine g_if_leN (tgt := 52) dX11_digit_47 (by decide) (by decide) (fun c47 => ?_) (fun c47 => ?_)
    · exact absurd c47 (by decide)
    · refine g_iconst (v := nI 0) dX11_digit_50 (by decide) ?_
      have ek : k_digit sg k x = 1 := (by unfold k_digit; (repeat' split) <;> first | rfl | (exfalso; simp only [i_lt, i_le, i_eq, it0, itm, ifp, nI_toInt (show 0 < 2147483648 by first | decide | omega), nI_toInt (show 1 < 2147483648 by first | decide | omega), nI_toInt (show 9 < 2147483648 by first | decide | omega)] at * <;> omega))
      exact e_i dX11_digit_51 rfl rfl (g_fr.rf.up (by simp)) (Or.inl ⟨by rw [ek]; decide, by rw [ek]; exact g_eq, g_fr.rf.up (by simp)⟩) (by decide) (by decide)
  · refine g_iload_n dX11_digit_5 rfl rfl ?_
    refine g_bipush (v := nI 9) dX11_digit_6 (by decide) ?_
    refine g_icmp_le (tgt := 15) dX11_digit_8 (by decide) (fun c8 => ?_) (fun c8 => ?_)
    · refine g_aload_n dX11_digit_15 rfl rfl ?_
      refine g_getf (v := .int (nI sg)) dX11_digit_16 fX11_231 m0 rfl ?_
      refine g_if_eqN (tgt := 26) dX11_digit_19 (by decide) (by omega) (fun c19 => ?_) (fun c19 => ?_)
      · refine g_aload_n dX11_digit_26 rfl rfl ?_
        refine g_getf (v := .int (nI k)) dX11_digit_27 fX11_220 m0 rfl ?_
        refine g_bipush (v := nI 20) dX11_digit_30 (by decide) ?_
        refine g_icmp_neN (tgt := 39) dX11_digit_32 (by decide) (by omega) (by omega) (fun c32 => ?_) (fun c32 => ?_)
        · refine g_iconst (v := nI 0) dX11_digit_39 (by decide) ?_
          refine g_put (fs' := [.int (nI 0), .ref 143, .int (nI (s 4)), .int (nI (s 7)), .int (nI (s 8)), .ref 144, .int (nI (s 5)), .int (nI (s 6)), .ref 145, .int (nI (s 9)), .int (nI (s 10)), .int (nI (s 11)), .int (nI (s 12)), .ref 146, .int (nI k), .ref 147, .int (nI m), .int (nI sg), .int (nI cm), .int (nI sd), .ref 148, .ref 149, .ref 150, .ref 151, .int (nI mm), .ref 152, .ref 153, .ref 154, .int (nI dr), .int (nI dd), .int (nI bk), .int wt, .ref 155, .int (nI rt), .ref 156, .ref 157, .ref 158, .ref 159, .ref 160, .ref 161, .ref 162, .ref 163, .ref 164, .ref 165, .ref 166]) dX11_digit_40 fX11_1 m0 (Nat.le_of_ble_eq_true rfl) rfl rfl rfl ?_
          refine g_aload_n dX11_digit_43 rfl rfl ?_
          refine g_getf (v := .int (nI 0)) dX11_digit_44 fX11_1 g_eq rfl ?_
          refine g_if_leN (tgt := 52) dX11_digit_47 (by decide) (by decide) (fun c47 => ?_) (fun c47 => ?_)
          · refine g_aload_n dX11_digit_52 rfl rfl ?_
            refine g_getf (v := .ref 146) dX11_digit_53 fX11_42 g_eq rfl ?_
            refine g_aload_n dX11_digit_56 rfl rfl ?_
            refine g_getf (v := .int (nI k)) dX11_digit_57 fX11_220 g_eq rfl ?_
            refine g_iload_n dX11_digit_60 rfl rfl ?_
            refine g_iastN dX11_digit_61 (g_ne (by decide) a6) (by omega) (by decide) ?_
            rw [upd_nIx]
            refine g_aload_n dX11_digit_62 rfl rfl ?_
            refine g_dup dX11_digit_63 rfl ?_
            refine g_getf (v := .int (nI k)) dX11_digit_64 fX11_220 (g_ne (by decide) g_eq) rfl ?_
            refine g_iconst (v := nI 1) dX11_digit_67 (by decide) ?_
            refine g_iaddN dX11_digit_68 ?_
            refine g_put (fs' := [.int (nI 0), .ref 143, .int (nI (s 4)), .int (nI (s 7)), .int (nI (s 8)), .ref 144, .int (nI (s 5)), .int (nI (s 6)), .ref 145, .int (nI (s 9)), .int (nI (s 10)), .int (nI (s 11)), .int (nI (s 12)), .ref 146, .int (nI (k + 1)), .ref 147, .int (nI m), .int (nI sg), .int (nI cm), .int (nI sd), .ref 148, .ref 149, .ref 150, .ref 151, .int (nI mm), .ref 152, .ref 153, .ref 154, .int (nI dr), .int (nI dd), .int (nI bk), .int wt, .ref 155, .int (nI rt), .ref 156, .ref 157, .ref 158, .ref 159, .ref 160, .ref 161, .ref 162, .ref 163, .ref 164, .ref 165, .ref 166]) dX11_digit_69 fX11_220 (g_ne (by decide) g_eq) (Nat.le_of_ble_eq_true rfl) rfl rfl rfl ?_
            refine g_aload_n dX11_digit_72 rfl rfl ?_
            refine g_getf (v := .int (nI (k + 1))) dX11_digit_73 fX11_220 g_eq rfl ?_
            have ek : k_digit sg k x = 0 := (by unfold k_digit; (repeat' split) <;> first | rfl | (exfalso; simp only [i_lt, i_le, i_eq, it0, itm, ifp, nI_toInt (show 0 < 2147483648 by first | decide | omega), nI_toInt (show 1 < 2147483648 by first | decide | omega), nI_toInt (show 9 < 2147483648 by first | decide | omega)] at * <;> omega))
            exact e_i dX11_digit_76 rfl rfl (((g_fr.rf.up (by simp)).up (by simp)).up (by simp)) (Or.inr ⟨ek, rfl, by rw [ek]; exact g_eq, g_ne (by decide) g_eq⟩) (by decide) (by decide)
          · exact absurd c47 (by decide)
        · refine g_iconst (v := nI 3) dX11_digit_35 (by decide) ?_
          refine g_goto (tgt := 40) dX11_digit_36 (by decide) ?_
          refine g_put (fs' := [.int (nI 3), .ref 143, .int (nI (s 4)), .int (nI (s 7)), .int (nI (s 8)), .ref 144, .int (nI (s 5)), .int (nI (s 6)), .ref 145, .int (nI (s 9)), .int (nI (s 10)), .int (nI (s 11)), .int (nI (s 12)), .ref 146, .int (nI k), .ref 147, .int (nI m), .int (nI sg), .int (nI cm), .int (nI sd), .ref 148, .ref 149, .ref 150, .ref 151, .int (nI mm), .ref 152, .ref 153, .ref 154, .int (nI dr), .int (nI dd), .int (nI bk), .int wt, .ref 155, .int (nI rt), .ref 156, .ref 157, .ref 158, .ref 159, .ref 160, .ref 161, .ref 162, .ref 163, .ref 164, .ref 165, .ref 166]) dX11_digit_40 fX11_1 m0 (Nat.le_of_ble_eq_true rfl) rfl rfl rfl ?_
          refine g_aload_n dX11_digit_43 rfl rfl ?_
          refine g_getf (v := .int (nI 3)) dX11_digit_44 fX11_1 g_eq rfl ?_
          refine g_if_leN (tgt := 52) dX11_digit_47 (by decide) (by decide) (fun c47 => ?_) (fun c47 => ?_)
          · exact absurd c47 (by decide)
          · refine g_iconst (v := nI 0) dX11_digit_50 (by decide) ?_
            have ek : k_digit sg k x = 3 := (by unfold k_digit; (repeat' split) <;> first | rfl | (exfalso; simp only [i_lt, i_le, i_eq, it0, itm, ifp, nI_toInt (show 0 < 2147483648 by first | decide | omega), nI_toInt (show 1 < 2147483648 by first | decide | omega), nI_toInt (show 9 < 2147483648 by first | decide | omega)] at * <;> omega))
            exact e_i dX11_digit_51 rfl rfl (g_fr.rf.up (by simp)) (Or.inl ⟨by rw [ek]; decide, by rw [ek]; exact g_eq, g_fr.rf.up (by simp)⟩) (by decide) (by decide)
      · refine g_iconst (v := nI 2) dX11_digit_22 (by decide) ?_
        refine g_goto (tgt := 40) dX11_digit_23 (by decide) ?_
        refine g_put (fs' := [.int (nI 2), .ref 143, .int (nI (s 4)), .int (nI (s 7)), .int (nI (s 8)), .ref 144, .int (nI (s 5)), .int (nI (s 6)), .ref 145, .int (nI (s 9)), .int (nI (s 10)), .int (nI (s 11)), .int (nI (s 12)), .ref 146, .int (nI k), .ref 147, .int (nI m), .int (nI sg), .int (nI cm), .int (nI sd), .ref 148, .ref 149, .ref 150, .ref 151, .int (nI mm), .ref 152, .ref 153, .ref 154, .int (nI dr), .int (nI dd), .int (nI bk), .int wt, .ref 155, .int (nI rt), .ref 156, .ref 157, .ref 158, .ref 159, .ref 160, .ref 161, .ref 162, .ref 163, .ref 164, .ref 165, .ref 166]) dX11_digit_40 fX11_1 m0 (Nat.le_of_ble_eq_true rfl) rfl rfl rfl ?_
        refine g_aload_n dX11_digit_43 rfl rfl ?_
        refine g_getf (v := .int (nI 2)) dX11_digit_44 fX11_1 g_eq rfl ?_
        refine g_if_leN (tgt := 52) dX11_digit_47 (by decide) (by decide) (fun c47 => ?_) (fun c47 => ?_)
        · exact absurd c47 (by decide)
        · refine g_iconst (v := nI 0) dX11_digit_50 (by decide) ?_
          have ek : k_digit sg k x = 2 := (by unfold k_digit; (repeat' split) <;> first | rfl | (exfalso; simp only [i_lt, i_le, i_eq, it0, itm, ifp, nI_toInt (show 0 < 2147483648 by first | decide | omega), nI_toInt (show 1 < 2147483648 by first | decide | omega), nI_toInt (show 9 < 2147483648 by first | decide | omega)] at * <;> omega))
          exact e_i dX11_digit_51 rfl rfl (g_fr.rf.up (by simp)) (Or.inl ⟨by rw [ek]; decide, by rw [ek]; exact g_eq, g_fr.rf.up (by simp)⟩) (by decide) (by decide)
    · refine g_iconst (v := nI 1) dX11_digit_11 (by decide) ?_
      refine g_goto (tgt := 40) dX11_digit_12 (by decide) ?_
      refine g_put (fs' := [.int (nI 1), .ref 143, .int (nI (s 4)), .int (nI (s 7)), .int (nI (s 8)), .ref 144, .int (nI (s 5)), .int (nI (s 6)), .ref 145, .int (nI (s 9)), .int (nI (s 10)), .int (nI (s 11)), .int (nI (s 12)), .ref 146, .int (nI k), .ref 147, .int (nI m), .int (nI sg), .int (nI cm), .int (nI sd), .ref 148, .ref 149, .ref 150, .ref 151, .int (nI mm), .ref 152, .ref 153, .ref 154, .int (nI dr), .int (nI dd), .int (nI bk), .int wt, .ref 155, .int (nI rt), .ref 156, .ref 157, .ref 158, .ref 159, .ref 160, .ref 161, .ref 162, .ref 163, .ref 164, .ref 165, .ref 166]) dX11_digit_40 fX11_1 m0 (Nat.le_of_ble_eq_true rfl) rfl rfl rfl ?_
      refine g_aload_n dX11_digit_43 rfl rfl ?_
      refine g_getf (v := .int (nI 1)) dX11_digit_44 fX11_1 g_eq rfl ?_
      refine g_if_leN (tgt := 52) dX11_digit_47 (by decide) (by decide) (fun c47 => ?_) (fun c47 => ?_)
      · exact absurd c47 (by decide)
      · refine g_iconst (v := nI 0) dX11_digit_50 (by decide) ?_
        have ek : k_digit sg k x = 1 := (by unfold k_digit; (repeat' split) <;> first | rfl | (exfalso; simp only [i_lt, i_le, i_eq, it0, itm, ifp, nI_toInt (show 0 < 2147483648 by first | decide | omega), nI_toInt (show 1 < 2147483648 by first | decide | omega), nI_toInt (show 9 < 2147483648 by first | decide | omega)] at * <;> omega))
        exact e_i dX11_digit_51 rfl rfl (g_fr.rf.up (by simp)) (Or.inl ⟨by rw [ek]; decide, by rw [ek]; exact g_eq, g_fr.rf.up (by simp)⟩) (by decide) (by decide)
set_option maxHeartbeats 4000000 in
set_option maxRecDepth 100000 in
theorem lp_mcoins (G : gG) (R : Room) (KK : gK) (n : Nat) (ex : Bool) (h0 : gH) {wt : Int32} {s : Nat → Nat} {k m sg cm sd mm dr dd bk rt : Nat} {c : Nat → Nat} {q : Nat} {x : Int32} (hq : q ≤ 32) (hmq : m + q ≤ 4000) (kk : ∀ (h : gH) (c' : Nat → Nat), Mc h (nI 0) s k (m + (q - 0)) sg cm sd mm dr dd bk rt wt → h 147 = some (.inl (1, 4000, .inl (fun k => nI (c' k)))) → (∀ k, k < m + (q - 0) → c' k = ca c m q x k) → (∀ k, c' k ≤ 1) → g_fr [142, 147] h0 h → g_W G mX11_coins R KK n ex h 0 0 81 [(3, .int (nI 0 - nI 1)), (0, .ref 142), (1, .int x), (2, .int (nI q))] []) : ∀ (j : Nat) (h : gH) (c' : Nat → Nat), j ≤ q → Mc h (nI 0) s k (m + (q - j)) sg cm sd mm dr dd bk rt wt → h 147 = some (.inl (1, 4000, .inl (fun k => nI (c' k)))) → (∀ k, k < m + (q - j) → c' k = ca c m q x k) → (∀ k, c' k ≤ 1) → g_fr [142, 147] h0 h →
    g_W G mX11_coins R KK n ex h 0 0 39 [(3, .int (nI j - nI 1)), (0, .ref 142), (1, .int x), (2, .int (nI q))] [] := by
  intro j
  induction j with
  | zero =>
    intro h c' hj m0 a7 hI hc hf
    refine g_iload_n dX11_coins_39 rfl rfl ?_
    refine g_if_lt (tgt := 81) dX11_coins_40 (by decide) (fun c40 => ?_) (fun c40 => ?_)
    · exact kk _ c' m0 a7 hI hc hf
    · exact absurd (show nI 0 - nI 1 < 0 by decide) c40
  | succ j ih =>
    intro h c' hj m0 a7 hI hc hf
    rw [nI_pr]
    refine g_iload_n dX11_coins_39 rfl rfl ?_
    refine g_if_ltN (tgt := 81) dX11_coins_40 (by decide) (by omega) (fun c40 => ?_) (fun c40 => ?_)
    · exact c40.elim
    · refine g_aload_n dX11_coins_43 rfl rfl ?_
      refine g_getf (v := .int (nI 0)) dX11_coins_44 fX11_1 m0 rfl ?_
      refine g_if_neN (tgt := 81) dX11_coins_47 (by decide) (by decide) (fun c47 => ?_) (fun c47 => ?_)
      · exact absurd c47 (by decide)
      · refine g_aload_n dX11_coins_50 rfl rfl ?_
        refine g_getf (v := .ref 147) dX11_coins_51 fX11_45 m0 rfl ?_
        refine g_aload_n dX11_coins_54 rfl rfl ?_
        refine g_getf (v := .int (nI (m + (q - (j + 1))))) dX11_coins_55 fX11_247 m0 rfl ?_
        refine g_iload_n dX11_coins_58 rfl rfl ?_
        refine g_iload_n dX11_coins_59 rfl rfl ?_
        refine g_ishr dX11_coins_60 ?_
        refine g_iconst (v := nI 1) dX11_coins_61 (by decide) ?_
        refine g_iand dX11_coins_62 ?_
        refine g_top (show (x >>> ((nI j) &&& 31)) &&& (nI 1) = nI (un x / 2 ^ j % 2) from sbit _ (by omega)) ?_
        refine g_i2b dX11_coins_63 ?_
        refine g_top (show (nI (un x / 2 ^ j % 2)).toInt8.toInt32 = nI (un x / 2 ^ j % 2) from i2b_nI (by omega)) ?_
        refine g_bastN dX11_coins_64 a7 (by omega) (by decide) ?_
        rw [nar_b (by omega), upd_nI]
        refine g_aload_n dX11_coins_65 rfl rfl ?_
        refine g_dup dX11_coins_66 rfl ?_
        refine g_getf (v := .int (nI (m + (q - (j + 1))))) dX11_coins_67 fX11_247 (g_ne (by decide) m0) rfl ?_
        refine g_iconst (v := nI 1) dX11_coins_70 (by decide) ?_
        refine g_iaddN dX11_coins_71 ?_
        refine g_put (fs' := [.int (nI 0), .ref 143, .int (nI (s 4)), .int (nI (s 7)), .int (nI (s 8)), .ref 144, .int (nI (s 5)), .int (nI (s 6)), .ref 145, .int (nI (s 9)), .int (nI (s 10)), .int (nI (s 11)), .int (nI (s 12)), .ref 146, .int (nI k), .ref 147, .int (nI ((m + (q - (j + 1))) + 1)), .int (nI sg), .int (nI cm), .int (nI sd), .ref 148, .ref 149, .ref 150, .ref 151, .int (nI mm), .ref 152, .ref 153, .ref 154, .int (nI dr), .int (nI dd), .int (nI bk), .int wt, .ref 155, .int (nI rt), .ref 156, .ref 157, .ref 158, .ref 159, .ref 160, .ref 161, .ref 162, .ref 163, .ref 164, .ref 165, .ref 166]) dX11_coins_72 fX11_247 (g_ne (by decide) m0) (Nat.le_of_ble_eq_true rfl) rfl rfl rfl ?_
        refine g_iinc (v := nI j - nI 1) (ls' := [(3, .int (nI j - nI 1)), (0, .ref 142), (1, .int x), (2, .int (nI q))]) dX11_coins_75 rfl (nI_dec _) (by decide) rfl ?_
        refine g_goto (tgt := 39) dX11_coins_78 (by decide) ?_
        refine g_pick [0, 1, 2, 3] (ls' := [(3, .int (nI j - nI 1)), (0, .ref 142), (1, .int x), (2, .int (nI q))]) rfl ?_
        have em : m + (q - (j + 1)) + 1 = m + (q - j) := by omega
        refine ih _ (va_up c' (m + (q - (j + 1))) (un x / 2 ^ j % 2)) (by omega) (by rw [← em]; exact g_eq) (g_ne (by decide) g_eq) (fun k hk => ?_) (up_le hc (by omega)) ((hf.up (by simp)).up (by simp))
        by_cases z : k = m + (q - (j + 1))
        · rw [z, va_s]
          unfold ca
          rw [if_neg (by omega), show q - 1 - (m + (q - (j + 1)) - m) = j by omega]
        · rw [va_n z]; exact hI k (by omega)
set_option maxHeartbeats 4000000 in
set_option maxRecDepth 100000 in
theorem c_mcoins (G : gG) (d n : Nat) (ex : Bool) (h : gH) {cd wt : Int32} {s : Nat → Nat} {k m sg cm sd mm dr dd bk rt : Nat} {c : Nat → Nat} {x y : Int32} (m0 : Mc h cd s k m sg cm sd mm dr dd bk rt wt) (a7 : h 147 = some (.inl (1, 4000, .inl (fun k => nI (c k))))) (hc1 : ∀ k, c k ≤ 1) (hm : m ≤ 4000) : g_M G mX11_coins d 0 0 [.ref 142, .int x, .int y] n ex h (q_i n ex [142, 147] h (fun r h' => (¬ k_coins m y = 0 ∧ Mc h' (nI (k_coins m y)) s k m sg cm sd mm dr dd bk rt wt ∧ g_fr [142] h h') ∨ (k_coins m y = 0 ∧ r = nI (m + un y) ∧ ∃ c' : Nat → Nat, Mc h' (nI (k_coins m y)) s k (m + un y) sg cm sd mm dr dd bk rt wt ∧ h' 147 = some (.inl (1, 4000, .inl (fun k => nI (c' k)))) ∧ (∀ k, k < m + un y → c' k = ca c m (un y) x k) ∧ ∀ k, c' k ≤ 1))) := by
  refine g_enter (by decide) (Nat.le_of_ble_eq_true rfl) ?_
  show g_W G _ _ _ n ex h 0 0 0 [(0, .ref 142), (1, .int x), (2, .int y)] []
  refine g_aload_n dX11_coins_0 rfl rfl ?_
  refine g_iload_n dX11_coins_1 rfl rfl ?_
  refine g_if_lt (tgt := 11) dX11_coins_2 (by decide) (fun c2 => ?_) (fun c2 => ?_)
  · refine g_iconst (v := nI 1) dX11_coins_11 (by decide) ?_
    refine g_goto (tgt := 32) dX11_coins_12 (by decide) ?_
    refine g_put (fs' := [.int (nI 1), .ref 143, .int (nI (s 4)), .int (nI (s 7)), .int (nI (s 8)), .ref 144, .int (nI (s 5)), .int (nI (s 6)), .ref 145, .int (nI (s 9)), .int (nI (s 10)), .int (nI (s 11)), .int (nI (s 12)), .ref 146, .int (nI k), .ref 147, .int (nI m), .int (nI sg), .int (nI cm), .int (nI sd), .ref 148, .ref 149, .ref 150, .ref 151, .int (nI mm), .ref 152, .ref 153, .ref 154, .int (nI dr), .int (nI dd), .int (nI bk), .int wt, .ref 155, .int (nI rt), .ref 156, .ref 157, .ref 158, .ref 159, .ref 160, .ref 161, .ref 162, .ref 163, .ref 164, .ref 165, .ref 166]) dX11_coins_32 fX11_1 m0 (Nat.le_of_ble_eq_true rfl) rfl rfl rfl ?_
    refine g_iload_n dX11_coins_35 rfl rfl ?_
    refine g_iconst (v := nI 1) dX11_coins_36 (by decide) ?_
    refine g_isub dX11_coins_37 ?_
    refine g_istore_n (ls' := [(3, .int (y - (nI 1))), (0, .ref 142), (1, .int x), (2, .int y)]) dX11_coins_38 rfl (by decide) rfl ?_
    refine g_iload_n dX11_coins_39 rfl rfl ?_
    refine g_if_lt (tgt := 81) dX11_coins_40 (by decide) (fun c40 => ?_) (fun c40 => ?_)
    · refine g_aload_n dX11_coins_81 rfl rfl ?_
      refine g_getf (v := .int (nI 1)) dX11_coins_82 fX11_1 g_eq rfl ?_
      refine g_if_leN (tgt := 92) dX11_coins_85 (by decide) (by decide) (fun c85 => ?_) (fun c85 => ?_)
      · exact absurd c85 (by decide)
      · refine g_iconst (v := nI 0) dX11_coins_88 (by decide) ?_
        refine g_goto (tgt := 96) dX11_coins_89 (by decide) ?_
        have ek : k_coins m y = 1 := (by have hu_y := un_b y; unfold k_coins; (repeat' split) <;> first | rfl | (exfalso; simp only [i_lt, i_le, i_eq, it0, itm, ifp, nI_toInt (show 0 < 2147483648 by first | decide | omega), nI_toInt (show 1 < 2147483648 by first | decide | omega), nI_toInt (show 32 < 2147483648 by first | decide | omega)] at * <;> omega))
        exact e_i dX11_coins_96 rfl rfl (g_fr.rf.up (by simp)) (Or.inl ⟨by rw [ek]; decide, by rw [ek]; exact g_eq, g_fr.rf.up (by simp)⟩) (by decide) (by decide)
    · refine g_aload_n dX11_coins_43 rfl rfl ?_
      refine g_getf (v := .int (nI 1)) dX11_coins_44 fX11_1 g_eq rfl ?_
      refine g_if_neN (tgt := 81) dX11_coins_47 (by decide) (by decide) (fun c47 => ?_) (fun c47 => ?_)
      · refine g_aload_n dX11_coins_81 rfl rfl ?_
        refine g_getf (v := .int (nI 1)) dX11_coins_82 fX11_1 g_eq rfl ?_
        refine g_if_leN (tgt := 92) dX11_coins_85 (by decide) (by decide) (fun c85 => ?_) (fun c85 => ?_)
        · exact absurd c85 (by decide)
        · refine g_iconst (v := nI 0) dX11_coins_88 (by decide) ?_
          refine g_goto (tgt := 96) dX11_coins_89 (by decide) ?_
          have ek : k_coins m y = 1 := (by have hu_y := un_b y; unfold k_coins; (repeat' split) <;> first | rfl | (exfalso; simp only [i_lt, i_le, i_eq, it0, itm, ifp, nI_toInt (show 0 < 2147483648 by first | decide | omega), nI_toInt (show 1 < 2147483648 by first | decide | omega), nI_toInt (show 32 < 2147483648 by first | decide | omega)] at * <;> omega))
          exact e_i dX11_coins_96 rfl rfl (g_fr.rf.up (by simp)) (Or.inl ⟨by rw [ek]; decide, by rw [ek]; exact g_eq, g_fr.rf.up (by simp)⟩) (by decide) (by decide)
      · exact absurd c47 (by decide)
  · refine g_iload_n dX11_coins_5 rfl rfl ?_
    refine g_bipush (v := nI 32) dX11_coins_6 (by decide) ?_
    refine g_icmp_le (tgt := 15) dX11_coins_8 (by decide) (fun c8 => ?_) (fun c8 => ?_)
    · obtain ⟨q, hq1, hq2, rfl⟩ := nat_of (a := 0) (by decide) ⟨Int32.not_lt.mp c2, c8⟩ (by decide)
      have hqu := un_nI (show q < 4294967296 by omega)
      refine g_aload_n dX11_coins_15 rfl rfl ?_
      refine g_getf (v := .int (nI m)) dX11_coins_16 fX11_247 m0 rfl ?_
      refine g_iload_n dX11_coins_19 rfl rfl ?_
      refine g_iaddN dX11_coins_20 ?_
      refine g_sipush (v := nI 4000) dX11_coins_21 (by decide) ?_
      refine g_icmp_leN (tgt := 31) dX11_coins_24 (by decide) (by omega) (by omega) (fun c24 => ?_) (fun c24 => ?_)
      · refine g_iconst (v := nI 0) dX11_coins_31 (by decide) ?_
        refine g_put (fs' := [.int (nI 0), .ref 143, .int (nI (s 4)), .int (nI (s 7)), .int (nI (s 8)), .ref 144, .int (nI (s 5)), .int (nI (s 6)), .ref 145, .int (nI (s 9)), .int (nI (s 10)), .int (nI (s 11)), .int (nI (s 12)), .ref 146, .int (nI k), .ref 147, .int (nI m), .int (nI sg), .int (nI cm), .int (nI sd), .ref 148, .ref 149, .ref 150, .ref 151, .int (nI mm), .ref 152, .ref 153, .ref 154, .int (nI dr), .int (nI dd), .int (nI bk), .int wt, .ref 155, .int (nI rt), .ref 156, .ref 157, .ref 158, .ref 159, .ref 160, .ref 161, .ref 162, .ref 163, .ref 164, .ref 165, .ref 166]) dX11_coins_32 fX11_1 m0 (Nat.le_of_ble_eq_true rfl) rfl rfl rfl ?_
        refine g_iload_n dX11_coins_35 rfl rfl ?_
        refine g_iconst (v := nI 1) dX11_coins_36 (by decide) ?_
        refine g_isub dX11_coins_37 ?_
        refine g_istore_n (ls' := [(3, .int ((nI q) - (nI 1))), (0, .ref 142), (1, .int x), (2, .int (nI q))]) dX11_coins_38 rfl (by decide) rfl ?_
        have ek : k_coins m (nI q) = 0 := (by have hu__nI_q_ := un_b (nI q); unfold k_coins; (repeat' split) <;> first | rfl | (exfalso; simp only [i_lt, i_le, i_eq, it0, itm, ifp, nI_toInt (show 0 < 2147483648 by first | decide | omega), nI_toInt (show 1 < 2147483648 by first | decide | omega), nI_toInt (show 32 < 2147483648 by first | decide | omega), nI_toInt (show q < 2147483648 by first | decide | omega)] at * <;> omega))
        refine g_pick [0, 1, 2, 3] (ls' := [(3, .int ((nI q) - (nI 1))), (0, .ref 142), (1, .int x), (2, .int (nI q))]) rfl ?_
        refine lp_mcoins G _ _ n ex h (c := c) (by omega) (by omega) (fun h2 c2' xm0 xa7 xI xc xf => ?_) q _ c (Nat.le_refl _) (by rw [Nat.sub_self, Nat.add_zero]; exact g_eq) (g_ne (by decide) a7) (fun k hk => by unfold ca; rw [if_pos (by omega)]) hc1 (g_fr.rf.up (by simp))
        refine g_aload_n dX11_coins_81 rfl rfl ?_
        refine g_getf (v := .int (nI 0)) dX11_coins_82 fX11_1 xm0 rfl ?_
        refine g_if_leN (tgt := 92) dX11_coins_85 (by decide) (by decide) (fun c85 => ?_) (fun c85 => ?_)
        · refine g_aload_n dX11_coins_92 rfl rfl ?_
          refine g_getf (v := .int (nI (m + (q - 0)))) dX11_coins_93 fX11_247 xm0 rfl ?_
          exact e_i dX11_coins_96 rfl rfl xf (Or.inr ⟨ek, by rw [hqu, Nat.sub_zero], c2', by rw [ek, hqu]; exact xm0, xa7, fun k hk => xI k (by rw [hqu] at hk; omega) |>.trans (by rw [hqu]), xc⟩) (by decide) (by decide)
        · exact absurd c85 (by decide)
      · refine g_iconst (v := nI 2) dX11_coins_27 (by decide) ?_
        refine g_goto (tgt := 32) dX11_coins_28 (by decide) ?_
        refine g_put (fs' := [.int (nI 2), .ref 143, .int (nI (s 4)), .int (nI (s 7)), .int (nI (s 8)), .ref 144, .int (nI (s 5)), .int (nI (s 6)), .ref 145, .int (nI (s 9)), .int (nI (s 10)), .int (nI (s 11)), .int (nI (s 12)), .ref 146, .int (nI k), .ref 147, .int (nI m), .int (nI sg), .int (nI cm), .int (nI sd), .ref 148, .ref 149, .ref 150, .ref 151, .int (nI mm), .ref 152, .ref 153, .ref 154, .int (nI dr), .int (nI dd), .int (nI bk), .int wt, .ref 155, .int (nI rt), .ref 156, .ref 157, .ref 158, .ref 159, .ref 160, .ref 161, .ref 162, .ref 163, .ref 164, .ref 165, .ref 166]) dX11_coins_32 fX11_1 m0 (Nat.le_of_ble_eq_true rfl) rfl rfl rfl ?_
        refine g_iload_n dX11_coins_35 rfl rfl ?_
        refine g_iconst (v := nI 1) dX11_coins_36 (by decide) ?_
        refine g_isub dX11_coins_37 ?_
        refine g_istore_n (ls' := [(3, .int ((nI q) - (nI 1))), (0, .ref 142), (1, .int x), (2, .int (nI q))]) dX11_coins_38 rfl (by decide) rfl ?_
        refine g_iload_n dX11_coins_39 rfl rfl ?_
        refine g_if_lt (tgt := 81) dX11_coins_40 (by decide) (fun c40 => ?_) (fun c40 => ?_)
        · refine g_aload_n dX11_coins_81 rfl rfl ?_
          refine g_getf (v := .int (nI 2)) dX11_coins_82 fX11_1 g_eq rfl ?_
          refine g_if_leN (tgt := 92) dX11_coins_85 (by decide) (by decide) (fun c85 => ?_) (fun c85 => ?_)
          · exact absurd c85 (by decide)
          · refine g_iconst (v := nI 0) dX11_coins_88 (by decide) ?_
            refine g_goto (tgt := 96) dX11_coins_89 (by decide) ?_
            have ek : k_coins m (nI q) = 2 := (by have hu__nI_q_ := un_b (nI q); unfold k_coins; (repeat' split) <;> first | rfl | (exfalso; simp only [i_lt, i_le, i_eq, it0, itm, ifp, nI_toInt (show 0 < 2147483648 by first | decide | omega), nI_toInt (show 1 < 2147483648 by first | decide | omega), nI_toInt (show 32 < 2147483648 by first | decide | omega), nI_toInt (show q < 2147483648 by first | decide | omega)] at * <;> omega))
            exact e_i dX11_coins_96 rfl rfl (g_fr.rf.up (by simp)) (Or.inl ⟨by rw [ek]; decide, by rw [ek]; exact g_eq, g_fr.rf.up (by simp)⟩) (by decide) (by decide)
        · refine g_aload_n dX11_coins_43 rfl rfl ?_
          refine g_getf (v := .int (nI 2)) dX11_coins_44 fX11_1 g_eq rfl ?_
          refine g_if_neN (tgt := 81) dX11_coins_47 (by decide) (by decide) (fun c47 => ?_) (fun c47 => ?_)
          · refine g_aload_n dX11_coins_81 rfl rfl ?_
            refine g_getf (v := .int (nI 2)) dX11_coins_82 fX11_1 g_eq rfl ?_
            refine g_if_leN (tgt := 92) dX11_coins_85 (by decide) (by decide) (fun c85 => ?_) (fun c85 => ?_)
            · exact absurd c85 (by decide)
            · refine g_iconst (v := nI 0) dX11_coins_88 (by decide) ?_
              refine g_goto (tgt := 96) dX11_coins_89 (by decide) ?_
              have ek : k_coins m (nI q) = 2 := (by have hu__nI_q_ := un_b (nI q); unfold k_coins; (repeat' split) <;> first | rfl | (exfalso; simp only [i_lt, i_le, i_eq, it0, itm, ifp, nI_toInt (show 0 < 2147483648 by first | decide | omega), nI_toInt (show 1 < 2147483648 by first | decide | omega), nI_toInt (show 32 < 2147483648 by first | decide | omega), nI_toInt (show q < 2147483648 by first | decide | omega)] at * <;> omega))
              exact e_i dX11_coins_96 rfl rfl (g_fr.rf.up (by simp)) (Or.inl ⟨by rw [ek]; decide, by rw [ek]; exact g_eq, g_fr.rf.up (by simp)⟩) (by decide) (by decide)
          · exact absurd c47 (by decide)
    · refine g_iconst (v := nI 1) dX11_coins_11 (by decide) ?_
      refine g_goto (tgt := 32) dX11_coins_12 (by decide) ?_
      refine g_put (fs' := [.int (nI 1), .ref 143, .int (nI (s 4)), .int (nI (s 7)), .int (nI (s 8)), .ref 144, .int (nI (s 5)), .int (nI (s 6)), .ref 145, .int (nI (s 9)), .int (nI (s 10)), .int (nI (s 11)), .int (nI (s 12)), .ref 146, .int (nI k), .ref 147, .int (nI m), .int (nI sg), .int (nI cm), .int (nI sd), .ref 148, .ref 149, .ref 150, .ref 151, .int (nI mm), .ref 152, .ref 153, .ref 154, .int (nI dr), .int (nI dd), .int (nI bk), .int wt, .ref 155, .int (nI rt), .ref 156, .ref 157, .ref 158, .ref 159, .ref 160, .ref 161, .ref 162, .ref 163, .ref 164, .ref 165, .ref 166]) dX11_coins_32 fX11_1 m0 (Nat.le_of_ble_eq_true rfl) rfl rfl rfl ?_
      refine g_iload_n dX11_coins_35 rfl rfl ?_
      refine g_iconst (v := nI 1) dX11_coins_36 (by decide) ?_
      refine g_isub dX11_coins_37 ?_
      refine g_istore_n (ls' := [(3, .int (y - (nI 1))), (0, .ref 142), (1, .int x), (2, .int y)]) dX11_coins_38 rfl (by decide) rfl ?_
      refine g_iload_n dX11_coins_39 rfl rfl ?_
      refine g_if_lt (tgt := 81) dX11_coins_40 (by decide) (fun c40 => ?_) (fun c40 => ?_)
      · refine g_aload_n dX11_coins_81 rfl rfl ?_
        refine g_getf (v := .int (nI 1)) dX11_coins_82 fX11_1 g_eq rfl ?_
        refine g_if_leN (tgt := 92) dX11_coins_85 (by decide) (by decide) (fun c85 => ?_) (fun c85 => ?_)
        · exact absurd c85 (by decide)
        · refine g_iconst (v := nI 0) dX11_coins_88 (by decide) ?_
          refine g_goto (tgt := 96) dX11_coins_89 (by decide) ?_
          have ek : k_coins m y = 1 := (by have hu_y := un_b y; unfold k_coins; (repeat' split) <;> first | rfl | (exfalso; simp only [i_lt, i_le, i_eq, it0, itm, ifp, nI_toInt (show 0 < 2147483648 by first | decide | omega), nI_toInt (show 1 < 2147483648 by first | decide | omega), nI_toInt (show 32 < 2147483648 by first | decide | omega)] at * <;> omega))
          exact e_i dX11_coins_96 rfl rfl (g_fr.rf.up (by simp)) (Or.inl ⟨by rw [ek]; decide, by rw [ek]; exact g_eq, g_fr.rf.up (by simp)⟩) (by decide) (by decide)
      · refine g_aload_n dX11_coins_43 rfl rfl ?_
        refine g_getf (v := .int (nI 1)) dX11_coins_44 fX11_1 g_eq rfl ?_
        refine g_if_neN (tgt := 81) dX11_coins_47 (by decide) (by decide) (fun c47 => ?_) (fun c47 => ?_)
        · refine g_aload_n dX11_coins_81 rfl rfl ?_
          refine g_getf (v := .int (nI 1)) dX11_coins_82 fX11_1 g_eq rfl ?_
          refine g_if_leN (tgt := 92) dX11_coins_85 (by decide) (by decide) (fun c85 => ?_) (fun c85 => ?_)
          · exact absurd c85 (by decide)
          · refine g_iconst (v := nI 0) dX11_coins_88 (by decide) ?_
            refine g_goto (tgt := 96) dX11_coins_89 (by decide) ?_
            have ek : k_coins m y = 1 := (by have hu_y := un_b y; unfold k_coins; (repeat' split) <;> first | rfl | (exfalso; simp only [i_lt, i_le, i_eq, it0, itm, ifp, nI_toInt (show 0 < 2147483648 by first | decide | omega), nI_toInt (show 1 < 2147483648 by first | decide | omega), nI_toInt (show 32 < 2147483648 by first | decide | omega)] at * <;> omega))
            exact e_i dX11_coins_96 rfl rfl (g_fr.rf.up (by simp)) (Or.inl ⟨by rw [ek]; decide, by rw [ek]; exact g_eq, g_fr.rf.up (by simp)⟩) (by decide) (by decide)
        · exact absurd c47 (by decide)
