def oAns (i : Nat) (r : Int32) (c : Nat) (v wn df : Nat → Nat) (sg : Nat) (fr : Int32) : Prop := match i with
  | 0 => r = nI (v c)
  | 1 => r = nI (if sg = 0 ∨ wn c = 0 then 0 else 1)
  | 2 => r = nI (df c)
  | _ => r = fr
def pAns (i : Nat) (r : Int32) (k : Nat) (w l : Nat → Nat) (sw : Nat → Int32) : Prop := match i with
  | 0 => r = nI (w k)
  | 1 => r = nI (l k)
  | _ => r = sw k
def bAns (i : Nat) (r : Int32) (b B : Nat) (en : Nat → Nat) (r1 r2 : Int32) (r3 : Nat) : Prop := match i with
  | 0 => ∃ q, bo_P en B b q ∧ r = nI q
  | 1 => r = r1
  | 2 => r = r2
  | _ => r = nI r3
set_option maxHeartbeats 4000000 in
set_option maxRecDepth 100000 in
theorem c_mof (G : gG) (d n : Nat) (ex : Bool) (h : gH) {cd wt : Int32} {s : Nat → Nat} {k m sg cm sd mm dr dd bk rt : Nat} {v wn df ct : Nat → Nat} {x y : Int32} (m0 : Mc h cd s k m sg cm sd mm dr dd bk rt wt) (a3 : h 143 = some (.inl (0, 8, .inl (fun k => nI (v k))))) (b8 : h 148 = some (.inl (2, 8, .inl (fun k => nI (wn k))))) (b12 : h 152 = some (.inl (0, 8, .inl (fun k => nI (df k))))) (b15 : h 155 = some (.inl (0, 8, .inl (fun k => nI (ct k))))) (h4 : s 4 ≤ 8) (hwn : ∀ c, wn c ≤ 1) (hsg : sg < 2 ^ 31) : g_M G mX11_of d 0 0 [.ref 142, .int x, .int y] n ex h (q_i n ex [142] h (fun r h' => (¬ k_two (s 4) 4 x y = 0 ∧ Mc h' (nI (k_two (s 4) 4 x y)) s k m sg cm sd mm dr dd bk rt wt ∧ g_fr [142] h h') ∨ (k_two (s 4) 4 x y = 0 ∧ oAns (un y) r (un x) v wn df sg (nI (ct (un x)) - nI 1) ∧ Mc h' (nI (k_two (s 4) 4 x y)) s k m sg cm sd mm dr dd bk rt wt))) := by
  refine g_enter (by decide) (Nat.le_of_ble_eq_true rfl) ?_
  show g_W G _ _ _ n ex h 0 0 0 [(0, .ref 142), (1, .int x), (2, .int y)] []
  refine g_aload_n dX11_of_0 rfl rfl ?_
  refine g_iload_n dX11_of_1 rfl rfl ?_
  refine g_if_lt (tgt := 22) dX11_of_2 (by decide) (fun c2 => ?_) (fun c2 => ?_)
  · refine g_iconst (v := nI 1) dX11_of_22 (by decide) ?_
    refine g_goto (tgt := 27) dX11_of_23 (by decide) ?_
    refine g_put (fs' := [.int (nI 1), .ref 143, .int (nI (s 4)), .int (nI (s 7)), .int (nI (s 8)), .ref 144, .int (nI (s 5)), .int (nI (s 6)), .ref 145, .int (nI (s 9)), .int (nI (s 10)), .int (nI (s 11)), .int (nI (s 12)), .ref 146, .int (nI k), .ref 147, .int (nI m), .int (nI sg), .int (nI cm), .int (nI sd), .ref 148, .ref 149, .ref 150, .ref 151, .int (nI mm), .ref 152, .ref 153, .ref 154, .int (nI dr), .int (nI dd), .int (nI bk), .int wt, .ref 155, .int (nI rt), .ref 156, .ref 157, .ref 158, .ref 159, .ref 160, .ref 161, .ref 162, .ref 163, .ref 164, .ref 165, .ref 166]) dX11_of_27 fX11_1 m0 (Nat.le_of_ble_eq_true rfl) rfl rfl rfl ?_
    refine g_aload_n dX11_of_30 rfl rfl ?_
    refine g_getf (v := .int (nI 1)) dX11_of_31 fX11_1 g_eq rfl ?_
    refine g_if_leN (tgt := 41) dX11_of_34 (by decide) (by decide) (fun c34 => ?_) (fun c34 => ?_)
    · exact absurd c34 (by decide)
    · refine g_iconst (v := nI 0) dX11_of_37 (by decide) ?_
      refine g_goto (tgt := 105) dX11_of_38 (by decide) ?_
      have ek : k_two (s 4) 4 x y = 1 := (by unfold k_two; (repeat' split) <;> first | rfl | (exfalso; simp only [i_lt, i_le, i_eq, it0, itm, ifp, nI_toInt (show 0 < 2147483648 by first | decide | omega), nI_toInt (show 1 < 2147483648 by first | decide | omega), nI_toInt (show s 4 < 2147483648 by first | decide | omega), nI_toInt (show 4 < 2147483648 by first | decide | omega), nI_toInt (show 3 < 2147483648 by first | decide | omega)] at * <;> omega))
      exact e_i dX11_of_105 rfl rfl (g_fr.rf.up (by simp)) (Or.inl ⟨by rw [ek]; decide, by rw [ek]; exact g_eq, g_fr.rf.up (by simp)⟩) (by decide) (by decide)
  · refine g_iload_n dX11_of_5 rfl rfl ?_
    refine g_aload_n dX11_of_6 rfl rfl ?_
    refine g_getf (v := .int (nI (s 4))) dX11_of_7 fX11_234 m0 rfl ?_
    refine g_icmp_ge (tgt := 22) dX11_of_10 (by decide) (fun c10 => ?_) (fun c10 => ?_)
    · refine g_iconst (v := nI 1) dX11_of_22 (by decide) ?_
      refine g_goto (tgt := 27) dX11_of_23 (by decide) ?_
      refine g_put (fs' := [.int (nI 1), .ref 143, .int (nI (s 4)), .int (nI (s 7)), .int (nI (s 8)), .ref 144, .int (nI (s 5)), .int (nI (s 6)), .ref 145, .int (nI (s 9)), .int (nI (s 10)), .int (nI (s 11)), .int (nI (s 12)), .ref 146, .int (nI k), .ref 147, .int (nI m), .int (nI sg), .int (nI cm), .int (nI sd), .ref 148, .ref 149, .ref 150, .ref 151, .int (nI mm), .ref 152, .ref 153, .ref 154, .int (nI dr), .int (nI dd), .int (nI bk), .int wt, .ref 155, .int (nI rt), .ref 156, .ref 157, .ref 158, .ref 159, .ref 160, .ref 161, .ref 162, .ref 163, .ref 164, .ref 165, .ref 166]) dX11_of_27 fX11_1 m0 (Nat.le_of_ble_eq_true rfl) rfl rfl rfl ?_
      refine g_aload_n dX11_of_30 rfl rfl ?_
      refine g_getf (v := .int (nI 1)) dX11_of_31 fX11_1 g_eq rfl ?_
      refine g_if_leN (tgt := 41) dX11_of_34 (by decide) (by decide) (fun c34 => ?_) (fun c34 => ?_)
      · exact absurd c34 (by decide)
      · refine g_iconst (v := nI 0) dX11_of_37 (by decide) ?_
        refine g_goto (tgt := 105) dX11_of_38 (by decide) ?_
        have ek : k_two (s 4) 4 x y = 1 := (by unfold k_two; (repeat' split) <;> first | rfl | (exfalso; simp only [i_lt, i_le, i_eq, it0, itm, ifp, nI_toInt (show 0 < 2147483648 by first | decide | omega), nI_toInt (show 1 < 2147483648 by first | decide | omega), nI_toInt (show s 4 < 2147483648 by first | decide | omega), nI_toInt (show 4 < 2147483648 by first | decide | omega), nI_toInt (show 3 < 2147483648 by first | decide | omega)] at * <;> omega))
        exact e_i dX11_of_105 rfl rfl (g_fr.rf.up (by simp)) (Or.inl ⟨by rw [ek]; decide, by rw [ek]; exact g_eq, g_fr.rf.up (by simp)⟩) (by decide) (by decide)
    · refine g_iload_n dX11_of_13 rfl rfl ?_
      refine g_if_lt (tgt := 22) dX11_of_14 (by decide) (fun c14 => ?_) (fun c14 => ?_)
      · refine g_iconst (v := nI 1) dX11_of_22 (by decide) ?_
        refine g_goto (tgt := 27) dX11_of_23 (by decide) ?_
        refine g_put (fs' := [.int (nI 1), .ref 143, .int (nI (s 4)), .int (nI (s 7)), .int (nI (s 8)), .ref 144, .int (nI (s 5)), .int (nI (s 6)), .ref 145, .int (nI (s 9)), .int (nI (s 10)), .int (nI (s 11)), .int (nI (s 12)), .ref 146, .int (nI k), .ref 147, .int (nI m), .int (nI sg), .int (nI cm), .int (nI sd), .ref 148, .ref 149, .ref 150, .ref 151, .int (nI mm), .ref 152, .ref 153, .ref 154, .int (nI dr), .int (nI dd), .int (nI bk), .int wt, .ref 155, .int (nI rt), .ref 156, .ref 157, .ref 158, .ref 159, .ref 160, .ref 161, .ref 162, .ref 163, .ref 164, .ref 165, .ref 166]) dX11_of_27 fX11_1 m0 (Nat.le_of_ble_eq_true rfl) rfl rfl rfl ?_
        refine g_aload_n dX11_of_30 rfl rfl ?_
        refine g_getf (v := .int (nI 1)) dX11_of_31 fX11_1 g_eq rfl ?_
        refine g_if_leN (tgt := 41) dX11_of_34 (by decide) (by decide) (fun c34 => ?_) (fun c34 => ?_)
        · exact absurd c34 (by decide)
        · refine g_iconst (v := nI 0) dX11_of_37 (by decide) ?_
          refine g_goto (tgt := 105) dX11_of_38 (by decide) ?_
          have ek : k_two (s 4) 4 x y = 1 := (by unfold k_two; (repeat' split) <;> first | rfl | (exfalso; simp only [i_lt, i_le, i_eq, it0, itm, ifp, nI_toInt (show 0 < 2147483648 by first | decide | omega), nI_toInt (show 1 < 2147483648 by first | decide | omega), nI_toInt (show s 4 < 2147483648 by first | decide | omega), nI_toInt (show 4 < 2147483648 by first | decide | omega), nI_toInt (show 3 < 2147483648 by first | decide | omega)] at * <;> omega))
          exact e_i dX11_of_105 rfl rfl (g_fr.rf.up (by simp)) (Or.inl ⟨by rw [ek]; decide, by rw [ek]; exact g_eq, g_fr.rf.up (by simp)⟩) (by decide) (by decide)
      · refine g_iload_n dX11_of_17 rfl rfl ?_
        refine g_iconst (v := nI 3) dX11_of_18 (by decide) ?_
        refine g_icmp_le (tgt := 26) dX11_of_19 (by decide) (fun c19 => ?_) (fun c19 => ?_)
        · obtain ⟨a, ha1, rfl⟩ := nat0 c2
          have hau := un_nI (show a < 4294967296 by omega)
          obtain ⟨i, hi1, rfl⟩ := nat0 c14
          have hiu := un_nI (show i < 4294967296 by omega)
          refine g_iconst (v := nI 0) dX11_of_26 (by decide) ?_
          refine g_put (fs' := [.int (nI 0), .ref 143, .int (nI (s 4)), .int (nI (s 7)), .int (nI (s 8)), .ref 144, .int (nI (s 5)), .int (nI (s 6)), .ref 145, .int (nI (s 9)), .int (nI (s 10)), .int (nI (s 11)), .int (nI (s 12)), .ref 146, .int (nI k), .ref 147, .int (nI m), .int (nI sg), .int (nI cm), .int (nI sd), .ref 148, .ref 149, .ref 150, .ref 151, .int (nI mm), .ref 152, .ref 153, .ref 154, .int (nI dr), .int (nI dd), .int (nI bk), .int wt, .ref 155, .int (nI rt), .ref 156, .ref 157, .ref 158, .ref 159, .ref 160, .ref 161, .ref 162, .ref 163, .ref 164, .ref 165, .ref 166]) dX11_of_27 fX11_1 m0 (Nat.le_of_ble_eq_true rfl) rfl rfl rfl ?_
          refine g_aload_n dX11_of_30 rfl rfl ?_
          refine g_getf (v := .int (nI 0)) dX11_of_31 fX11_1 g_eq rfl ?_
          refine g_if_leN (tgt := 41) dX11_of_34 (by decide) (by decide) (fun c34 => ?_) (fun c34 => ?_)
          · have ha9 : a < s 4 := by have := c10; simp only [i_le, i_lt, nI_toInt (show s 4 < 2147483648 by omega), nI_toInt (show a < 2147483648 by omega)] at this; omega
            have hi9 : i < 4 := by have := c19; simp only [i_le, i_lt, nI_toInt (show 3 < 2147483648 by decide), nI_toInt (show i < 2147483648 by omega)] at this; omega
            refine g_iload_n dX11_of_41 rfl rfl ?_
            refine g_if_neN (tgt := 54) dX11_of_42 (by decide) (by omega) (fun c42 => ?_) (fun c42 => ?_)
            · refine g_iload_n dX11_of_54 rfl rfl ?_
              refine g_iconst (v := nI 1) dX11_of_55 (by decide) ?_
              refine g_icmp_neN (tgt := 83) dX11_of_56 (by decide) (by omega) (by omega) (fun c56 => ?_) (fun c56 => ?_)
              · refine g_iload_n dX11_of_83 rfl rfl ?_
                refine g_iconst (v := nI 2) dX11_of_84 (by decide) ?_
                refine g_icmp_neN (tgt := 97) dX11_of_85 (by decide) (by omega) (by omega) (fun c85 => ?_) (fun c85 => ?_)
                · refine g_aload_n dX11_of_97 rfl rfl ?_
                  refine g_getf (v := .ref 155) dX11_of_98 fX11_73 g_eq rfl ?_
                  refine g_iload_n dX11_of_101 rfl rfl ?_
                  refine g_ialdN dX11_of_102 (g_ne (by decide) b15) (by omega) (by decide) ?_
                  refine g_iconst (v := nI 1) dX11_of_103 (by decide) ?_
                  refine g_isub dX11_of_104 ?_
                  have ek : k_two (s 4) 4 (nI a) (nI i) = 0 := (by unfold k_two; (repeat' split) <;> first | rfl | (exfalso; simp only [i_lt, i_le, i_eq, it0, itm, ifp, nI_toInt (show 0 < 2147483648 by first | decide | omega), nI_toInt (show 1 < 2147483648 by first | decide | omega), nI_toInt (show s 4 < 2147483648 by first | decide | omega), nI_toInt (show 4 < 2147483648 by first | decide | omega), nI_toInt (show 3 < 2147483648 by first | decide | omega), nI_toInt (show a < 2147483648 by first | decide | omega), nI_toInt (show i < 2147483648 by first | decide | omega)] at * <;> omega))
                  have ha9 : a < s 4 := by have := c10; simp only [i_le, i_lt, nI_toInt (show s 4 < 2147483648 by omega), nI_toInt (show a < 2147483648 by omega)] at this; omega
                  exact e_i dX11_of_105 rfl rfl (g_fr.rf.up (by simp)) (Or.inr ⟨ek, by rw [hau, hiu, show i = 3 by omega]; exact rfl, by rw [ek]; exact g_eq⟩) (by decide) (by decide)
                · refine g_aload_n dX11_of_88 rfl rfl ?_
                  refine g_getf (v := .ref 152) dX11_of_89 fX11_61 g_eq rfl ?_
                  refine g_iload_n dX11_of_92 rfl rfl ?_
                  refine g_ialdN dX11_of_93 (g_ne (by decide) b12) (by omega) (by decide) ?_
                  refine g_goto (tgt := 105) dX11_of_94 (by decide) ?_
                  have ek : k_two (s 4) 4 (nI a) (nI i) = 0 := (by unfold k_two; (repeat' split) <;> first | rfl | (exfalso; simp only [i_lt, i_le, i_eq, it0, itm, ifp, nI_toInt (show 0 < 2147483648 by first | decide | omega), nI_toInt (show 1 < 2147483648 by first | decide | omega), nI_toInt (show s 4 < 2147483648 by first | decide | omega), nI_toInt (show 4 < 2147483648 by first | decide | omega), nI_toInt (show 3 < 2147483648 by first | decide | omega), nI_toInt (show a < 2147483648 by first | decide | omega), nI_toInt (show i < 2147483648 by first | decide | omega)] at * <;> omega))
                  have ha9 : a < s 4 := by have := c10; simp only [i_le, i_lt, nI_toInt (show s 4 < 2147483648 by omega), nI_toInt (show a < 2147483648 by omega)] at this; omega
                  exact e_i dX11_of_105 rfl rfl (g_fr.rf.up (by simp)) (Or.inr ⟨ek, by rw [hau, hiu, c85]; exact rfl, by rw [ek]; exact g_eq⟩) (by decide) (by decide)
              · refine g_aload_n dX11_of_59 rfl rfl ?_
                refine g_getf (v := .ref 148) dX11_of_60 fX11_48 g_eq rfl ?_
                refine g_iload_n dX11_of_63 rfl rfl ?_
                refine g_zaldN dX11_of_64 (g_ne (by decide) b8) (by omega) (by decide) ?_
                refine g_if_eqN (tgt := 79) dX11_of_65 (by decide) (by have := hwn a; omega) (fun c65 => ?_) (fun c65 => ?_)
                · refine g_iconst (v := nI 0) dX11_of_79 (by decide) ?_
                  refine g_goto (tgt := 105) dX11_of_80 (by decide) ?_
                  have ek : k_two (s 4) 4 (nI a) (nI i) = 0 := (by unfold k_two; (repeat' split) <;> first | rfl | (exfalso; simp only [i_lt, i_le, i_eq, it0, itm, ifp, nI_toInt (show 0 < 2147483648 by first | decide | omega), nI_toInt (show 1 < 2147483648 by first | decide | omega), nI_toInt (show s 4 < 2147483648 by first | decide | omega), nI_toInt (show 4 < 2147483648 by first | decide | omega), nI_toInt (show 3 < 2147483648 by first | decide | omega), nI_toInt (show a < 2147483648 by first | decide | omega), nI_toInt (show i < 2147483648 by first | decide | omega)] at * <;> omega))
                  have ha9 : a < s 4 := by have := c10; simp only [i_le, i_lt, nI_toInt (show s 4 < 2147483648 by omega), nI_toInt (show a < 2147483648 by omega)] at this; omega
                  exact e_i dX11_of_105 rfl rfl (g_fr.rf.up (by simp)) (Or.inr ⟨ek, by rw [hau, hiu, c56]; exact (by show nI _ = nI (if _ then 0 else 1); rw [if_pos (Or.inr c65)]), by rw [ek]; exact g_eq⟩) (by decide) (by decide)
                · refine g_aload_n dX11_of_68 rfl rfl ?_
                  refine g_getf (v := .int (nI sg)) dX11_of_69 fX11_231 g_eq rfl ?_
                  refine g_if_eqN (tgt := 79) dX11_of_72 (by decide) (by omega) (fun c72 => ?_) (fun c72 => ?_)
                  · refine g_iconst (v := nI 0) dX11_of_79 (by decide) ?_
                    refine g_goto (tgt := 105) dX11_of_80 (by decide) ?_
                    have ek : k_two (s 4) 4 (nI a) (nI i) = 0 := (by unfold k_two; (repeat' split) <;> first | rfl | (exfalso; simp only [i_lt, i_le, i_eq, it0, itm, ifp, nI_toInt (show 0 < 2147483648 by first | decide | omega), nI_toInt (show 1 < 2147483648 by first | decide | omega), nI_toInt (show s 4 < 2147483648 by first | decide | omega), nI_toInt (show 4 < 2147483648 by first | decide | omega), nI_toInt (show 3 < 2147483648 by first | decide | omega), nI_toInt (show a < 2147483648 by first | decide | omega), nI_toInt (show i < 2147483648 by first | decide | omega)] at * <;> omega))
                    have ha9 : a < s 4 := by have := c10; simp only [i_le, i_lt, nI_toInt (show s 4 < 2147483648 by omega), nI_toInt (show a < 2147483648 by omega)] at this; omega
                    exact e_i dX11_of_105 rfl rfl (g_fr.rf.up (by simp)) (Or.inr ⟨ek, by rw [hau, hiu, c56]; exact (by show nI _ = nI (if _ then 0 else 1); rw [if_pos (Or.inl c72)]), by rw [ek]; exact g_eq⟩) (by decide) (by decide)
                  · refine g_iconst (v := nI 1) dX11_of_75 (by decide) ?_
                    refine g_goto (tgt := 105) dX11_of_76 (by decide) ?_
                    have ek : k_two (s 4) 4 (nI a) (nI i) = 0 := (by unfold k_two; (repeat' split) <;> first | rfl | (exfalso; simp only [i_lt, i_le, i_eq, it0, itm, ifp, nI_toInt (show 0 < 2147483648 by first | decide | omega), nI_toInt (show 1 < 2147483648 by first | decide | omega), nI_toInt (show s 4 < 2147483648 by first | decide | omega), nI_toInt (show 4 < 2147483648 by first | decide | omega), nI_toInt (show 3 < 2147483648 by first | decide | omega), nI_toInt (show a < 2147483648 by first | decide | omega), nI_toInt (show i < 2147483648 by first | decide | omega)] at * <;> omega))
                    have ha9 : a < s 4 := by have := c10; simp only [i_le, i_lt, nI_toInt (show s 4 < 2147483648 by omega), nI_toInt (show a < 2147483648 by omega)] at this; omega
                    exact e_i dX11_of_105 rfl rfl (g_fr.rf.up (by simp)) (Or.inr ⟨ek, by rw [hau, hiu, c56]; exact (by show nI _ = nI (if _ then 0 else 1); rw [if_neg (fun q => q.elim (fun z => c72 z) (fun z => c65 z))]), by rw [ek]; exact g_eq⟩) (by decide) (by decide)
            · refine g_aload_n dX11_of_45 rfl rfl ?_
              refine g_getf (v := .ref 143) dX11_of_46 fX11_13 g_eq rfl ?_
              refine g_iload_n dX11_of_49 rfl rfl ?_
              refine g_ialdN dX11_of_50 (g_ne (by decide) a3) (by omega) (by decide) ?_
              refine g_goto (tgt := 105) dX11_of_51 (by decide) ?_
              have ek : k_two (s 4) 4 (nI a) (nI i) = 0 := (by unfold k_two; (repeat' split) <;> first | rfl | (exfalso; simp only [i_lt, i_le, i_eq, it0, itm, ifp, nI_toInt (show 0 < 2147483648 by first | decide | omega), nI_toInt (show 1 < 2147483648 by first | decide | omega), nI_toInt (show s 4 < 2147483648 by first | decide | omega), nI_toInt (show 4 < 2147483648 by first | decide | omega), nI_toInt (show 3 < 2147483648 by first | decide | omega), nI_toInt (show a < 2147483648 by first | decide | omega), nI_toInt (show i < 2147483648 by first | decide | omega)] at * <;> omega))
              have ha9 : a < s 4 := by have := c10; simp only [i_le, i_lt, nI_toInt (show s 4 < 2147483648 by omega), nI_toInt (show a < 2147483648 by omega)] at this; omega
              exact e_i dX11_of_105 rfl rfl (g_fr.rf.up (by simp)) (Or.inr ⟨ek, by rw [hau, hiu, c42]; exact rfl, by rw [ek]; exact g_eq⟩) (by decide) (by decide)
          · exact absurd c34 (by decide)
        · refine g_iconst (v := nI 1) dX11_of_22 (by decide) ?_
          refine g_goto (tgt := 27) dX11_of_23 (by decide) ?_
          refine g_put (fs' := [.int (nI 1), .ref 143, .int (nI (s 4)), .int (nI (s 7)), .int (nI (s 8)), .ref 144, .int (nI (s 5)), .int (nI (s 6)), .ref 145, .int (nI (s 9)), .int (nI (s 10)), .int (nI (s 11)), .int (nI (s 12)), .ref 146, .int (nI k), .ref 147, .int (nI m), .int (nI sg), .int (nI cm), .int (nI sd), .ref 148, .ref 149, .ref 150, .ref 151, .int (nI mm), .ref 152, .ref 153, .ref 154, .int (nI dr), .int (nI dd), .int (nI bk), .int wt, .ref 155, .int (nI rt), .ref 156, .ref 157, .ref 158, .ref 159, .ref 160, .ref 161, .ref 162, .ref 163, .ref 164, .ref 165, .ref 166]) dX11_of_27 fX11_1 m0 (Nat.le_of_ble_eq_true rfl) rfl rfl rfl ?_
          refine g_aload_n dX11_of_30 rfl rfl ?_
          refine g_getf (v := .int (nI 1)) dX11_of_31 fX11_1 g_eq rfl ?_
          refine g_if_leN (tgt := 41) dX11_of_34 (by decide) (by decide) (fun c34 => ?_) (fun c34 => ?_)
          · exact absurd c34 (by decide)
          · refine g_iconst (v := nI 0) dX11_of_37 (by decide) ?_
            refine g_goto (tgt := 105) dX11_of_38 (by decide) ?_
            have ek : k_two (s 4) 4 x y = 1 := (by unfold k_two; (repeat' split) <;> first | rfl | (exfalso; simp only [i_lt, i_le, i_eq, it0, itm, ifp, nI_toInt (show 0 < 2147483648 by first | decide | omega), nI_toInt (show 1 < 2147483648 by first | decide | omega), nI_toInt (show s 4 < 2147483648 by first | decide | omega), nI_toInt (show 4 < 2147483648 by first | decide | omega), nI_toInt (show 3 < 2147483648 by first | decide | omega)] at * <;> omega))
            exact e_i dX11_of_105 rfl rfl (g_fr.rf.up (by simp)) (Or.inl ⟨by rw [ek]; decide, by rw [ek]; exact g_eq, g_fr.rf.up (by simp)⟩) (by decide) (by decide)
set_option maxHeartbeats 4000000 in
set_option maxRecDepth 100000 in
theorem c_mpair (G : gG) (d n : Nat) (ex : Bool) (h : gH) {cd wt : Int32} {s : Nat → Nat} {k m sg cm sd mm dr dd bk rt : Nat} {w l : Nat → Nat} {sw : Nat → Int32} {x y : Int32} (m0 : Mc h cd s k m sg cm sd mm dr dd bk rt wt) (a9 : h 149 = some (.inl (0, 16, .inl (fun k => nI (w k))))) (a10 : h 150 = some (.inl (0, 16, .inl (fun k => nI (l k))))) (a11 : h 151 = some (.inl (0, 16, .inl sw))) (hmm : mm ≤ 16) : g_M G mX11_pair d 0 0 [.ref 142, .int x, .int y] n ex h (q_i n ex [142] h (fun r h' => (¬ k_two mm 3 x y = 0 ∧ Mc h' (nI (k_two mm 3 x y)) s k m sg cm sd mm dr dd bk rt wt ∧ g_fr [142] h h') ∨ (k_two mm 3 x y = 0 ∧ pAns (un y) r (un x) w l sw ∧ Mc h' (nI (k_two mm 3 x y)) s k m sg cm sd mm dr dd bk rt wt))) := by
  refine g_enter (by decide) (Nat.le_of_ble_eq_true rfl) ?_
  show g_W G _ _ _ n ex h 0 0 0 [(0, .ref 142), (1, .int x), (2, .int y)] []
  refine g_aload_n dX11_pair_0 rfl rfl ?_
  refine g_iload_n dX11_pair_1 rfl rfl ?_
  refine g_if_lt (tgt := 22) dX11_pair_2 (by decide) (fun c2 => ?_) (fun c2 => ?_)
  · refine g_iconst (v := nI 1) dX11_pair_22 (by decide) ?_
    refine g_goto (tgt := 27) dX11_pair_23 (by decide) ?_
    refine g_put (fs' := [.int (nI 1), .ref 143, .int (nI (s 4)), .int (nI (s 7)), .int (nI (s 8)), .ref 144, .int (nI (s 5)), .int (nI (s 6)), .ref 145, .int (nI (s 9)), .int (nI (s 10)), .int (nI (s 11)), .int (nI (s 12)), .ref 146, .int (nI k), .ref 147, .int (nI m), .int (nI sg), .int (nI cm), .int (nI sd), .ref 148, .ref 149, .ref 150, .ref 151, .int (nI mm), .ref 152, .ref 153, .ref 154, .int (nI dr), .int (nI dd), .int (nI bk), .int wt, .ref 155, .int (nI rt), .ref 156, .ref 157, .ref 158, .ref 159, .ref 160, .ref 161, .ref 162, .ref 163, .ref 164, .ref 165, .ref 166]) dX11_pair_27 fX11_1 m0 (Nat.le_of_ble_eq_true rfl) rfl rfl rfl ?_
    refine g_aload_n dX11_pair_30 rfl rfl ?_
    refine g_getf (v := .int (nI 1)) dX11_pair_31 fX11_1 g_eq rfl ?_
    refine g_if_leN (tgt := 41) dX11_pair_34 (by decide) (by decide) (fun c34 => ?_) (fun c34 => ?_)
    · exact absurd c34 (by decide)
    · refine g_iconst (v := nI 0) dX11_pair_37 (by decide) ?_
      refine g_goto (tgt := 74) dX11_pair_38 (by decide) ?_
      have ek : k_two mm 3 x y = 1 := (by unfold k_two; (repeat' split) <;> first | rfl | (exfalso; simp only [i_lt, i_le, i_eq, it0, itm, ifp, nI_toInt (show 0 < 2147483648 by first | decide | omega), nI_toInt (show 1 < 2147483648 by first | decide | omega), nI_toInt (show mm < 2147483648 by first | decide | omega), nI_toInt (show 3 < 2147483648 by first | decide | omega), nI_toInt (show 2 < 2147483648 by first | decide | omega)] at * <;> omega))
      exact e_i dX11_pair_74 rfl rfl (g_fr.rf.up (by simp)) (Or.inl ⟨by rw [ek]; decide, by rw [ek]; exact g_eq, g_fr.rf.up (by simp)⟩) (by decide) (by decide)
  · refine g_iload_n dX11_pair_5 rfl rfl ?_
    refine g_aload_n dX11_pair_6 rfl rfl ?_
    refine g_getf (v := .int (nI mm)) dX11_pair_7 fX11_250 m0 rfl ?_
    refine g_icmp_ge (tgt := 22) dX11_pair_10 (by decide) (fun c10 => ?_) (fun c10 => ?_)
    · refine g_iconst (v := nI 1) dX11_pair_22 (by decide) ?_
      refine g_goto (tgt := 27) dX11_pair_23 (by decide) ?_
      refine g_put (fs' := [.int (nI 1), .ref 143, .int (nI (s 4)), .int (nI (s 7)), .int (nI (s 8)), .ref 144, .int (nI (s 5)), .int (nI (s 6)), .ref 145, .int (nI (s 9)), .int (nI (s 10)), .int (nI (s 11)), .int (nI (s 12)), .ref 146, .int (nI k), .ref 147, .int (nI m), .int (nI sg), .int (nI cm), .int (nI sd), .ref 148, .ref 149, .ref 150, .ref 151, .int (nI mm), .ref 152, .ref 153, .ref 154, .int (nI dr), .int (nI dd), .int (nI bk), .int wt, .ref 155, .int (nI rt), .ref 156, .ref 157, .ref 158, .ref 159, .ref 160, .ref 161, .ref 162, .ref 163, .ref 164, .ref 165, .ref 166]) dX11_pair_27 fX11_1 m0 (Nat.le_of_ble_eq_true rfl) rfl rfl rfl ?_
      refine g_aload_n dX11_pair_30 rfl rfl ?_
      refine g_getf (v := .int (nI 1)) dX11_pair_31 fX11_1 g_eq rfl ?_
      refine g_if_leN (tgt := 41) dX11_pair_34 (by decide) (by decide) (fun c34 => ?_) (fun c34 => ?_)
      · exact absurd c34 (by decide)
      · refine g_iconst (v := nI 0) dX11_pair_37 (by decide) ?_
        refine g_goto (tgt := 74) dX11_pair_38 (by decide) ?_
        have ek : k_two mm 3 x y = 1 := (by unfold k_two; (repeat' split) <;> first | rfl | (exfalso; simp only [i_lt, i_le, i_eq, it0, itm, ifp, nI_toInt (show 0 < 2147483648 by first | decide | omega), nI_toInt (show 1 < 2147483648 by first | decide | omega), nI_toInt (show mm < 2147483648 by first | decide | omega), nI_toInt (show 3 < 2147483648 by first | decide | omega), nI_toInt (show 2 < 2147483648 by first | decide | omega)] at * <;> omega))
        exact e_i dX11_pair_74 rfl rfl (g_fr.rf.up (by simp)) (Or.inl ⟨by rw [ek]; decide, by rw [ek]; exact g_eq, g_fr.rf.up (by simp)⟩) (by decide) (by decide)
    · refine g_iload_n dX11_pair_13 rfl rfl ?_
      refine g_if_lt (tgt := 22) dX11_pair_14 (by decide) (fun c14 => ?_) (fun c14 => ?_)
      · refine g_iconst (v := nI 1) dX11_pair_22 (by decide) ?_
        refine g_goto (tgt := 27) dX11_pair_23 (by decide) ?_
        refine g_put (fs' := [.int (nI 1), .ref 143, .int (nI (s 4)), .int (nI (s 7)), .int (nI (s 8)), .ref 144, .int (nI (s 5)), .int (nI (s 6)), .ref 145, .int (nI (s 9)), .int (nI (s 10)), .int (nI (s 11)), .int (nI (s 12)), .ref 146, .int (nI k), .ref 147, .int (nI m), .int (nI sg), .int (nI cm), .int (nI sd), .ref 148, .ref 149, .ref 150, .ref 151, .int (nI mm), .ref 152, .ref 153, .ref 154, .int (nI dr), .int (nI dd), .int (nI bk), .int wt, .ref 155, .int (nI rt), .ref 156, .ref 157, .ref 158, .ref 159, .ref 160, .ref 161, .ref 162, .ref 163, .ref 164, .ref 165, .ref 166]) dX11_pair_27 fX11_1 m0 (Nat.le_of_ble_eq_true rfl) rfl rfl rfl ?_
        refine g_aload_n dX11_pair_30 rfl rfl ?_
        refine g_getf (v := .int (nI 1)) dX11_pair_31 fX11_1 g_eq rfl ?_
        refine g_if_leN (tgt := 41) dX11_pair_34 (by decide) (by decide) (fun c34 => ?_) (fun c34 => ?_)
        · exact absurd c34 (by decide)
        · refine g_iconst (v := nI 0) dX11_pair_37 (by decide) ?_
          refine g_goto (tgt := 74) dX11_pair_38 (by decide) ?_
          have ek : k_two mm 3 x y = 1 := (by unfold k_two; (repeat' split) <;> first | rfl | (exfalso; simp only [i_lt, i_le, i_eq, it0, itm, ifp, nI_toInt (show 0 < 2147483648 by first | decide | omega), nI_toInt (show 1 < 2147483648 by first | decide | omega), nI_toInt (show mm < 2147483648 by first | decide | omega), nI_toInt (show 3 < 2147483648 by first | decide | omega), nI_toInt (show 2 < 2147483648 by first | decide | omega)] at * <;> omega))
          exact e_i dX11_pair_74 rfl rfl (g_fr.rf.up (by simp)) (Or.inl ⟨by rw [ek]; decide, by rw [ek]; exact g_eq, g_fr.rf.up (by simp)⟩) (by decide) (by decide)
      · refine g_iload_n dX11_pair_17 rfl rfl ?_
        refine g_iconst (v := nI 2) dX11_pair_18 (by decide) ?_
        refine g_icmp_le (tgt := 26) dX11_pair_19 (by decide) (fun c19 => ?_) (fun c19 => ?_)
        · obtain ⟨a, ha1, rfl⟩ := nat0 c2
          have hau := un_nI (show a < 4294967296 by omega)
          obtain ⟨i, hi1, rfl⟩ := nat0 c14
          have hiu := un_nI (show i < 4294967296 by omega)
          refine g_iconst (v := nI 0) dX11_pair_26 (by decide) ?_
          refine g_put (fs' := [.int (nI 0), .ref 143, .int (nI (s 4)), .int (nI (s 7)), .int (nI (s 8)), .ref 144, .int (nI (s 5)), .int (nI (s 6)), .ref 145, .int (nI (s 9)), .int (nI (s 10)), .int (nI (s 11)), .int (nI (s 12)), .ref 146, .int (nI k), .ref 147, .int (nI m), .int (nI sg), .int (nI cm), .int (nI sd), .ref 148, .ref 149, .ref 150, .ref 151, .int (nI mm), .ref 152, .ref 153, .ref 154, .int (nI dr), .int (nI dd), .int (nI bk), .int wt, .ref 155, .int (nI rt), .ref 156, .ref 157, .ref 158, .ref 159, .ref 160, .ref 161, .ref 162, .ref 163, .ref 164, .ref 165, .ref 166]) dX11_pair_27 fX11_1 m0 (Nat.le_of_ble_eq_true rfl) rfl rfl rfl ?_
          refine g_aload_n dX11_pair_30 rfl rfl ?_
          refine g_getf (v := .int (nI 0)) dX11_pair_31 fX11_1 g_eq rfl ?_
          refine g_if_leN (tgt := 41) dX11_pair_34 (by decide) (by decide) (fun c34 => ?_) (fun c34 => ?_)
          · have ha9 : a < mm := by have := c10; simp only [i_le, i_lt, nI_toInt (show mm < 2147483648 by omega), nI_toInt (show a < 2147483648 by omega)] at this; omega
            have hi9 : i < 3 := by have := c19; simp only [i_le, i_lt, nI_toInt (show 2 < 2147483648 by decide), nI_toInt (show i < 2147483648 by omega)] at this; omega
            refine g_iload_n dX11_pair_41 rfl rfl ?_
            refine g_if_neN (tgt := 54) dX11_pair_42 (by decide) (by omega) (fun c42 => ?_) (fun c42 => ?_)
            · refine g_iload_n dX11_pair_54 rfl rfl ?_
              refine g_iconst (v := nI 1) dX11_pair_55 (by decide) ?_
              refine g_icmp_neN (tgt := 68) dX11_pair_56 (by decide) (by omega) (by omega) (fun c56 => ?_) (fun c56 => ?_)
              · refine g_aload_n dX11_pair_68 rfl rfl ?_
                refine g_getf (v := .ref 151) dX11_pair_69 fX11_58 g_eq rfl ?_
                refine g_iload_n dX11_pair_72 rfl rfl ?_
                refine g_ialdN dX11_pair_73 (g_ne (by decide) a11) (by omega) (by decide) ?_
                have ek : k_two mm 3 (nI a) (nI i) = 0 := (by unfold k_two; (repeat' split) <;> first | rfl | (exfalso; simp only [i_lt, i_le, i_eq, it0, itm, ifp, nI_toInt (show 0 < 2147483648 by first | decide | omega), nI_toInt (show 1 < 2147483648 by first | decide | omega), nI_toInt (show mm < 2147483648 by first | decide | omega), nI_toInt (show 3 < 2147483648 by first | decide | omega), nI_toInt (show 2 < 2147483648 by first | decide | omega), nI_toInt (show a < 2147483648 by first | decide | omega), nI_toInt (show i < 2147483648 by first | decide | omega)] at * <;> omega))
                have ha9 : a < mm := by have := c10; simp only [i_le, i_lt, nI_toInt (show mm < 2147483648 by omega), nI_toInt (show a < 2147483648 by omega)] at this; omega
                exact e_i dX11_pair_74 rfl rfl (g_fr.rf.up (by simp)) (Or.inr ⟨ek, by rw [hau, hiu, show i = 2 by omega]; exact rfl, by rw [ek]; exact g_eq⟩) (by decide) (by decide)
              · refine g_aload_n dX11_pair_59 rfl rfl ?_
                refine g_getf (v := .ref 150) dX11_pair_60 fX11_55 g_eq rfl ?_
                refine g_iload_n dX11_pair_63 rfl rfl ?_
                refine g_ialdN dX11_pair_64 (g_ne (by decide) a10) (by omega) (by decide) ?_
                refine g_goto (tgt := 74) dX11_pair_65 (by decide) ?_
                have ek : k_two mm 3 (nI a) (nI i) = 0 := (by unfold k_two; (repeat' split) <;> first | rfl | (exfalso; simp only [i_lt, i_le, i_eq, it0, itm, ifp, nI_toInt (show 0 < 2147483648 by first | decide | omega), nI_toInt (show 1 < 2147483648 by first | decide | omega), nI_toInt (show mm < 2147483648 by first | decide | omega), nI_toInt (show 3 < 2147483648 by first | decide | omega), nI_toInt (show 2 < 2147483648 by first | decide | omega), nI_toInt (show a < 2147483648 by first | decide | omega), nI_toInt (show i < 2147483648 by first | decide | omega)] at * <;> omega))
                have ha9 : a < mm := by have := c10; simp only [i_le, i_lt, nI_toInt (show mm < 2147483648 by omega), nI_toInt (show a < 2147483648 by omega)] at this; omega
                exact e_i dX11_pair_74 rfl rfl (g_fr.rf.up (by simp)) (Or.inr ⟨ek, by rw [hau, hiu, c56]; exact rfl, by rw [ek]; exact g_eq⟩) (by decide) (by decide)
            · refine g_aload_n dX11_pair_45 rfl rfl ?_
              refine g_getf (v := .ref 149) dX11_pair_46 fX11_52 g_eq rfl ?_
              refine g_iload_n dX11_pair_49 rfl rfl ?_
              refine g_ialdN dX11_pair_50 (g_ne (by decide) a9) (by omega) (by decide) ?_
              refine g_goto (tgt := 74) dX11_pair_51 (by decide) ?_
              have ek : k_two mm 3 (nI a) (nI i) = 0 := (by unfold k_two; (repeat' split) <;> first | rfl | (exfalso; simp only [i_lt, i_le, i_eq, it0, itm, ifp, nI_toInt (show 0 < 2147483648 by first | decide | omega), nI_toInt (show 1 < 2147483648 by first | decide | omega), nI_toInt (show mm < 2147483648 by first | decide | omega), nI_toInt (show 3 < 2147483648 by first | decide | omega), nI_toInt (show 2 < 2147483648 by first | decide | omega), nI_toInt (show a < 2147483648 by first | decide | omega), nI_toInt (show i < 2147483648 by first | decide | omega)] at * <;> omega))
              have ha9 : a < mm := by have := c10; simp only [i_le, i_lt, nI_toInt (show mm < 2147483648 by omega), nI_toInt (show a < 2147483648 by omega)] at this; omega
              exact e_i dX11_pair_74 rfl rfl (g_fr.rf.up (by simp)) (Or.inr ⟨ek, by rw [hau, hiu, c42]; exact rfl, by rw [ek]; exact g_eq⟩) (by decide) (by decide)
          · exact absurd c34 (by decide)
        · refine g_iconst (v := nI 1) dX11_pair_22 (by decide) ?_
          refine g_goto (tgt := 27) dX11_pair_23 (by decide) ?_
          refine g_put (fs' := [.int (nI 1), .ref 143, .int (nI (s 4)), .int (nI (s 7)), .int (nI (s 8)), .ref 144, .int (nI (s 5)), .int (nI (s 6)), .ref 145, .int (nI (s 9)), .int (nI (s 10)), .int (nI (s 11)), .int (nI (s 12)), .ref 146, .int (nI k), .ref 147, .int (nI m), .int (nI sg), .int (nI cm), .int (nI sd), .ref 148, .ref 149, .ref 150, .ref 151, .int (nI mm), .ref 152, .ref 153, .ref 154, .int (nI dr), .int (nI dd), .int (nI bk), .int wt, .ref 155, .int (nI rt), .ref 156, .ref 157, .ref 158, .ref 159, .ref 160, .ref 161, .ref 162, .ref 163, .ref 164, .ref 165, .ref 166]) dX11_pair_27 fX11_1 m0 (Nat.le_of_ble_eq_true rfl) rfl rfl rfl ?_
          refine g_aload_n dX11_pair_30 rfl rfl ?_
          refine g_getf (v := .int (nI 1)) dX11_pair_31 fX11_1 g_eq rfl ?_
          refine g_if_leN (tgt := 41) dX11_pair_34 (by decide) (by decide) (fun c34 => ?_) (fun c34 => ?_)
          · exact absurd c34 (by decide)
          · refine g_iconst (v := nI 0) dX11_pair_37 (by decide) ?_
            refine g_goto (tgt := 74) dX11_pair_38 (by decide) ?_
            have ek : k_two mm 3 x y = 1 := (by unfold k_two; (repeat' split) <;> first | rfl | (exfalso; simp only [i_lt, i_le, i_eq, it0, itm, ifp, nI_toInt (show 0 < 2147483648 by first | decide | omega), nI_toInt (show 1 < 2147483648 by first | decide | omega), nI_toInt (show mm < 2147483648 by first | decide | omega), nI_toInt (show 3 < 2147483648 by first | decide | omega), nI_toInt (show 2 < 2147483648 by first | decide | omega)] at * <;> omega))
            exact e_i dX11_pair_74 rfl rfl (g_fr.rf.up (by simp)) (Or.inl ⟨by rw [ek]; decide, by rw [ek]; exact g_eq, g_fr.rf.up (by simp)⟩) (by decide) (by decide)
set_option maxHeartbeats 4000000 in
set_option maxRecDepth 100000 in
theorem lp_mballot (G : gG) (R : Room) (KK : gK) (n : Nat) (ex : Bool) (h : gH) {cd wt : Int32} {s : Nat → Nat} {k m sg cm sd mm dr dd bk rt : Nat} {bf : Nat → Nat} {a i : Nat} (m0 : Mc h cd s k m sg cm sd mm dr dd bk rt wt) (a4 : h 144 = some (.inl (0, 65, .inl (fun k => nI (bf k))))) (hbf : ∀ k, bf k < 2 ^ 31) (h5 : s 5 ≤ 64) (ha : a < 2 ^ 31) (kk : ∀ q, bo_P (fun j => bf (j + 1)) (s 5) a q → g_W G mX11_ballot R KK n ex h 0 0 69 [(3, .int (nI q)), (0, .ref 142), (1, .int (nI a)), (2, .int (nI i))] []) : ∀ (t q : Nat), 65 - q < t → q ≤ 64 → (∀ k, k < q → k + 1 < s 5 ∧ bf (k + 1) ≤ a) →
    g_W G mX11_ballot R KK n ex h 0 0 41 [(3, .int (nI q)), (0, .ref 142), (1, .int (nI a)), (2, .int (nI i))] [] := by
  intro t
  induction t with
  | zero => intro q hm; exact absurd hm (by omega)
  | succ t ih =>
    intro q ht hq hI
    refine g_iload_n dX11_ballot_41 rfl rfl ?_
    refine g_iconst (v := nI 1) dX11_ballot_42 (by decide) ?_
    refine g_iaddN dX11_ballot_43 ?_
    refine g_aload_n dX11_ballot_44 rfl rfl ?_
    refine g_getf (v := .int (nI (s 5))) dX11_ballot_45 fX11_237 m0 rfl ?_
    refine g_icmp_geN (tgt := 69) dX11_ballot_48 (by decide) (by omega) (by omega) (fun c48 => ?_) (fun c48 => ?_)
    · refine g_pick [0, 1, 2, 3] (ls' := [(3, .int (nI q)), (0, .ref 142), (1, .int (nI a)), (2, .int (nI i))]) rfl ?_
      exact kk q ⟨hI, fun z => by have z2 : bf (q + 1) ≤ a := z.2; have z1 := z.1; omega⟩
    · refine g_aload_n dX11_ballot_51 rfl rfl ?_
      refine g_getf (v := .ref 144) dX11_ballot_52 fX11_23 m0 rfl ?_
      refine g_iload_n dX11_ballot_55 rfl rfl ?_
      refine g_iconst (v := nI 1) dX11_ballot_56 (by decide) ?_
      refine g_iaddN dX11_ballot_57 ?_
      refine g_ialdN dX11_ballot_58 a4 (by omega) (by decide) ?_
      refine g_iload_n dX11_ballot_59 rfl rfl ?_
      refine g_icmp_gtN (tgt := 69) dX11_ballot_60 (by decide) (hbf _) (by omega) (fun c60 => ?_) (fun c60 => ?_)
      · refine g_pick [0, 1, 2, 3] (ls' := [(3, .int (nI q)), (0, .ref 142), (1, .int (nI a)), (2, .int (nI i))]) rfl ?_
        exact kk q ⟨hI, fun z => by have z2 : bf (q + 1) ≤ a := z.2; have z1 := z.1; omega⟩
      · refine g_iincN (z := 1) (ls' := [(3, .int (nI (q + 1))), (0, .ref 142), (1, .int (nI a)), (2, .int (nI i))]) dX11_ballot_63 rfl (by decide) rfl ?_
        refine g_goto (tgt := 41) dX11_ballot_66 (by decide) ?_
        refine g_pick [0, 1, 2, 3] (ls' := [(3, .int (nI (q + 1))), (0, .ref 142), (1, .int (nI a)), (2, .int (nI i))]) rfl ?_
        exact ih (q + 1) (by omega) (by omega) (fun k hk => by by_cases z : k = q; (subst z; exact ⟨by omega, c60⟩); exact hI k (by omega))
set_option maxHeartbeats 4000000 in
set_option maxRecDepth 100000 in
theorem c_mballot (G : gG) (d n : Nat) (ex : Bool) (h : gH) {cd wt : Int32} {s : Nat → Nat} {k m sg cm sd mm dr dd bk rt : Nat} {bf ti : Nat → Nat} {rI sI : Nat → Int32} {x y : Int32} (m0 : Mc h cd s k m sg cm sd mm dr dd bk rt wt) (a4 : h 144 = some (.inl (0, 65, .inl (fun k => nI (bf k))))) (a5 : h 145 = some (.inl (1, 20000, .inl rI))) (a13 : h 153 = some (.inl (1, 20000, .inl sI))) (a14 : h 154 = some (.inl (0, 20000, .inl (fun k => nI (ti k))))) (hbf : ∀ k, bf k < 2 ^ 31) (h5 : s 5 ≤ 64) (h6 : s 6 ≤ 20000) : g_M G mX11_ballot d 0 0 [.ref 142, .int x, .int y] n ex h (q_i n ex [142] h (fun r h' => (¬ k_two (s 6) 4 x y = 0 ∧ Mc h' (nI (k_two (s 6) 4 x y)) s k m sg cm sd mm dr dd bk rt wt ∧ g_fr [142] h h') ∨ (k_two (s 6) 4 x y = 0 ∧ bAns (un y) r (un x) (s 5) (fun j => bf (j + 1)) (rI (un x)) (sI (un x)) (ti (un x)) ∧ Mc h' (nI (k_two (s 6) 4 x y)) s k m sg cm sd mm dr dd bk rt wt))) := by
  refine g_enter (by decide) (Nat.le_of_ble_eq_true rfl) ?_
  show g_W G _ _ _ n ex h 0 0 0 [(0, .ref 142), (1, .int x), (2, .int y)] []
  refine g_aload_n dX11_ballot_0 rfl rfl ?_
  refine g_iload_n dX11_ballot_1 rfl rfl ?_
  refine g_if_lt (tgt := 22) dX11_ballot_2 (by decide) (fun c2 => ?_) (fun c2 => ?_)
  · refine g_iconst (v := nI 1) dX11_ballot_22 (by decide) ?_
    refine g_goto (tgt := 27) dX11_ballot_23 (by decide) ?_
    refine g_put (fs' := [.int (nI 1), .ref 143, .int (nI (s 4)), .int (nI (s 7)), .int (nI (s 8)), .ref 144, .int (nI (s 5)), .int (nI (s 6)), .ref 145, .int (nI (s 9)), .int (nI (s 10)), .int (nI (s 11)), .int (nI (s 12)), .ref 146, .int (nI k), .ref 147, .int (nI m), .int (nI sg), .int (nI cm), .int (nI sd), .ref 148, .ref 149, .ref 150, .ref 151, .int (nI mm), .ref 152, .ref 153, .ref 154, .int (nI dr), .int (nI dd), .int (nI bk), .int wt, .ref 155, .int (nI rt), .ref 156, .ref 157, .ref 158, .ref 159, .ref 160, .ref 161, .ref 162, .ref 163, .ref 164, .ref 165, .ref 166]) dX11_ballot_27 fX11_1 m0 (Nat.le_of_ble_eq_true rfl) rfl rfl rfl ?_
    refine g_aload_n dX11_ballot_30 rfl rfl ?_
    refine g_getf (v := .int (nI 1)) dX11_ballot_31 fX11_1 g_eq rfl ?_
    refine g_if_leN (tgt := 39) dX11_ballot_34 (by decide) (by decide) (fun c34 => ?_) (fun c34 => ?_)
    · exact absurd c34 (by decide)
    · refine g_iconst (v := nI 0) dX11_ballot_37 (by decide) ?_
      have ek : k_two (s 6) 4 x y = 1 := (by unfold k_two; (repeat' split) <;> first | rfl | (exfalso; simp only [i_lt, i_le, i_eq, it0, itm, ifp, nI_toInt (show 0 < 2147483648 by first | decide | omega), nI_toInt (show 1 < 2147483648 by first | decide | omega), nI_toInt (show s 6 < 2147483648 by first | decide | omega), nI_toInt (show 4 < 2147483648 by first | decide | omega), nI_toInt (show 3 < 2147483648 by first | decide | omega)] at * <;> omega))
      exact e_i dX11_ballot_38 rfl rfl (g_fr.rf.up (by simp)) (Or.inl ⟨by rw [ek]; decide, by rw [ek]; exact g_eq, g_fr.rf.up (by simp)⟩) (by decide) (by decide)
  · refine g_iload_n dX11_ballot_5 rfl rfl ?_
    refine g_aload_n dX11_ballot_6 rfl rfl ?_
    refine g_getf (v := .int (nI (s 6))) dX11_ballot_7 fX11_240 m0 rfl ?_
    refine g_icmp_ge (tgt := 22) dX11_ballot_10 (by decide) (fun c10 => ?_) (fun c10 => ?_)
    · refine g_iconst (v := nI 1) dX11_ballot_22 (by decide) ?_
      refine g_goto (tgt := 27) dX11_ballot_23 (by decide) ?_
      refine g_put (fs' := [.int (nI 1), .ref 143, .int (nI (s 4)), .int (nI (s 7)), .int (nI (s 8)), .ref 144, .int (nI (s 5)), .int (nI (s 6)), .ref 145, .int (nI (s 9)), .int (nI (s 10)), .int (nI (s 11)), .int (nI (s 12)), .ref 146, .int (nI k), .ref 147, .int (nI m), .int (nI sg), .int (nI cm), .int (nI sd), .ref 148, .ref 149, .ref 150, .ref 151, .int (nI mm), .ref 152, .ref 153, .ref 154, .int (nI dr), .int (nI dd), .int (nI bk), .int wt, .ref 155, .int (nI rt), .ref 156, .ref 157, .ref 158, .ref 159, .ref 160, .ref 161, .ref 162, .ref 163, .ref 164, .ref 165, .ref 166]) dX11_ballot_27 fX11_1 m0 (Nat.le_of_ble_eq_true rfl) rfl rfl rfl ?_
      refine g_aload_n dX11_ballot_30 rfl rfl ?_
      refine g_getf (v := .int (nI 1)) dX11_ballot_31 fX11_1 g_eq rfl ?_
      refine g_if_leN (tgt := 39) dX11_ballot_34 (by decide) (by decide) (fun c34 => ?_) (fun c34 => ?_)
      · exact absurd c34 (by decide)
      · refine g_iconst (v := nI 0) dX11_ballot_37 (by decide) ?_
        have ek : k_two (s 6) 4 x y = 1 := (by unfold k_two; (repeat' split) <;> first | rfl | (exfalso; simp only [i_lt, i_le, i_eq, it0, itm, ifp, nI_toInt (show 0 < 2147483648 by first | decide | omega), nI_toInt (show 1 < 2147483648 by first | decide | omega), nI_toInt (show s 6 < 2147483648 by first | decide | omega), nI_toInt (show 4 < 2147483648 by first | decide | omega), nI_toInt (show 3 < 2147483648 by first | decide | omega)] at * <;> omega))
        exact e_i dX11_ballot_38 rfl rfl (g_fr.rf.up (by simp)) (Or.inl ⟨by rw [ek]; decide, by rw [ek]; exact g_eq, g_fr.rf.up (by simp)⟩) (by decide) (by decide)
    · refine g_iload_n dX11_ballot_13 rfl rfl ?_
      refine g_if_lt (tgt := 22) dX11_ballot_14 (by decide) (fun c14 => ?_) (fun c14 => ?_)
      · refine g_iconst (v := nI 1) dX11_ballot_22 (by decide) ?_
        refine g_goto (tgt := 27) dX11_ballot_23 (by decide) ?_
        refine g_put (fs' := [.int (nI 1), .ref 143, .int (nI (s 4)), .int (nI (s 7)), .int (nI (s 8)), .ref 144, .int (nI (s 5)), .int (nI (s 6)), .ref 145, .int (nI (s 9)), .int (nI (s 10)), .int (nI (s 11)), .int (nI (s 12)), .ref 146, .int (nI k), .ref 147, .int (nI m), .int (nI sg), .int (nI cm), .int (nI sd), .ref 148, .ref 149, .ref 150, .ref 151, .int (nI mm), .ref 152, .ref 153, .ref 154, .int (nI dr), .int (nI dd), .int (nI bk), .int wt, .ref 155, .int (nI rt), .ref 156, .ref 157, .ref 158, .ref 159, .ref 160, .ref 161, .ref 162, .ref 163, .ref 164, .ref 165, .ref 166]) dX11_ballot_27 fX11_1 m0 (Nat.le_of_ble_eq_true rfl) rfl rfl rfl ?_
        refine g_aload_n dX11_ballot_30 rfl rfl ?_
        refine g_getf (v := .int (nI 1)) dX11_ballot_31 fX11_1 g_eq rfl ?_
        refine g_if_leN (tgt := 39) dX11_ballot_34 (by decide) (by decide) (fun c34 => ?_) (fun c34 => ?_)
        · exact absurd c34 (by decide)
        · refine g_iconst (v := nI 0) dX11_ballot_37 (by decide) ?_
          have ek : k_two (s 6) 4 x y = 1 := (by unfold k_two; (repeat' split) <;> first | rfl | (exfalso; simp only [i_lt, i_le, i_eq, it0, itm, ifp, nI_toInt (show 0 < 2147483648 by first | decide | omega), nI_toInt (show 1 < 2147483648 by first | decide | omega), nI_toInt (show s 6 < 2147483648 by first | decide | omega), nI_toInt (show 4 < 2147483648 by first | decide | omega), nI_toInt (show 3 < 2147483648 by first | decide | omega)] at * <;> omega))
          exact e_i dX11_ballot_38 rfl rfl (g_fr.rf.up (by simp)) (Or.inl ⟨by rw [ek]; decide, by rw [ek]; exact g_eq, g_fr.rf.up (by simp)⟩) (by decide) (by decide)
      · refine g_iload_n dX11_ballot_17 rfl rfl ?_
        refine g_iconst (v := nI 3) dX11_ballot_18 (by decide) ?_
        refine g_icmp_le (tgt := 26) dX11_ballot_19 (by decide) (fun c19 => ?_) (fun c19 => ?_)
        · obtain ⟨a, ha1, rfl⟩ := nat0 c2
          have hau := un_nI (show a < 4294967296 by omega)
          obtain ⟨i, hi1, rfl⟩ := nat0 c14
          have hiu := un_nI (show i < 4294967296 by omega)
          refine g_iconst (v := nI 0) dX11_ballot_26 (by decide) ?_
          refine g_put (fs' := [.int (nI 0), .ref 143, .int (nI (s 4)), .int (nI (s 7)), .int (nI (s 8)), .ref 144, .int (nI (s 5)), .int (nI (s 6)), .ref 145, .int (nI (s 9)), .int (nI (s 10)), .int (nI (s 11)), .int (nI (s 12)), .ref 146, .int (nI k), .ref 147, .int (nI m), .int (nI sg), .int (nI cm), .int (nI sd), .ref 148, .ref 149, .ref 150, .ref 151, .int (nI mm), .ref 152, .ref 153, .ref 154, .int (nI dr), .int (nI dd), .int (nI bk), .int wt, .ref 155, .int (nI rt), .ref 156, .ref 157, .ref 158, .ref 159, .ref 160, .ref 161, .ref 162, .ref 163, .ref 164, .ref 165, .ref 166]) dX11_ballot_27 fX11_1 m0 (Nat.le_of_ble_eq_true rfl) rfl rfl rfl ?_
          refine g_aload_n dX11_ballot_30 rfl rfl ?_
          refine g_getf (v := .int (nI 0)) dX11_ballot_31 fX11_1 g_eq rfl ?_
          refine g_if_leN (tgt := 39) dX11_ballot_34 (by decide) (by decide) (fun c34 => ?_) (fun c34 => ?_)
          · refine g_iconst (v := nI 0) dX11_ballot_39 (by decide) ?_
            refine g_istore_n (ls' := [(3, .int (nI 0)), (0, .ref 142), (1, .int (nI a)), (2, .int (nI i))]) dX11_ballot_40 rfl (by decide) rfl ?_
            have ha9 : a < s 6 := by have := c10; simp only [i_le, i_lt, nI_toInt (show s 6 < 2147483648 by omega), nI_toInt (show a < 2147483648 by omega)] at this; omega
            have hi9 : i < 4 := by have := c19; simp only [i_le, i_lt, nI_toInt (show 3 < 2147483648 by decide), nI_toInt (show i < 2147483648 by omega)] at this; omega
            refine g_pick [0, 1, 2, 3] (ls' := [(3, .int (nI 0)), (0, .ref 142), (1, .int (nI a)), (2, .int (nI i))]) rfl ?_
            refine lp_mballot G _ _ n ex _ (cd := nI 0) (s := s) (k := k) (m := m) (sg := sg) (cm := cm) (sd := sd) (mm := mm) (dr := dr) (dd := dd) (bk := bk) (rt := rt) (wt := wt) g_eq (g_ne (by decide) a4) hbf h5 (by omega) (fun q hq => ?_) 66 0 (by omega) (by omega) (fun k hk => absurd hk (by omega))
            refine g_iload_n dX11_ballot_69 rfl rfl ?_
            refine g_if_neN (tgt := 77) dX11_ballot_70 (by decide) (by omega) (fun c70 => ?_) (fun c70 => ?_)
            · refine g_iload_n dX11_ballot_77 rfl rfl ?_
              refine g_iconst (v := nI 1) dX11_ballot_78 (by decide) ?_
              refine g_icmp_neN (tgt := 91) dX11_ballot_79 (by decide) (by omega) (by omega) (fun c79 => ?_) (fun c79 => ?_)
              · refine g_iload_n dX11_ballot_91 rfl rfl ?_
                refine g_iconst (v := nI 2) dX11_ballot_92 (by decide) ?_
                refine g_icmp_neN (tgt := 105) dX11_ballot_93 (by decide) (by omega) (by omega) (fun c93 => ?_) (fun c93 => ?_)
                · refine g_aload_n dX11_ballot_105 rfl rfl ?_
                  refine g_getf (v := .ref 154) dX11_ballot_106 fX11_67 g_eq rfl ?_
                  refine g_iload_n dX11_ballot_109 rfl rfl ?_
                  refine g_ialdN dX11_ballot_110 (g_ne (by decide) a14) (by omega) (by decide) ?_
                  have ek : k_two (s 6) 4 (nI a) (nI i) = 0 := (by unfold k_two; (repeat' split) <;> first | rfl | (exfalso; simp only [i_lt, i_le, i_eq, it0, itm, ifp, nI_toInt (show 0 < 2147483648 by first | decide | omega), nI_toInt (show 1 < 2147483648 by first | decide | omega), nI_toInt (show s 6 < 2147483648 by first | decide | omega), nI_toInt (show 4 < 2147483648 by first | decide | omega), nI_toInt (show 3 < 2147483648 by first | decide | omega), nI_toInt (show a < 2147483648 by first | decide | omega), nI_toInt (show i < 2147483648 by first | decide | omega)] at * <;> omega))
                  have ha9 : a < s 6 := by have := c10; simp only [i_le, i_lt, nI_toInt (show s 6 < 2147483648 by omega), nI_toInt (show a < 2147483648 by omega)] at this; omega
                  exact e_i dX11_ballot_111 rfl rfl (g_fr.rf.up (by simp)) (Or.inr ⟨ek, by rw [hau, hiu, show i = 3 by omega]; exact rfl, by rw [ek]; exact g_eq⟩) (by decide) (by decide)
                · refine g_aload_n dX11_ballot_96 rfl rfl ?_
                  refine g_getf (v := .ref 153) dX11_ballot_97 fX11_64 g_eq rfl ?_
                  refine g_iload_n dX11_ballot_100 rfl rfl ?_
                  refine g_baldN dX11_ballot_101 (g_ne (by decide) a13) (by omega) (by decide) ?_
                  refine g_goto (tgt := 111) dX11_ballot_102 (by decide) ?_
                  have ek : k_two (s 6) 4 (nI a) (nI i) = 0 := (by unfold k_two; (repeat' split) <;> first | rfl | (exfalso; simp only [i_lt, i_le, i_eq, it0, itm, ifp, nI_toInt (show 0 < 2147483648 by first | decide | omega), nI_toInt (show 1 < 2147483648 by first | decide | omega), nI_toInt (show s 6 < 2147483648 by first | decide | omega), nI_toInt (show 4 < 2147483648 by first | decide | omega), nI_toInt (show 3 < 2147483648 by first | decide | omega), nI_toInt (show a < 2147483648 by first | decide | omega), nI_toInt (show i < 2147483648 by first | decide | omega)] at * <;> omega))
                  have ha9 : a < s 6 := by have := c10; simp only [i_le, i_lt, nI_toInt (show s 6 < 2147483648 by omega), nI_toInt (show a < 2147483648 by omega)] at this; omega
                  exact e_i dX11_ballot_111 rfl rfl (g_fr.rf.up (by simp)) (Or.inr ⟨ek, by rw [hau, hiu, c93]; exact rfl, by rw [ek]; exact g_eq⟩) (by decide) (by decide)
              · refine g_aload_n dX11_ballot_82 rfl rfl ?_
                refine g_getf (v := .ref 145) dX11_ballot_83 fX11_26 g_eq rfl ?_
                refine g_iload_n dX11_ballot_86 rfl rfl ?_
                refine g_baldN dX11_ballot_87 (g_ne (by decide) a5) (by omega) (by decide) ?_
                refine g_goto (tgt := 111) dX11_ballot_88 (by decide) ?_
                have ek : k_two (s 6) 4 (nI a) (nI i) = 0 := (by unfold k_two; (repeat' split) <;> first | rfl | (exfalso; simp only [i_lt, i_le, i_eq, it0, itm, ifp, nI_toInt (show 0 < 2147483648 by first | decide | omega), nI_toInt (show 1 < 2147483648 by first | decide | omega), nI_toInt (show s 6 < 2147483648 by first | decide | omega), nI_toInt (show 4 < 2147483648 by first | decide | omega), nI_toInt (show 3 < 2147483648 by first | decide | omega), nI_toInt (show a < 2147483648 by first | decide | omega), nI_toInt (show i < 2147483648 by first | decide | omega)] at * <;> omega))
                have ha9 : a < s 6 := by have := c10; simp only [i_le, i_lt, nI_toInt (show s 6 < 2147483648 by omega), nI_toInt (show a < 2147483648 by omega)] at this; omega
                exact e_i dX11_ballot_111 rfl rfl (g_fr.rf.up (by simp)) (Or.inr ⟨ek, by rw [hau, hiu, c79]; exact rfl, by rw [ek]; exact g_eq⟩) (by decide) (by decide)
            · refine g_iload_n dX11_ballot_73 rfl rfl ?_
              refine g_goto (tgt := 111) dX11_ballot_74 (by decide) ?_
              have ek : k_two (s 6) 4 (nI a) (nI i) = 0 := (by unfold k_two; (repeat' split) <;> first | rfl | (exfalso; simp only [i_lt, i_le, i_eq, it0, itm, ifp, nI_toInt (show 0 < 2147483648 by first | decide | omega), nI_toInt (show 1 < 2147483648 by first | decide | omega), nI_toInt (show s 6 < 2147483648 by first | decide | omega), nI_toInt (show 4 < 2147483648 by first | decide | omega), nI_toInt (show 3 < 2147483648 by first | decide | omega), nI_toInt (show a < 2147483648 by first | decide | omega), nI_toInt (show i < 2147483648 by first | decide | omega)] at * <;> omega))
              have ha9 : a < s 6 := by have := c10; simp only [i_le, i_lt, nI_toInt (show s 6 < 2147483648 by omega), nI_toInt (show a < 2147483648 by omega)] at this; omega
              exact e_i dX11_ballot_111 rfl rfl (g_fr.rf.up (by simp)) (Or.inr ⟨ek, by rw [hau, hiu, c70]; exact ⟨q, hq, rfl⟩, by rw [ek]; exact g_eq⟩) (by decide) (by decide)
          · exact absurd c34 (by decide)
        · refine g_iconst (v := nI 1) dX11_ballot_22 (by decide) ?_
          refine g_goto (tgt := 27) dX11_ballot_23 (by decide) ?_
          refine g_put (fs' := [.int (nI 1), .ref 143, .int (nI (s 4)), .int (nI (s 7)), .int (nI (s 8)), .ref 144, .int (nI (s 5)), .int (nI (s 6)), .ref 145, .int (nI (s 9)), .int (nI (s 10)), .int (nI (s 11)), .int (nI (s 12)), .ref 146, .int (nI k), .ref 147, .int (nI m), .int (nI sg), .int (nI cm), .int (nI sd), .ref 148, .ref 149, .ref 150, .ref 151, .int (nI mm), .ref 152, .ref 153, .ref 154, .int (nI dr), .int (nI dd), .int (nI bk), .int wt, .ref 155, .int (nI rt), .ref 156, .ref 157, .ref 158, .ref 159, .ref 160, .ref 161, .ref 162, .ref 163, .ref 164, .ref 165, .ref 166]) dX11_ballot_27 fX11_1 m0 (Nat.le_of_ble_eq_true rfl) rfl rfl rfl ?_
          refine g_aload_n dX11_ballot_30 rfl rfl ?_
          refine g_getf (v := .int (nI 1)) dX11_ballot_31 fX11_1 g_eq rfl ?_
          refine g_if_leN (tgt := 39) dX11_ballot_34 (by decide) (by decide) (fun c34 => ?_) (fun c34 => ?_)
          · exact absurd c34 (by decide)
          · refine g_iconst (v := nI 0) dX11_ballot_37 (by decide) ?_
            have ek : k_two (s 6) 4 x y = 1 := (by unfold k_two; (repeat' split) <;> first | rfl | (exfalso; simp only [i_lt, i_le, i_eq, it0, itm, ifp, nI_toInt (show 0 < 2147483648 by first | decide | omega), nI_toInt (show 1 < 2147483648 by first | decide | omega), nI_toInt (show s 6 < 2147483648 by first | decide | omega), nI_toInt (show 4 < 2147483648 by first | decide | omega), nI_toInt (show 3 < 2147483648 by first | decide | omega)] at * <;> omega))
            exact e_i dX11_ballot_38 rfl rfl (g_fr.rf.up (by simp)) (Or.inl ⟨by rw [ek]; decide, by rw [ek]; exact g_eq, g_fr.rf.up (by simp)⟩) (by decide) (by decide)
/-- the number of limbs of 32 bits -/
def nl (V : Nat) : Nat := if V = 0 then 0 else Nat.log2 V / 32 + 1
theorem nl_eq {V K : Nat} (h : (K = 0 ∧ V = 0) ∨ (0 < K ∧ 2 ^ (32 * (K - 1)) ≤ V ∧ V < 2 ^ (32 * K))) : K = nl V := by
  unfold nl
  rcases h with ⟨h1, h2⟩ | ⟨h1, h2, h3⟩
  · rw [if_pos h2, h1]
  · have hV : V ≠ 0 := fun q => by rw [q] at h2; exact absurd (Nat.two_pow_pos (32 * (K - 1))) (by omega)
    rw [if_neg hV]
    have h4 := (Nat.le_log2 hV).mpr h2
    have h5 := (Nat.log2_lt hV).mpr h3
    omega
theorem p16 (k : Nat) : (65536 : Nat) ^ k = 2 ^ (16 * k) := by rw [Nat.pow_mul]
theorem nl_16 {B : Nat → Nat} (hB : ∀ j, B j < 65536) {o z V : Nat} (hv : bv B o z = V) (hz : z = 0 ∨ ¬ B (o + z - 1) = 0) : (z + 1) / 2 = nl V := by
  refine nl_eq ?_
  rcases Nat.eq_zero_or_pos z with q | q
  · subst q; exact Or.inl ⟨rfl, hv.symm⟩
  · refine Or.inr ⟨by omega, ?_, ?_⟩
    · rcases bv_top hz with z0 | z0
      · omega
      · rw [hv, p16] at z0
        exact Nat.le_trans (Nat.pow_le_pow_right (by decide) (by omega)) z0
    · have := bv_lt hB o z
      rw [hv, p16] at this
      exact Nat.lt_of_lt_of_le this (Nat.pow_le_pow_right (by decide) (by omega))
theorem bv_dig {B : Nat → Nat} (hB : ∀ j, B j < 65536) {o z : Nat} (j : Nat) : bv B o z / 65536 ^ j % 65536 = mz B o z j := by
  have hp : 0 < 65536 ^ j := Nat.pow_pos (by decide)
  by_cases q : j < z
  · rw [mz_i q, show z = j + (z - j) by omega, bv_split, Nat.add_mul_div_right _ _ hp, Nat.div_eq_of_lt (bv_lt hB o j), Nat.zero_add, show z - j = z - j - 1 + 1 by omega, bv_cons, Nat.add_mul_mod_self_right]
    exact Nat.mod_eq_of_lt (hB _)
  · rw [mz_o (by omega), Nat.div_eq_of_lt (Nat.lt_of_lt_of_le (bv_lt hB o z) (Nat.pow_le_pow_right (by decide) (by omega)))]
theorem lb_v {B : Nat → Nat} (hB : ∀ j, B j < 65536) {o z i : Nat} : bv B o z / 2 ^ (32 * i) % 4294967296 = mz B o z (2 * i) + mz B o z (2 * i + 1) * 65536 := by
  rw [← bv_dig hB (2 * i), ← bv_dig hB (2 * i + 1), p16, p16, show 16 * (2 * i) = 32 * i by omega, show 16 * (2 * i + 1) = 32 * i + 16 by omega, Nat.pow_add, ← Nat.div_div_eq_div_mul]
  generalize bv B o z / 2 ^ (32 * i) = x
  omega
theorem or_nI' {a : Nat} (b : Nat) (h : a < 65536) : nI (b * 65536) ||| nI a = nI (a + b * 65536) := by rw [nx_or, Nat.or_comm, ← nx_or, or_nI b h]
set_option maxHeartbeats 4000000 in
set_option maxRecDepth 100000 in
theorem c_mlimbs (G : gG) (d n : Nat) (ex : Bool) (h : gH) {X : Nat → Int32} {B Z : Nat → Nat} {p : Nat} (hg : Bg h X B Z) (hp : p < 9) (hz : Z p ≤ 1190) : g_M G mX11_limbs d 0 0 [.ref 142, .int (nI p)] n ex h (q_i n ex [] h (fun r _ => r = nI ((Z p + 1) / 2))) := by
  obtain ⟨m0, m1, m2, m3⟩ := hg
  refine g_enter (by decide) (Nat.le_of_ble_eq_true rfl) ?_
  show g_W G _ _ _ n ex h 0 0 0 [(0, .ref 142), (1, .int (nI p))] []
  refine g_aload_n dX11_limbs_0 rfl rfl ?_
  refine g_getf (v := .ref 157) dX11_limbs_1 fX11_79 m0 rfl ?_
  refine g_iload_n dX11_limbs_4 rfl rfl ?_
  refine g_ialdN dX11_limbs_5 m2 (by omega) (by decide) ?_
  refine g_iconst (v := nI 1) dX11_limbs_6 (by decide) ?_
  refine g_iaddN dX11_limbs_7 ?_
  refine g_iconst (v := nI 2) dX11_limbs_8 (by decide) ?_
  refine g_idivN dX11_limbs_9 (by omega) (by omega) (by omega) ?_
  exact e_i dX11_limbs_10 rfl rfl g_fr.rf rfl (by decide) (by decide)
def k_size (x : Int32) : Nat := if ¬ (0 ≤ x ∧ x < nI 2) then 1 else 0
def k_limb (K : Nat) (x y : Int32) : Nat := if ¬ (0 ≤ x ∧ x < nI 2) then 1 else if ¬ (0 ≤ y ∧ y < nI K) then 1 else 0
set_option maxHeartbeats 4000000 in
set_option maxRecDepth 100000 in
theorem c_msize (G : gG) (d n : Nat) (ex : Bool) (h : gH) {cd wt : Int32} {s : Nat → Nat} {k m sg cm sd mm dr dd bk rt : Nat} {V : Nat → Option Nat} {A B_ : Nat} (hv : Bv h V) (hA : V 0 = some A) (hB : V 1 = some B_) {x : Int32} (m0 : Mc h cd s k m sg cm sd mm dr dd bk rt wt) : g_M G mX11_size (d + 1) 0 0 [.ref 142, .int x] n ex h (q_i n ex [142] h (fun r h' => (¬ k_size x = 0 ∧ Mc h' (nI (k_size x)) s k m sg cm sd mm dr dd bk rt wt ∧ g_fr [142] h h') ∨ (k_size x = 0 ∧ r = nI (nl (if un x = 0 then A else B_)) ∧ Mc h' (nI (k_size x)) s k m sg cm sd mm dr dd bk rt wt))) := by
  obtain ⟨B, Z, m1, m2, m3, hV⟩ := hv
  have v0 := hV 0 (by decide)
  rw [hA] at v0
  obtain ⟨p1, p2, p3⟩ := v0
  have v1 := hV 1 (by decide)
  rw [hB] at v1
  obtain ⟨q1, q2, q3⟩ := v1
  refine g_enter (by decide) (Nat.le_of_ble_eq_true rfl) ?_
  show g_W G _ _ _ n ex h 0 0 0 [(0, .ref 142), (1, .int x)] []
  refine g_aload_n dX11_size_0 rfl rfl ?_
  refine g_iload_n dX11_size_1 rfl rfl ?_
  refine g_if_lt (tgt := 10) dX11_size_2 (by decide) (fun c2 => ?_) (fun c2 => ?_)
  · refine g_iconst (v := nI 1) dX11_size_10 (by decide) ?_
    refine g_goto (tgt := 15) dX11_size_11 (by decide) ?_
    refine g_put (fs' := [.int (nI 1), .ref 143, .int (nI (s 4)), .int (nI (s 7)), .int (nI (s 8)), .ref 144, .int (nI (s 5)), .int (nI (s 6)), .ref 145, .int (nI (s 9)), .int (nI (s 10)), .int (nI (s 11)), .int (nI (s 12)), .ref 146, .int (nI k), .ref 147, .int (nI m), .int (nI sg), .int (nI cm), .int (nI sd), .ref 148, .ref 149, .ref 150, .ref 151, .int (nI mm), .ref 152, .ref 153, .ref 154, .int (nI dr), .int (nI dd), .int (nI bk), .int wt, .ref 155, .int (nI rt), .ref 156, .ref 157, .ref 158, .ref 159, .ref 160, .ref 161, .ref 162, .ref 163, .ref 164, .ref 165, .ref 166]) dX11_size_15 fX11_1 m0 (Nat.le_of_ble_eq_true rfl) rfl rfl rfl ?_
    refine g_aload_n dX11_size_18 rfl rfl ?_
    refine g_getf (v := .int (nI 1)) dX11_size_19 fX11_1 g_eq rfl ?_
    refine g_if_leN (tgt := 29) dX11_size_22 (by decide) (by decide) (fun c22 => ?_) (fun c22 => ?_)
    · exact absurd c22 (by decide)
    · refine g_iconst (v := nI 0) dX11_size_25 (by decide) ?_
      refine g_goto (tgt := 34) dX11_size_26 (by decide) ?_
      have ek : k_size x = 1 := (by unfold k_size; (repeat' split) <;> first | rfl | (exfalso; simp only [i_lt, i_le, i_eq, it0, itm, ifp, nI_toInt (show 0 < 2147483648 by first | decide | omega), nI_toInt (show 1 < 2147483648 by first | decide | omega), nI_toInt (show 2 < 2147483648 by first | decide | omega)] at * <;> omega))
      exact e_i dX11_size_34 rfl rfl (g_fr.rf.up (by simp)) (Or.inl ⟨by rw [ek]; decide, by rw [ek]; exact g_eq, g_fr.rf.up (by simp)⟩) (by decide) (by decide)
  · refine g_iload_n dX11_size_5 rfl rfl ?_
    refine g_iconst (v := nI 1) dX11_size_6 (by decide) ?_
    refine g_icmp_le (tgt := 14) dX11_size_7 (by decide) (fun c7 => ?_) (fun c7 => ?_)
    · obtain ⟨p, hp1, hp2, rfl⟩ := nat_of (a := 0) (by decide) ⟨Int32.not_lt.mp c2, c7⟩ (by decide)
      have hpu := un_nI (show p < 4294967296 by omega)
      have hzp : Z p ≤ 1190 := by rcases (show p = 0 ∨ p = 1 by omega) with rfl | rfl; exact p1; exact q1
      have hnl : (Z p + 1) / 2 = nl (if p = 0 then A else B_) := by
        rcases (show p = 0 ∨ p = 1 by omega) with rfl | rfl
        · exact nl_16 m3 p2 p3
        · exact nl_16 m3 q2 q3
      refine g_iconst (v := nI 0) dX11_size_14 (by decide) ?_
      refine g_put (fs' := [.int (nI 0), .ref 143, .int (nI (s 4)), .int (nI (s 7)), .int (nI (s 8)), .ref 144, .int (nI (s 5)), .int (nI (s 6)), .ref 145, .int (nI (s 9)), .int (nI (s 10)), .int (nI (s 11)), .int (nI (s 12)), .ref 146, .int (nI k), .ref 147, .int (nI m), .int (nI sg), .int (nI cm), .int (nI sd), .ref 148, .ref 149, .ref 150, .ref 151, .int (nI mm), .ref 152, .ref 153, .ref 154, .int (nI dr), .int (nI dd), .int (nI bk), .int wt, .ref 155, .int (nI rt), .ref 156, .ref 157, .ref 158, .ref 159, .ref 160, .ref 161, .ref 162, .ref 163, .ref 164, .ref 165, .ref 166]) dX11_size_15 fX11_1 m0 (Nat.le_of_ble_eq_true rfl) rfl rfl rfl ?_
      refine g_aload_n dX11_size_18 rfl rfl ?_
      refine g_getf (v := .int (nI 0)) dX11_size_19 fX11_1 g_eq rfl ?_
      refine g_if_leN (tgt := 29) dX11_size_22 (by decide) (by decide) (fun c22 => ?_) (fun c22 => ?_)
      · refine g_aload_n dX11_size_29 rfl rfl ?_
        refine g_iload_n dX11_size_30 rfl rfl ?_
        refine cVi (st := []) dX11_size_31 (c_mlimbs G d n ex _ (X := MX (nI 0) s k m sg cm sd mm dr dd bk rt wt) (B := B) (Z := Z) (p := p) ⟨g_eq, g_ne (by decide) m1, g_ne (by decide) m2, m3⟩ (by omega) hzp) sX11_332 g_eq rfl rfl (by simp only [g_rm]; omega) (by simp only [g_rm]; omega) (Nat.le_of_ble_eq_true rfl) ⟨Nat.le_of_ble_eq_true rfl, Nat.le_of_ble_eq_true rfl⟩ (fun r4 h1 fr2 p3 => ?_)
        cases g_fr0 fr2
        subst p3
        have ek : k_size (nI p) = 0 := (by unfold k_size; (repeat' split) <;> first | rfl | (exfalso; simp only [i_lt, i_le, i_eq, it0, itm, ifp, nI_toInt (show 0 < 2147483648 by first | decide | omega), nI_toInt (show 1 < 2147483648 by first | decide | omega), nI_toInt (show 2 < 2147483648 by first | decide | omega), nI_toInt (show p < 2147483648 by first | decide | omega)] at * <;> omega))
        exact e_i dX11_size_34 rfl rfl (g_fr.rf.up (by simp)) (Or.inr ⟨ek, by rw [hpu, hnl], by rw [ek]; exact g_eq⟩) (by decide) (by decide)
      · exact absurd c22 (by decide)
    · refine g_iconst (v := nI 1) dX11_size_10 (by decide) ?_
      refine g_goto (tgt := 15) dX11_size_11 (by decide) ?_
      refine g_put (fs' := [.int (nI 1), .ref 143, .int (nI (s 4)), .int (nI (s 7)), .int (nI (s 8)), .ref 144, .int (nI (s 5)), .int (nI (s 6)), .ref 145, .int (nI (s 9)), .int (nI (s 10)), .int (nI (s 11)), .int (nI (s 12)), .ref 146, .int (nI k), .ref 147, .int (nI m), .int (nI sg), .int (nI cm), .int (nI sd), .ref 148, .ref 149, .ref 150, .ref 151, .int (nI mm), .ref 152, .ref 153, .ref 154, .int (nI dr), .int (nI dd), .int (nI bk), .int wt, .ref 155, .int (nI rt), .ref 156, .ref 157, .ref 158, .ref 159, .ref 160, .ref 161, .ref 162, .ref 163, .ref 164, .ref 165, .ref 166]) dX11_size_15 fX11_1 m0 (Nat.le_of_ble_eq_true rfl) rfl rfl rfl ?_
      refine g_aload_n dX11_size_18 rfl rfl ?_
      refine g_getf (v := .int (nI 1)) dX11_size_19 fX11_1 g_eq rfl ?_
      refine g_if_leN (tgt := 29) dX11_size_22 (by decide) (by decide) (fun c22 => ?_) (fun c22 => ?_)
      · exact absurd c22 (by decide)
      · refine g_iconst (v := nI 0) dX11_size_25 (by decide) ?_
        refine g_goto (tgt := 34) dX11_size_26 (by decide) ?_
        have ek : k_size x = 1 := (by unfold k_size; (repeat' split) <;> first | rfl | (exfalso; simp only [i_lt, i_le, i_eq, it0, itm, ifp, nI_toInt (show 0 < 2147483648 by first | decide | omega), nI_toInt (show 1 < 2147483648 by first | decide | omega), nI_toInt (show 2 < 2147483648 by first | decide | omega)] at * <;> omega))
        exact e_i dX11_size_34 rfl rfl (g_fr.rf.up (by simp)) (Or.inl ⟨by rw [ek]; decide, by rw [ek]; exact g_eq, g_fr.rf.up (by simp)⟩) (by decide) (by decide)
set_option maxHeartbeats 4000000 in
set_option maxRecDepth 100000 in
theorem c_mlimb (G : gG) (d n : Nat) (ex : Bool) (h : gH) {cd wt : Int32} {s : Nat → Nat} {k m sg cm sd mm dr dd bk rt : Nat} {V : Nat → Option Nat} {A B_ : Nat} (hv : Bv h V) (hA : V 0 = some A) (hB : V 1 = some B_) {x y : Int32} (m0 : Mc h cd s k m sg cm sd mm dr dd bk rt wt) : g_M G mX11_limb (d + 1) 0 0 [.ref 142, .int x, .int y] n ex h (q_i n ex [142] h (fun r h' => (¬ k_limb (nl (if un x = 0 then A else B_)) x y = 0 ∧ Mc h' (nI (k_limb (nl (if un x = 0 then A else B_)) x y)) s k m sg cm sd mm dr dd bk rt wt ∧ g_fr [142] h h') ∨ (k_limb (nl (if un x = 0 then A else B_)) x y = 0 ∧ r = nI ((if un x = 0 then A else B_) / 2 ^ (32 * un y) % 4294967296) ∧ Mc h' (nI (k_limb (nl (if un x = 0 then A else B_)) x y)) s k m sg cm sd mm dr dd bk rt wt))) := by
  obtain ⟨B, Z, m1, m2, m3, hV⟩ := hv
  have v0 := hV 0 (by decide)
  rw [hA] at v0
  obtain ⟨p1, p2, p3⟩ := v0
  have v1 := hV 1 (by decide)
  rw [hB] at v1
  obtain ⟨q1, q2, q3⟩ := v1
  refine g_enter (by decide) (Nat.le_of_ble_eq_true rfl) ?_
  show g_W G _ _ _ n ex h 0 0 0 [(0, .ref 142), (1, .int x), (2, .int y)] []
  refine g_aload_n dX11_limb_0 rfl rfl ?_
  refine g_iload_n dX11_limb_1 rfl rfl ?_
  refine g_if_lt (tgt := 23) dX11_limb_2 (by decide) (fun c2 => ?_) (fun c2 => ?_)
  · refine g_iconst (v := nI 1) dX11_limb_23 (by decide) ?_
    refine g_goto (tgt := 28) dX11_limb_24 (by decide) ?_
    refine g_put (fs' := [.int (nI 1), .ref 143, .int (nI (s 4)), .int (nI (s 7)), .int (nI (s 8)), .ref 144, .int (nI (s 5)), .int (nI (s 6)), .ref 145, .int (nI (s 9)), .int (nI (s 10)), .int (nI (s 11)), .int (nI (s 12)), .ref 146, .int (nI k), .ref 147, .int (nI m), .int (nI sg), .int (nI cm), .int (nI sd), .ref 148, .ref 149, .ref 150, .ref 151, .int (nI mm), .ref 152, .ref 153, .ref 154, .int (nI dr), .int (nI dd), .int (nI bk), .int wt, .ref 155, .int (nI rt), .ref 156, .ref 157, .ref 158, .ref 159, .ref 160, .ref 161, .ref 162, .ref 163, .ref 164, .ref 165, .ref 166]) dX11_limb_28 fX11_1 m0 (Nat.le_of_ble_eq_true rfl) rfl rfl rfl ?_
    refine g_aload_n dX11_limb_31 rfl rfl ?_
    refine g_getf (v := .int (nI 1)) dX11_limb_32 fX11_1 g_eq rfl ?_
    refine g_if_leN (tgt := 40) dX11_limb_35 (by decide) (by decide) (fun c35 => ?_) (fun c35 => ?_)
    · exact absurd c35 (by decide)
    · refine g_iconst (v := nI 0) dX11_limb_38 (by decide) ?_
      have ek : k_limb (nl (if un x = 0 then A else B_)) x y = 1 := (by unfold k_limb; (repeat' split) <;> first | rfl | (exfalso; simp only [i_lt, i_le, i_eq, it0, itm, ifp, nI_toInt (show 0 < 2147483648 by first | decide | omega), nI_toInt (show 1 < 2147483648 by first | decide | omega), nI_toInt (show 2 < 2147483648 by first | decide | omega)] at * <;> omega))
      exact e_i dX11_limb_39 rfl rfl (g_fr.rf.up (by simp)) (Or.inl ⟨by rw [ek]; decide, by rw [ek]; exact g_eq, g_fr.rf.up (by simp)⟩) (by decide) (by decide)
  · refine g_iload_n dX11_limb_5 rfl rfl ?_
    refine g_iconst (v := nI 1) dX11_limb_6 (by decide) ?_
    refine g_icmp_gt (tgt := 23) dX11_limb_7 (by decide) (fun c7 => ?_) (fun c7 => ?_)
    · refine g_iconst (v := nI 1) dX11_limb_23 (by decide) ?_
      refine g_goto (tgt := 28) dX11_limb_24 (by decide) ?_
      refine g_put (fs' := [.int (nI 1), .ref 143, .int (nI (s 4)), .int (nI (s 7)), .int (nI (s 8)), .ref 144, .int (nI (s 5)), .int (nI (s 6)), .ref 145, .int (nI (s 9)), .int (nI (s 10)), .int (nI (s 11)), .int (nI (s 12)), .ref 146, .int (nI k), .ref 147, .int (nI m), .int (nI sg), .int (nI cm), .int (nI sd), .ref 148, .ref 149, .ref 150, .ref 151, .int (nI mm), .ref 152, .ref 153, .ref 154, .int (nI dr), .int (nI dd), .int (nI bk), .int wt, .ref 155, .int (nI rt), .ref 156, .ref 157, .ref 158, .ref 159, .ref 160, .ref 161, .ref 162, .ref 163, .ref 164, .ref 165, .ref 166]) dX11_limb_28 fX11_1 m0 (Nat.le_of_ble_eq_true rfl) rfl rfl rfl ?_
      refine g_aload_n dX11_limb_31 rfl rfl ?_
      refine g_getf (v := .int (nI 1)) dX11_limb_32 fX11_1 g_eq rfl ?_
      refine g_if_leN (tgt := 40) dX11_limb_35 (by decide) (by decide) (fun c35 => ?_) (fun c35 => ?_)
      · exact absurd c35 (by decide)
      · refine g_iconst (v := nI 0) dX11_limb_38 (by decide) ?_
        have ek : k_limb (nl (if un x = 0 then A else B_)) x y = 1 := (by unfold k_limb; (repeat' split) <;> first | rfl | (exfalso; simp only [i_lt, i_le, i_eq, it0, itm, ifp, nI_toInt (show 0 < 2147483648 by first | decide | omega), nI_toInt (show 1 < 2147483648 by first | decide | omega), nI_toInt (show 2 < 2147483648 by first | decide | omega)] at * <;> omega))
        exact e_i dX11_limb_39 rfl rfl (g_fr.rf.up (by simp)) (Or.inl ⟨by rw [ek]; decide, by rw [ek]; exact g_eq, g_fr.rf.up (by simp)⟩) (by decide) (by decide)
    · obtain ⟨p, hp1, hp2, rfl⟩ := nat_of (a := 0) (b := 1) (by decide) ⟨Int32.not_lt.mp c2, Int32.not_lt.mp c7⟩ (by decide)
      have hpu := un_nI (show p < 4294967296 by omega)
      have hzp : Z p ≤ 1190 := by rcases (show p = 0 ∨ p = 1 by omega) with rfl | rfl; exact p1; exact q1
      have hnl : (Z p + 1) / 2 = nl (if p = 0 then A else B_) := by
        rcases (show p = 0 ∨ p = 1 by omega) with rfl | rfl
        · exact nl_16 m3 p2 p3
        · exact nl_16 m3 q2 q3
      refine g_iload_n dX11_limb_10 rfl rfl ?_
      refine g_if_lt (tgt := 23) dX11_limb_11 (by decide) (fun c11 => ?_) (fun c11 => ?_)
      · refine g_iconst (v := nI 1) dX11_limb_23 (by decide) ?_
        refine g_goto (tgt := 28) dX11_limb_24 (by decide) ?_
        refine g_put (fs' := [.int (nI 1), .ref 143, .int (nI (s 4)), .int (nI (s 7)), .int (nI (s 8)), .ref 144, .int (nI (s 5)), .int (nI (s 6)), .ref 145, .int (nI (s 9)), .int (nI (s 10)), .int (nI (s 11)), .int (nI (s 12)), .ref 146, .int (nI k), .ref 147, .int (nI m), .int (nI sg), .int (nI cm), .int (nI sd), .ref 148, .ref 149, .ref 150, .ref 151, .int (nI mm), .ref 152, .ref 153, .ref 154, .int (nI dr), .int (nI dd), .int (nI bk), .int wt, .ref 155, .int (nI rt), .ref 156, .ref 157, .ref 158, .ref 159, .ref 160, .ref 161, .ref 162, .ref 163, .ref 164, .ref 165, .ref 166]) dX11_limb_28 fX11_1 m0 (Nat.le_of_ble_eq_true rfl) rfl rfl rfl ?_
        refine g_aload_n dX11_limb_31 rfl rfl ?_
        refine g_getf (v := .int (nI 1)) dX11_limb_32 fX11_1 g_eq rfl ?_
        refine g_if_leN (tgt := 40) dX11_limb_35 (by decide) (by decide) (fun c35 => ?_) (fun c35 => ?_)
        · exact absurd c35 (by decide)
        · refine g_iconst (v := nI 0) dX11_limb_38 (by decide) ?_
          have ek : k_limb (nl (if un (nI p) = 0 then A else B_)) (nI p) y = 1 := (by rw [hpu, ← hnl]; unfold k_limb; (repeat' split) <;> first | rfl | (exfalso; simp only [i_lt, i_le, i_eq, it0, itm, ifp, nI_toInt (show 0 < 2147483648 by first | decide | omega), nI_toInt (show 1 < 2147483648 by first | decide | omega), nI_toInt (show 2 < 2147483648 by first | decide | omega), nI_toInt (show p < 2147483648 by first | decide | omega)] at * <;> omega))
          exact e_i dX11_limb_39 rfl rfl (g_fr.rf.up (by simp)) (Or.inl ⟨by rw [ek]; decide, by rw [ek]; exact g_eq, g_fr.rf.up (by simp)⟩) (by decide) (by decide)
      · obtain ⟨i, hi1, rfl⟩ := nat0 c11
        have hiu := un_nI (show i < 4294967296 by omega)
        refine g_iload_n dX11_limb_14 rfl rfl ?_
        refine g_aload_n dX11_limb_15 rfl rfl ?_
        refine g_iload_n dX11_limb_16 rfl rfl ?_
        refine cVi (st := [.int (nI i), .ref 142]) dX11_limb_17 (c_mlimbs G d n ex _ (X := MX (cd) s k m sg cm sd mm dr dd bk rt wt) (B := B) (Z := Z) (p := p) ⟨m0, m1, m2, m3⟩ (by omega) hzp) sX11_332 m0 rfl rfl (by simp only [g_rm]; omega) (by simp only [g_rm]; omega) (Nat.le_of_ble_eq_true rfl) ⟨Nat.le_of_ble_eq_true rfl, Nat.le_of_ble_eq_true rfl⟩ (fun r4 h1 fr2 p3 => ?_)
        cases g_fr0 fr2
        subst p3
        refine g_icmp_ltN (tgt := 27) dX11_limb_20 (by decide) (by omega) (by omega) (fun c20 => ?_) (fun c20 => ?_)
        · refine g_iconst (v := nI 0) dX11_limb_27 (by decide) ?_
          refine g_put (fs' := [.int (nI 0), .ref 143, .int (nI (s 4)), .int (nI (s 7)), .int (nI (s 8)), .ref 144, .int (nI (s 5)), .int (nI (s 6)), .ref 145, .int (nI (s 9)), .int (nI (s 10)), .int (nI (s 11)), .int (nI (s 12)), .ref 146, .int (nI k), .ref 147, .int (nI m), .int (nI sg), .int (nI cm), .int (nI sd), .ref 148, .ref 149, .ref 150, .ref 151, .int (nI mm), .ref 152, .ref 153, .ref 154, .int (nI dr), .int (nI dd), .int (nI bk), .int wt, .ref 155, .int (nI rt), .ref 156, .ref 157, .ref 158, .ref 159, .ref 160, .ref 161, .ref 162, .ref 163, .ref 164, .ref 165, .ref 166]) dX11_limb_28 fX11_1 m0 (Nat.le_of_ble_eq_true rfl) rfl rfl rfl ?_
          refine g_aload_n dX11_limb_31 rfl rfl ?_
          refine g_getf (v := .int (nI 0)) dX11_limb_32 fX11_1 g_eq rfl ?_
          refine g_if_leN (tgt := 40) dX11_limb_35 (by decide) (by decide) (fun c35 => ?_) (fun c35 => ?_)
          · refine g_iconst (v := nI 2) dX11_limb_40 (by decide) ?_
            refine g_iload_n dX11_limb_41 rfl rfl ?_
            refine g_imulN dX11_limb_42 ?_
            refine g_iconst (v := nI 1) dX11_limb_43 (by decide) ?_
            refine g_iaddN dX11_limb_44 ?_
            refine g_aload_n dX11_limb_45 rfl rfl ?_
            refine g_getf (v := .ref 157) dX11_limb_46 fX11_79 g_eq rfl ?_
            refine g_iload_n dX11_limb_49 rfl rfl ?_
            refine g_ialdN dX11_limb_50 (g_ne (by decide) m2) (by omega) (by decide) ?_
            refine g_icmp_geN (tgt := 73) dX11_limb_51 (by decide) (by omega) (by omega) (fun c51 => ?_) (fun c51 => ?_)
            · refine g_iconst (v := nI 0) dX11_limb_73 (by decide) ?_
              refine g_top (show nI 0 = nI (mz B (1200 * p) (Z p) (2 * i + 1)) from by rw [mz_o (by omega)]) ?_
              refine g_istore_n (ls' := [(3, .int (nI (mz B (1200 * p) (Z p) (2 * i + 1)))), (0, .ref 142), (1, .int (nI p)), (2, .int (nI i))]) dX11_limb_74 rfl (by decide) rfl ?_
              refine g_iload_n dX11_limb_75 rfl rfl ?_
              refine g_bipush (v := nI 16) dX11_limb_76 (by decide) ?_
              refine g_ishl dX11_limb_78 ?_
              refine g_top (show (nI (mz B (1200 * p) (Z p) (2 * i + 1))) <<< ((nI 16) &&& 31) = nI (mz B (1200 * p) (Z p) (2 * i + 1) * 65536) from shl_nI _ (by decide)) ?_
              refine g_aload_n dX11_limb_79 rfl rfl ?_
              refine g_getf (v := .ref 156) dX11_limb_80 fX11_76 g_eq rfl ?_
              refine g_sipush (v := nI 1200) dX11_limb_83 (by decide) ?_
              refine g_iload_n dX11_limb_86 rfl rfl ?_
              refine g_imulN dX11_limb_87 ?_
              refine g_iconst (v := nI 2) dX11_limb_88 (by decide) ?_
              refine g_iload_n dX11_limb_89 rfl rfl ?_
              refine g_imulN dX11_limb_90 ?_
              refine g_iaddN dX11_limb_91 ?_
              refine g_ialdN dX11_limb_92 (g_ne (by decide) m1) (by omega) (by decide) ?_
              refine g_ior dX11_limb_93 ?_
              refine g_top (show (nI (mz B (1200 * p) (Z p) (2 * i + 1) * 65536)) ||| (nI (B ((1200 * p) + (2 * i)))) = nI (B (1200 * p + 2 * i) + mz B (1200 * p) (Z p) (2 * i + 1) * 65536) from or_nI' _ (m3 _)) ?_
              have ek : k_limb (nl (if un (nI p) = 0 then A else B_)) (nI p) (nI i) = 0 := (by rw [hpu, ← hnl]; unfold k_limb; (repeat' split) <;> first | rfl | (exfalso; simp only [i_lt, i_le, i_eq, it0, itm, ifp, nI_toInt (show 0 < 2147483648 by first | decide | omega), nI_toInt (show 1 < 2147483648 by first | decide | omega), nI_toInt (show 2 < 2147483648 by first | decide | omega), nI_toInt (show p < 2147483648 by first | decide | omega), nI_toInt (show i < 2147483648 by first | decide | omega), nI_toInt (show (Z p + 1) / 2 < 2147483648 by first | decide | omega)] at * <;> omega))
              have hval : (if p = 0 then A else B_) / 2 ^ (32 * i) % 4294967296 = mz B (1200 * p) (Z p) (2 * i) + mz B (1200 * p) (Z p) (2 * i + 1) * 65536 := by
                rcases (show p = 0 ∨ p = 1 by omega) with rfl | rfl
                · rw [if_pos rfl, ← p2]; exact lb_v m3
                · rw [if_neg (by decide), ← q2]; exact lb_v m3
              exact e_i dX11_limb_94 rfl rfl (g_fr.rf.up (by simp)) (Or.inr ⟨ek, by rw [hpu, hiu, hval, mz_i (show 2 * i < Z p by omega)], by rw [ek]; exact g_eq⟩) (by decide) (by decide)
            · refine g_aload_n dX11_limb_54 rfl rfl ?_
              refine g_getf (v := .ref 156) dX11_limb_55 fX11_76 g_eq rfl ?_
              refine g_sipush (v := nI 1200) dX11_limb_58 (by decide) ?_
              refine g_iload_n dX11_limb_61 rfl rfl ?_
              refine g_imulN dX11_limb_62 ?_
              refine g_iconst (v := nI 2) dX11_limb_63 (by decide) ?_
              refine g_iload_n dX11_limb_64 rfl rfl ?_
              refine g_imulN dX11_limb_65 ?_
              refine g_iaddN dX11_limb_66 ?_
              refine g_iconst (v := nI 1) dX11_limb_67 (by decide) ?_
              refine g_iaddN dX11_limb_68 ?_
              refine g_ialdN dX11_limb_69 (g_ne (by decide) m1) (by omega) (by decide) ?_
              refine g_goto (tgt := 74) dX11_limb_70 (by decide) ?_
              refine g_top (show nI (B (((1200 * p) + (2 * i)) + 1)) = nI (mz B (1200 * p) (Z p) (2 * i + 1)) from by rw [mz_i (by omega)]; congr 2) ?_
              refine g_istore_n (ls' := [(3, .int (nI (mz B (1200 * p) (Z p) (2 * i + 1)))), (0, .ref 142), (1, .int (nI p)), (2, .int (nI i))]) dX11_limb_74 rfl (by decide) rfl ?_
              refine g_iload_n dX11_limb_75 rfl rfl ?_
              refine g_bipush (v := nI 16) dX11_limb_76 (by decide) ?_
              refine g_ishl dX11_limb_78 ?_
              refine g_top (show (nI (mz B (1200 * p) (Z p) (2 * i + 1))) <<< ((nI 16) &&& 31) = nI (mz B (1200 * p) (Z p) (2 * i + 1) * 65536) from shl_nI _ (by decide)) ?_
              refine g_aload_n dX11_limb_79 rfl rfl ?_
              refine g_getf (v := .ref 156) dX11_limb_80 fX11_76 g_eq rfl ?_
              refine g_sipush (v := nI 1200) dX11_limb_83 (by decide) ?_
              refine g_iload_n dX11_limb_86 rfl rfl ?_
              refine g_imulN dX11_limb_87 ?_
              refine g_iconst (v := nI 2) dX11_limb_88 (by decide) ?_
              refine g_iload_n dX11_limb_89 rfl rfl ?_
              refine g_imulN dX11_limb_90 ?_
              refine g_iaddN dX11_limb_91 ?_
              refine g_ialdN dX11_limb_92 (g_ne (by decide) m1) (by omega) (by decide) ?_
              refine g_ior dX11_limb_93 ?_
              refine g_top (show (nI (mz B (1200 * p) (Z p) (2 * i + 1) * 65536)) ||| (nI (B ((1200 * p) + (2 * i)))) = nI (B (1200 * p + 2 * i) + mz B (1200 * p) (Z p) (2 * i + 1) * 65536) from or_nI' _ (m3 _)) ?_
              have ek : k_limb (nl (if un (nI p) = 0 then A else B_)) (nI p) (nI i) = 0 := (by rw [hpu, ← hnl]; unfold k_limb; (repeat' split) <;> first | rfl | (exfalso; simp only [i_lt, i_le, i_eq, it0, itm, ifp, nI_toInt (show 0 < 2147483648 by first | decide | omega), nI_toInt (show 1 < 2147483648 by first | decide | omega), nI_toInt (show 2 < 2147483648 by first | decide | omega), nI_toInt (show p < 2147483648 by first | decide | omega), nI_toInt (show i < 2147483648 by first | decide | omega), nI_toInt (show (Z p + 1) / 2 < 2147483648 by first | decide | omega)] at * <;> omega))
              have hval : (if p = 0 then A else B_) / 2 ^ (32 * i) % 4294967296 = mz B (1200 * p) (Z p) (2 * i) + mz B (1200 * p) (Z p) (2 * i + 1) * 65536 := by
                rcases (show p = 0 ∨ p = 1 by omega) with rfl | rfl
                · rw [if_pos rfl, ← p2]; exact lb_v m3
                · rw [if_neg (by decide), ← q2]; exact lb_v m3
              exact e_i dX11_limb_94 rfl rfl (g_fr.rf.up (by simp)) (Or.inr ⟨ek, by rw [hpu, hiu, hval, mz_i (show 2 * i < Z p by omega)], by rw [ek]; exact g_eq⟩) (by decide) (by decide)
          · exact absurd c35 (by decide)
        · refine g_iconst (v := nI 1) dX11_limb_23 (by decide) ?_
          refine g_goto (tgt := 28) dX11_limb_24 (by decide) ?_
          refine g_put (fs' := [.int (nI 1), .ref 143, .int (nI (s 4)), .int (nI (s 7)), .int (nI (s 8)), .ref 144, .int (nI (s 5)), .int (nI (s 6)), .ref 145, .int (nI (s 9)), .int (nI (s 10)), .int (nI (s 11)), .int (nI (s 12)), .ref 146, .int (nI k), .ref 147, .int (nI m), .int (nI sg), .int (nI cm), .int (nI sd), .ref 148, .ref 149, .ref 150, .ref 151, .int (nI mm), .ref 152, .ref 153, .ref 154, .int (nI dr), .int (nI dd), .int (nI bk), .int wt, .ref 155, .int (nI rt), .ref 156, .ref 157, .ref 158, .ref 159, .ref 160, .ref 161, .ref 162, .ref 163, .ref 164, .ref 165, .ref 166]) dX11_limb_28 fX11_1 m0 (Nat.le_of_ble_eq_true rfl) rfl rfl rfl ?_
          refine g_aload_n dX11_limb_31 rfl rfl ?_
          refine g_getf (v := .int (nI 1)) dX11_limb_32 fX11_1 g_eq rfl ?_
          refine g_if_leN (tgt := 40) dX11_limb_35 (by decide) (by decide) (fun c35 => ?_) (fun c35 => ?_)
          · exact absurd c35 (by decide)
          · refine g_iconst (v := nI 0) dX11_limb_38 (by decide) ?_
            have ek : k_limb (nl (if un (nI p) = 0 then A else B_)) (nI p) (nI i) = 1 := (by rw [hpu, ← hnl]; unfold k_limb; (repeat' split) <;> first | rfl | (exfalso; simp only [i_lt, i_le, i_eq, it0, itm, ifp, nI_toInt (show 0 < 2147483648 by first | decide | omega), nI_toInt (show 1 < 2147483648 by first | decide | omega), nI_toInt (show 2 < 2147483648 by first | decide | omega), nI_toInt (show p < 2147483648 by first | decide | omega), nI_toInt (show i < 2147483648 by first | decide | omega), nI_toInt (show (Z p + 1) / 2 < 2147483648 by first | decide | omega)] at * <;> omega))
            exact e_i dX11_limb_39 rfl rfl (g_fr.rf.up (by simp)) (Or.inl ⟨by rw [ek]; decide, by rw [ek]; exact g_eq, g_fr.rf.up (by simp)⟩) (by decide) (by decide)
def cz (ct : Nat → Nat) : Nat → Nat
  | 0 => 0
  | i + 1 => cz ct i + (if ct i = 0 then 0 else 1)
theorem cz_le (ct : Nat → Nat) (i : Nat) : cz ct i ≤ i := by
  induction i with
  | zero => exact Nat.le_refl _
  | succ i ih => show cz ct i + _ ≤ _; split <;> omega
set_option maxHeartbeats 4000000 in
set_option maxRecDepth 100000 in
theorem lp_mcounted (G : gG) (R : Room) (KK : gK) (n : Nat) (ex : Bool) (h : gH) {cd wt : Int32} {s : Nat → Nat} {k m sg cm sd mm dr dd bk rt : Nat} {ct : Nat → Nat} {a b : Nat} (m0 : Mc h cd s k m sg cm sd mm dr dd bk rt wt) (b15 : h 155 = some (.inl (0, 8, .inl (fun k => nI (ct k))))) (hct : ∀ k, ct k < 2 ^ 31) (h4 : s 4 ≤ 8) (kk : g_W G mX11_counted R KK n ex h 0 0 105 [(4, .int (nI (s 4))), (3, .int (nI (cz ct (s 4)))), (0, .ref 142), (1, .int (nI a)), (2, .int (nI b))] []) : ∀ (t i : Nat), s 4 - i < t → i ≤ s 4 →
    g_W G mX11_counted R KK n ex h 0 0 72 [(4, .int (nI i)), (3, .int (nI (cz ct i))), (0, .ref 142), (1, .int (nI a)), (2, .int (nI b))] [] := by
  intro t
  induction t with
  | zero => intro i hm; exact absurd hm (by omega)
  | succ t ih =>
    intro i ht hi
    refine g_iload dX11_counted_72 rfl ?_
    refine g_aload_n dX11_counted_74 rfl rfl ?_
    refine g_getf (v := .int (nI (s 4))) dX11_counted_75 fX11_234 m0 rfl ?_
    refine g_icmp_geN (tgt := 105) dX11_counted_78 (by decide) (by omega) (by omega) (fun c78 => ?_) (fun c78 => ?_)
    · refine g_pick [0, 1, 2, 3, 4] (ls' := [(4, .int (nI i)), (3, .int (nI (cz ct i))), (0, .ref 142), (1, .int (nI a)), (2, .int (nI b))]) rfl ?_
      have e : i = s 4 := by omega
      subst e
      exact kk
    · refine g_iload_n dX11_counted_81 rfl rfl ?_
      refine g_aload_n dX11_counted_82 rfl rfl ?_
      refine g_getf (v := .ref 155) dX11_counted_83 fX11_73 m0 rfl ?_
      refine g_iload dX11_counted_86 rfl ?_
      refine g_ialdN dX11_counted_88 b15 (by omega) (by decide) ?_
      refine g_if_leN (tgt := 96) dX11_counted_89 (by decide) (hct _) (fun c89 => ?_) (fun c89 => ?_)
      · refine g_iconst (v := nI 0) dX11_counted_96 (by decide) ?_
        refine g_iaddN dX11_counted_97 ?_
        refine g_istore_n (ls' := [(3, .int (nI ((cz ct i) + 0))), (4, .int (nI i)), (0, .ref 142), (1, .int (nI a)), (2, .int (nI b))]) dX11_counted_98 rfl (by decide) rfl ?_
        refine g_iincN (z := 1) (ls' := [(4, .int (nI (i + 1))), (3, .int (nI ((cz ct i) + 0))), (0, .ref 142), (1, .int (nI a)), (2, .int (nI b))]) dX11_counted_99 rfl (by decide) rfl ?_
        refine g_goto (tgt := 72) dX11_counted_102 (by decide) ?_
        refine g_pick [0, 1, 2, 3, 4] (ls' := [(4, .int (nI (i + 1))), (3, .int (nI ((cz ct i) + 0))), (0, .ref 142), (1, .int (nI a)), (2, .int (nI b))]) rfl ?_
        rw [show ((cz ct i) + 0) = cz ct (i + 1) from by show _ = cz ct i + _; first | rw [if_neg (by omega)] | rw [if_pos c89]]
        exact ih (i + 1) (by omega) (by omega)
      · refine g_iconst (v := nI 1) dX11_counted_92 (by decide) ?_
        refine g_goto (tgt := 97) dX11_counted_93 (by decide) ?_
        refine g_iaddN dX11_counted_97 ?_
        refine g_istore_n (ls' := [(3, .int (nI ((cz ct i) + 1))), (4, .int (nI i)), (0, .ref 142), (1, .int (nI a)), (2, .int (nI b))]) dX11_counted_98 rfl (by decide) rfl ?_
        refine g_iincN (z := 1) (ls' := [(4, .int (nI (i + 1))), (3, .int (nI ((cz ct i) + 1))), (0, .ref 142), (1, .int (nI a)), (2, .int (nI b))]) dX11_counted_99 rfl (by decide) rfl ?_
        refine g_goto (tgt := 72) dX11_counted_102 (by decide) ?_
        refine g_pick [0, 1, 2, 3, 4] (ls' := [(4, .int (nI (i + 1))), (3, .int (nI ((cz ct i) + 1))), (0, .ref 142), (1, .int (nI a)), (2, .int (nI b))]) rfl ?_
        rw [show ((cz ct i) + 1) = cz ct (i + 1) from by show _ = cz ct i + _; first | rw [if_neg (by omega)] | rw [if_pos c89]]
        exact ih (i + 1) (by omega) (by omega)
set_option maxHeartbeats 4000000 in
set_option maxRecDepth 100000 in
theorem lp_mcounted2 (G : gG) (R : Room) (P : Int32 → gH → Prop) (n : Nat) (ex : Bool) (h0 : gH) {wt : Int32} {s : Nat → Nat} {k m cm sd mm dr dd bk : Nat} {ct w l : Nat → Nat} {a b : Nat} (hct : ∀ k, ct k < 2 ^ 31) (hmm : mm ≤ 16) (hwl : ∀ k, k < mm → w k < 8 ∧ l k < 8) (hP : ∀ h q, Mc h (nI 0) s k m 5 cm sd mm dr dd bk q wt → h 155 = some (.inl (0, 8, .inl (fun k => nI (ct k)))) → q ≤ 1 → (q = 1 ↔ ∀ k, k < mm → ct (l k) < ct (w k)) → P (nI (s 4)) h) : ∀ (t i q : Nat) (h : gH), mm - i < t → i ≤ mm → Mc h (nI 0) s k m 5 cm sd mm dr dd bk q wt → h 155 = some (.inl (0, 8, .inl (fun k => nI (ct k)))) → h 149 = some (.inl (0, 16, .inl (fun k => nI (w k)))) → h 150 = some (.inl (0, 16, .inl (fun k => nI (l k)))) → q ≤ 1 → (q = 1 ↔ ∀ k, k < i → ct (l k) < ct (w k)) → g_fr [142, 155] h0 h →
    g_W G mX11_counted R (g_K G (q_i n ex [142, 155] h0 P) 0 0) n ex h 0 0 126 [(4, .int (nI i)), (3, .int (nI (s 4))), (0, .ref 142), (1, .int (nI a)), (2, .int (nI b))] [] := by
  intro t
  induction t with
  | zero => intro i q h hm; exact absurd hm (by omega)
  | succ t ih =>
    intro i q h ht hi m0 b15 a9 a10 hq1 hq2 hf
    refine g_iload dX11_counted_126 rfl ?_
    refine g_aload_n dX11_counted_128 rfl rfl ?_
    refine g_getf (v := .int (nI mm)) dX11_counted_129 fX11_250 m0 rfl ?_
    refine g_icmp_geN (tgt := 184) dX11_counted_132 (by decide) (by omega) (by omega) (fun c132 => ?_) (fun c132 => ?_)
    · refine g_iload_n dX11_counted_184 rfl rfl ?_
      have e : i = mm := by omega
      subst e
      exact e_i dX11_counted_185 rfl rfl hf (hP _ q m0 b15 hq1 hq2) (by decide) (by decide)
    · refine g_aload_n dX11_counted_135 rfl rfl ?_
      refine g_aload_n dX11_counted_136 rfl rfl ?_
      refine g_getf (v := .int (nI q)) dX11_counted_137 fX11_311 m0 rfl ?_
      refine g_if_eqN (tgt := 174) dX11_counted_140 (by decide) (by omega) (fun c140 => ?_) (fun c140 => ?_)
      · refine g_iconst (v := nI 0) dX11_counted_174 (by decide) ?_
        refine g_put (fs' := [.int (nI 0), .ref 143, .int (nI (s 4)), .int (nI (s 7)), .int (nI (s 8)), .ref 144, .int (nI (s 5)), .int (nI (s 6)), .ref 145, .int (nI (s 9)), .int (nI (s 10)), .int (nI (s 11)), .int (nI (s 12)), .ref 146, .int (nI k), .ref 147, .int (nI m), .int (nI 5), .int (nI cm), .int (nI sd), .ref 148, .ref 149, .ref 150, .ref 151, .int (nI mm), .ref 152, .ref 153, .ref 154, .int (nI dr), .int (nI dd), .int (nI bk), .int wt, .ref 155, .int (nI 0), .ref 156, .ref 157, .ref 158, .ref 159, .ref 160, .ref 161, .ref 162, .ref 163, .ref 164, .ref 165, .ref 166]) dX11_counted_175 fX11_311 m0 (Nat.le_of_ble_eq_true rfl) rfl rfl rfl ?_
        refine g_iincN (z := 1) (ls' := [(4, .int (nI (i + 1))), (3, .int (nI (s 4))), (0, .ref 142), (1, .int (nI a)), (2, .int (nI b))]) dX11_counted_178 rfl (by decide) rfl ?_
        refine g_goto (tgt := 126) dX11_counted_181 (by decide) ?_
        refine g_pick [0, 1, 2, 3, 4] (ls' := [(4, .int (nI (i + 1))), (3, .int (nI (s 4))), (0, .ref 142), (1, .int (nI a)), (2, .int (nI b))]) rfl ?_
        exact ih (i + 1) 0 _ (by omega) (by omega) g_eq (g_ne (by decide) b15) (g_ne (by decide) a9) (g_ne (by decide) a10) (by decide) ⟨fun z => absurd z (by decide), fun z => by have := hq2.mpr (fun k hk => z k (by omega)); omega⟩ (hf.up (by simp))
      · have hw9 := hwl i (by omega)
        refine g_aload_n dX11_counted_143 rfl rfl ?_
        refine g_getf (v := .ref 155) dX11_counted_144 fX11_73 m0 rfl ?_
        refine g_aload_n dX11_counted_147 rfl rfl ?_
        refine g_getf (v := .ref 149) dX11_counted_148 fX11_52 m0 rfl ?_
        refine g_iload dX11_counted_151 rfl ?_
        refine g_ialdN dX11_counted_153 a9 (by omega) (by decide) ?_
        refine g_ialdN dX11_counted_154 b15 (by omega) (by decide) ?_
        refine g_aload_n dX11_counted_155 rfl rfl ?_
        refine g_getf (v := .ref 155) dX11_counted_156 fX11_73 m0 rfl ?_
        refine g_aload_n dX11_counted_159 rfl rfl ?_
        refine g_getf (v := .ref 150) dX11_counted_160 fX11_55 m0 rfl ?_
        refine g_iload dX11_counted_163 rfl ?_
        refine g_ialdN dX11_counted_165 a10 (by omega) (by decide) ?_
        refine g_ialdN dX11_counted_166 b15 (by omega) (by decide) ?_
        refine g_icmp_leN (tgt := 174) dX11_counted_167 (by decide) (hct _) (hct _) (fun c167 => ?_) (fun c167 => ?_)
        · refine g_iconst (v := nI 0) dX11_counted_174 (by decide) ?_
          refine g_put (fs' := [.int (nI 0), .ref 143, .int (nI (s 4)), .int (nI (s 7)), .int (nI (s 8)), .ref 144, .int (nI (s 5)), .int (nI (s 6)), .ref 145, .int (nI (s 9)), .int (nI (s 10)), .int (nI (s 11)), .int (nI (s 12)), .ref 146, .int (nI k), .ref 147, .int (nI m), .int (nI 5), .int (nI cm), .int (nI sd), .ref 148, .ref 149, .ref 150, .ref 151, .int (nI mm), .ref 152, .ref 153, .ref 154, .int (nI dr), .int (nI dd), .int (nI bk), .int wt, .ref 155, .int (nI 0), .ref 156, .ref 157, .ref 158, .ref 159, .ref 160, .ref 161, .ref 162, .ref 163, .ref 164, .ref 165, .ref 166]) dX11_counted_175 fX11_311 m0 (Nat.le_of_ble_eq_true rfl) rfl rfl rfl ?_
          refine g_iincN (z := 1) (ls' := [(4, .int (nI (i + 1))), (3, .int (nI (s 4))), (0, .ref 142), (1, .int (nI a)), (2, .int (nI b))]) dX11_counted_178 rfl (by decide) rfl ?_
          refine g_goto (tgt := 126) dX11_counted_181 (by decide) ?_
          refine g_pick [0, 1, 2, 3, 4] (ls' := [(4, .int (nI (i + 1))), (3, .int (nI (s 4))), (0, .ref 142), (1, .int (nI a)), (2, .int (nI b))]) rfl ?_
          exact ih (i + 1) 0 _ (by omega) (by omega) g_eq (g_ne (by decide) b15) (g_ne (by decide) a9) (g_ne (by decide) a10) (by decide) ⟨fun z => absurd z (by decide), fun z => absurd (z i (by omega)) (by omega)⟩ (hf.up (by simp))
        · refine g_iconst (v := nI 1) dX11_counted_170 (by decide) ?_
          refine g_goto (tgt := 175) dX11_counted_171 (by decide) ?_
          refine g_put (fs' := [.int (nI 0), .ref 143, .int (nI (s 4)), .int (nI (s 7)), .int (nI (s 8)), .ref 144, .int (nI (s 5)), .int (nI (s 6)), .ref 145, .int (nI (s 9)), .int (nI (s 10)), .int (nI (s 11)), .int (nI (s 12)), .ref 146, .int (nI k), .ref 147, .int (nI m), .int (nI 5), .int (nI cm), .int (nI sd), .ref 148, .ref 149, .ref 150, .ref 151, .int (nI mm), .ref 152, .ref 153, .ref 154, .int (nI dr), .int (nI dd), .int (nI bk), .int wt, .ref 155, .int (nI 1), .ref 156, .ref 157, .ref 158, .ref 159, .ref 160, .ref 161, .ref 162, .ref 163, .ref 164, .ref 165, .ref 166]) dX11_counted_175 fX11_311 m0 (Nat.le_of_ble_eq_true rfl) rfl rfl rfl ?_
          refine g_iincN (z := 1) (ls' := [(4, .int (nI (i + 1))), (3, .int (nI (s 4))), (0, .ref 142), (1, .int (nI a)), (2, .int (nI b))]) dX11_counted_178 rfl (by decide) rfl ?_
          refine g_goto (tgt := 126) dX11_counted_181 (by decide) ?_
          refine g_pick [0, 1, 2, 3, 4] (ls' := [(4, .int (nI (i + 1))), (3, .int (nI (s 4))), (0, .ref 142), (1, .int (nI a)), (2, .int (nI b))]) rfl ?_
          exact ih (i + 1) 1 _ (by omega) (by omega) g_eq (g_ne (by decide) b15) (g_ne (by decide) a9) (g_ne (by decide) a10) (by decide) ⟨fun _ k hk => by by_cases z : k = i; (subst z; exact c167); exact hq2.mp (by omega) k (by omega), fun _ => rfl⟩ (hf.up (by simp))
set_option maxHeartbeats 4000000 in
set_option maxRecDepth 100000 in
theorem c_mcounted (G : gG) (d n : Nat) (ex : Bool) (h : gH) {cd wt : Int32} {s : Nat → Nat} {k m sg cm sd mm dr dd bk rt : Nat} {ct w l : Nat → Nat} {x y : Int32} (m0 : Mc h cd s k m sg cm sd mm dr dd bk rt wt) (b15 : h 155 = some (.inl (0, 8, .inl (fun k => nI (ct k))))) (a9 : h 149 = some (.inl (0, 16, .inl (fun k => nI (w k))))) (a10 : h 150 = some (.inl (0, 16, .inl (fun k => nI (l k))))) (hct : ∀ k, ct k < 2 ^ 31) (h4 : s 4 ≤ 8) (h6 : s 6 ≤ 20000) (hmm : mm ≤ 16) (hwl : ∀ k, k < mm → w k < 8 ∧ l k < 8) (hsg : sg < 2 ^ 31) : g_M G mX11_counted d 0 0 [.ref 142, .int x, .int y] n ex h (q_i n ex [142, 155] h (fun r h' => (¬ k_counted s sg x y = 0 ∧ Mc h' (nI (k_counted s sg x y)) s k m sg cm sd mm dr dd bk rt wt ∧ g_fr [142] h h') ∨ (k_counted s sg x y = 0 ∧ r = nI (cz (va_up ct (un x) (un y + 1)) (s 4)) ∧ h' 155 = some (.inl (0, 8, .inl (fun k => nI ((va_up ct (un x) (un y + 1)) k)))) ∧ ((¬ cz (va_up ct (un x) (un y + 1)) (s 4) = s 4 ∧ Mc h' (nI (k_counted s sg x y)) s k m sg cm sd mm dr dd bk rt wt) ∨ (cz (va_up ct (un x) (un y + 1)) (s 4) = s 4 ∧ ∃ q, Mc h' (nI (k_counted s sg x y)) s k m 5 cm sd mm dr dd bk q wt ∧ q ≤ 1 ∧ (q = 1 ↔ ∀ k, k < mm → (va_up ct (un x) (un y + 1)) (l k) < (va_up ct (un x) (un y + 1)) (w k))))))) := by
  refine g_enter (by decide) (Nat.le_of_ble_eq_true rfl) ?_
  show g_W G _ _ _ n ex h 0 0 0 [(0, .ref 142), (1, .int x), (2, .int y)] []
  refine g_aload_n dX11_counted_0 rfl rfl ?_
  refine g_iload_n dX11_counted_1 rfl rfl ?_
  refine g_if_lt (tgt := 13) dX11_counted_2 (by decide) (fun c2 => ?_) (fun c2 => ?_)
  · refine g_iconst (v := nI 1) dX11_counted_13 (by decide) ?_
    refine g_goto (tgt := 46) dX11_counted_14 (by decide) ?_
    refine g_put (fs' := [.int (nI 1), .ref 143, .int (nI (s 4)), .int (nI (s 7)), .int (nI (s 8)), .ref 144, .int (nI (s 5)), .int (nI (s 6)), .ref 145, .int (nI (s 9)), .int (nI (s 10)), .int (nI (s 11)), .int (nI (s 12)), .ref 146, .int (nI k), .ref 147, .int (nI m), .int (nI sg), .int (nI cm), .int (nI sd), .ref 148, .ref 149, .ref 150, .ref 151, .int (nI mm), .ref 152, .ref 153, .ref 154, .int (nI dr), .int (nI dd), .int (nI bk), .int wt, .ref 155, .int (nI rt), .ref 156, .ref 157, .ref 158, .ref 159, .ref 160, .ref 161, .ref 162, .ref 163, .ref 164, .ref 165, .ref 166]) dX11_counted_46 fX11_1 m0 (Nat.le_of_ble_eq_true rfl) rfl rfl rfl ?_
    refine g_aload_n dX11_counted_49 rfl rfl ?_
    refine g_getf (v := .int (nI 1)) dX11_counted_50 fX11_1 g_eq rfl ?_
    refine g_if_leN (tgt := 58) dX11_counted_53 (by decide) (by decide) (fun c53 => ?_) (fun c53 => ?_)
    · exact absurd c53 (by decide)
    · refine g_iconst (v := nI 0) dX11_counted_56 (by decide) ?_
      have ek : k_counted s sg x y = 1 := (by unfold k_counted; (repeat' split) <;> first | rfl | (exfalso; simp only [i_lt, i_le, i_eq, it0, itm, ifp, nI_toInt (show 0 < 2147483648 by first | decide | omega), nI_toInt (show 1 < 2147483648 by first | decide | omega), nI_toInt (show s 4 < 2147483648 by first | decide | omega), nI_toInt (show s 6 < 2147483648 by first | decide | omega)] at * <;> omega))
      exact e_i dX11_counted_57 rfl rfl (g_fr.rf.up (by simp)) (Or.inl ⟨by rw [ek]; decide, by rw [ek]; exact g_eq, g_fr.rf.up (by simp)⟩) (by decide) (by decide)
  · refine g_iload_n dX11_counted_5 rfl rfl ?_
    refine g_aload_n dX11_counted_6 rfl rfl ?_
    refine g_getf (v := .int (nI (s 4))) dX11_counted_7 fX11_234 m0 rfl ?_
    refine g_icmp_lt (tgt := 17) dX11_counted_10 (by decide) (fun c10 => ?_) (fun c10 => ?_)
    · refine g_iload_n dX11_counted_17 rfl rfl ?_
      refine g_if_lt (tgt := 29) dX11_counted_18 (by decide) (fun c18 => ?_) (fun c18 => ?_)
      · refine g_iconst (v := nI 2) dX11_counted_29 (by decide) ?_
        refine g_goto (tgt := 46) dX11_counted_30 (by decide) ?_
        refine g_put (fs' := [.int (nI 2), .ref 143, .int (nI (s 4)), .int (nI (s 7)), .int (nI (s 8)), .ref 144, .int (nI (s 5)), .int (nI (s 6)), .ref 145, .int (nI (s 9)), .int (nI (s 10)), .int (nI (s 11)), .int (nI (s 12)), .ref 146, .int (nI k), .ref 147, .int (nI m), .int (nI sg), .int (nI cm), .int (nI sd), .ref 148, .ref 149, .ref 150, .ref 151, .int (nI mm), .ref 152, .ref 153, .ref 154, .int (nI dr), .int (nI dd), .int (nI bk), .int wt, .ref 155, .int (nI rt), .ref 156, .ref 157, .ref 158, .ref 159, .ref 160, .ref 161, .ref 162, .ref 163, .ref 164, .ref 165, .ref 166]) dX11_counted_46 fX11_1 m0 (Nat.le_of_ble_eq_true rfl) rfl rfl rfl ?_
        refine g_aload_n dX11_counted_49 rfl rfl ?_
        refine g_getf (v := .int (nI 2)) dX11_counted_50 fX11_1 g_eq rfl ?_
        refine g_if_leN (tgt := 58) dX11_counted_53 (by decide) (by decide) (fun c53 => ?_) (fun c53 => ?_)
        · exact absurd c53 (by decide)
        · refine g_iconst (v := nI 0) dX11_counted_56 (by decide) ?_
          have ek : k_counted s sg x y = 2 := (by unfold k_counted; (repeat' split) <;> first | rfl | (exfalso; simp only [i_lt, i_le, i_eq, it0, itm, ifp, nI_toInt (show 0 < 2147483648 by first | decide | omega), nI_toInt (show 1 < 2147483648 by first | decide | omega), nI_toInt (show s 4 < 2147483648 by first | decide | omega), nI_toInt (show s 6 < 2147483648 by first | decide | omega)] at * <;> omega))
          exact e_i dX11_counted_57 rfl rfl (g_fr.rf.up (by simp)) (Or.inl ⟨by rw [ek]; decide, by rw [ek]; exact g_eq, g_fr.rf.up (by simp)⟩) (by decide) (by decide)
      · refine g_iload_n dX11_counted_21 rfl rfl ?_
        refine g_aload_n dX11_counted_22 rfl rfl ?_
        refine g_getf (v := .int (nI (s 6))) dX11_counted_23 fX11_240 m0 rfl ?_
        refine g_icmp_le (tgt := 33) dX11_counted_26 (by decide) (fun c26 => ?_) (fun c26 => ?_)
        · refine g_aload_n dX11_counted_33 rfl rfl ?_
          refine g_getf (v := .int (nI sg)) dX11_counted_34 fX11_231 m0 rfl ?_
          refine g_iconst (v := nI 4) dX11_counted_37 (by decide) ?_
          refine g_icmp_eqN (tgt := 45) dX11_counted_38 (by decide) (by omega) (by decide) (fun c38 => ?_) (fun c38 => ?_)
          · obtain ⟨a, ha1, rfl⟩ := nat0 c2
            have hau := un_nI (show a < 4294967296 by omega)
            obtain ⟨b, hb1, rfl⟩ := nat0 c18
            have hbu := un_nI (show b < 4294967296 by omega)
            have ha9 : a < s 4 := by have := c10; simp only [i_le, i_lt, nI_toInt (show s 4 < 2147483648 by omega), nI_toInt (show a < 2147483648 by omega)] at this; omega
            have hb9 : b ≤ s 6 := by have := c26; simp only [i_le, i_lt, nI_toInt (show s 6 < 2147483648 by omega), nI_toInt (show b < 2147483648 by omega)] at this; omega
            refine g_iconst (v := nI 0) dX11_counted_45 (by decide) ?_
            refine g_put (fs' := [.int (nI 0), .ref 143, .int (nI (s 4)), .int (nI (s 7)), .int (nI (s 8)), .ref 144, .int (nI (s 5)), .int (nI (s 6)), .ref 145, .int (nI (s 9)), .int (nI (s 10)), .int (nI (s 11)), .int (nI (s 12)), .ref 146, .int (nI k), .ref 147, .int (nI m), .int (nI sg), .int (nI cm), .int (nI sd), .ref 148, .ref 149, .ref 150, .ref 151, .int (nI mm), .ref 152, .ref 153, .ref 154, .int (nI dr), .int (nI dd), .int (nI bk), .int wt, .ref 155, .int (nI rt), .ref 156, .ref 157, .ref 158, .ref 159, .ref 160, .ref 161, .ref 162, .ref 163, .ref 164, .ref 165, .ref 166]) dX11_counted_46 fX11_1 m0 (Nat.le_of_ble_eq_true rfl) rfl rfl rfl ?_
            refine g_aload_n dX11_counted_49 rfl rfl ?_
            refine g_getf (v := .int (nI 0)) dX11_counted_50 fX11_1 g_eq rfl ?_
            refine g_if_leN (tgt := 58) dX11_counted_53 (by decide) (by decide) (fun c53 => ?_) (fun c53 => ?_)
            · refine g_aload_n dX11_counted_58 rfl rfl ?_
              refine g_getf (v := .ref 155) dX11_counted_59 fX11_73 g_eq rfl ?_
              refine g_iload_n dX11_counted_62 rfl rfl ?_
              refine g_iload_n dX11_counted_63 rfl rfl ?_
              refine g_iconst (v := nI 1) dX11_counted_64 (by decide) ?_
              refine g_iaddN dX11_counted_65 ?_
              refine g_iastN dX11_counted_66 (g_ne (by decide) b15) (by omega) (by decide) ?_
              rw [upd_nI]
              refine g_iconst (v := nI 0) dX11_counted_67 (by decide) ?_
              refine g_istore_n (ls' := [(3, .int (nI 0)), (0, .ref 142), (1, .int (nI a)), (2, .int (nI b))]) dX11_counted_68 rfl (by decide) rfl ?_
              refine g_iconst (v := nI 0) dX11_counted_69 (by decide) ?_
              refine g_istore (ls' := [(4, .int (nI 0)), (3, .int (nI 0)), (0, .ref 142), (1, .int (nI a)), (2, .int (nI b))]) dX11_counted_70 (by decide) rfl ?_
              have hct9 : ∀ k, (va_up ct a (b + 1)) k < 2 ^ 31 := fun k => by unfold va_up; split; omega; exact hct k
              refine g_pick [0, 1, 2, 3, 4] (ls' := [(4, .int (nI 0)), (3, .int (nI 0)), (0, .ref 142), (1, .int (nI a)), (2, .int (nI b))]) rfl ?_
              refine lp_mcounted G _ _ n ex _ (cd := nI 0) (s := s) (k := k) (m := m) (sg := sg) (cm := cm) (sd := sd) (mm := mm) (dr := dr) (dd := dd) (bk := bk) (rt := rt) (wt := wt) (g_ne (by decide) g_eq) (ct := va_up ct a (b + 1)) g_eq hct9 h4 ?_ (s 4 + 1) 0 (by omega) (by omega)
              refine g_iload_n dX11_counted_105 rfl rfl ?_
              refine g_aload_n dX11_counted_106 rfl rfl ?_
              refine g_getf (v := .int (nI (s 4))) dX11_counted_107 fX11_234 (g_ne (by decide) g_eq) rfl ?_
              refine g_icmp_neN (tgt := 184) dX11_counted_110 (by decide) (by have := cz_le (va_up ct a (b + 1)) (s 4); omega) (by omega) (fun c110 => ?_) (fun c110 => ?_)
              · refine g_iload_n dX11_counted_184 rfl rfl ?_
                have ek : k_counted s sg (nI a) (nI b) = 0 := (by unfold k_counted; (repeat' split) <;> first | rfl | (exfalso; simp only [i_lt, i_le, i_eq, it0, itm, ifp, nI_toInt (show 0 < 2147483648 by first | decide | omega), nI_toInt (show 1 < 2147483648 by first | decide | omega), nI_toInt (show s 4 < 2147483648 by first | decide | omega), nI_toInt (show s 6 < 2147483648 by first | decide | omega), nI_toInt (show a < 2147483648 by first | decide | omega), nI_toInt (show b < 2147483648 by first | decide | omega)] at * <;> omega))
                exact e_i dX11_counted_185 rfl rfl ((g_fr.rf.up (by simp)).up (by simp)) (Or.inr ⟨ek, by rw [hau, hbu], by rw [hau, hbu]; exact g_eq, by rw [ek, hau, hbu]; exact Or.inl ⟨c110, g_ne (by decide) g_eq⟩⟩) (by decide) (by decide)
              · refine g_aload_n dX11_counted_113 rfl rfl ?_
                refine g_iconst (v := nI 5) dX11_counted_114 (by decide) ?_
                refine g_put (fs' := [.int (nI 0), .ref 143, .int (nI (s 4)), .int (nI (s 7)), .int (nI (s 8)), .ref 144, .int (nI (s 5)), .int (nI (s 6)), .ref 145, .int (nI (s 9)), .int (nI (s 10)), .int (nI (s 11)), .int (nI (s 12)), .ref 146, .int (nI k), .ref 147, .int (nI m), .int (nI 5), .int (nI cm), .int (nI sd), .ref 148, .ref 149, .ref 150, .ref 151, .int (nI mm), .ref 152, .ref 153, .ref 154, .int (nI dr), .int (nI dd), .int (nI bk), .int wt, .ref 155, .int (nI rt), .ref 156, .ref 157, .ref 158, .ref 159, .ref 160, .ref 161, .ref 162, .ref 163, .ref 164, .ref 165, .ref 166]) dX11_counted_115 fX11_231 (g_ne (by decide) g_eq) (Nat.le_of_ble_eq_true rfl) rfl rfl rfl ?_
                refine g_aload_n dX11_counted_118 rfl rfl ?_
                refine g_iconst (v := nI 1) dX11_counted_119 (by decide) ?_
                refine g_put (fs' := [.int (nI 0), .ref 143, .int (nI (s 4)), .int (nI (s 7)), .int (nI (s 8)), .ref 144, .int (nI (s 5)), .int (nI (s 6)), .ref 145, .int (nI (s 9)), .int (nI (s 10)), .int (nI (s 11)), .int (nI (s 12)), .ref 146, .int (nI k), .ref 147, .int (nI m), .int (nI 5), .int (nI cm), .int (nI sd), .ref 148, .ref 149, .ref 150, .ref 151, .int (nI mm), .ref 152, .ref 153, .ref 154, .int (nI dr), .int (nI dd), .int (nI bk), .int wt, .ref 155, .int (nI 1), .ref 156, .ref 157, .ref 158, .ref 159, .ref 160, .ref 161, .ref 162, .ref 163, .ref 164, .ref 165, .ref 166]) dX11_counted_120 fX11_311 g_eq (Nat.le_of_ble_eq_true rfl) rfl rfl rfl ?_
                refine g_iconst (v := nI 0) dX11_counted_123 (by decide) ?_
                refine g_istore (ls' := [(4, .int (nI 0)), (3, .int (nI (cz (va_up ct a (b + 1)) (s 4)))), (0, .ref 142), (1, .int (nI a)), (2, .int (nI b))]) dX11_counted_124 (by decide) rfl ?_
                refine g_pick [0, 1, 2, 3, 4] (ls' := [(4, .int (nI 0)), (3, .int (nI (cz (va_up ct a (b + 1)) (s 4)))), (0, .ref 142), (1, .int (nI a)), (2, .int (nI b))]) rfl ?_
                rw [c110]
                have ek : k_counted s sg (nI a) (nI b) = 0 := (by unfold k_counted; (repeat' split) <;> first | rfl | (exfalso; simp only [i_lt, i_le, i_eq, it0, itm, ifp, nI_toInt (show 0 < 2147483648 by first | decide | omega), nI_toInt (show 1 < 2147483648 by first | decide | omega), nI_toInt (show s 4 < 2147483648 by first | decide | omega), nI_toInt (show s 6 < 2147483648 by first | decide | omega), nI_toInt (show a < 2147483648 by first | decide | omega), nI_toInt (show b < 2147483648 by first | decide | omega)] at * <;> omega))
                exact lp_mcounted2 G _ _ n ex h (ct := va_up ct a (b + 1)) (w := w) (l := l) hct9 hmm hwl (fun h2 q x1 x2 x3 x4 => Or.inr ⟨ek, by rw [hau, hbu, c110], by rw [hau, hbu]; exact x2, by rw [ek, hau, hbu]; exact Or.inr ⟨c110, q, x1, x3, x4⟩⟩) (mm + 1) 0 1 _ (by omega) (by omega) g_eq (g_ne (by decide) (g_ne (by decide) g_eq)) (g_ne (by decide) (g_ne (by decide) (g_ne (by decide) (g_ne (by decide) a9)))) (g_ne (by decide) (g_ne (by decide) (g_ne (by decide) (g_ne (by decide) a10)))) (by decide) ⟨fun _ k hk => absurd hk (by omega), fun _ => rfl⟩ ((((g_fr.rf.up (by simp)).up (by simp)).up (by simp)).up (by simp))
            · exact absurd c53 (by decide)
          · refine g_iconst (v := nI 3) dX11_counted_41 (by decide) ?_
            refine g_goto (tgt := 46) dX11_counted_42 (by decide) ?_
            refine g_put (fs' := [.int (nI 3), .ref 143, .int (nI (s 4)), .int (nI (s 7)), .int (nI (s 8)), .ref 144, .int (nI (s 5)), .int (nI (s 6)), .ref 145, .int (nI (s 9)), .int (nI (s 10)), .int (nI (s 11)), .int (nI (s 12)), .ref 146, .int (nI k), .ref 147, .int (nI m), .int (nI sg), .int (nI cm), .int (nI sd), .ref 148, .ref 149, .ref 150, .ref 151, .int (nI mm), .ref 152, .ref 153, .ref 154, .int (nI dr), .int (nI dd), .int (nI bk), .int wt, .ref 155, .int (nI rt), .ref 156, .ref 157, .ref 158, .ref 159, .ref 160, .ref 161, .ref 162, .ref 163, .ref 164, .ref 165, .ref 166]) dX11_counted_46 fX11_1 m0 (Nat.le_of_ble_eq_true rfl) rfl rfl rfl ?_
            refine g_aload_n dX11_counted_49 rfl rfl ?_
            refine g_getf (v := .int (nI 3)) dX11_counted_50 fX11_1 g_eq rfl ?_
            refine g_if_leN (tgt := 58) dX11_counted_53 (by decide) (by decide) (fun c53 => ?_) (fun c53 => ?_)
            · exact absurd c53 (by decide)
            · refine g_iconst (v := nI 0) dX11_counted_56 (by decide) ?_
              have ek : k_counted s sg x y = 3 := (by unfold k_counted; (repeat' split) <;> first | rfl | (exfalso; simp only [i_lt, i_le, i_eq, it0, itm, ifp, nI_toInt (show 0 < 2147483648 by first | decide | omega), nI_toInt (show 1 < 2147483648 by first | decide | omega), nI_toInt (show s 4 < 2147483648 by first | decide | omega), nI_toInt (show s 6 < 2147483648 by first | decide | omega)] at * <;> omega))
              exact e_i dX11_counted_57 rfl rfl (g_fr.rf.up (by simp)) (Or.inl ⟨by rw [ek]; decide, by rw [ek]; exact g_eq, g_fr.rf.up (by simp)⟩) (by decide) (by decide)
        · refine g_iconst (v := nI 2) dX11_counted_29 (by decide) ?_
          refine g_goto (tgt := 46) dX11_counted_30 (by decide) ?_
          refine g_put (fs' := [.int (nI 2), .ref 143, .int (nI (s 4)), .int (nI (s 7)), .int (nI (s 8)), .ref 144, .int (nI (s 5)), .int (nI (s 6)), .ref 145, .int (nI (s 9)), .int (nI (s 10)), .int (nI (s 11)), .int (nI (s 12)), .ref 146, .int (nI k), .ref 147, .int (nI m), .int (nI sg), .int (nI cm), .int (nI sd), .ref 148, .ref 149, .ref 150, .ref 151, .int (nI mm), .ref 152, .ref 153, .ref 154, .int (nI dr), .int (nI dd), .int (nI bk), .int wt, .ref 155, .int (nI rt), .ref 156, .ref 157, .ref 158, .ref 159, .ref 160, .ref 161, .ref 162, .ref 163, .ref 164, .ref 165, .ref 166]) dX11_counted_46 fX11_1 m0 (Nat.le_of_ble_eq_true rfl) rfl rfl rfl ?_
          refine g_aload_n dX11_counted_49 rfl rfl ?_
          refine g_getf (v := .int (nI 2)) dX11_counted_50 fX11_1 g_eq rfl ?_
          refine g_if_leN (tgt := 58) dX11_counted_53 (by decide) (by decide) (fun c53 => ?_) (fun c53 => ?_)
          · exact absurd c53 (by decide)
          · refine g_iconst (v := nI 0) dX11_counted_56 (by decide) ?_
            have ek : k_counted s sg x y = 2 := (by unfold k_counted; (repeat' split) <;> first | rfl | (exfalso; simp only [i_lt, i_le, i_eq, it0, itm, ifp, nI_toInt (show 0 < 2147483648 by first | decide | omega), nI_toInt (show 1 < 2147483648 by first | decide | omega), nI_toInt (show s 4 < 2147483648 by first | decide | omega), nI_toInt (show s 6 < 2147483648 by first | decide | omega)] at * <;> omega))
            exact e_i dX11_counted_57 rfl rfl (g_fr.rf.up (by simp)) (Or.inl ⟨by rw [ek]; decide, by rw [ek]; exact g_eq, g_fr.rf.up (by simp)⟩) (by decide) (by decide)
    · refine g_iconst (v := nI 1) dX11_counted_13 (by decide) ?_
      refine g_goto (tgt := 46) dX11_counted_14 (by decide) ?_
      refine g_put (fs' := [.int (nI 1), .ref 143, .int (nI (s 4)), .int (nI (s 7)), .int (nI (s 8)), .ref 144, .int (nI (s 5)), .int (nI (s 6)), .ref 145, .int (nI (s 9)), .int (nI (s 10)), .int (nI (s 11)), .int (nI (s 12)), .ref 146, .int (nI k), .ref 147, .int (nI m), .int (nI sg), .int (nI cm), .int (nI sd), .ref 148, .ref 149, .ref 150, .ref 151, .int (nI mm), .ref 152, .ref 153, .ref 154, .int (nI dr), .int (nI dd), .int (nI bk), .int wt, .ref 155, .int (nI rt), .ref 156, .ref 157, .ref 158, .ref 159, .ref 160, .ref 161, .ref 162, .ref 163, .ref 164, .ref 165, .ref 166]) dX11_counted_46 fX11_1 m0 (Nat.le_of_ble_eq_true rfl) rfl rfl rfl ?_
      refine g_aload_n dX11_counted_49 rfl rfl ?_
      refine g_getf (v := .int (nI 1)) dX11_counted_50 fX11_1 g_eq rfl ?_
      refine g_if_leN (tgt := 58) dX11_counted_53 (by decide) (by decide) (fun c53 => ?_) (fun c53 => ?_)
      · exact absurd c53 (by decide)
      · refine g_iconst (v := nI 0) dX11_counted_56 (by decide) ?_
        have ek : k_counted s sg x y = 1 := (by unfold k_counted; (repeat' split) <;> first | rfl | (exfalso; simp only [i_lt, i_le, i_eq, it0, itm, ifp, nI_toInt (show 0 < 2147483648 by first | decide | omega), nI_toInt (show 1 < 2147483648 by first | decide | omega), nI_toInt (show s 4 < 2147483648 by first | decide | omega), nI_toInt (show s 6 < 2147483648 by first | decide | omega)] at * <;> omega))
        exact e_i dX11_counted_57 rfl rfl (g_fr.rf.up (by simp)) (Or.inl ⟨by rw [ek]; decide, by rw [ek]; exact g_eq, g_fr.rf.up (by simp)⟩) (by decide) (by decide)
