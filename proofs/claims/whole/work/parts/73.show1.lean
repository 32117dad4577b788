def k_show (sg mm : Nat) (x y : Int32) : Nat := if ¬ (0 ≤ x ∧ x < nI 5) then 1 else if ¬ x = nI 4 ∧ sg = 0 then 2 else if (x = nI 0 ∨ x = nI 2) ∧ ¬ (0 ≤ y ∧ y < nI mm) then 1 else 0
/-- the fraction that is shown, before it is in lowest terms -/
def shA (s v w l df : Nat → Nat) (cm mm pn lm : Nat) (i k : Nat) : Nat := match i with
  | 0 => if cm = 0 then RA v df (w k) (l k) else 1
  | 1 => pn
  | 2 => v (w k)
  | 3 => lm
  | _ => s 9
def shB (s v w l df : Nat → Nat) (cm mm pd : Nat) (i k : Nat) : Nat := match i with
  | 0 => if cm = 0 then RB v df (w k) (l k) else 1
  | 1 => pd
  | 2 => v (w k) + v (l k)
  | 3 => s 6
  | _ => s 10
theorem low_ge {A B : Nat} (hB : ¬ B = 0) (h : B / Nat.gcd A B ≤ A / Nat.gcd A B) : B ≤ A := by
  have hg : 0 < Nat.gcd A B := Nat.gcd_pos_of_pos_right _ (Nat.pos_of_ne_zero hB)
  have h1 := Nat.mul_le_mul_right (Nat.gcd A B) h
  rw [Nat.div_mul_cancel (Nat.gcd_dvd_right A B), Nat.div_mul_cancel (Nat.gcd_dvd_left A B)] at h1
  exact h1
theorem low_ge2 {A B : Nat} (hB : ¬ B = 0) (h : B ≤ A) : B / Nat.gcd A B ≤ A / Nat.gcd A B := Nat.div_le_div_right h
set_option maxHeartbeats 4000000 in
set_option maxRecDepth 100000 in
theorem c_mshow (G : gG) (d n : Nat) (ex : Bool) (h : gH) {cd wt : Int32} {s : Nat → Nat} {k m sg cm sd mm dr dd bk rt : Nat} {v w l df : Nat → Nat} {V : Nat → Option Nat} {pn pd : Nat} {x y : Int32} (m0 : Mc h cd s k m sg cm sd mm dr dd bk rt wt) (hBv : Bv h V) (a3 : h 143 = some (.inl (0, 8, .inl (fun k => nI (v k))))) (a9 : h 149 = some (.inl (0, 16, .inl (fun k => nI (w k))))) (a10 : h 150 = some (.inl (0, 16, .inl (fun k => nI (l k))))) (a12 : h 152 = some (.inl (0, 8, .inl (fun k => nI (df k))))) (hmm : mm ≤ 16) (hwl : ∀ k, k < mm → w k < 8 ∧ l k < 8) (hV : ∀ k, k < mm → v (l k) < v (w k) ∧ v (w k) ≤ 20000) (hdf : ∀ c, df c ≤ 200) (hcm1 : cm ≤ 1) (hv6 : V 6 = some pn) (hv7 : V 7 = some pd) (h6 : s 6 ≤ 20000) (hl1 : s 9 ≤ 1000000) (hl2 : s 10 ≤ 1000000) (hsg : sg < 2 ^ 31) (hsh : ∀ j q, (¬ j = 4 → ¬ sg = 0) → j ≤ 4 → (j = 0 ∨ j = 2 → q < mm) → ¬ shB s v w l df cm mm pd j q = 0 ∧ shA s v w l df cm mm pn (lmn 1000001 v w l mm) j q * 2 ^ 15 < RM ∧ shB s v w l df cm mm pd j q * 2 ^ 15 < RM) : g_M G mX11_show (d + 5) 0 0 [.ref 142, .int x, .int y] n ex h (q_i n ex [142, 156, 157] h (fun r h' => (¬ k_show sg mm x y = 0 ∧ Mc h' (nI (k_show sg mm x y)) s k m sg cm sd mm dr dd bk rt wt ∧ g_fr [142] h h') ∨ (k_show sg mm x y = 0 ∧ r = nI (if (shB s v w l df cm mm pd (un x) (un y)) ≤ (shA s v w l df cm mm pn (lmn 1000001 v w l mm) (un x) (un y)) then 1 else 0) ∧ Mc h' (nI (k_show sg mm x y)) s k m sg cm sd mm dr dd bk rt wt ∧ Bv h' (lowV V (shA s v w l df cm mm pn (lmn 1000001 v w l mm) (un x) (un y)) (shB s v w l df cm mm pd (un x) (un y)))))) := by
  refine g_enter (by decide) (Nat.le_of_ble_eq_true rfl) ?_
  show g_W G _ _ _ n ex h 0 0 0 [(0, .ref 142), (1, .int x), (2, .int y)] []
  refine g_iload_n dX11_show_0 rfl rfl ?_
  refine g_if_eq (tgt := 9) dX11_show_1 (by decide) (fun c1 => ?_) (fun c1 => ?_)
  · refine g_iconst (v := nI 1) dX11_show_9 (by decide) ?_
    refine g_goto (tgt := 14) dX11_show_10 (by decide) ?_
    refine g_istore_n (ls' := [(3, .int (nI 1)), (0, .ref 142), (1, .int x), (2, .int y)]) dX11_show_14 rfl (by decide) rfl ?_
    refine g_aload_n dX11_show_15 rfl rfl ?_
    refine g_iload_n dX11_show_16 rfl rfl ?_
    refine g_if_lt (tgt := 25) dX11_show_17 (by decide) (fun c17 => ?_) (fun c17 => ?_)
    · refine g_iconst (v := nI 1) dX11_show_25 (by decide) ?_
      refine g_goto (tgt := 66) dX11_show_26 (by decide) ?_
      refine g_put (fs' := [.int (nI 1), .ref 143, .int (nI (s 4)), .int (nI (s 7)), .int (nI (s 8)), .ref 144, .int (nI (s 5)), .int (nI (s 6)), .ref 145, .int (nI (s 9)), .int (nI (s 10)), .int (nI (s 11)), .int (nI (s 12)), .ref 146, .int (nI k), .ref 147, .int (nI m), .int (nI sg), .int (nI cm), .int (nI sd), .ref 148, .ref 149, .ref 150, .ref 151, .int (nI mm), .ref 152, .ref 153, .ref 154, .int (nI dr), .int (nI dd), .int (nI bk), .int wt, .ref 155, .int (nI rt), .ref 156, .ref 157, .ref 158, .ref 159, .ref 160, .ref 161, .ref 162, .ref 163, .ref 164, .ref 165, .ref 166]) dX11_show_66 fX11_1 m0 (Nat.le_of_ble_eq_true rfl) rfl rfl rfl ?_
      refine g_aload_n dX11_show_69 rfl rfl ?_
      refine g_getf (v := .int (nI 1)) dX11_show_70 fX11_1 g_eq rfl ?_
      refine g_if_leN (tgt := 78) dX11_show_73 (by decide) (by decide) (fun c73 => ?_) (fun c73 => ?_)
      · exact absurd c73 (by decide)
      · refine g_iconst (v := nI 0) dX11_show_76 (by decide) ?_
        have ek : k_show sg mm x y = 1 := (by unfold k_show; (repeat' split) <;> first | rfl | (exfalso; simp only [i_lt, i_le, i_eq, it0, itm, ifp, nI_toInt (show 0 < 2147483648 by first | decide | omega), nI_toInt (show 1 < 2147483648 by first | decide | omega), nI_toInt (show 5 < 2147483648 by first | decide | omega), nI_toInt (show 4 < 2147483648 by first | decide | omega), nI_toInt (show 2 < 2147483648 by first | decide | omega), nI_toInt (show mm < 2147483648 by first | decide | omega)] at * <;> omega))
        exact e_i dX11_show_77 rfl rfl (g_fr.rf.up (by simp)) (Or.inl ⟨by rw [ek]; decide, by rw [ek]; exact g_eq, g_fr.rf.up (by simp)⟩) (by decide) (by decide)
    · refine g_iload_n dX11_show_20 rfl rfl ?_
      refine g_iconst (v := nI 4) dX11_show_21 (by decide) ?_
      refine g_icmp_le (tgt := 29) dX11_show_22 (by decide) (fun c22 => ?_) (fun c22 => ?_)
      · refine g_iload_n dX11_show_29 rfl rfl ?_
        refine g_iconst (v := nI 4) dX11_show_30 (by decide) ?_
        refine g_icmp_ge (tgt := 45) dX11_show_31 (by decide) (fun c31 => ?_) (fun c31 => ?_)
        · refine g_iload_n dX11_show_45 rfl rfl ?_
          refine g_if_eqN (tgt := 65) dX11_show_46 (by decide) (by decide) (fun c46 => ?_) (fun c46 => ?_)
          · exact absurd c46 (by decide)
          · refine g_iload_n dX11_show_49 rfl rfl ?_
            refine g_if_lt (tgt := 61) dX11_show_50 (by decide) (fun c50 => ?_) (fun c50 => ?_)
            · refine g_iconst (v := nI 1) dX11_show_61 (by decide) ?_
              refine g_goto (tgt := 66) dX11_show_62 (by decide) ?_
              refine g_put (fs' := [.int (nI 1), .ref 143, .int (nI (s 4)), .int (nI (s 7)), .int (nI (s 8)), .ref 144, .int (nI (s 5)), .int (nI (s 6)), .ref 145, .int (nI (s 9)), .int (nI (s 10)), .int (nI (s 11)), .int (nI (s 12)), .ref 146, .int (nI k), .ref 147, .int (nI m), .int (nI sg), .int (nI cm), .int (nI sd), .ref 148, .ref 149, .ref 150, .ref 151, .int (nI mm), .ref 152, .ref 153, .ref 154, .int (nI dr), .int (nI dd), .int (nI bk), .int wt, .ref 155, .int (nI rt), .ref 156, .ref 157, .ref 158, .ref 159, .ref 160, .ref 161, .ref 162, .ref 163, .ref 164, .ref 165, .ref 166]) dX11_show_66 fX11_1 m0 (Nat.le_of_ble_eq_true rfl) rfl rfl rfl ?_
              refine g_aload_n dX11_show_69 rfl rfl ?_
              refine g_getf (v := .int (nI 1)) dX11_show_70 fX11_1 g_eq rfl ?_
              refine g_if_leN (tgt := 78) dX11_show_73 (by decide) (by decide) (fun c73 => ?_) (fun c73 => ?_)
              · exact absurd c73 (by decide)
              · refine g_iconst (v := nI 0) dX11_show_76 (by decide) ?_
                have ek : k_show sg mm x y = 1 := (by unfold k_show; (repeat' split) <;> first | rfl | (exfalso; simp only [i_lt, i_le, i_eq, it0, itm, ifp, nI_toInt (show 0 < 2147483648 by first | decide | omega), nI_toInt (show 1 < 2147483648 by first | decide | omega), nI_toInt (show 5 < 2147483648 by first | decide | omega), nI_toInt (show 4 < 2147483648 by first | decide | omega), nI_toInt (show 2 < 2147483648 by first | decide | omega), nI_toInt (show mm < 2147483648 by first | decide | omega)] at * <;> omega))
                exact e_i dX11_show_77 rfl rfl (g_fr.rf.up (by simp)) (Or.inl ⟨by rw [ek]; decide, by rw [ek]; exact g_eq, g_fr.rf.up (by simp)⟩) (by decide) (by decide)
            · refine g_iload_n dX11_show_53 rfl rfl ?_
              refine g_aload_n dX11_show_54 rfl rfl ?_
              refine g_getf (v := .int (nI mm)) dX11_show_55 fX11_250 m0 rfl ?_
              refine g_icmp_lt (tgt := 65) dX11_show_58 (by decide) (fun c58 => ?_) (fun c58 => ?_)
              · obtain ⟨j, hj0, hj1, rfl⟩ := nat_of (a := 0) (b := 4) (by decide) ⟨Int32.not_lt.mp c17, c22⟩ (by decide)
                have hju := un_nI (show j < 4294967296 by omega)
                obtain ⟨i, hi0, rfl⟩ := nat0 c50
                have hi9 : i < mm := (nI_ltI hi0 (by omega)).mp c58
                have hiu := un_nI (show i < 4294967296 by omega)
                have hkn : j = 0 := (nI_eq (by omega) (by decide)).mp c1
                have hk4 : j = 4 := by have := (nI_leI (by decide) (show j < 2147483648 by omega)).mp c31; omega
                refine g_iconst (v := nI 0) dX11_show_65 (by decide) ?_
                refine g_put (fs' := [.int (nI 0), .ref 143, .int (nI (s 4)), .int (nI (s 7)), .int (nI (s 8)), .ref 144, .int (nI (s 5)), .int (nI (s 6)), .ref 145, .int (nI (s 9)), .int (nI (s 10)), .int (nI (s 11)), .int (nI (s 12)), .ref 146, .int (nI k), .ref 147, .int (nI m), .int (nI sg), .int (nI cm), .int (nI sd), .ref 148, .ref 149, .ref 150, .ref 151, .int (nI mm), .ref 152, .ref 153, .ref 154, .int (nI dr), .int (nI dd), .int (nI bk), .int wt, .ref 155, .int (nI rt), .ref 156, .ref 157, .ref 158, .ref 159, .ref 160, .ref 161, .ref 162, .ref 163, .ref 164, .ref 165, .ref 166]) dX11_show_66 fX11_1 m0 (Nat.le_of_ble_eq_true rfl) rfl rfl rfl ?_
                refine g_aload_n dX11_show_69 rfl rfl ?_
                refine g_getf (v := .int (nI 0)) dX11_show_70 fX11_1 g_eq rfl ?_
                refine g_if_leN (tgt := 78) dX11_show_73 (by decide) (by decide) (fun c73 => ?_) (fun c73 => ?_)
                · refine g_iload_n dX11_show_78 rfl rfl ?_
                  refine g_if_neN (tgt := 92) dX11_show_79 (by decide) (by omega) (fun c79 => ?_) (fun c79 => ?_)
                  · exact absurd hkn c79
                  · exact absurd hk4 (by omega)
                · exact absurd c73 (by decide)
              · refine g_iconst (v := nI 1) dX11_show_61 (by decide) ?_
                refine g_goto (tgt := 66) dX11_show_62 (by decide) ?_
                refine g_put (fs' := [.int (nI 1), .ref 143, .int (nI (s 4)), .int (nI (s 7)), .int (nI (s 8)), .ref 144, .int (nI (s 5)), .int (nI (s 6)), .ref 145, .int (nI (s 9)), .int (nI (s 10)), .int (nI (s 11)), .int (nI (s 12)), .ref 146, .int (nI k), .ref 147, .int (nI m), .int (nI sg), .int (nI cm), .int (nI sd), .ref 148, .ref 149, .ref 150, .ref 151, .int (nI mm), .ref 152, .ref 153, .ref 154, .int (nI dr), .int (nI dd), .int (nI bk), .int wt, .ref 155, .int (nI rt), .ref 156, .ref 157, .ref 158, .ref 159, .ref 160, .ref 161, .ref 162, .ref 163, .ref 164, .ref 165, .ref 166]) dX11_show_66 fX11_1 m0 (Nat.le_of_ble_eq_true rfl) rfl rfl rfl ?_
                refine g_aload_n dX11_show_69 rfl rfl ?_
                refine g_getf (v := .int (nI 1)) dX11_show_70 fX11_1 g_eq rfl ?_
                refine g_if_leN (tgt := 78) dX11_show_73 (by decide) (by decide) (fun c73 => ?_) (fun c73 => ?_)
                · exact absurd c73 (by decide)
                · refine g_iconst (v := nI 0) dX11_show_76 (by decide) ?_
                  have ek : k_show sg mm x y = 1 := (by unfold k_show; (repeat' split) <;> first | rfl | (exfalso; simp only [i_lt, i_le, i_eq, it0, itm, ifp, nI_toInt (show 0 < 2147483648 by first | decide | omega), nI_toInt (show 1 < 2147483648 by first | decide | omega), nI_toInt (show 5 < 2147483648 by first | decide | omega), nI_toInt (show 4 < 2147483648 by first | decide | omega), nI_toInt (show 2 < 2147483648 by first | decide | omega), nI_toInt (show mm < 2147483648 by first | decide | omega)] at * <;> omega))
                  exact e_i dX11_show_77 rfl rfl (g_fr.rf.up (by simp)) (Or.inl ⟨by rw [ek]; decide, by rw [ek]; exact g_eq, g_fr.rf.up (by simp)⟩) (by decide) (by decide)
        · refine g_aload_n dX11_show_34 rfl rfl ?_
          refine g_getf (v := .int (nI sg)) dX11_show_35 fX11_231 m0 rfl ?_
          refine g_if_neN (tgt := 45) dX11_show_38 (by decide) (by omega) (fun c38 => ?_) (fun c38 => ?_)
          · refine g_iload_n dX11_show_45 rfl rfl ?_
            refine g_if_eqN (tgt := 65) dX11_show_46 (by decide) (by decide) (fun c46 => ?_) (fun c46 => ?_)
            · exact absurd c46 (by decide)
            · refine g_iload_n dX11_show_49 rfl rfl ?_
              refine g_if_lt (tgt := 61) dX11_show_50 (by decide) (fun c50 => ?_) (fun c50 => ?_)
              · refine g_iconst (v := nI 1) dX11_show_61 (by decide) ?_
                refine g_goto (tgt := 66) dX11_show_62 (by decide) ?_
                refine g_put (fs' := [.int (nI 1), .ref 143, .int (nI (s 4)), .int (nI (s 7)), .int (nI (s 8)), .ref 144, .int (nI (s 5)), .int (nI (s 6)), .ref 145, .int (nI (s 9)), .int (nI (s 10)), .int (nI (s 11)), .int (nI (s 12)), .ref 146, .int (nI k), .ref 147, .int (nI m), .int (nI sg), .int (nI cm), .int (nI sd), .ref 148, .ref 149, .ref 150, .ref 151, .int (nI mm), .ref 152, .ref 153, .ref 154, .int (nI dr), .int (nI dd), .int (nI bk), .int wt, .ref 155, .int (nI rt), .ref 156, .ref 157, .ref 158, .ref 159, .ref 160, .ref 161, .ref 162, .ref 163, .ref 164, .ref 165, .ref 166]) dX11_show_66 fX11_1 m0 (Nat.le_of_ble_eq_true rfl) rfl rfl rfl ?_
                refine g_aload_n dX11_show_69 rfl rfl ?_
                refine g_getf (v := .int (nI 1)) dX11_show_70 fX11_1 g_eq rfl ?_
                refine g_if_leN (tgt := 78) dX11_show_73 (by decide) (by decide) (fun c73 => ?_) (fun c73 => ?_)
                · exact absurd c73 (by decide)
                · refine g_iconst (v := nI 0) dX11_show_76 (by decide) ?_
                  have ek : k_show sg mm x y = 1 := (by unfold k_show; (repeat' split) <;> first | rfl | (exfalso; simp only [i_lt, i_le, i_eq, it0, itm, ifp, nI_toInt (show 0 < 2147483648 by first | decide | omega), nI_toInt (show 1 < 2147483648 by first | decide | omega), nI_toInt (show 5 < 2147483648 by first | decide | omega), nI_toInt (show 4 < 2147483648 by first | decide | omega), nI_toInt (show 2 < 2147483648 by first | decide | omega), nI_toInt (show mm < 2147483648 by first | decide | omega)] at * <;> omega))
                  exact e_i dX11_show_77 rfl rfl (g_fr.rf.up (by simp)) (Or.inl ⟨by rw [ek]; decide, by rw [ek]; exact g_eq, g_fr.rf.up (by simp)⟩) (by decide) (by decide)
              · refine g_iload_n dX11_show_53 rfl rfl ?_
                refine g_aload_n dX11_show_54 rfl rfl ?_
                refine g_getf (v := .int (nI mm)) dX11_show_55 fX11_250 m0 rfl ?_
                refine g_icmp_lt (tgt := 65) dX11_show_58 (by decide) (fun c58 => ?_) (fun c58 => ?_)
                · obtain ⟨j, hj0, hj1, rfl⟩ := nat_of (a := 0) (b := 4) (by decide) ⟨Int32.not_lt.mp c17, c22⟩ (by decide)
                  have hju := un_nI (show j < 4294967296 by omega)
                  obtain ⟨i, hi0, rfl⟩ := nat0 c50
                  have hi9 : i < mm := (nI_ltI hi0 (by omega)).mp c58
                  have hiu := un_nI (show i < 4294967296 by omega)
                  have hkn : j = 0 := (nI_eq (by omega) (by decide)).mp c1
                  refine g_iconst (v := nI 0) dX11_show_65 (by decide) ?_
                  refine g_put (fs' := [.int (nI 0), .ref 143, .int (nI (s 4)), .int (nI (s 7)), .int (nI (s 8)), .ref 144, .int (nI (s 5)), .int (nI (s 6)), .ref 145, .int (nI (s 9)), .int (nI (s 10)), .int (nI (s 11)), .int (nI (s 12)), .ref 146, .int (nI k), .ref 147, .int (nI m), .int (nI sg), .int (nI cm), .int (nI sd), .ref 148, .ref 149, .ref 150, .ref 151, .int (nI mm), .ref 152, .ref 153, .ref 154, .int (nI dr), .int (nI dd), .int (nI bk), .int wt, .ref 155, .int (nI rt), .ref 156, .ref 157, .ref 158, .ref 159, .ref 160, .ref 161, .ref 162, .ref 163, .ref 164, .ref 165, .ref 166]) dX11_show_66 fX11_1 m0 (Nat.le_of_ble_eq_true rfl) rfl rfl rfl ?_
                  refine g_aload_n dX11_show_69 rfl rfl ?_
                  refine g_getf (v := .int (nI 0)) dX11_show_70 fX11_1 g_eq rfl ?_
                  refine g_if_leN (tgt := 78) dX11_show_73 (by decide) (by decide) (fun c73 => ?_) (fun c73 => ?_)
                  · refine g_iload_n dX11_show_78 rfl rfl ?_
                    refine g_if_neN (tgt := 92) dX11_show_79 (by decide) (by omega) (fun c79 => ?_) (fun c79 => ?_)
                    · exact absurd hkn c79
                    · skip
                      refine g_aload_n dX11_show_82 rfl rfl ?_
                      refine g_iload_n dX11_show_83 rfl rfl ?_
                      refine g_iconst (v := nI 0) dX11_show_84 (by decide) ?_
                      refine g_iconst (v := nI 1) dX11_show_85 (by decide) ?_
                      refine cVv (st := []) dX11_show_86 (c_ratio G (d + 1) n ex _ (V := V) ((hBv.fr (S := [142]) (g_fr.rf.up (by simp)) (by simp) (by simp)).n (X := MX (nI 0) s k m sg cm sd mm dr dd bk rt wt) g_eq) (g_ne (by decide) a3) (g_ne (by decide) a9) (g_ne (by decide) a10) (g_ne (by decide) a12) hmm hwl hV (i := i) hi9 (p := 0) (q := 1) (by decide) (by decide) (by decide) hdf hcm1) sX11_284 g_eq rfl rfl (by simp only [g_rm]; omega) (by simp only [g_rm]; omega) (Nat.le_of_ble_eq_true rfl) ⟨Nat.le_of_ble_eq_true rfl, Nat.le_of_ble_eq_true rfl⟩ (fun h1 fr2 p3 => ?_)
                      have hN5 := p3
                      refine g_goto (tgt := 215) dX11_show_89 (by decide) ?_
                      obtain ⟨hB0, ro1, ro2⟩ := hsh 0 (un (nI i)) (fun _ => c38) (by decide) (by rw [hiu]; exact fun _ => hi9)
                      refine g_aload_n dX11_show_215 rfl rfl ?_
                      refine cVv (st := []) dX11_show_216 (c_lowest G (d + 0) n ex h1 hN5 (A := (shA s v w l df cm mm pn (lmn 1000001 v w l mm) 0 (un (nI i)))) (B := (shB s v w l df cm mm pd 0 (un (nI i)))) (by rw [va_n (by decide), va_s]; rw [hiu]; rfl) (by rw [va_s]; rw [hiu]; rfl) hB0 ro1 ro2) sX11_329 (fr2.at (by intro q; simp only [List.mem_cons, List.not_mem_nil, or_false] at q; omega) g_eq) rfl rfl (by simp only [g_rm]; omega) (by simp only [g_rm]; omega) (Nat.le_of_ble_eq_true rfl) ⟨Nat.le_of_ble_eq_true rfl, Nat.le_of_ble_eq_true rfl⟩ (fun h6 fr7 p8 => ?_)
                      have hN10 := p8
                      refine g_aload_n dX11_show_219 rfl rfl ?_
                      refine g_iconst (v := nI 0) dX11_show_220 (by decide) ?_
                      refine g_iconst (v := nI 1) dX11_show_221 (by decide) ?_
                      refine cVi (st := []) dX11_show_222 (c_mcompare G (d + 4) n ex h6 hN10 (by decide) (by decide) rfl rfl) sX11_203 (fr7.at (by intro q; simp only [List.mem_cons, List.not_mem_nil, or_false] at q; omega) (fr2.at (by intro q; simp only [List.mem_cons, List.not_mem_nil, or_false] at q; omega) g_eq)) rfl rfl (by simp only [g_rm]; omega) (by simp only [g_rm]; omega) (Nat.le_of_ble_eq_true rfl) ⟨Nat.le_of_ble_eq_true rfl, Nat.le_of_ble_eq_true rfl⟩ (fun r14 h11 fr12 p13 => ?_)
                      cases g_fr0 fr12
                      subst p13
                      refine g_if_lt (tgt := 232) dX11_show_225 (by decide) (fun c225 => ?_) (fun c225 => ?_)
                      · refine g_iconst (v := nI 0) dX11_show_232 (by decide) ?_
                        have ek : k_show sg mm (nI j) (nI i) = 0 := (by unfold k_show; (repeat' split) <;> first | rfl | (exfalso; simp only [i_lt, i_le, i_eq, it0, itm, ifp, nI_toInt (show 0 < 2147483648 by first | decide | omega), nI_toInt (show 1 < 2147483648 by first | decide | omega), nI_toInt (show 5 < 2147483648 by first | decide | omega), nI_toInt (show 4 < 2147483648 by first | decide | omega), nI_toInt (show 2 < 2147483648 by first | decide | omega), nI_toInt (show mm < 2147483648 by first | decide | omega), nI_toInt (show j < 2147483648 by first | decide | omega), nI_toInt (show i < 2147483648 by first | decide | omega)] at * <;> omega))
                        have ej : j = 0 := by omega
                        subst ej
                        have hfin := hN10
                        exact e_i dX11_show_233 rfl rfl (((g_fr.rf.up (by simp)).tr fr2 (by simp)).tr fr7 (by simp)) (Or.inr ⟨ek, by rw [hju]; show nI _ = nI (if (shB s v w l df cm mm pd 0 (un (nI i))) ≤ (shA s v w l df cm mm pn (lmn 1000001 v w l mm) 0 (un (nI i))) then 1 else 0); rw [if_neg (fun q => absurd (cp_lt.mp c225) (Nat.not_lt.mpr (low_ge2 hB0 q)))], by rw [ek]; exact Mc.of hfin.cell, by rw [hju]; exact hfin.v.le (fun u hu => by
                          unfold lowV
                          by_cases q0 : u = 0
                          · rw [if_pos q0, if_pos q0]; exact Or.inl rfl
                          · by_cases q1 : u = 1
                            · rw [if_neg q0, if_pos q1, if_neg q0, if_pos q1]; exact Or.inl rfl
                            · rw [if_neg q0, if_neg q1, if_neg q0, if_neg q1]
                              by_cases q6 : u = 6 ∨ u = 7
                              · rw [if_pos q6, if_pos q6]; refine Or.inl ?_; rw [va_n q1, va_n q0]
                              · rw [if_neg q6, if_neg q6]; exact Or.inl rfl)⟩) (by decide) (by decide)
                      · refine g_iconst (v := nI 1) dX11_show_228 (by decide) ?_
                        refine g_goto (tgt := 233) dX11_show_229 (by decide) ?_
                        have ek : k_show sg mm (nI j) (nI i) = 0 := (by unfold k_show; (repeat' split) <;> first | rfl | (exfalso; simp only [i_lt, i_le, i_eq, it0, itm, ifp, nI_toInt (show 0 < 2147483648 by first | decide | omega), nI_toInt (show 1 < 2147483648 by first | decide | omega), nI_toInt (show 5 < 2147483648 by first | decide | omega), nI_toInt (show 4 < 2147483648 by first | decide | omega), nI_toInt (show 2 < 2147483648 by first | decide | omega), nI_toInt (show mm < 2147483648 by first | decide | omega), nI_toInt (show j < 2147483648 by first | decide | omega), nI_toInt (show i < 2147483648 by first | decide | omega)] at * <;> omega))
                        have ej : j = 0 := by omega
                        subst ej
                        have hfin := hN10
                        exact e_i dX11_show_233 rfl rfl (((g_fr.rf.up (by simp)).tr fr2 (by simp)).tr fr7 (by simp)) (Or.inr ⟨ek, by rw [hju]; show nI _ = nI (if (shB s v w l df cm mm pd 0 (un (nI i))) ≤ (shA s v w l df cm mm pn (lmn 1000001 v w l mm) 0 (un (nI i))) then 1 else 0); rw [if_pos (low_ge hB0 (Nat.not_lt.mp (fun q => c225 (cp_lt.mpr q))))], by rw [ek]; exact Mc.of hfin.cell, by rw [hju]; exact hfin.v.le (fun u hu => by
                          unfold lowV
                          by_cases q0 : u = 0
                          · rw [if_pos q0, if_pos q0]; exact Or.inl rfl
                          · by_cases q1 : u = 1
                            · rw [if_neg q0, if_pos q1, if_neg q0, if_pos q1]; exact Or.inl rfl
                            · rw [if_neg q0, if_neg q1, if_neg q0, if_neg q1]
                              by_cases q6 : u = 6 ∨ u = 7
                              · rw [if_pos q6, if_pos q6]; refine Or.inl ?_; rw [va_n q1, va_n q0]
                              · rw [if_neg q6, if_neg q6]; exact Or.inl rfl)⟩) (by decide) (by decide)
                  · exact absurd c73 (by decide)
                · refine g_iconst (v := nI 1) dX11_show_61 (by decide) ?_
                  refine g_goto (tgt := 66) dX11_show_62 (by decide) ?_
                  refine g_put (fs' := [.int (nI 1), .ref 143, .int (nI (s 4)), .int (nI (s 7)), .int (nI (s 8)), .ref 144, .int (nI (s 5)), .int (nI (s 6)), .ref 145, .int (nI (s 9)), .int (nI (s 10)), .int (nI (s 11)), .int (nI (s 12)), .ref 146, .int (nI k), .ref 147, .int (nI m), .int (nI sg), .int (nI cm), .int (nI sd), .ref 148, .ref 149, .ref 150, .ref 151, .int (nI mm), .ref 152, .ref 153, .ref 154, .int (nI dr), .int (nI dd), .int (nI bk), .int wt, .ref 155, .int (nI rt), .ref 156, .ref 157, .ref 158, .ref 159, .ref 160, .ref 161, .ref 162, .ref 163, .ref 164, .ref 165, .ref 166]) dX11_show_66 fX11_1 m0 (Nat.le_of_ble_eq_true rfl) rfl rfl rfl ?_
                  refine g_aload_n dX11_show_69 rfl rfl ?_
                  refine g_getf (v := .int (nI 1)) dX11_show_70 fX11_1 g_eq rfl ?_
                  refine g_if_leN (tgt := 78) dX11_show_73 (by decide) (by decide) (fun c73 => ?_) (fun c73 => ?_)
                  · exact absurd c73 (by decide)
                  · refine g_iconst (v := nI 0) dX11_show_76 (by decide) ?_
                    have ek : k_show sg mm x y = 1 := (by unfold k_show; (repeat' split) <;> first | rfl | (exfalso; simp only [i_lt, i_le, i_eq, it0, itm, ifp, nI_toInt (show 0 < 2147483648 by first | decide | omega), nI_toInt (show 1 < 2147483648 by first | decide | omega), nI_toInt (show 5 < 2147483648 by first | decide | omega), nI_toInt (show 4 < 2147483648 by first | decide | omega), nI_toInt (show 2 < 2147483648 by first | decide | omega), nI_toInt (show mm < 2147483648 by first | decide | omega)] at * <;> omega))
                    exact e_i dX11_show_77 rfl rfl (g_fr.rf.up (by simp)) (Or.inl ⟨by rw [ek]; decide, by rw [ek]; exact g_eq, g_fr.rf.up (by simp)⟩) (by decide) (by decide)
          · refine g_iconst (v := nI 2) dX11_show_41 (by decide) ?_
            refine g_goto (tgt := 66) dX11_show_42 (by decide) ?_
            refine g_put (fs' := [.int (nI 2), .ref 143, .int (nI (s 4)), .int (nI (s 7)), .int (nI (s 8)), .ref 144, .int (nI (s 5)), .int (nI (s 6)), .ref 145, .int (nI (s 9)), .int (nI (s 10)), .int (nI (s 11)), .int (nI (s 12)), .ref 146, .int (nI k), .ref 147, .int (nI m), .int (nI sg), .int (nI cm), .int (nI sd), .ref 148, .ref 149, .ref 150, .ref 151, .int (nI mm), .ref 152, .ref 153, .ref 154, .int (nI dr), .int (nI dd), .int (nI bk), .int wt, .ref 155, .int (nI rt), .ref 156, .ref 157, .ref 158, .ref 159, .ref 160, .ref 161, .ref 162, .ref 163, .ref 164, .ref 165, .ref 166]) dX11_show_66 fX11_1 m0 (Nat.le_of_ble_eq_true rfl) rfl rfl rfl ?_
            refine g_aload_n dX11_show_69 rfl rfl ?_
            refine g_getf (v := .int (nI 2)) dX11_show_70 fX11_1 g_eq rfl ?_
            refine g_if_leN (tgt := 78) dX11_show_73 (by decide) (by decide) (fun c73 => ?_) (fun c73 => ?_)
            · exact absurd c73 (by decide)
            · refine g_iconst (v := nI 0) dX11_show_76 (by decide) ?_
              have ek : k_show sg mm x y = 2 := (by unfold k_show; (repeat' split) <;> first | rfl | (exfalso; simp only [i_lt, i_le, i_eq, it0, itm, ifp, nI_toInt (show 0 < 2147483648 by first | decide | omega), nI_toInt (show 1 < 2147483648 by first | decide | omega), nI_toInt (show 5 < 2147483648 by first | decide | omega), nI_toInt (show 4 < 2147483648 by first | decide | omega), nI_toInt (show 2 < 2147483648 by first | decide | omega), nI_toInt (show mm < 2147483648 by first | decide | omega)] at * <;> omega))
              exact e_i dX11_show_77 rfl rfl (g_fr.rf.up (by simp)) (Or.inl ⟨by rw [ek]; decide, by rw [ek]; exact g_eq, g_fr.rf.up (by simp)⟩) (by decide) (by decide)
      · refine g_iconst (v := nI 1) dX11_show_25 (by decide) ?_
        refine g_goto (tgt := 66) dX11_show_26 (by decide) ?_
        refine g_put (fs' := [.int (nI 1), .ref 143, .int (nI (s 4)), .int (nI (s 7)), .int (nI (s 8)), .ref 144, .int (nI (s 5)), .int (nI (s 6)), .ref 145, .int (nI (s 9)), .int (nI (s 10)), .int (nI (s 11)), .int (nI (s 12)), .ref 146, .int (nI k), .ref 147, .int (nI m), .int (nI sg), .int (nI cm), .int (nI sd), .ref 148, .ref 149, .ref 150, .ref 151, .int (nI mm), .ref 152, .ref 153, .ref 154, .int (nI dr), .int (nI dd), .int (nI bk), .int wt, .ref 155, .int (nI rt), .ref 156, .ref 157, .ref 158, .ref 159, .ref 160, .ref 161, .ref 162, .ref 163, .ref 164, .ref 165, .ref 166]) dX11_show_66 fX11_1 m0 (Nat.le_of_ble_eq_true rfl) rfl rfl rfl ?_
        refine g_aload_n dX11_show_69 rfl rfl ?_
        refine g_getf (v := .int (nI 1)) dX11_show_70 fX11_1 g_eq rfl ?_
        refine g_if_leN (tgt := 78) dX11_show_73 (by decide) (by decide) (fun c73 => ?_) (fun c73 => ?_)
        · exact absurd c73 (by decide)
        · refine g_iconst (v := nI 0) dX11_show_76 (by decide) ?_
          have ek : k_show sg mm x y = 1 := (by unfold k_show; (repeat' split) <;> first | rfl | (exfalso; simp only [i_lt, i_le, i_eq, it0, itm, ifp, nI_toInt (show 0 < 2147483648 by first | decide | omega), nI_toInt (show 1 < 2147483648 by first | decide | omega), nI_toInt (show 5 < 2147483648 by first | decide | omega), nI_toInt (show 4 < 2147483648 by first | decide | omega), nI_toInt (show 2 < 2147483648 by first | decide | omega), nI_toInt (show mm < 2147483648 by first | decide | omega)] at * <;> omega))
          exact e_i dX11_show_77 rfl rfl (g_fr.rf.up (by simp)) (Or.inl ⟨by rw [ek]; decide, by rw [ek]; exact g_eq, g_fr.rf.up (by simp)⟩) (by decide) (by decide)
  · refine g_iload_n dX11_show_4 rfl rfl ?_
    refine g_iconst (v := nI 2) dX11_show_5 (by decide) ?_
    refine g_icmp_ne (tgt := 13) dX11_show_6 (by decide) (fun c6 => ?_) (fun c6 => ?_)
    · refine g_iconst (v := nI 0) dX11_show_13 (by decide) ?_
      refine g_istore_n (ls' := [(3, .int (nI 0)), (0, .ref 142), (1, .int x), (2, .int y)]) dX11_show_14 rfl (by decide) rfl ?_
      refine g_aload_n dX11_show_15 rfl rfl ?_
      refine g_iload_n dX11_show_16 rfl rfl ?_
      refine g_if_lt (tgt := 25) dX11_show_17 (by decide) (fun c17 => ?_) (fun c17 => ?_)
      · refine g_iconst (v := nI 1) dX11_show_25 (by decide) ?_
        refine g_goto (tgt := 66) dX11_show_26 (by decide) ?_
        refine g_put (fs' := [.int (nI 1), .ref 143, .int (nI (s 4)), .int (nI (s 7)), .int (nI (s 8)), .ref 144, .int (nI (s 5)), .int (nI (s 6)), .ref 145, .int (nI (s 9)), .int (nI (s 10)), .int (nI (s 11)), .int (nI (s 12)), .ref 146, .int (nI k), .ref 147, .int (nI m), .int (nI sg), .int (nI cm), .int (nI sd), .ref 148, .ref 149, .ref 150, .ref 151, .int (nI mm), .ref 152, .ref 153, .ref 154, .int (nI dr), .int (nI dd), .int (nI bk), .int wt, .ref 155, .int (nI rt), .ref 156, .ref 157, .ref 158, .ref 159, .ref 160, .ref 161, .ref 162, .ref 163, .ref 164, .ref 165, .ref 166]) dX11_show_66 fX11_1 m0 (Nat.le_of_ble_eq_true rfl) rfl rfl rfl ?_
        refine g_aload_n dX11_show_69 rfl rfl ?_
        refine g_getf (v := .int (nI 1)) dX11_show_70 fX11_1 g_eq rfl ?_
        refine g_if_leN (tgt := 78) dX11_show_73 (by decide) (by decide) (fun c73 => ?_) (fun c73 => ?_)
        · exact absurd c73 (by decide)
        · refine g_iconst (v := nI 0) dX11_show_76 (by decide) ?_
          have ek : k_show sg mm x y = 1 := (by unfold k_show; (repeat' split) <;> first | rfl | (exfalso; simp only [i_lt, i_le, i_eq, it0, itm, ifp, nI_toInt (show 0 < 2147483648 by first | decide | omega), nI_toInt (show 1 < 2147483648 by first | decide | omega), nI_toInt (show 5 < 2147483648 by first | decide | omega), nI_toInt (show 4 < 2147483648 by first | decide | omega), nI_toInt (show 2 < 2147483648 by first | decide | omega), nI_toInt (show mm < 2147483648 by first | decide | omega)] at * <;> omega))
          exact e_i dX11_show_77 rfl rfl (g_fr.rf.up (by simp)) (Or.inl ⟨by rw [ek]; decide, by rw [ek]; exact g_eq, g_fr.rf.up (by simp)⟩) (by decide) (by decide)
      · refine g_iload_n dX11_show_20 rfl rfl ?_
        refine g_iconst (v := nI 4) dX11_show_21 (by decide) ?_
        refine g_icmp_le (tgt := 29) dX11_show_22 (by decide) (fun c22 => ?_) (fun c22 => ?_)
        · refine g_iload_n dX11_show_29 rfl rfl ?_
          refine g_iconst (v := nI 4) dX11_show_30 (by decide) ?_
          refine g_icmp_ge (tgt := 45) dX11_show_31 (by decide) (fun c31 => ?_) (fun c31 => ?_)
          · refine g_iload_n dX11_show_45 rfl rfl ?_
            refine g_if_eqN (tgt := 65) dX11_show_46 (by decide) (by decide) (fun c46 => ?_) (fun c46 => ?_)
            · obtain ⟨j, hj0, hj1, rfl⟩ := nat_of (a := 0) (b := 4) (by decide) ⟨Int32.not_lt.mp c17, c22⟩ (by decide)
              have hju := un_nI (show j < 4294967296 by omega)
              have hkn0 : ¬ j = 0 := fun q => c1 (by rw [q]; rfl)
              have hkn2 : ¬ j = 2 := fun q => c6 (by rw [q])
              have hk4 : j = 4 := by have := (nI_leI (by decide) (show j < 2147483648 by omega)).mp c31; omega
              refine g_iconst (v := nI 0) dX11_show_65 (by decide) ?_
              refine g_put (fs' := [.int (nI 0), .ref 143, .int (nI (s 4)), .int (nI (s 7)), .int (nI (s 8)), .ref 144, .int (nI (s 5)), .int (nI (s 6)), .ref 145, .int (nI (s 9)), .int (nI (s 10)), .int (nI (s 11)), .int (nI (s 12)), .ref 146, .int (nI k), .ref 147, .int (nI m), .int (nI sg), .int (nI cm), .int (nI sd), .ref 148, .ref 149, .ref 150, .ref 151, .int (nI mm), .ref 152, .ref 153, .ref 154, .int (nI dr), .int (nI dd), .int (nI bk), .int wt, .ref 155, .int (nI rt), .ref 156, .ref 157, .ref 158, .ref 159, .ref 160, .ref 161, .ref 162, .ref 163, .ref 164, .ref 165, .ref 166]) dX11_show_66 fX11_1 m0 (Nat.le_of_ble_eq_true rfl) rfl rfl rfl ?_
              refine g_aload_n dX11_show_69 rfl rfl ?_
              refine g_getf (v := .int (nI 0)) dX11_show_70 fX11_1 g_eq rfl ?_
              refine g_if_leN (tgt := 78) dX11_show_73 (by decide) (by decide) (fun c73 => ?_) (fun c73 => ?_)
              · refine g_iload_n dX11_show_78 rfl rfl ?_
                refine g_if_neN (tgt := 92) dX11_show_79 (by decide) (by omega) (fun c79 => ?_) (fun c79 => ?_)
                · refine g_iload_n dX11_show_92 rfl rfl ?_
                  refine g_iconst (v := nI 1) dX11_show_93 (by decide) ?_
                  refine g_icmp_neN (tgt := 114) dX11_show_94 (by decide) (by omega) (by omega) (fun c94 => ?_) (fun c94 => ?_)
                  · refine g_iload_n dX11_show_114 rfl rfl ?_
                    refine g_iconst (v := nI 2) dX11_show_115 (by decide) ?_
                    refine g_icmp_neN (tgt := 169) dX11_show_116 (by decide) (by omega) (by omega) (fun c116 => ?_) (fun c116 => ?_)
                    · refine g_aload_n dX11_show_169 rfl rfl ?_
                      refine g_iconst (v := nI 0) dX11_show_170 (by decide) ?_
                      refine g_iload_n dX11_show_171 rfl rfl ?_
                      refine g_iconst (v := nI 3) dX11_show_172 (by decide) ?_
                      refine g_icmp_neN (tgt := 184) dX11_show_173 (by decide) (by omega) (by omega) (fun c173 => ?_) (fun c173 => ?_)
                      · refine g_aload_n dX11_show_184 rfl rfl ?_
                        refine g_getf (v := .int (nI (s 9))) dX11_show_185 fX11_30 g_eq rfl ?_
                        refine g_i2lN dX11_show_188 (by omega) ?_
                        refine cVv (st := []) dX11_show_189 (c_give G (d + 4) n ex _ ((hBv.fr (S := [142]) (g_fr.rf.up (by simp)) (by simp) (by simp)).n (X := MX (nI 0) s k m sg cm sd mm dr dd bk rt wt) g_eq) (s := 0) (v := (s 9)) (by decide) (by omega)) sX11_182 g_eq rfl rfl (by simp only [g_rm]; omega) (by simp only [g_rm]; omega) (Nat.le_of_ble_eq_true rfl) ⟨Nat.le_of_ble_eq_true rfl, Nat.le_of_ble_eq_true rfl⟩ (fun h15 fr16 p17 => ?_)
                        have hN19 := p17
                        refine g_aload_n dX11_show_192 rfl rfl ?_
                        refine g_iconst (v := nI 1) dX11_show_193 (by decide) ?_
                        refine g_iload_n dX11_show_194 rfl rfl ?_
                        refine g_iconst (v := nI 3) dX11_show_195 (by decide) ?_
                        refine g_icmp_neN (tgt := 207) dX11_show_196 (by decide) (by omega) (by omega) (fun c196 => ?_) (fun c196 => ?_)
                        · refine g_aload_n dX11_show_207 rfl rfl ?_
                          refine g_getf (v := .int (nI (s 10))) dX11_show_208 fX11_33 (fr16.at (by intro q; simp only [List.mem_cons, List.not_mem_nil, or_false] at q; omega) g_eq) rfl ?_
                          refine g_i2lN dX11_show_211 (by omega) ?_
                          refine cVv (st := []) dX11_show_212 (c_give G (d + 4) n ex h15 hN19 (s := 1) (v := (s 10)) (by decide) (by omega)) sX11_182 (fr16.at (by intro q; simp only [List.mem_cons, List.not_mem_nil, or_false] at q; omega) g_eq) rfl rfl (by simp only [g_rm]; omega) (by simp only [g_rm]; omega) (Nat.le_of_ble_eq_true rfl) ⟨Nat.le_of_ble_eq_true rfl, Nat.le_of_ble_eq_true rfl⟩ (fun h20 fr21 p22 => ?_)
                          have hN24 := p22
                          obtain ⟨hB0, ro1, ro2⟩ := hsh 4 (un y) (fun q => absurd rfl q) (by decide) (by omega)
                          refine g_aload_n dX11_show_215 rfl rfl ?_
                          refine cVv (st := []) dX11_show_216 (c_lowest G (d + 0) n ex h20 hN24 (A := (shA s v w l df cm mm pn (lmn 1000001 v w l mm) 4 (un y))) (B := (shB s v w l df cm mm pd 4 (un y))) (by rw [va_n (by decide), va_s]; rfl) (by rw [va_s]; rfl) hB0 ro1 ro2) sX11_329 (fr21.at (by intro q; simp only [List.mem_cons, List.not_mem_nil, or_false] at q; omega) (fr16.at (by intro q; simp only [List.mem_cons, List.not_mem_nil, or_false] at q; omega) g_eq)) rfl rfl (by simp only [g_rm]; omega) (by simp only [g_rm]; omega) (Nat.le_of_ble_eq_true rfl) ⟨Nat.le_of_ble_eq_true rfl, Nat.le_of_ble_eq_true rfl⟩ (fun h25 fr26 p27 => ?_)
                          have hN29 := p27
                          refine g_aload_n dX11_show_219 rfl rfl ?_
                          refine g_iconst (v := nI 0) dX11_show_220 (by decide) ?_
                          refine g_iconst (v := nI 1) dX11_show_221 (by decide) ?_
                          refine cVi (st := []) dX11_show_222 (c_mcompare G (d + 4) n ex h25 hN29 (by decide) (by decide) rfl rfl) sX11_203 (fr26.at (by intro q; simp only [List.mem_cons, List.not_mem_nil, or_false] at q; omega) (fr21.at (by intro q; simp only [List.mem_cons, List.not_mem_nil, or_false] at q; omega) (fr16.at (by intro q; simp only [List.mem_cons, List.not_mem_nil, or_false] at q; omega) g_eq))) rfl rfl (by simp only [g_rm]; omega) (by simp only [g_rm]; omega) (Nat.le_of_ble_eq_true rfl) ⟨Nat.le_of_ble_eq_true rfl, Nat.le_of_ble_eq_true rfl⟩ (fun r33 h30 fr31 p32 => ?_)
                          cases g_fr0 fr31
                          subst p32
                          refine g_if_lt (tgt := 232) dX11_show_225 (by decide) (fun c225 => ?_) (fun c225 => ?_)
                          · refine g_iconst (v := nI 0) dX11_show_232 (by decide) ?_
                            have ek : k_show sg mm (nI j) y = 0 := (by unfold k_show; (repeat' split) <;> first | rfl | (exfalso; simp only [i_lt, i_le, i_eq, it0, itm, ifp, nI_toInt (show 0 < 2147483648 by first | decide | omega), nI_toInt (show 1 < 2147483648 by first | decide | omega), nI_toInt (show 5 < 2147483648 by first | decide | omega), nI_toInt (show 4 < 2147483648 by first | decide | omega), nI_toInt (show 2 < 2147483648 by first | decide | omega), nI_toInt (show mm < 2147483648 by first | decide | omega), nI_toInt (show j < 2147483648 by first | decide | omega)] at * <;> omega))
                            have ej : j = 4 := by omega
                            subst ej
                            have hfin := hN29
                            exact e_i dX11_show_233 rfl rfl ((((g_fr.rf.up (by simp)).tr fr16 (by simp)).tr fr21 (by simp)).tr fr26 (by simp)) (Or.inr ⟨ek, by rw [hju]; show nI _ = nI (if (shB s v w l df cm mm pd 4 (un y)) ≤ (shA s v w l df cm mm pn (lmn 1000001 v w l mm) 4 (un y)) then 1 else 0); rw [if_neg (fun q => absurd (cp_lt.mp c225) (Nat.not_lt.mpr (low_ge2 hB0 q)))], by rw [ek]; exact Mc.of hfin.cell, by rw [hju]; exact hfin.v.le (fun u hu => by
                              unfold lowV
                              by_cases q0 : u = 0
                              · rw [if_pos q0, if_pos q0]; exact Or.inl rfl
                              · by_cases q1 : u = 1
                                · rw [if_neg q0, if_pos q1, if_neg q0, if_pos q1]; exact Or.inl rfl
                                · rw [if_neg q0, if_neg q1, if_neg q0, if_neg q1]
                                  by_cases q6 : u = 6 ∨ u = 7
                                  · rw [if_pos q6, if_pos q6]; refine Or.inl ?_; rw [va_n q1, va_n q0]
                                  · rw [if_neg q6, if_neg q6]; exact Or.inl rfl)⟩) (by decide) (by decide)
                          · refine g_iconst (v := nI 1) dX11_show_228 (by decide) ?_
                            refine g_goto (tgt := 233) dX11_show_229 (by decide) ?_
                            have ek : k_show sg mm (nI j) y = 0 := (by unfold k_show; (repeat' split) <;> first | rfl | (exfalso; simp only [i_lt, i_le, i_eq, it0, itm, ifp, nI_toInt (show 0 < 2147483648 by first | decide | omega), nI_toInt (show 1 < 2147483648 by first | decide | omega), nI_toInt (show 5 < 2147483648 by first | decide | omega), nI_toInt (show 4 < 2147483648 by first | decide | omega), nI_toInt (show 2 < 2147483648 by first | decide | omega), nI_toInt (show mm < 2147483648 by first | decide | omega), nI_toInt (show j < 2147483648 by first | decide | omega)] at * <;> omega))
                            have ej : j = 4 := by omega
                            subst ej
                            have hfin := hN29
                            exact e_i dX11_show_233 rfl rfl ((((g_fr.rf.up (by simp)).tr fr16 (by simp)).tr fr21 (by simp)).tr fr26 (by simp)) (Or.inr ⟨ek, by rw [hju]; show nI _ = nI (if (shB s v w l df cm mm pd 4 (un y)) ≤ (shA s v w l df cm mm pn (lmn 1000001 v w l mm) 4 (un y)) then 1 else 0); rw [if_pos (low_ge hB0 (Nat.not_lt.mp (fun q => c225 (cp_lt.mpr q))))], by rw [ek]; exact Mc.of hfin.cell, by rw [hju]; exact hfin.v.le (fun u hu => by
                              unfold lowV
                              by_cases q0 : u = 0
                              · rw [if_pos q0, if_pos q0]; exact Or.inl rfl
                              · by_cases q1 : u = 1
                                · rw [if_neg q0, if_pos q1, if_neg q0, if_pos q1]; exact Or.inl rfl
                                · rw [if_neg q0, if_neg q1, if_neg q0, if_neg q1]
                                  by_cases q6 : u = 6 ∨ u = 7
                                  · rw [if_pos q6, if_pos q6]; refine Or.inl ?_; rw [va_n q1, va_n q0]
                                  · rw [if_neg q6, if_neg q6]; exact Or.inl rfl)⟩) (by decide) (by decide)
                        · exact absurd c196 c173
                      · exact absurd hk4 (by omega)
                    · exact absurd hk4 (by omega)
                  · exact absurd hk4 (by omega)
                · exact absurd hk4 (by omega)
              · exact absurd c73 (by decide)
            · exact absurd c46 (by decide)
          · refine g_aload_n dX11_show_34 rfl rfl ?_
            refine g_getf (v := .int (nI sg)) dX11_show_35 fX11_231 m0 rfl ?_
            refine g_if_neN (tgt := 45) dX11_show_38 (by decide) (by omega) (fun c38 => ?_) (fun c38 => ?_)
            · refine g_iload_n dX11_show_45 rfl rfl ?_
              refine g_if_eqN (tgt := 65) dX11_show_46 (by decide) (by decide) (fun c46 => ?_) (fun c46 => ?_)
              · obtain ⟨j, hj0, hj1, rfl⟩ := nat_of (a := 0) (b := 4) (by decide) ⟨Int32.not_lt.mp c17, c22⟩ (by decide)
                have hju := un_nI (show j < 4294967296 by omega)
                have hkn0 : ¬ j = 0 := fun q => c1 (by rw [q]; rfl)
                have hkn2 : ¬ j = 2 := fun q => c6 (by rw [q])
                refine g_iconst (v := nI 0) dX11_show_65 (by decide) ?_
                refine g_put (fs' := [.int (nI 0), .ref 143, .int (nI (s 4)), .int (nI (s 7)), .int (nI (s 8)), .ref 144, .int (nI (s 5)), .int (nI (s 6)), .ref 145, .int (nI (s 9)), .int (nI (s 10)), .int (nI (s 11)), .int (nI (s 12)), .ref 146, .int (nI k), .ref 147, .int (nI m), .int (nI sg), .int (nI cm), .int (nI sd), .ref 148, .ref 149, .ref 150, .ref 151, .int (nI mm), .ref 152, .ref 153, .ref 154, .int (nI dr), .int (nI dd), .int (nI bk), .int wt, .ref 155, .int (nI rt), .ref 156, .ref 157, .ref 158, .ref 159, .ref 160, .ref 161, .ref 162, .ref 163, .ref 164, .ref 165, .ref 166]) dX11_show_66 fX11_1 m0 (Nat.le_of_ble_eq_true rfl) rfl rfl rfl ?_
                refine g_aload_n dX11_show_69 rfl rfl ?_
                refine g_getf (v := .int (nI 0)) dX11_show_70 fX11_1 g_eq rfl ?_
                refine g_if_leN (tgt := 78) dX11_show_73 (by decide) (by decide) (fun c73 => ?_) (fun c73 => ?_)
                · refine g_iload_n dX11_show_78 rfl rfl ?_
                  refine g_if_neN (tgt := 92) dX11_show_79 (by decide) (by omega) (fun c79 => ?_) (fun c79 => ?_)
                  · refine g_iload_n dX11_show_92 rfl rfl ?_
                    refine g_iconst (v := nI 1) dX11_show_93 (by decide) ?_
                    refine g_icmp_neN (tgt := 114) dX11_show_94 (by decide) (by omega) (by omega) (fun c94 => ?_) (fun c94 => ?_)
                    · refine g_iload_n dX11_show_114 rfl rfl ?_
                      refine g_iconst (v := nI 2) dX11_show_115 (by decide) ?_
                      refine g_icmp_neN (tgt := 169) dX11_show_116 (by decide) (by omega) (by omega) (fun c116 => ?_) (fun c116 => ?_)
                      · refine g_aload_n dX11_show_169 rfl rfl ?_
                        refine g_iconst (v := nI 0) dX11_show_170 (by decide) ?_
                        refine g_iload_n dX11_show_171 rfl rfl ?_
                        refine g_iconst (v := nI 3) dX11_show_172 (by decide) ?_
                        refine g_icmp_neN (tgt := 184) dX11_show_173 (by decide) (by omega) (by omega) (fun c173 => ?_) (fun c173 => ?_)
                        · refine g_aload_n dX11_show_184 rfl rfl ?_
                          refine g_getf (v := .int (nI (s 9))) dX11_show_185 fX11_30 g_eq rfl ?_
                          refine g_i2lN dX11_show_188 (by omega) ?_
                          refine cVv (st := []) dX11_show_189 (c_give G (d + 4) n ex _ ((hBv.fr (S := [142]) (g_fr.rf.up (by simp)) (by simp) (by simp)).n (X := MX (nI 0) s k m sg cm sd mm dr dd bk rt wt) g_eq) (s := 0) (v := (s 9)) (by decide) (by omega)) sX11_182 g_eq rfl rfl (by simp only [g_rm]; omega) (by simp only [g_rm]; omega) (Nat.le_of_ble_eq_true rfl) ⟨Nat.le_of_ble_eq_true rfl, Nat.le_of_ble_eq_true rfl⟩ (fun h34 fr35 p36 => ?_)
                          have hN38 := p36
                          refine g_aload_n dX11_show_192 rfl rfl ?_
                          refine g_iconst (v := nI 1) dX11_show_193 (by decide) ?_
                          refine g_iload_n dX11_show_194 rfl rfl ?_
                          refine g_iconst (v := nI 3) dX11_show_195 (by decide) ?_
                          refine g_icmp_neN (tgt := 207) dX11_show_196 (by decide) (by omega) (by omega) (fun c196 => ?_) (fun c196 => ?_)
                          · refine g_aload_n dX11_show_207 rfl rfl ?_
                            refine g_getf (v := .int (nI (s 10))) dX11_show_208 fX11_33 (fr35.at (by intro q; simp only [List.mem_cons, List.not_mem_nil, or_false] at q; omega) g_eq) rfl ?_
                            refine g_i2lN dX11_show_211 (by omega) ?_
                            refine cVv (st := []) dX11_show_212 (c_give G (d + 4) n ex h34 hN38 (s := 1) (v := (s 10)) (by decide) (by omega)) sX11_182 (fr35.at (by intro q; simp only [List.mem_cons, List.not_mem_nil, or_false] at q; omega) g_eq) rfl rfl (by simp only [g_rm]; omega) (by simp only [g_rm]; omega) (Nat.le_of_ble_eq_true rfl) ⟨Nat.le_of_ble_eq_true rfl, Nat.le_of_ble_eq_true rfl⟩ (fun h39 fr40 p41 => ?_)
                            have hN43 := p41
                            obtain ⟨hB0, ro1, ro2⟩ := hsh 4 (un y) (fun q => absurd rfl q) (by decide) (by omega)
                            refine g_aload_n dX11_show_215 rfl rfl ?_
                            refine cVv (st := []) dX11_show_216 (c_lowest G (d + 0) n ex h39 hN43 (A := (shA s v w l df cm mm pn (lmn 1000001 v w l mm) 4 (un y))) (B := (shB s v w l df cm mm pd 4 (un y))) (by rw [va_n (by decide), va_s]; rfl) (by rw [va_s]; rfl) hB0 ro1 ro2) sX11_329 (fr40.at (by intro q; simp only [List.mem_cons, List.not_mem_nil, or_false] at q; omega) (fr35.at (by intro q; simp only [List.mem_cons, List.not_mem_nil, or_false] at q; omega) g_eq)) rfl rfl (by simp only [g_rm]; omega) (by simp only [g_rm]; omega) (Nat.le_of_ble_eq_true rfl) ⟨Nat.le_of_ble_eq_true rfl, Nat.le_of_ble_eq_true rfl⟩ (fun h44 fr45 p46 => ?_)
                            have hN48 := p46
                            refine g_aload_n dX11_show_219 rfl rfl ?_
                            refine g_iconst (v := nI 0) dX11_show_220 (by decide) ?_
                            refine g_iconst (v := nI 1) dX11_show_221 (by decide) ?_
                            refine cVi (st := []) dX11_show_222 (c_mcompare G (d + 4) n ex h44 hN48 (by decide) (by decide) rfl rfl) sX11_203 (fr45.at (by intro q; simp only [List.mem_cons, List.not_mem_nil, or_false] at q; omega) (fr40.at (by intro q; simp only [List.mem_cons, List.not_mem_nil, or_false] at q; omega) (fr35.at (by intro q; simp only [List.mem_cons, List.not_mem_nil, or_false] at q; omega) g_eq))) rfl rfl (by simp only [g_rm]; omega) (by simp only [g_rm]; omega) (Nat.le_of_ble_eq_true rfl) ⟨Nat.le_of_ble_eq_true rfl, Nat.le_of_ble_eq_true rfl⟩ (fun r52 h49 fr50 p51 => ?_)
                            cases g_fr0 fr50
                            subst p51
                            refine g_if_lt (tgt := 232) dX11_show_225 (by decide) (fun c225 => ?_) (fun c225 => ?_)
                            · refine g_iconst (v := nI 0) dX11_show_232 (by decide) ?_
                              have ek : k_show sg mm (nI j) y = 0 := (by unfold k_show; (repeat' split) <;> first | rfl | (exfalso; simp only [i_lt, i_le, i_eq, it0, itm, ifp, nI_toInt (show 0 < 2147483648 by first | decide | omega), nI_toInt (show 1 < 2147483648 by first | decide | omega), nI_toInt (show 5 < 2147483648 by first | decide | omega), nI_toInt (show 4 < 2147483648 by first | decide | omega), nI_toInt (show 2 < 2147483648 by first | decide | omega), nI_toInt (show mm < 2147483648 by first | decide | omega), nI_toInt (show j < 2147483648 by first | decide | omega)] at * <;> omega))
                              have ej : j = 4 := by omega
                              subst ej
                              have hfin := hN48
                              exact e_i dX11_show_233 rfl rfl ((((g_fr.rf.up (by simp)).tr fr35 (by simp)).tr fr40 (by simp)).tr fr45 (by simp)) (Or.inr ⟨ek, by rw [hju]; show nI _ = nI (if (shB s v w l df cm mm pd 4 (un y)) ≤ (shA s v w l df cm mm pn (lmn 1000001 v w l mm) 4 (un y)) then 1 else 0); rw [if_neg (fun q => absurd (cp_lt.mp c225) (Nat.not_lt.mpr (low_ge2 hB0 q)))], by rw [ek]; exact Mc.of hfin.cell, by rw [hju]; exact hfin.v.le (fun u hu => by
                                unfold lowV
                                by_cases q0 : u = 0
                                · rw [if_pos q0, if_pos q0]; exact Or.inl rfl
                                · by_cases q1 : u = 1
                                  · rw [if_neg q0, if_pos q1, if_neg q0, if_pos q1]; exact Or.inl rfl
                                  · rw [if_neg q0, if_neg q1, if_neg q0, if_neg q1]
                                    by_cases q6 : u = 6 ∨ u = 7
                                    · rw [if_pos q6, if_pos q6]; refine Or.inl ?_; rw [va_n q1, va_n q0]
                                    · rw [if_neg q6, if_neg q6]; exact Or.inl rfl)⟩) (by decide) (by decide)
                            · refine g_iconst (v := nI 1) dX11_show_228 (by decide) ?_
                              refine g_goto (tgt := 233) dX11_show_229 (by decide) ?_
                              have ek : k_show sg mm (nI j) y = 0 := (by unfold k_show; (repeat' split) <;> first | rfl | (exfalso; simp only [i_lt, i_le, i_eq, it0, itm, ifp, nI_toInt (show 0 < 2147483648 by first | decide | omega), nI_toInt (show 1 < 2147483648 by first | decide | omega), nI_toInt (show 5 < 2147483648 by first | decide | omega), nI_toInt (show 4 < 2147483648 by first | decide | omega), nI_toInt (show 2 < 2147483648 by first | decide | omega), nI_toInt (show mm < 2147483648 by first | decide | omega), nI_toInt (show j < 2147483648 by first | decide | omega)] at * <;> omega))
                              have ej : j = 4 := by omega
                              subst ej
                              have hfin := hN48
                              exact e_i dX11_show_233 rfl rfl ((((g_fr.rf.up (by simp)).tr fr35 (by simp)).tr fr40 (by simp)).tr fr45 (by simp)) (Or.inr ⟨ek, by rw [hju]; show nI _ = nI (if (shB s v w l df cm mm pd 4 (un y)) ≤ (shA s v w l df cm mm pn (lmn 1000001 v w l mm) 4 (un y)) then 1 else 0); rw [if_pos (low_ge hB0 (Nat.not_lt.mp (fun q => c225 (cp_lt.mpr q))))], by rw [ek]; exact Mc.of hfin.cell, by rw [hju]; exact hfin.v.le (fun u hu => by
                                unfold lowV
                                by_cases q0 : u = 0
                                · rw [if_pos q0, if_pos q0]; exact Or.inl rfl
                                · by_cases q1 : u = 1
                                  · rw [if_neg q0, if_pos q1, if_neg q0, if_pos q1]; exact Or.inl rfl
                                  · rw [if_neg q0, if_neg q1, if_neg q0, if_neg q1]
                                    by_cases q6 : u = 6 ∨ u = 7
                                    · rw [if_pos q6, if_pos q6]; refine Or.inl ?_; rw [va_n q1, va_n q0]
                                    · rw [if_neg q6, if_neg q6]; exact Or.inl rfl)⟩) (by decide) (by decide)
                          · exact absurd c196 c173
                        · refine g_aload_n dX11_show_176 rfl rfl ?_
                          refine cVi (st := [.int (nI 0), .ref 142]) dX11_show_177 (c_margin G (d + 4) n ex _ (cd := nI 0) (s := s) (k := k) (m := m) (sg := sg) (cm := cm) (sd := sd) (mm := mm) (dr := dr) (dd := dd) (bk := bk) (rt := rt) (wt := wt) g_eq (g_ne (by decide) a3) (g_ne (by decide) a9) (g_ne (by decide) a10) hmm hwl hV) sX11_277 g_eq rfl rfl (by simp only [g_rm]; omega) (by simp only [g_rm]; omega) (Nat.le_of_ble_eq_true rfl) ⟨Nat.le_of_ble_eq_true rfl, Nat.le_of_ble_eq_true rfl⟩ (fun r56 h53 fr54 p55 => ?_)
                          cases g_fr0 fr54
                          subst p55
                          have hlm9 := lmn_le (N := 1000001) (v := v) (w := w) (l := l) (m := mm)
                          refine g_i2lN dX11_show_180 (by omega) ?_
                          refine g_goto (tgt := 189) dX11_show_181 (by decide) ?_
                          refine cVv (st := []) dX11_show_189 (c_give G (d + 4) n ex _ ((hBv.fr (S := [142]) (g_fr.rf.up (by simp)) (by simp) (by simp)).n (X := MX (nI 0) s k m sg cm sd mm dr dd bk rt wt) g_eq) (s := 0) (v := (lmn 1000001 v w l mm)) (by decide) (by omega)) sX11_182 g_eq rfl rfl (by simp only [g_rm]; omega) (by simp only [g_rm]; omega) (Nat.le_of_ble_eq_true rfl) ⟨Nat.le_of_ble_eq_true rfl, Nat.le_of_ble_eq_true rfl⟩ (fun h57 fr58 p59 => ?_)
                          have hN61 := p59
                          refine g_aload_n dX11_show_192 rfl rfl ?_
                          refine g_iconst (v := nI 1) dX11_show_193 (by decide) ?_
                          refine g_iload_n dX11_show_194 rfl rfl ?_
                          refine g_iconst (v := nI 3) dX11_show_195 (by decide) ?_
                          refine g_icmp_neN (tgt := 207) dX11_show_196 (by decide) (by omega) (by omega) (fun c196 => ?_) (fun c196 => ?_)
                          · exact absurd c173 c196
                          · refine g_aload_n dX11_show_199 rfl rfl ?_
                            refine g_getf (v := .int (nI (s 6))) dX11_show_200 fX11_240 (fr58.at (by intro q; simp only [List.mem_cons, List.not_mem_nil, or_false] at q; omega) g_eq) rfl ?_
                            refine g_i2lN dX11_show_203 (by omega) ?_
                            refine g_goto (tgt := 212) dX11_show_204 (by decide) ?_
                            refine cVv (st := []) dX11_show_212 (c_give G (d + 4) n ex h57 hN61 (s := 1) (v := (s 6)) (by decide) (by omega)) sX11_182 (fr58.at (by intro q; simp only [List.mem_cons, List.not_mem_nil, or_false] at q; omega) g_eq) rfl rfl (by simp only [g_rm]; omega) (by simp only [g_rm]; omega) (Nat.le_of_ble_eq_true rfl) ⟨Nat.le_of_ble_eq_true rfl, Nat.le_of_ble_eq_true rfl⟩ (fun h62 fr63 p64 => ?_)
                            have hN66 := p64
                            obtain ⟨hB0, ro1, ro2⟩ := hsh 3 (un y) (fun _ => c38) (by decide) (by omega)
                            refine g_aload_n dX11_show_215 rfl rfl ?_
                            refine cVv (st := []) dX11_show_216 (c_lowest G (d + 0) n ex h62 hN66 (A := (shA s v w l df cm mm pn (lmn 1000001 v w l mm) 3 (un y))) (B := (shB s v w l df cm mm pd 3 (un y))) (by rw [va_n (by decide), va_s]; rfl) (by rw [va_s]; rfl) hB0 ro1 ro2) sX11_329 (fr63.at (by intro q; simp only [List.mem_cons, List.not_mem_nil, or_false] at q; omega) (fr58.at (by intro q; simp only [List.mem_cons, List.not_mem_nil, or_false] at q; omega) g_eq)) rfl rfl (by simp only [g_rm]; omega) (by simp only [g_rm]; omega) (Nat.le_of_ble_eq_true rfl) ⟨Nat.le_of_ble_eq_true rfl, Nat.le_of_ble_eq_true rfl⟩ (fun h67 fr68 p69 => ?_)
                            have hN71 := p69
                            refine g_aload_n dX11_show_219 rfl rfl ?_
                            refine g_iconst (v := nI 0) dX11_show_220 (by decide) ?_
                            refine g_iconst (v := nI 1) dX11_show_221 (by decide) ?_
                            refine cVi (st := []) dX11_show_222 (c_mcompare G (d + 4) n ex h67 hN71 (by decide) (by decide) rfl rfl) sX11_203 (fr68.at (by intro q; simp only [List.mem_cons, List.not_mem_nil, or_false] at q; omega) (fr63.at (by intro q; simp only [List.mem_cons, List.not_mem_nil, or_false] at q; omega) (fr58.at (by intro q; simp only [List.mem_cons, List.not_mem_nil, or_false] at q; omega) g_eq))) rfl rfl (by simp only [g_rm]; omega) (by simp only [g_rm]; omega) (Nat.le_of_ble_eq_true rfl) ⟨Nat.le_of_ble_eq_true rfl, Nat.le_of_ble_eq_true rfl⟩ (fun r75 h72 fr73 p74 => ?_)
                            cases g_fr0 fr73
                            subst p74
                            refine g_if_lt (tgt := 232) dX11_show_225 (by decide) (fun c225 => ?_) (fun c225 => ?_)
                            · refine g_iconst (v := nI 0) dX11_show_232 (by decide) ?_
                              have ek : k_show sg mm (nI j) y = 0 := (by unfold k_show; (repeat' split) <;> first | rfl | (exfalso; simp only [i_lt, i_le, i_eq, it0, itm, ifp, nI_toInt (show 0 < 2147483648 by first | decide | omega), nI_toInt (show 1 < 2147483648 by first | decide | omega), nI_toInt (show 5 < 2147483648 by first | decide | omega), nI_toInt (show 4 < 2147483648 by first | decide | omega), nI_toInt (show 2 < 2147483648 by first | decide | omega), nI_toInt (show mm < 2147483648 by first | decide | omega), nI_toInt (show j < 2147483648 by first | decide | omega)] at * <;> omega))
                              have ej : j = 3 := by omega
                              subst ej
                              have hfin := hN71
                              exact e_i dX11_show_233 rfl rfl ((((g_fr.rf.up (by simp)).tr fr58 (by simp)).tr fr63 (by simp)).tr fr68 (by simp)) (Or.inr ⟨ek, by rw [hju]; show nI _ = nI (if (shB s v w l df cm mm pd 3 (un y)) ≤ (shA s v w l df cm mm pn (lmn 1000001 v w l mm) 3 (un y)) then 1 else 0); rw [if_neg (fun q => absurd (cp_lt.mp c225) (Nat.not_lt.mpr (low_ge2 hB0 q)))], by rw [ek]; exact Mc.of hfin.cell, by rw [hju]; exact hfin.v.le (fun u hu => by
                                unfold lowV
                                by_cases q0 : u = 0
                                · rw [if_pos q0, if_pos q0]; exact Or.inl rfl
                                · by_cases q1 : u = 1
                                  · rw [if_neg q0, if_pos q1, if_neg q0, if_pos q1]; exact Or.inl rfl
                                  · rw [if_neg q0, if_neg q1, if_neg q0, if_neg q1]
                                    by_cases q6 : u = 6 ∨ u = 7
                                    · rw [if_pos q6, if_pos q6]; refine Or.inl ?_; rw [va_n q1, va_n q0]
                                    · rw [if_neg q6, if_neg q6]; exact Or.inl rfl)⟩) (by decide) (by decide)
                            · refine g_iconst (v := nI 1) dX11_show_228 (by decide) ?_
                              refine g_goto (tgt := 233) dX11_show_229 (by decide) ?_
                              have ek : k_show sg mm (nI j) y = 0 := (by unfold k_show; (repeat' split) <;> first | rfl | (exfalso; simp only [i_lt, i_le, i_eq, it0, itm, ifp, nI_toInt (show 0 < 2147483648 by first | decide | omega), nI_toInt (show 1 < 2147483648 by first | decide | omega), nI_toInt (show 5 < 2147483648 by first | decide | omega), nI_toInt (show 4 < 2147483648 by first | decide | omega), nI_toInt (show 2 < 2147483648 by first | decide | omega), nI_toInt (show mm < 2147483648 by first | decide | omega), nI_toInt (show j < 2147483648 by first | decide | omega)] at * <;> omega))
                              have ej : j = 3 := by omega
                              subst ej
                              have hfin := hN71
                              exact e_i dX11_show_233 rfl rfl ((((g_fr.rf.up (by simp)).tr fr58 (by simp)).tr fr63 (by simp)).tr fr68 (by simp)) (Or.inr ⟨ek, by rw [hju]; show nI _ = nI (if (shB s v w l df cm mm pd 3 (un y)) ≤ (shA s v w l df cm mm pn (lmn 1000001 v w l mm) 3 (un y)) then 1 else 0); rw [if_pos (low_ge hB0 (Nat.not_lt.mp (fun q => c225 (cp_lt.mpr q))))], by rw [ek]; exact Mc.of hfin.cell, by rw [hju]; exact hfin.v.le (fun u hu => by
                                unfold lowV
                                by_cases q0 : u = 0
                                · rw [if_pos q0, if_pos q0]; exact Or.inl rfl
                                · by_cases q1 : u = 1
                                  · rw [if_neg q0, if_pos q1, if_neg q0, if_pos q1]; exact Or.inl rfl
                                  · rw [if_neg q0, if_neg q1, if_neg q0, if_neg q1]
                                    by_cases q6 : u = 6 ∨ u = 7
                                    · rw [if_pos q6, if_pos q6]; refine Or.inl ?_; rw [va_n q1, va_n q0]
                                    · rw [if_neg q6, if_neg q6]; exact Or.inl rfl)⟩) (by decide) (by decide)
                      · exact absurd c116 (by omega)
                    · refine g_aload_n dX11_show_97 rfl rfl ?_
                      refine g_iconst (v := nI 0) dX11_show_98 (by decide) ?_
                      refine g_bipush (v := nI 6) dX11_show_99 (by decide) ?_
                      refine cVv (st := []) dX11_show_101 (c_mcopy G (d + 4) n ex _ ((hBv.fr (S := [142]) (g_fr.rf.up (by simp)) (by simp) (by simp)).n (X := MX (nI 0) s k m sg cm sd mm dr dd bk rt wt) g_eq) (by decide) (by decide) (by decide) hv6) sX11_195 g_eq rfl rfl (by simp only [g_rm]; omega) (by simp only [g_rm]; omega) (Nat.le_of_ble_eq_true rfl) ⟨Nat.le_of_ble_eq_true rfl, Nat.le_of_ble_eq_true rfl⟩ (fun h76 fr77 p78 => ?_)
                      have hN80 := p78
                      refine g_aload_n dX11_show_104 rfl rfl ?_
                      refine g_iconst (v := nI 1) dX11_show_105 (by decide) ?_
                      refine g_bipush (v := nI 7) dX11_show_106 (by decide) ?_
                      refine cVv (st := []) dX11_show_108 (c_mcopy G (d + 4) n ex h76 hN80 (by decide) (by decide) (by decide) ((va_n (by decide)).trans hv7)) sX11_195 (fr77.at (by intro q; simp only [List.mem_cons, List.not_mem_nil, or_false] at q; omega) g_eq) rfl rfl (by simp only [g_rm]; omega) (by simp only [g_rm]; omega) (Nat.le_of_ble_eq_true rfl) ⟨Nat.le_of_ble_eq_true rfl, Nat.le_of_ble_eq_true rfl⟩ (fun h81 fr82 p83 => ?_)
                      have hN85 := p83
                      refine g_goto (tgt := 215) dX11_show_111 (by decide) ?_
                      obtain ⟨hB0, ro1, ro2⟩ := hsh 1 (un y) (fun _ => c38) (by decide) (by omega)
                      refine g_aload_n dX11_show_215 rfl rfl ?_
                      refine cVv (st := []) dX11_show_216 (c_lowest G (d + 0) n ex h81 hN85 (A := (shA s v w l df cm mm pn (lmn 1000001 v w l mm) 1 (un y))) (B := (shB s v w l df cm mm pd 1 (un y))) (by rw [va_n (by decide), va_s]; rfl) (by rw [va_s]; rfl) hB0 ro1 ro2) sX11_329 (fr82.at (by intro q; simp only [List.mem_cons, List.not_mem_nil, or_false] at q; omega) (fr77.at (by intro q; simp only [List.mem_cons, List.not_mem_nil, or_false] at q; omega) g_eq)) rfl rfl (by simp only [g_rm]; omega) (by simp only [g_rm]; omega) (Nat.le_of_ble_eq_true rfl) ⟨Nat.le_of_ble_eq_true rfl, Nat.le_of_ble_eq_true rfl⟩ (fun h86 fr87 p88 => ?_)
                      have hN90 := p88
                      refine g_aload_n dX11_show_219 rfl rfl ?_
                      refine g_iconst (v := nI 0) dX11_show_220 (by decide) ?_
                      refine g_iconst (v := nI 1) dX11_show_221 (by decide) ?_
                      refine cVi (st := []) dX11_show_222 (c_mcompare G (d + 4) n ex h86 hN90 (by decide) (by decide) rfl rfl) sX11_203 (fr87.at (by intro q; simp only [List.mem_cons, List.not_mem_nil, or_false] at q; omega) (fr82.at (by intro q; simp only [List.mem_cons, List.not_mem_nil, or_false] at q; omega) (fr77.at (by intro q; simp only [List.mem_cons, List.not_mem_nil, or_false] at q; omega) g_eq))) rfl rfl (by simp only [g_rm]; omega) (by simp only [g_rm]; omega) (Nat.le_of_ble_eq_true rfl) ⟨Nat.le_of_ble_eq_true rfl, Nat.le_of_ble_eq_true rfl⟩ (fun r94 h91 fr92 p93 => ?_)
                      cases g_fr0 fr92
                      subst p93
                      refine g_if_lt (tgt := 232) dX11_show_225 (by decide) (fun c225 => ?_) (fun c225 => ?_)
                      · refine g_iconst (v := nI 0) dX11_show_232 (by decide) ?_
                        have ek : k_show sg mm (nI j) y = 0 := (by unfold k_show; (repeat' split) <;> first | rfl | (exfalso; simp only [i_lt, i_le, i_eq, it0, itm, ifp, nI_toInt (show 0 < 2147483648 by first | decide | omega), nI_toInt (show 1 < 2147483648 by first | decide | omega), nI_toInt (show 5 < 2147483648 by first | decide | omega), nI_toInt (show 4 < 2147483648 by first | decide | omega), nI_toInt (show 2 < 2147483648 by first | decide | omega), nI_toInt (show mm < 2147483648 by first | decide | omega), nI_toInt (show j < 2147483648 by first | decide | omega)] at * <;> omega))
                        have ej : j = 1 := by omega
                        subst ej
                        have hfin := hN90
                        exact e_i dX11_show_233 rfl rfl ((((g_fr.rf.up (by simp)).tr fr77 (by simp)).tr fr82 (by simp)).tr fr87 (by simp)) (Or.inr ⟨ek, by rw [hju]; show nI _ = nI (if (shB s v w l df cm mm pd 1 (un y)) ≤ (shA s v w l df cm mm pn (lmn 1000001 v w l mm) 1 (un y)) then 1 else 0); rw [if_neg (fun q => absurd (cp_lt.mp c225) (Nat.not_lt.mpr (low_ge2 hB0 q)))], by rw [ek]; exact Mc.of hfin.cell, by rw [hju]; exact hfin.v.le (fun u hu => by
                          unfold lowV
                          by_cases q0 : u = 0
                          · rw [if_pos q0, if_pos q0]; exact Or.inl rfl
                          · by_cases q1 : u = 1
                            · rw [if_neg q0, if_pos q1, if_neg q0, if_pos q1]; exact Or.inl rfl
                            · rw [if_neg q0, if_neg q1, if_neg q0, if_neg q1]
                              by_cases q6 : u = 6 ∨ u = 7
                              · rw [if_pos q6, if_pos q6]; refine Or.inl ?_; rw [va_n q1, va_n q0]
                              · rw [if_neg q6, if_neg q6]; exact Or.inl rfl)⟩) (by decide) (by decide)
                      · refine g_iconst (v := nI 1) dX11_show_228 (by decide) ?_
                        refine g_goto (tgt := 233) dX11_show_229 (by decide) ?_
                        have ek : k_show sg mm (nI j) y = 0 := (by unfold k_show; (repeat' split) <;> first | rfl | (exfalso; simp only [i_lt, i_le, i_eq, it0, itm, ifp, nI_toInt (show 0 < 2147483648 by first | decide | omega), nI_toInt (show 1 < 2147483648 by first | decide | omega), nI_toInt (show 5 < 2147483648 by first | decide | omega), nI_toInt (show 4 < 2147483648 by first | decide | omega), nI_toInt (show 2 < 2147483648 by first | decide | omega), nI_toInt (show mm < 2147483648 by first | decide | omega), nI_toInt (show j < 2147483648 by first | decide | omega)] at * <;> omega))
                        have ej : j = 1 := by omega
                        subst ej
                        have hfin := hN90
                        exact e_i dX11_show_233 rfl rfl ((((g_fr.rf.up (by simp)).tr fr77 (by simp)).tr fr82 (by simp)).tr fr87 (by simp)) (Or.inr ⟨ek, by rw [hju]; show nI _ = nI (if (shB s v w l df cm mm pd 1 (un y)) ≤ (shA s v w l df cm mm pn (lmn 1000001 v w l mm) 1 (un y)) then 1 else 0); rw [if_pos (low_ge hB0 (Nat.not_lt.mp (fun q => c225 (cp_lt.mpr q))))], by rw [ek]; exact Mc.of hfin.cell, by rw [hju]; exact hfin.v.le (fun u hu => by
                          unfold lowV
                          by_cases q0 : u = 0
                          · rw [if_pos q0, if_pos q0]; exact Or.inl rfl
                          · by_cases q1 : u = 1
                            · rw [if_neg q0, if_pos q1, if_neg q0, if_pos q1]; exact Or.inl rfl
                            · rw [if_neg q0, if_neg q1, if_neg q0, if_neg q1]
                              by_cases q6 : u = 6 ∨ u = 7
                              · rw [if_pos q6, if_pos q6]; refine Or.inl ?_; rw [va_n q1, va_n q0]
                              · rw [if_neg q6, if_neg q6]; exact Or.inl rfl)⟩) (by decide) (by decide)
                  · exact absurd c79 (by omega)
                · exact absurd c73 (by decide)
              · exact absurd c46 (by decide)
            · refine g_iconst (v := nI 2) dX11_show_41 (by decide) ?_
              refine g_goto (tgt := 66) dX11_show_42 (by decide) ?_
              refine g_put (fs' := [.int (nI 2), .ref 143, .int (nI (s 4)), .int (nI (s 7)), .int (nI (s 8)), .ref 144, .int (nI (s 5)), .int (nI (s 6)), .ref 145, .int (nI (s 9)), .int (nI (s 10)), .int (nI (s 11)), .int (nI (s 12)), .ref 146, .int (nI k), .ref 147, .int (nI m), .int (nI sg), .int (nI cm), .int (nI sd), .ref 148, .ref 149, .ref 150, .ref 151, .int (nI mm), .ref 152, .ref 153, .ref 154, .int (nI dr), .int (nI dd), .int (nI bk), .int wt, .ref 155, .int (nI rt), .ref 156, .ref 157, .ref 158, .ref 159, .ref 160, .ref 161, .ref 162, .ref 163, .ref 164, .ref 165, .ref 166]) dX11_show_66 fX11_1 m0 (Nat.le_of_ble_eq_true rfl) rfl rfl rfl ?_
              refine g_aload_n dX11_show_69 rfl rfl ?_
              refine g_getf (v := .int (nI 2)) dX11_show_70 fX11_1 g_eq rfl ?_
              refine g_if_leN (tgt := 78) dX11_show_73 (by decide) (by decide) (fun c73 => ?_) (fun c73 => ?_)
              · exact absurd c73 (by decide)
              · refine g_iconst (v := nI 0) dX11_show_76 (by decide) ?_
                have ek : k_show sg mm x y = 2 := (by unfold k_show; (repeat' split) <;> first | rfl | (exfalso; simp only [i_lt, i_le, i_eq, it0, itm, ifp, nI_toInt (show 0 < 2147483648 by first | decide | omega), nI_toInt (show 1 < 2147483648 by first | decide | omega), nI_toInt (show 5 < 2147483648 by first | decide | omega), nI_toInt (show 4 < 2147483648 by first | decide | omega), nI_toInt (show 2 < 2147483648 by first | decide | omega), nI_toInt (show mm < 2147483648 by first | decide | omega)] at * <;> omega))
                exact e_i dX11_show_77 rfl rfl (g_fr.rf.up (by simp)) (Or.inl ⟨by rw [ek]; decide, by rw [ek]; exact g_eq, g_fr.rf.up (by simp)⟩) (by decide) (by decide)
        · refine g_iconst (v := nI 1) dX11_show_25 (by decide) ?_
          refine g_goto (tgt := 66) dX11_show_26 (by decide) ?_
          refine g_put (fs' := [.int (nI 1), .ref 143, .int (nI (s 4)), .int (nI (s 7)), .int (nI (s 8)), .ref 144, .int (nI (s 5)), .int (nI (s 6)), .ref 145, .int (nI (s 9)), .int (nI (s 10)), .int (nI (s 11)), .int (nI (s 12)), .ref 146, .int (nI k), .ref 147, .int (nI m), .int (nI sg), .int (nI cm), .int (nI sd), .ref 148, .ref 149, .ref 150, .ref 151, .int (nI mm), .ref 152, .ref 153, .ref 154, .int (nI dr), .int (nI dd), .int (nI bk), .int wt, .ref 155, .int (nI rt), .ref 156, .ref 157, .ref 158, .ref 159, .ref 160, .ref 161, .ref 162, .ref 163, .ref 164, .ref 165, .ref 166]) dX11_show_66 fX11_1 m0 (Nat.le_of_ble_eq_true rfl) rfl rfl rfl ?_
          refine g_aload_n dX11_show_69 rfl rfl ?_
          refine g_getf (v := .int (nI 1)) dX11_show_70 fX11_1 g_eq rfl ?_
          refine g_if_leN (tgt := 78) dX11_show_73 (by decide) (by decide) (fun c73 => ?_) (fun c73 => ?_)
          · exact absurd c73 (by decide)
          · refine g_iconst (v := nI 0) dX11_show_76 (by decide) ?_
            have ek : k_show sg mm x y = 1 := (by unfold k_show; (repeat' split) <;> first | rfl | (exfalso; simp only [i_lt, i_le, i_eq, it0, itm, ifp, nI_toInt (show 0 < 2147483648 by first | decide | omega), nI_toInt (show 1 < 2147483648 by first | decide | omega), nI_toInt (show 5 < 2147483648 by first | decide | omega), nI_toInt (show 4 < 2147483648 by first | decide | omega), nI_toInt (show 2 < 2147483648 by first | decide | omega), nI_toInt (show mm < 2147483648 by first | decide | omega)] at * <;> omega))
            exact e_i dX11_show_77 rfl rfl (g_fr.rf.up (by simp)) (Or.inl ⟨by rw [ek]; decide, by rw [ek]; exact g_eq, g_fr.rf.up (by simp)⟩) (by decide) (by decide)
    · refine g_iconst (v := nI 1) dX11_show_9 (by decide) ?_
      refine g_goto (tgt := 14) dX11_show_10 (by decide) ?_
      refine g_istore_n (ls' := [(3, .int (nI 1)), (0, .ref 142), (1, .int x), (2, .int y)]) dX11_show_14 rfl (by decide) rfl ?_
      refine g_aload_n dX11_show_15 rfl rfl ?_
      refine g_iload_n dX11_show_16 rfl rfl ?_
      refine g_if_lt (tgt := 25) dX11_show_17 (by decide) (fun c17 => ?_) (fun c17 => ?_)
      · refine g_iconst (v := nI 1) dX11_show_25 (by decide) ?_
        refine g_goto (tgt := 66) dX11_show_26 (by decide) ?_
        refine g_put (fs' := [.int (nI 1), .ref 143, .int (nI (s 4)), .int (nI (s 7)), .int (nI (s 8)), .ref 144, .int (nI (s 5)), .int (nI (s 6)), .ref 145, .int (nI (s 9)), .int (nI (s 10)), .int (nI (s 11)), .int (nI (s 12)), .ref 146, .int (nI k), .ref 147, .int (nI m), .int (nI sg), .int (nI cm), .int (nI sd), .ref 148, .ref 149, .ref 150, .ref 151, .int (nI mm), .ref 152, .ref 153, .ref 154, .int (nI dr), .int (nI dd), .int (nI bk), .int wt, .ref 155, .int (nI rt), .ref 156, .ref 157, .ref 158, .ref 159, .ref 160, .ref 161, .ref 162, .ref 163, .ref 164, .ref 165, .ref 166]) dX11_show_66 fX11_1 m0 (Nat.le_of_ble_eq_true rfl) rfl rfl rfl ?_
        refine g_aload_n dX11_show_69 rfl rfl ?_
        refine g_getf (v := .int (nI 1)) dX11_show_70 fX11_1 g_eq rfl ?_
        refine g_if_leN (tgt := 78) dX11_show_73 (by decide) (by decide) (fun c73 => ?_) (fun c73 => ?_)
        · exact absurd c73 (by decide)
        · refine g_iconst (v := nI 0) dX11_show_76 (by decide) ?_
          have ek : k_show sg mm x y = 1 := (by unfold k_show; (repeat' split) <;> first | rfl | (exfalso; simp only [i_lt, i_le, i_eq, it0, itm, ifp, nI_toInt (show 0 < 2147483648 by first | decide | omega), nI_toInt (show 1 < 2147483648 by first | decide | omega), nI_toInt (show 5 < 2147483648 by first | decide | omega), nI_toInt (show 4 < 2147483648 by first | decide | omega), nI_toInt (show 2 < 2147483648 by first | decide | omega), nI_toInt (show mm < 2147483648 by first | decide | omega)] at * <;> omega))
          exact e_i dX11_show_77 rfl rfl (g_fr.rf.up (by simp)) (Or.inl ⟨by rw [ek]; decide, by rw [ek]; exact g_eq, g_fr.rf.up (by simp)⟩) (by decide) (by decide)
      · refine g_iload_n dX11_show_20 rfl rfl ?_
        refine g_iconst (v := nI 4) dX11_show_21 (by decide) ?_
        refine g_icmp_le (tgt := 29) dX11_show_22 (by decide) (fun c22 => ?_) (fun c22 => ?_)
        · refine g_iload_n dX11_show_29 rfl rfl ?_
          refine g_iconst (v := nI 4) dX11_show_30 (by decide) ?_
          refine g_icmp_ge (tgt := 45) dX11_show_31 (by decide) (fun c31 => ?_) (fun c31 => ?_)
          · refine g_iload_n dX11_show_45 rfl rfl ?_
            refine g_if_eqN (tgt := 65) dX11_show_46 (by decide) (by decide) (fun c46 => ?_) (fun c46 => ?_)
            · exact absurd c46 (by decide)
            · refine g_iload_n dX11_show_49 rfl rfl ?_
              refine g_if_lt (tgt := 61) dX11_show_50 (by decide) (fun c50 => ?_) (fun c50 => ?_)
              · refine g_iconst (v := nI 1) dX11_show_61 (by decide) ?_
                refine g_goto (tgt := 66) dX11_show_62 (by decide) ?_
                refine g_put (fs' := [.int (nI 1), .ref 143, .int (nI (s 4)), .int (nI (s 7)), .int (nI (s 8)), .ref 144, .int (nI (s 5)), .int (nI (s 6)), .ref 145, .int (nI (s 9)), .int (nI (s 10)), .int (nI (s 11)), .int (nI (s 12)), .ref 146, .int (nI k), .ref 147, .int (nI m), .int (nI sg), .int (nI cm), .int (nI sd), .ref 148, .ref 149, .ref 150, .ref 151, .int (nI mm), .ref 152, .ref 153, .ref 154, .int (nI dr), .int (nI dd), .int (nI bk), .int wt, .ref 155, .int (nI rt), .ref 156, .ref 157, .ref 158, .ref 159, .ref 160, .ref 161, .ref 162, .ref 163, .ref 164, .ref 165, .ref 166]) dX11_show_66 fX11_1 m0 (Nat.le_of_ble_eq_true rfl) rfl rfl rfl ?_
                refine g_aload_n dX11_show_69 rfl rfl ?_
                refine g_getf (v := .int (nI 1)) dX11_show_70 fX11_1 g_eq rfl ?_
                refine g_if_leN (tgt := 78) dX11_show_73 (by decide) (by decide) (fun c73 => ?_) (fun c73 => ?_)
                · exact absurd c73 (by decide)
                · refine g_iconst (v := nI 0) dX11_show_76 (by decide) ?_
                  have ek : k_show sg mm x y = 1 := (by unfold k_show; (repeat' split) <;> first | rfl | (exfalso; simp only [i_lt, i_le, i_eq, it0, itm, ifp, nI_toInt (show 0 < 2147483648 by first | decide | omega), nI_toInt (show 1 < 2147483648 by first | decide | omega), nI_toInt (show 5 < 2147483648 by first | decide | omega), nI_toInt (show 4 < 2147483648 by first | decide | omega), nI_toInt (show 2 < 2147483648 by first | decide | omega), nI_toInt (show mm < 2147483648 by first | decide | omega)] at * <;> omega))
                  exact e_i dX11_show_77 rfl rfl (g_fr.rf.up (by simp)) (Or.inl ⟨by rw [ek]; decide, by rw [ek]; exact g_eq, g_fr.rf.up (by simp)⟩) (by decide) (by decide)
              · refine g_iload_n dX11_show_53 rfl rfl ?_
                refine g_aload_n dX11_show_54 rfl rfl ?_
                refine g_getf (v := .int (nI mm)) dX11_show_55 fX11_250 m0 rfl ?_
                refine g_icmp_lt (tgt := 65) dX11_show_58 (by decide) (fun c58 => ?_) (fun c58 => ?_)
                · obtain ⟨j, hj0, hj1, rfl⟩ := nat_of (a := 0) (b := 4) (by decide) ⟨Int32.not_lt.mp c17, c22⟩ (by decide)
                  have hju := un_nI (show j < 4294967296 by omega)
                  obtain ⟨i, hi0, rfl⟩ := nat0 c50
                  have hi9 : i < mm := (nI_ltI hi0 (by omega)).mp c58
                  have hiu := un_nI (show i < 4294967296 by omega)
                  have hkn : j = 2 := (nI_eq (by omega) (by decide)).mp c6
                  have hk4 : j = 4 := by have := (nI_leI (by decide) (show j < 2147483648 by omega)).mp c31; omega
                  refine g_iconst (v := nI 0) dX11_show_65 (by decide) ?_
                  refine g_put (fs' := [.int (nI 0), .ref 143, .int (nI (s 4)), .int (nI (s 7)), .int (nI (s 8)), .ref 144, .int (nI (s 5)), .int (nI (s 6)), .ref 145, .int (nI (s 9)), .int (nI (s 10)), .int (nI (s 11)), .int (nI (s 12)), .ref 146, .int (nI k), .ref 147, .int (nI m), .int (nI sg), .int (nI cm), .int (nI sd), .ref 148, .ref 149, .ref 150, .ref 151, .int (nI mm), .ref 152, .ref 153, .ref 154, .int (nI dr), .int (nI dd), .int (nI bk), .int wt, .ref 155, .int (nI rt), .ref 156, .ref 157, .ref 158, .ref 159, .ref 160, .ref 161, .ref 162, .ref 163, .ref 164, .ref 165, .ref 166]) dX11_show_66 fX11_1 m0 (Nat.le_of_ble_eq_true rfl) rfl rfl rfl ?_
                  refine g_aload_n dX11_show_69 rfl rfl ?_
                  refine g_getf (v := .int (nI 0)) dX11_show_70 fX11_1 g_eq rfl ?_
                  refine g_if_leN (tgt := 78) dX11_show_73 (by decide) (by decide) (fun c73 => ?_) (fun c73 => ?_)
                  · refine g_iload_n dX11_show_78 rfl rfl ?_
                    refine g_if_neN (tgt := 92) dX11_show_79 (by decide) (by omega) (fun c79 => ?_) (fun c79 => ?_)
                    · refine g_iload_n dX11_show_92 rfl rfl ?_
                      refine g_iconst (v := nI 1) dX11_show_93 (by decide) ?_
                      refine g_icmp_neN (tgt := 114) dX11_show_94 (by decide) (by omega) (by omega) (fun c94 => ?_) (fun c94 => ?_)
                      · refine g_iload_n dX11_show_114 rfl rfl ?_
                        refine g_iconst (v := nI 2) dX11_show_115 (by decide) ?_
                        refine g_icmp_neN (tgt := 169) dX11_show_116 (by decide) (by omega) (by omega) (fun c116 => ?_) (fun c116 => ?_)
                        · exact absurd hkn c116
                        · exact absurd hk4 (by omega)
                      · exact absurd hk4 (by omega)
                    · exact absurd hk4 (by omega)
                  · exact absurd c73 (by decide)
                · refine g_iconst (v := nI 1) dX11_show_61 (by decide) ?_
                  refine g_goto (tgt := 66) dX11_show_62 (by decide) ?_
                  refine g_put (fs' := [.int (nI 1), .ref 143, .int (nI (s 4)), .int (nI (s 7)), .int (nI (s 8)), .ref 144, .int (nI (s 5)), .int (nI (s 6)), .ref 145, .int (nI (s 9)), .int (nI (s 10)), .int (nI (s 11)), .int (nI (s 12)), .ref 146, .int (nI k), .ref 147, .int (nI m), .int (nI sg), .int (nI cm), .int (nI sd), .ref 148, .ref 149, .ref 150, .ref 151, .int (nI mm), .ref 152, .ref 153, .ref 154, .int (nI dr), .int (nI dd), .int (nI bk), .int wt, .ref 155, .int (nI rt), .ref 156, .ref 157, .ref 158, .ref 159, .ref 160, .ref 161, .ref 162, .ref 163, .ref 164, .ref 165, .ref 166]) dX11_show_66 fX11_1 m0 (Nat.le_of_ble_eq_true rfl) rfl rfl rfl ?_
                  refine g_aload_n dX11_show_69 rfl rfl ?_
                  refine g_getf (v := .int (nI 1)) dX11_show_70 fX11_1 g_eq rfl ?_
                  refine g_if_leN (tgt := 78) dX11_show_73 (by decide) (by decide) (fun c73 => ?_) (fun c73 => ?_)
                  · exact absurd c73 (by decide)
                  · refine g_iconst (v := nI 0) dX11_show_76 (by decide) ?_
                    have ek : k_show sg mm x y = 1 := (by unfold k_show; (repeat' split) <;> first | rfl | (exfalso; simp only [i_lt, i_le, i_eq, it0, itm, ifp, nI_toInt (show 0 < 2147483648 by first | decide | omega), nI_toInt (show 1 < 2147483648 by first | decide | omega), nI_toInt (show 5 < 2147483648 by first | decide | omega), nI_toInt (show 4 < 2147483648 by first | decide | omega), nI_toInt (show 2 < 2147483648 by first | decide | omega), nI_toInt (show mm < 2147483648 by first | decide | omega)] at * <;> omega))
                    exact e_i dX11_show_77 rfl rfl (g_fr.rf.up (by simp)) (Or.inl ⟨by rw [ek]; decide, by rw [ek]; exact g_eq, g_fr.rf.up (by simp)⟩) (by decide) (by decide)
          · refine g_aload_n dX11_show_34 rfl rfl ?_
            refine g_getf (v := .int (nI sg)) dX11_show_35 fX11_231 m0 rfl ?_
            refine g_if_neN (tgt := 45) dX11_show_38 (by decide) (by omega) (fun c38 => ?_) (fun c38 => ?_)
            · refine g_iload_n dX11_show_45 rfl rfl ?_
              refine g_if_eqN (tgt := 65) dX11_show_46 (by decide) (by decide) (fun c46 => ?_) (fun c46 => ?_)
              · exact absurd c46 (by decide)
              · refine g_iload_n dX11_show_49 rfl rfl ?_
                refine g_if_lt (tgt := 61) dX11_show_50 (by decide) (fun c50 => ?_) (fun c50 => ?_)
                · refine g_iconst (v := nI 1) dX11_show_61 (by decide) ?_
                  refine g_goto (tgt := 66) dX11_show_62 (by decide) ?_
                  refine g_put (fs' := [.int (nI 1), .ref 143, .int (nI (s 4)), .int (nI (s 7)), .int (nI (s 8)), .ref 144, .int (nI (s 5)), .int (nI (s 6)), .ref 145, .int (nI (s 9)), .int (nI (s 10)), .int (nI (s 11)), .int (nI (s 12)), .ref 146, .int (nI k), .ref 147, .int (nI m), .int (nI sg), .int (nI cm), .int (nI sd), .ref 148, .ref 149, .ref 150, .ref 151, .int (nI mm), .ref 152, .ref 153, .ref 154, .int (nI dr), .int (nI dd), .int (nI bk), .int wt, .ref 155, .int (nI rt), .ref 156, .ref 157, .ref 158, .ref 159, .ref 160, .ref 161, .ref 162, .ref 163, .ref 164, .ref 165, .ref 166]) dX11_show_66 fX11_1 m0 (Nat.le_of_ble_eq_true rfl) rfl rfl rfl ?_
                  refine g_aload_n dX11_show_69 rfl rfl ?_
                  refine g_getf (v := .int (nI 1)) dX11_show_70 fX11_1 g_eq rfl ?_
                  refine g_if_leN (tgt := 78) dX11_show_73 (by decide) (by decide) (fun c73 => ?_) (fun c73 => ?_)
                  · exact absurd c73 (by decide)
                  · refine g_iconst (v := nI 0) dX11_show_76 (by decide) ?_
                    have ek : k_show sg mm x y = 1 := (by unfold k_show; (repeat' split) <;> first | rfl | (exfalso; simp only [i_lt, i_le, i_eq, it0, itm, ifp, nI_toInt (show 0 < 2147483648 by first | decide | omega), nI_toInt (show 1 < 2147483648 by first | decide | omega), nI_toInt (show 5 < 2147483648 by first | decide | omega), nI_toInt (show 4 < 2147483648 by first | decide | omega), nI_toInt (show 2 < 2147483648 by first | decide | omega), nI_toInt (show mm < 2147483648 by first | decide | omega)] at * <;> omega))
                    exact e_i dX11_show_77 rfl rfl (g_fr.rf.up (by simp)) (Or.inl ⟨by rw [ek]; decide, by rw [ek]; exact g_eq, g_fr.rf.up (by simp)⟩) (by decide) (by decide)
                · refine g_iload_n dX11_show_53 rfl rfl ?_
                  refine g_aload_n dX11_show_54 rfl rfl ?_
                  refine g_getf (v := .int (nI mm)) dX11_show_55 fX11_250 m0 rfl ?_
                  refine g_icmp_lt (tgt := 65) dX11_show_58 (by decide) (fun c58 => ?_) (fun c58 => ?_)
                  · obtain ⟨j, hj0, hj1, rfl⟩ := nat_of (a := 0) (b := 4) (by decide) ⟨Int32.not_lt.mp c17, c22⟩ (by decide)
                    have hju := un_nI (show j < 4294967296 by omega)
                    obtain ⟨i, hi0, rfl⟩ := nat0 c50
                    have hi9 : i < mm := (nI_ltI hi0 (by omega)).mp c58
                    have hiu := un_nI (show i < 4294967296 by omega)
                    have hkn : j = 2 := (nI_eq (by omega) (by decide)).mp c6
                    refine g_iconst (v := nI 0) dX11_show_65 (by decide) ?_
                    refine g_put (fs' := [.int (nI 0), .ref 143, .int (nI (s 4)), .int (nI (s 7)), .int (nI (s 8)), .ref 144, .int (nI (s 5)), .int (nI (s 6)), .ref 145, .int (nI (s 9)), .int (nI (s 10)), .int (nI (s 11)), .int (nI (s 12)), .ref 146, .int (nI k), .ref 147, .int (nI m), .int (nI sg), .int (nI cm), .int (nI sd), .ref 148, .ref 149, .ref 150, .ref 151, .int (nI mm), .ref 152, .ref 153, .ref 154, .int (nI dr), .int (nI dd), .int (nI bk), .int wt, .ref 155, .int (nI rt), .ref 156, .ref 157, .ref 158, .ref 159, .ref 160, .ref 161, .ref 162, .ref 163, .ref 164, .ref 165, .ref 166]) dX11_show_66 fX11_1 m0 (Nat.le_of_ble_eq_true rfl) rfl rfl rfl ?_
                    refine g_aload_n dX11_show_69 rfl rfl ?_
                    refine g_getf (v := .int (nI 0)) dX11_show_70 fX11_1 g_eq rfl ?_
                    refine g_if_leN (tgt := 78) dX11_show_73 (by decide) (by decide) (fun c73 => ?_) (fun c73 => ?_)
                    · refine g_iload_n dX11_show_78 rfl rfl ?_
                      refine g_if_neN (tgt := 92) dX11_show_79 (by decide) (by omega) (fun c79 => ?_) (fun c79 => ?_)
                      · refine g_iload_n dX11_show_92 rfl rfl ?_
                        refine g_iconst (v := nI 1) dX11_show_93 (by decide) ?_
                        refine g_icmp_neN (tgt := 114) dX11_show_94 (by decide) (by omega) (by omega) (fun c94 => ?_) (fun c94 => ?_)
                        · refine g_iload_n dX11_show_114 rfl rfl ?_
                          refine g_iconst (v := nI 2) dX11_show_115 (by decide) ?_
                          refine g_icmp_neN (tgt := 169) dX11_show_116 (by decide) (by omega) (by omega) (fun c116 => ?_) (fun c116 => ?_)
                          · exact absurd hkn c116
                          · have hw9 := hwl i hi9
                            have hv9 := hV i hi9
                            refine g_aload_n dX11_show_119 rfl rfl ?_
                            refine g_iconst (v := nI 0) dX11_show_120 (by decide) ?_
                            refine g_aload_n dX11_show_121 rfl rfl ?_
                            refine g_getf (v := .ref 143) dX11_show_122 fX11_13 g_eq rfl ?_
                            refine g_aload_n dX11_show_125 rfl rfl ?_
                            refine g_getf (v := .ref 149) dX11_show_126 fX11_52 g_eq rfl ?_
                            refine g_iload_n dX11_show_129 rfl rfl ?_
                            refine g_ialdN dX11_show_130 (g_ne (by decide) a9) (by omega) (by decide) ?_
                            refine g_ialdN dX11_show_131 (g_ne (by decide) a3) (by omega) (by decide) ?_
                            refine g_i2lN dX11_show_132 (by omega) ?_
                            refine cVv (st := []) dX11_show_133 (c_give G (d + 4) n ex _ ((hBv.fr (S := [142]) (g_fr.rf.up (by simp)) (by simp) (by simp)).n (X := MX (nI 0) s k m sg cm sd mm dr dd bk rt wt) g_eq) (s := 0) (v := (v (w i))) (by decide) (by omega)) sX11_182 g_eq rfl rfl (by simp only [g_rm]; omega) (by simp only [g_rm]; omega) (Nat.le_of_ble_eq_true rfl) ⟨Nat.le_of_ble_eq_true rfl, Nat.le_of_ble_eq_true rfl⟩ (fun h95 fr96 p97 => ?_)
                            have hN99 := p97
                            refine g_aload_n dX11_show_136 rfl rfl ?_
                            refine g_iconst (v := nI 1) dX11_show_137 (by decide) ?_
                            refine g_aload_n dX11_show_138 rfl rfl ?_
                            refine g_getf (v := .ref 143) dX11_show_139 fX11_13 (fr96.at (by intro q; simp only [List.mem_cons, List.not_mem_nil, or_false] at q; omega) g_eq) rfl ?_
                            refine g_aload_n dX11_show_142 rfl rfl ?_
                            refine g_getf (v := .ref 149) dX11_show_143 fX11_52 (fr96.at (by intro q; simp only [List.mem_cons, List.not_mem_nil, or_false] at q; omega) g_eq) rfl ?_
                            refine g_iload_n dX11_show_146 rfl rfl ?_
                            refine g_ialdN dX11_show_147 (fr96.at (by intro q; simp only [List.mem_cons, List.not_mem_nil, or_false] at q; omega) (g_ne (by decide) a9)) (by omega) (by decide) ?_
                            refine g_ialdN dX11_show_148 (fr96.at (by intro q; simp only [List.mem_cons, List.not_mem_nil, or_false] at q; omega) (g_ne (by decide) a3)) (by omega) (by decide) ?_
                            refine g_i2lN dX11_show_149 (by omega) ?_
                            refine g_aload_n dX11_show_150 rfl rfl ?_
                            refine g_getf (v := .ref 143) dX11_show_151 fX11_13 (fr96.at (by intro q; simp only [List.mem_cons, List.not_mem_nil, or_false] at q; omega) g_eq) rfl ?_
                            refine g_aload_n dX11_show_154 rfl rfl ?_
                            refine g_getf (v := .ref 150) dX11_show_155 fX11_55 (fr96.at (by intro q; simp only [List.mem_cons, List.not_mem_nil, or_false] at q; omega) g_eq) rfl ?_
                            refine g_iload_n dX11_show_158 rfl rfl ?_
                            refine g_ialdN dX11_show_159 (fr96.at (by intro q; simp only [List.mem_cons, List.not_mem_nil, or_false] at q; omega) (g_ne (by decide) a10)) (by omega) (by decide) ?_
                            refine g_ialdN dX11_show_160 (fr96.at (by intro q; simp only [List.mem_cons, List.not_mem_nil, or_false] at q; omega) (g_ne (by decide) a3)) (by omega) (by decide) ?_
                            refine g_i2lN dX11_show_161 (by omega) ?_
                            refine g_laddN dX11_show_162 ?_
                            refine cVv (st := []) dX11_show_163 (c_give G (d + 4) n ex h95 hN99 (s := 1) (v := ((v (w i)) + (v (l i)))) (by decide) (by omega)) sX11_182 (fr96.at (by intro q; simp only [List.mem_cons, List.not_mem_nil, or_false] at q; omega) g_eq) rfl rfl (by simp only [g_rm]; omega) (by simp only [g_rm]; omega) (Nat.le_of_ble_eq_true rfl) ⟨Nat.le_of_ble_eq_true rfl, Nat.le_of_ble_eq_true rfl⟩ (fun h100 fr101 p102 => ?_)
                            have hN104 := p102
                            refine g_goto (tgt := 215) dX11_show_166 (by decide) ?_
                            obtain ⟨hB0, ro1, ro2⟩ := hsh 2 (un (nI i)) (fun _ => c38) (by decide) (by rw [hiu]; exact fun _ => hi9)
                            refine g_aload_n dX11_show_215 rfl rfl ?_
                            refine cVv (st := []) dX11_show_216 (c_lowest G (d + 0) n ex h100 hN104 (A := (shA s v w l df cm mm pn (lmn 1000001 v w l mm) 2 (un (nI i)))) (B := (shB s v w l df cm mm pd 2 (un (nI i)))) (by rw [va_n (by decide), va_s]; rw [hiu]; rfl) (by rw [va_s]; rw [hiu]; rfl) hB0 ro1 ro2) sX11_329 (fr101.at (by intro q; simp only [List.mem_cons, List.not_mem_nil, or_false] at q; omega) (fr96.at (by intro q; simp only [List.mem_cons, List.not_mem_nil, or_false] at q; omega) g_eq)) rfl rfl (by simp only [g_rm]; omega) (by simp only [g_rm]; omega) (Nat.le_of_ble_eq_true rfl) ⟨Nat.le_of_ble_eq_true rfl, Nat.le_of_ble_eq_true rfl⟩ (fun h105 fr106 p107 => ?_)
                            have hN109 := p107
                            refine g_aload_n dX11_show_219 rfl rfl ?_
                            refine g_iconst (v := nI 0) dX11_show_220 (by decide) ?_
                            refine g_iconst (v := nI 1) dX11_show_221 (by decide) ?_
                            refine cVi (st := []) dX11_show_222 (c_mcompare G (d + 4) n ex h105 hN109 (by decide) (by decide) rfl rfl) sX11_203 (fr106.at (by intro q; simp only [List.mem_cons, List.not_mem_nil, or_false] at q; omega) (fr101.at (by intro q; simp only [List.mem_cons, List.not_mem_nil, or_false] at q; omega) (fr96.at (by intro q; simp only [List.mem_cons, List.not_mem_nil, or_false] at q; omega) g_eq))) rfl rfl (by simp only [g_rm]; omega) (by simp only [g_rm]; omega) (Nat.le_of_ble_eq_true rfl) ⟨Nat.le_of_ble_eq_true rfl, Nat.le_of_ble_eq_true rfl⟩ (fun r113 h110 fr111 p112 => ?_)
                            cases g_fr0 fr111
                            subst p112
                            refine g_if_lt (tgt := 232) dX11_show_225 (by decide) (fun c225 => ?_) (fun c225 => ?_)
                            · refine g_iconst (v := nI 0) dX11_show_232 (by decide) ?_
                              have ek : k_show sg mm (nI j) (nI i) = 0 := (by unfold k_show; (repeat' split) <;> first | rfl | (exfalso; simp only [i_lt, i_le, i_eq, it0, itm, ifp, nI_toInt (show 0 < 2147483648 by first | decide | omega), nI_toInt (show 1 < 2147483648 by first | decide | omega), nI_toInt (show 5 < 2147483648 by first | decide | omega), nI_toInt (show 4 < 2147483648 by first | decide | omega), nI_toInt (show 2 < 2147483648 by first | decide | omega), nI_toInt (show mm < 2147483648 by first | decide | omega), nI_toInt (show j < 2147483648 by first | decide | omega), nI_toInt (show i < 2147483648 by first | decide | omega)] at * <;> omega))
                              have ej : j = 2 := by omega
                              subst ej
                              have hfin := hN109
                              exact e_i dX11_show_233 rfl rfl ((((g_fr.rf.up (by simp)).tr fr96 (by simp)).tr fr101 (by simp)).tr fr106 (by simp)) (Or.inr ⟨ek, by rw [hju]; show nI _ = nI (if (shB s v w l df cm mm pd 2 (un (nI i))) ≤ (shA s v w l df cm mm pn (lmn 1000001 v w l mm) 2 (un (nI i))) then 1 else 0); rw [if_neg (fun q => absurd (cp_lt.mp c225) (Nat.not_lt.mpr (low_ge2 hB0 q)))], by rw [ek]; exact Mc.of hfin.cell, by rw [hju]; exact hfin.v.le (fun u hu => by
                                unfold lowV
                                by_cases q0 : u = 0
                                · rw [if_pos q0, if_pos q0]; exact Or.inl rfl
                                · by_cases q1 : u = 1
                                  · rw [if_neg q0, if_pos q1, if_neg q0, if_pos q1]; exact Or.inl rfl
                                  · rw [if_neg q0, if_neg q1, if_neg q0, if_neg q1]
                                    by_cases q6 : u = 6 ∨ u = 7
                                    · rw [if_pos q6, if_pos q6]; refine Or.inl ?_; rw [va_n q1, va_n q0]
                                    · rw [if_neg q6, if_neg q6]; exact Or.inl rfl)⟩) (by decide) (by decide)
                            · refine g_iconst (v := nI 1) dX11_show_228 (by decide) ?_
                              refine g_goto (tgt := 233) dX11_show_229 (by decide) ?_
                              have ek : k_show sg mm (nI j) (nI i) = 0 := (by unfold k_show; (repeat' split) <;> first | rfl | (exfalso; simp only [i_lt, i_le, i_eq, it0, itm, ifp, nI_toInt (show 0 < 2147483648 by first | decide | omega), nI_toInt (show 1 < 2147483648 by first | decide | omega), nI_toInt (show 5 < 2147483648 by first | decide | omega), nI_toInt (show 4 < 2147483648 by first | decide | omega), nI_toInt (show 2 < 2147483648 by first | decide | omega), nI_toInt (show mm < 2147483648 by first | decide | omega), nI_toInt (show j < 2147483648 by first | decide | omega), nI_toInt (show i < 2147483648 by first | decide | omega)] at * <;> omega))
                              have ej : j = 2 := by omega
                              subst ej
                              have hfin := hN109
                              exact e_i dX11_show_233 rfl rfl ((((g_fr.rf.up (by simp)).tr fr96 (by simp)).tr fr101 (by simp)).tr fr106 (by simp)) (Or.inr ⟨ek, by rw [hju]; show nI _ = nI (if (shB s v w l df cm mm pd 2 (un (nI i))) ≤ (shA s v w l df cm mm pn (lmn 1000001 v w l mm) 2 (un (nI i))) then 1 else 0); rw [if_pos (low_ge hB0 (Nat.not_lt.mp (fun q => c225 (cp_lt.mpr q))))], by rw [ek]; exact Mc.of hfin.cell, by rw [hju]; exact hfin.v.le (fun u hu => by
                                unfold lowV
                                by_cases q0 : u = 0
                                · rw [if_pos q0, if_pos q0]; exact Or.inl rfl
                                · by_cases q1 : u = 1
                                  · rw [if_neg q0, if_pos q1, if_neg q0, if_pos q1]; exact Or.inl rfl
                                  · rw [if_neg q0, if_neg q1, if_neg q0, if_neg q1]
                                    by_cases q6 : u = 6 ∨ u = 7
                                    · rw [if_pos q6, if_pos q6]; refine Or.inl ?_; rw [va_n q1, va_n q0]
                                    · rw [if_neg q6, if_neg q6]; exact Or.inl rfl)⟩) (by decide) (by decide)
                        · exact absurd c94 (by omega)
                      · exact absurd c79 (by omega)
                    · exact absurd c73 (by decide)
                  · refine g_iconst (v := nI 1) dX11_show_61 (by decide) ?_
                    refine g_goto (tgt := 66) dX11_show_62 (by decide) ?_
                    refine g_put (fs' := [.int (nI 1), .ref 143, .int (nI (s 4)), .int (nI (s 7)), .int (nI (s 8)), .ref 144, .int (nI (s 5)), .int (nI (s 6)), .ref 145, .int (nI (s 9)), .int (nI (s 10)), .int (nI (s 11)), .int (nI (s 12)), .ref 146, .int (nI k), .ref 147, .int (nI m), .int (nI sg), .int (nI cm), .int (nI sd), .ref 148, .ref 149, .ref 150, .ref 151, .int (nI mm), .ref 152, .ref 153, .ref 154, .int (nI dr), .int (nI dd), .int (nI bk), .int wt, .ref 155, .int (nI rt), .ref 156, .ref 157, .ref 158, .ref 159, .ref 160, .ref 161, .ref 162, .ref 163, .ref 164, .ref 165, .ref 166]) dX11_show_66 fX11_1 m0 (Nat.le_of_ble_eq_true rfl) rfl rfl rfl ?_
                    refine g_aload_n dX11_show_69 rfl rfl ?_
                    refine g_getf (v := .int (nI 1)) dX11_show_70 fX11_1 g_eq rfl ?_
                    refine g_if_leN (tgt := 78) dX11_show_73 (by decide) (by decide) (fun c73 => ?_) (fun c73 => ?_)
                    · exact absurd c73 (by decide)
                    · refine g_iconst (v := nI 0) dX11_show_76 (by decide) ?_
                      have ek : k_show sg mm x y = 1 := (by unfold k_show; (repeat' split) <;> first | rfl | (exfalso; simp only [i_lt, i_le, i_eq, it0, itm, ifp, nI_toInt (show 0 < 2147483648 by first | decide | omega), nI_toInt (show 1 < 2147483648 by first | decide | omega), nI_toInt (show 5 < 2147483648 by first | decide | omega), nI_toInt (show 4 < 2147483648 by first | decide | omega), nI_toInt (show 2 < 2147483648 by first | decide | omega), nI_toInt (show mm < 2147483648 by first | decide | omega)] at * <;> omega))
                      exact e_i dX11_show_77 rfl rfl (g_fr.rf.up (by simp)) (Or.inl ⟨by rw [ek]; decide, by rw [ek]; exact g_eq, g_fr.rf.up (by simp)⟩) (by decide) (by decide)
            · refine g_iconst (v := nI 2) dX11_show_41 (by decide) ?_
              refine g_goto (tgt := 66) dX11_show_42 (by decide) ?_
              refine g_put (fs' := [.int (nI 2), .ref 143, .int (nI (s 4)), .int (nI (s 7)), .int (nI (s 8)), .ref 144, .int (nI (s 5)), .int (nI (s 6)), .ref 145, .int (nI (s 9)), .int (nI (s 10)), .int (nI (s 11)), .int (nI (s 12)), .ref 146, .int (nI k), .ref 147, .int (nI m), .int (nI sg), .int (nI cm), .int (nI sd), .ref 148, .ref 149, .ref 150, .ref 151, .int (nI mm), .ref 152, .ref 153, .ref 154, .int (nI dr), .int (nI dd), .int (nI bk), .int wt, .ref 155, .int (nI rt), .ref 156, .ref 157, .ref 158, .ref 159, .ref 160, .ref 161, .ref 162, .ref 163, .ref 164, .ref 165, .ref 166]) dX11_show_66 fX11_1 m0 (Nat.le_of_ble_eq_true rfl) rfl rfl rfl ?_
              refine g_aload_n dX11_show_69 rfl rfl ?_
              refine g_getf (v := .int (nI 2)) dX11_show_70 fX11_1 g_eq rfl ?_
              refine g_if_leN (tgt := 78) dX11_show_73 (by decide) (by decide) (fun c73 => ?_) (fun c73 => ?_)
              · exact absurd c73 (by decide)
              · refine g_iconst (v := nI 0) dX11_show_76 (by decide) ?_
                have ek : k_show sg mm x y = 2 := (by unfold k_show; (repeat' split) <;> first | rfl | (exfalso; simp only [i_lt, i_le, i_eq, it0, itm, ifp, nI_toInt (show 0 < 2147483648 by first | decide | omega), nI_toInt (show 1 < 2147483648 by first | decide | omega), nI_toInt (show 5 < 2147483648 by first | decide | omega), nI_toInt (show 4 < 2147483648 by first | decide | omega), nI_toInt (show 2 < 2147483648 by first | decide | omega), nI_toInt (show mm < 2147483648 by first | decide | omega)] at * <;> omega))
                exact e_i dX11_show_77 rfl rfl (g_fr.rf.up (by simp)) (Or.inl ⟨by rw [ek]; decide, by rw [ek]; exact g_eq, g_fr.rf.up (by simp)⟩) (by decide) (by decide)
        · refine g_iconst (v := nI 1) dX11_show_25 (by decide) ?_
          refine g_goto (tgt := 66) dX11_show_26 (by decide) ?_
          refine g_put (fs' := [.int (nI 1), .ref 143, .int (nI (s 4)), .int (nI (s 7)), .int (nI (s 8)), .ref 144, .int (nI (s 5)), .int (nI (s 6)), .ref 145, .int (nI (s 9)), .int (nI (s 10)), .int (nI (s 11)), .int (nI (s 12)), .ref 146, .int (nI k), .ref 147, .int (nI m), .int (nI sg), .int (nI cm), .int (nI sd), .ref 148, .ref 149, .ref 150, .ref 151, .int (nI mm), .ref 152, .ref 153, .ref 154, .int (nI dr), .int (nI dd), .int (nI bk), .int wt, .ref 155, .int (nI rt), .ref 156, .ref 157, .ref 158, .ref 159, .ref 160, .ref 161, .ref 162, .ref 163, .ref 164, .ref 165, .ref 166]) dX11_show_66 fX11_1 m0 (Nat.le_of_ble_eq_true rfl) rfl rfl rfl ?_
          refine g_aload_n dX11_show_69 rfl rfl ?_
          refine g_getf (v := .int (nI 1)) dX11_show_70 fX11_1 g_eq rfl ?_
          refine g_if_leN (tgt := 78) dX11_show_73 (by decide) (by decide) (fun c73 => ?_) (fun c73 => ?_)
          · exact absurd c73 (by decide)
          · refine g_iconst (v := nI 0) dX11_show_76 (by decide) ?_
            have ek : k_show sg mm x y = 1 := (by unfold k_show; (repeat' split) <;> first | rfl | (exfalso; simp only [i_lt, i_le, i_eq, it0, itm, ifp, nI_toInt (show 0 < 2147483648 by first | decide | omega), nI_toInt (show 1 < 2147483648 by first | decide | omega), nI_toInt (show 5 < 2147483648 by first | decide | omega), nI_toInt (show 4 < 2147483648 by first | decide | omega), nI_toInt (show 2 < 2147483648 by first | decide | omega), nI_toInt (show mm < 2147483648 by first | decide | omega)] at * <;> omega))
            exact e_i dX11_show_77 rfl rfl (g_fr.rf.up (by simp)) (Or.inl ⟨by rw [ek]; decide, by rw [ek]; exact g_eq, g_fr.rf.up (by simp)⟩) (by decide) (by decide)
