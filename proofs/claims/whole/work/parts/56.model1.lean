abbrev MX (cd : Int32) (s : Nat → Nat) (k m sg cm sd mm dr dd bk rt : Nat) (wt : Int32) : Nat → Int32 := fun j => match j with
  | 0 => cd
  | 2 => nI (s 4)
  | 3 => nI (s 7)
  | 4 => nI (s 8)
  | 6 => nI (s 5)
  | 7 => nI (s 6)
  | 9 => nI (s 9)
  | 10 => nI (s 10)
  | 11 => nI (s 11)
  | 12 => nI (s 12)
  | 14 => nI k
  | 16 => nI m
  | 17 => nI sg
  | 18 => nI cm
  | 19 => nI sd
  | 24 => nI mm
  | 28 => nI dr
  | 29 => nI dd
  | 30 => nI bk
  | 31 => wt
  | 33 => nI rt
  | _ => 0
abbrev MO (cd : Int32) (s : Nat → Nat) (k m sg cm sd mm dr dd bk rt : Nat) (wt : Int32) : List Value := [.int cd, .ref 143, .int (nI (s 4)), .int (nI (s 7)), .int (nI (s 8)), .ref 144, .int (nI (s 5)), .int (nI (s 6)), .ref 145, .int (nI (s 9)), .int (nI (s 10)), .int (nI (s 11)), .int (nI (s 12)), .ref 146, .int (nI k), .ref 147, .int (nI m), .int (nI sg), .int (nI cm), .int (nI sd), .ref 148, .ref 149, .ref 150, .ref 151, .int (nI mm), .ref 152, .ref 153, .ref 154, .int (nI dr), .int (nI dd), .int (nI bk), .int wt, .ref 155, .int (nI rt), .ref 156, .ref 157, .ref 158, .ref 159, .ref 160, .ref 161, .ref 162, .ref 163, .ref 164, .ref 165, .ref 166]
/-- the model: code, what is set, digits, coins, stage, comparing, seeded, pairs, draws, different, blanks, right, waiting -/
def Mc (h : gH) (cd : Int32) (s : Nat → Nat) (k m sg cm sd mm dr dd bk rt : Nat) (wt : Int32) : Prop := h 142 = some (.inr (11, MO cd s k m sg cm sd mm dr dd bk rt wt))
theorem Mc.ml {h : gH} {cd wt : Int32} {s : Nat → Nat} {k m sg cm sd mm dr dd bk rt : Nat} (z : Mc h cd s k m sg cm sd mm dr dd bk rt wt) : h 142 = some (.inr (11, ML (MX cd s k m sg cm sd mm dr dd bk rt wt))) := z
theorem Mc.of {h : gH} {cd wt : Int32} {s : Nat → Nat} {k m sg cm sd mm dr dd bk rt : Nat} (z : h 142 = some (.inr (11, ML (MX cd s k m sg cm sd mm dr dd bk rt wt)))) : Mc h cd s k m sg cm sd mm dr dd bk rt wt := z
/-- the numbers without the object -/
def Bv (h : gH) (V : Nat → Option Nat) : Prop := ∃ B Z, h 156 = some (.inl (0, 10800, .inl (fun k => nI (B k)))) ∧ h 157 = some (.inl (0, 9, .inl (fun k => nI (Z k)))) ∧ (∀ j, B j < 65536) ∧ ∀ s, s < 9 → Bs B Z s (V s)
theorem Bv.n {h : gH} {V : Nat → Option Nat} {X : Nat → Int32} (z : Bv h V) (h0 : h 142 = some (.inr (11, ML X))) : Bn h X V := by
  obtain ⟨B, Z, z1, z2, z3, z4⟩ := z
  exact ⟨B, Z, ⟨h0, z1, z2, z3⟩, z4⟩
theorem Bn.v {h : gH} {V : Nat → Option Nat} {X : Nat → Int32} (z : Bn h X V) : Bv h V := by
  obtain ⟨B, Z, ⟨z0, z1, z2, z3⟩, z4⟩ := z
  exact ⟨B, Z, z1, z2, z3, z4⟩
theorem Bv.fr {h h' : gH} {S : List Nat} {V : Nat → Option Nat} (z : Bv h V) (hf : g_fr S h h') (h1 : 156 ∉ S) (h2 : 157 ∉ S) : Bv h' V := by
  obtain ⟨B, Z, z1, z2, z3, z4⟩ := z
  exact ⟨B, Z, hf.at h1 z1, hf.at h2 z2, z3, z4⟩
theorem i_lt (x y : Int32) : x < y ↔ x.toInt < y.toInt := Int32.lt_iff_toInt_lt
theorem i_le (x y : Int32) : x ≤ y ↔ x.toInt ≤ y.toInt := Int32.le_iff_toInt_le
theorem i_eq (x y : Int32) : x = y ↔ x.toInt = y.toInt := Int32.toInt_inj.symm
theorem it0 : (0 : Int32).toInt = 0 := rfl
theorem itm : (-1 : Int32).toInt = -1 := rfl
theorem un_b (x : Int32) : -2147483648 ≤ x.toInt ∧ x.toInt < 2147483648 ∧ (un x : Int) = x.toInt % 4294967296 := ⟨Int32.le_toInt x, Int32.toInt_lt x, un_int x⟩
theorem ifp (p a b : Prop) [Decidable p] : (if p then a else b) = ((p ∧ a) ∨ (¬ p ∧ b)) := by by_cases q : p <;> simp [q]
theorem upd_nIx (v : Nat → Nat) (c : Nat) (x : Int32) : upd (fun k => nI (v k)) c x = fun k => nI (va_up v c (un x) k) := by
  rw [← upd_nI, nI_un]
set_option maxHeartbeats 4000000 in
set_option maxRecDepth 100000 in
theorem c_thrown (G : gG) (d n : Nat) (ex : Bool) (h : gH) {cd wt : Int32} {s : Nat → Nat} {k m sg cm sd mm dr dd bk rt : Nat} (m0 : Mc h cd s k m sg cm sd mm dr dd bk rt wt) : g_M G mX11_thrown d 0 0 [.ref 142] n ex h (q_i n ex [] h (fun r _ => r = cd)) := by
  refine g_enter (by decide) (Nat.le_of_ble_eq_true rfl) ?_
  show g_W G _ _ _ n ex h 0 0 0 [(0, .ref 142)] []
  refine g_aload_n dX11_thrown_0 rfl rfl ?_
  refine g_getf (v := .int cd) dX11_thrown_1 fX11_1 m0 rfl ?_
  exact e_i dX11_thrown_4 rfl rfl g_fr.rf rfl (by decide) (by decide)
set_option maxHeartbeats 4000000 in
set_option maxRecDepth 100000 in
theorem c_mcandidate (G : gG) (d n : Nat) (ex : Bool) (h : gH) {cd wt : Int32} {s : Nat → Nat} {k m sg cm sd mm dr dd bk rt : Nat} {v : Nat → Nat} {x : Int32} (m0 : Mc h cd s k m sg cm sd mm dr dd bk rt wt) (a3 : h 143 = some (.inl (0, 8, .inl (fun k => nI (v k))))) (h4 : s 4 ≤ 8) (hsg : sg < 2 ^ 31) : g_M G mX11_candidate d 0 0 [.ref 142, .int x] n ex h (q_i n ex [142, 143] h (fun r h' => (¬ k_candidate s sg x = 0 ∧ Mc h' (nI (k_candidate s sg x)) s k m sg cm sd mm dr dd bk rt wt ∧ g_fr [142] h h') ∨ (k_candidate s sg x = 0 ∧ r = nI (s 4) ∧ Mc h' (nI (k_candidate s sg x)) (va_up s 4 (s 4 + 1)) k m sg cm sd mm dr dd bk rt wt ∧ h' 143 = some (.inl (0, 8, .inl (fun k => nI (va_up v (s 4) (un x) k))))))) := by
  refine g_enter (by decide) (Nat.le_of_ble_eq_true rfl) ?_
  show g_W G _ _ _ n ex h 0 0 0 [(0, .ref 142), (1, .int x)] []
  refine g_aload_n dX11_candidate_0 rfl rfl ?_
  refine g_iload_n dX11_candidate_1 rfl rfl ?_
  refine g_if_lt (tgt := 11) dX11_candidate_2 (by decide) (fun c2 => ?_) (fun c2 => ?_)
  · refine g_iconst (v := nI 1) dX11_candidate_11 (by decide) ?_
    refine g_goto (tgt := 40) dX11_candidate_12 (by decide) ?_
    refine g_put (fs' := [.int (nI 1), .ref 143, .int (nI (s 4)), .int (nI (s 7)), .int (nI (s 8)), .ref 144, .int (nI (s 5)), .int (nI (s 6)), .ref 145, .int (nI (s 9)), .int (nI (s 10)), .int (nI (s 11)), .int (nI (s 12)), .ref 146, .int (nI k), .ref 147, .int (nI m), .int (nI sg), .int (nI cm), .int (nI sd), .ref 148, .ref 149, .ref 150, .ref 151, .int (nI mm), .ref 152, .ref 153, .ref 154, .int (nI dr), .int (nI dd), .int (nI bk), .int wt, .ref 155, .int (nI rt), .ref 156, .ref 157, .ref 158, .ref 159, .ref 160, .ref 161, .ref 162, .ref 163, .ref 164, .ref 165, .ref 166]) dX11_candidate_40 fX11_1 m0 (Nat.le_of_ble_eq_true rfl) rfl rfl rfl ?_
    refine g_aload_n dX11_candidate_43 rfl rfl ?_
    refine g_getf (v := .int (nI 1)) dX11_candidate_44 fX11_1 g_eq rfl ?_
    refine g_if_leN (tgt := 52) dX11_candidate_47 (by decide) (by decide) (fun c47 => ?_) (fun c47 => ?_)
    · exact absurd c47 (by decide)
    · refine g_iconst (v := nI 0) dX11_candidate_50 (by decide) ?_
      have ek : k_candidate s sg x = 1 := (by unfold k_candidate; (repeat' split) <;> first | rfl | (exfalso; simp only [i_lt, i_le, i_eq, it0, itm, ifp, nI_toInt (show 0 < 2147483648 by first | decide | omega), nI_toInt (show 1 < 2147483648 by first | decide | omega), nI_toInt (show 1000000 < 2147483648 by first | decide | omega)] at * <;> omega))
      exact e_i dX11_candidate_51 rfl rfl (g_fr.rf.up (by simp)) (Or.inl ⟨by rw [ek]; decide, by rw [ek]; exact g_eq, g_fr.rf.up (by simp)⟩) (by decide) (by decide)
  · refine g_iload_n dX11_candidate_5 rfl rfl ?_
    refine g_ldc dX11_candidate_6 kX11_230 rfl ?_
    refine g_top (show (1000000 : Int32) = nI 1000000 by decide) ?_
    refine g_icmp_le (tgt := 15) dX11_candidate_8 (by decide) (fun c8 => ?_) (fun c8 => ?_)
    · refine g_aload_n dX11_candidate_15 rfl rfl ?_
      refine g_getf (v := .int (nI sg)) dX11_candidate_16 fX11_231 m0 rfl ?_
      refine g_if_eqN (tgt := 26) dX11_candidate_19 (by decide) (by omega) (fun c19 => ?_) (fun c19 => ?_)
      · refine g_aload_n dX11_candidate_26 rfl rfl ?_
        refine g_getf (v := .int (nI (s 4))) dX11_candidate_27 fX11_234 m0 rfl ?_
        refine g_bipush (v := nI 8) dX11_candidate_30 (by decide) ?_
        refine g_icmp_neN (tgt := 39) dX11_candidate_32 (by decide) (by omega) (by omega) (fun c32 => ?_) (fun c32 => ?_)
        · refine g_iconst (v := nI 0) dX11_candidate_39 (by decide) ?_
          refine g_put (fs' := [.int (nI 0), .ref 143, .int (nI (s 4)), .int (nI (s 7)), .int (nI (s 8)), .ref 144, .int (nI (s 5)), .int (nI (s 6)), .ref 145, .int (nI (s 9)), .int (nI (s 10)), .int (nI (s 11)), .int (nI (s 12)), .ref 146, .int (nI k), .ref 147, .int (nI m), .int (nI sg), .int (nI cm), .int (nI sd), .ref 148, .ref 149, .ref 150, .ref 151, .int (nI mm), .ref 152, .ref 153, .ref 154, .int (nI dr), .int (nI dd), .int (nI bk), .int wt, .ref 155, .int (nI rt), .ref 156, .ref 157, .ref 158, .ref 159, .ref 160, .ref 161, .ref 162, .ref 163, .ref 164, .ref 165, .ref 166]) dX11_candidate_40 fX11_1 m0 (Nat.le_of_ble_eq_true rfl) rfl rfl rfl ?_
          refine g_aload_n dX11_candidate_43 rfl rfl ?_
          refine g_getf (v := .int (nI 0)) dX11_candidate_44 fX11_1 g_eq rfl ?_
          refine g_if_leN (tgt := 52) dX11_candidate_47 (by decide) (by decide) (fun c47 => ?_) (fun c47 => ?_)
          · refine g_aload_n dX11_candidate_52 rfl rfl ?_
            refine g_getf (v := .ref 143) dX11_candidate_53 fX11_13 g_eq rfl ?_
            refine g_aload_n dX11_candidate_56 rfl rfl ?_
            refine g_getf (v := .int (nI (s 4))) dX11_candidate_57 fX11_234 g_eq rfl ?_
            refine g_iload_n dX11_candidate_60 rfl rfl ?_
            refine g_iastN dX11_candidate_61 (g_ne (by decide) a3) (by omega) (by decide) ?_
            rw [upd_nIx]
            refine g_aload_n dX11_candidate_62 rfl rfl ?_
            refine g_dup dX11_candidate_63 rfl ?_
            refine g_getf (v := .int (nI (s 4))) dX11_candidate_64 fX11_234 (g_ne (by decide) g_eq) rfl ?_
            refine g_iconst (v := nI 1) dX11_candidate_67 (by decide) ?_
            refine g_iaddN dX11_candidate_68 ?_
            refine g_put (fs' := [.int (nI 0), .ref 143, .int (nI ((s 4) + 1)), .int (nI (s 7)), .int (nI (s 8)), .ref 144, .int (nI (s 5)), .int (nI (s 6)), .ref 145, .int (nI (s 9)), .int (nI (s 10)), .int (nI (s 11)), .int (nI (s 12)), .ref 146, .int (nI k), .ref 147, .int (nI m), .int (nI sg), .int (nI cm), .int (nI sd), .ref 148, .ref 149, .ref 150, .ref 151, .int (nI mm), .ref 152, .ref 153, .ref 154, .int (nI dr), .int (nI dd), .int (nI bk), .int wt, .ref 155, .int (nI rt), .ref 156, .ref 157, .ref 158, .ref 159, .ref 160, .ref 161, .ref 162, .ref 163, .ref 164, .ref 165, .ref 166]) dX11_candidate_69 fX11_234 (g_ne (by decide) g_eq) (Nat.le_of_ble_eq_true rfl) rfl rfl rfl ?_
            refine g_aload_n dX11_candidate_72 rfl rfl ?_
            refine g_getf (v := .int (nI ((s 4) + 1))) dX11_candidate_73 fX11_234 g_eq rfl ?_
            refine g_iconst (v := nI 1) dX11_candidate_76 (by decide) ?_
            refine g_isubN dX11_candidate_77 (by omega) ?_
            have ek : k_candidate s sg x = 0 := (by unfold k_candidate; (repeat' split) <;> first | rfl | (exfalso; simp only [i_lt, i_le, i_eq, it0, itm, ifp, nI_toInt (show 0 < 2147483648 by first | decide | omega), nI_toInt (show 1 < 2147483648 by first | decide | omega), nI_toInt (show 1000000 < 2147483648 by first | decide | omega)] at * <;> omega))
            exact e_i dX11_candidate_78 rfl rfl (((g_fr.rf.up (by simp)).up (by simp)).up (by simp)) (Or.inr ⟨ek, by rw [show s 4 + 1 - 1 = s 4 by omega], by rw [ek]; exact g_eq, g_ne (by decide) g_eq⟩) (by decide) (by decide)
          · exact absurd c47 (by decide)
        · refine g_iconst (v := nI 3) dX11_candidate_35 (by decide) ?_
          refine g_goto (tgt := 40) dX11_candidate_36 (by decide) ?_
          refine g_put (fs' := [.int (nI 3), .ref 143, .int (nI (s 4)), .int (nI (s 7)), .int (nI (s 8)), .ref 144, .int (nI (s 5)), .int (nI (s 6)), .ref 145, .int (nI (s 9)), .int (nI (s 10)), .int (nI (s 11)), .int (nI (s 12)), .ref 146, .int (nI k), .ref 147, .int (nI m), .int (nI sg), .int (nI cm), .int (nI sd), .ref 148, .ref 149, .ref 150, .ref 151, .int (nI mm), .ref 152, .ref 153, .ref 154, .int (nI dr), .int (nI dd), .int (nI bk), .int wt, .ref 155, .int (nI rt), .ref 156, .ref 157, .ref 158, .ref 159, .ref 160, .ref 161, .ref 162, .ref 163, .ref 164, .ref 165, .ref 166]) dX11_candidate_40 fX11_1 m0 (Nat.le_of_ble_eq_true rfl) rfl rfl rfl ?_
          refine g_aload_n dX11_candidate_43 rfl rfl ?_
          refine g_getf (v := .int (nI 3)) dX11_candidate_44 fX11_1 g_eq rfl ?_
          refine g_if_leN (tgt := 52) dX11_candidate_47 (by decide) (by decide) (fun c47 => ?_) (fun c47 => ?_)
          · exact absurd c47 (by decide)
          · refine g_iconst (v := nI 0) dX11_candidate_50 (by decide) ?_
            have ek : k_candidate s sg x = 3 := (by unfold k_candidate; (repeat' split) <;> first | rfl | (exfalso; simp only [i_lt, i_le, i_eq, it0, itm, ifp, nI_toInt (show 0 < 2147483648 by first | decide | omega), nI_toInt (show 1 < 2147483648 by first | decide | omega), nI_toInt (show 1000000 < 2147483648 by first | decide | omega)] at * <;> omega))
            exact e_i dX11_candidate_51 rfl rfl (g_fr.rf.up (by simp)) (Or.inl ⟨by rw [ek]; decide, by rw [ek]; exact g_eq, g_fr.rf.up (by simp)⟩) (by decide) (by decide)
      · refine g_iconst (v := nI 2) dX11_candidate_22 (by decide) ?_
        refine g_goto (tgt := 40) dX11_candidate_23 (by decide) ?_
        refine g_put (fs' := [.int (nI 2), .ref 143, .int (nI (s 4)), .int (nI (s 7)), .int (nI (s 8)), .ref 144, .int (nI (s 5)), .int (nI (s 6)), .ref 145, .int (nI (s 9)), .int (nI (s 10)), .int (nI (s 11)), .int (nI (s 12)), .ref 146, .int (nI k), .ref 147, .int (nI m), .int (nI sg), .int (nI cm), .int (nI sd), .ref 148, .ref 149, .ref 150, .ref 151, .int (nI mm), .ref 152, .ref 153, .ref 154, .int (nI dr), .int (nI dd), .int (nI bk), .int wt, .ref 155, .int (nI rt), .ref 156, .ref 157, .ref 158, .ref 159, .ref 160, .ref 161, .ref 162, .ref 163, .ref 164, .ref 165, .ref 166]) dX11_candidate_40 fX11_1 m0 (Nat.le_of_ble_eq_true rfl) rfl rfl rfl ?_
        refine g_aload_n dX11_candidate_43 rfl rfl ?_
        refine g_getf (v := .int (nI 2)) dX11_candidate_44 fX11_1 g_eq rfl ?_
        refine g_if_leN (tgt := 52) dX11_candidate_47 (by decide) (by decide) (fun c47 => ?_) (fun c47 => ?_)
        · exact absurd c47 (by decide)
        · refine g_iconst (v := nI 0) dX11_candidate_50 (by decide) ?_
          have ek : k_candidate s sg x = 2 := (by unfold k_candidate; (repeat' split) <;> first | rfl | (exfalso; simp only [i_lt, i_le, i_eq, it0, itm, ifp, nI_toInt (show 0 < 2147483648 by first | decide | omega), nI_toInt (show 1 < 2147483648 by first | decide | omega), nI_toInt (show 1000000 < 2147483648 by first | decide | omega)] at * <;> omega))
          exact e_i dX11_candidate_51 rfl rfl (g_fr.rf.up (by simp)) (Or.inl ⟨by rw [ek]; decide, by rw [ek]; exact g_eq, g_fr.rf.up (by simp)⟩) (by decide) (by decide)
    · refine g_iconst (v := nI 1) dX11_candidate_11 (by decide) ?_
      refine g_goto (tgt := 40) dX11_candidate_12 (by decide) ?_
      refine g_put (fs' := [.int (nI 1), .ref 143, .int (nI (s 4)), .int (nI (s 7)), .int (nI (s 8)), .ref 144, .int (nI (s 5)), .int (nI (s 6)), .ref 145, .int (nI (s 9)), .int (nI (s 10)), .int (nI (s 11)), .int (nI (s 12)), .ref 146, .int (nI k), .ref 147, .int (nI m), .int (nI sg), .int (nI cm), .int (nI sd), .ref 148, .ref 149, .ref 150, .ref 151, .int (nI mm), .ref 152, .ref 153, .ref 154, .int (nI dr), .int (nI dd), .int (nI bk), .int wt, .ref 155, .int (nI rt), .ref 156, .ref 157, .ref 158, .ref 159, .ref 160, .ref 161, .ref 162, .ref 163, .ref 164, .ref 165, .ref 166]) dX11_candidate_40 fX11_1 m0 (Nat.le_of_ble_eq_true rfl) rfl rfl rfl ?_
      refine g_aload_n dX11_candidate_43 rfl rfl ?_
      refine g_getf (v := .int (nI 1)) dX11_candidate_44 fX11_1 g_eq rfl ?_
      refine g_if_leN (tgt := 52) dX11_candidate_47 (by decide) (by decide) (fun c47 => ?_) (fun c47 => ?_)
      · exact absurd c47 (by decide)
      · refine g_iconst (v := nI 0) dX11_candidate_50 (by decide) ?_
        have ek : k_candidate s sg x = 1 := (by unfold k_candidate; (repeat' split) <;> first | rfl | (exfalso; simp only [i_lt, i_le, i_eq, it0, itm, ifp, nI_toInt (show 0 < 2147483648 by first | decide | omega), nI_toInt (show 1 < 2147483648 by first | decide | omega), nI_toInt (show 1000000 < 2147483648 by first | decide | omega)] at * <;> omega))
        exact e_i dX11_candidate_51 rfl rfl (g_fr.rf.up (by simp)) (Or.inl ⟨by rw [ek]; decide, by rw [ek]; exact g_eq, g_fr.rf.up (by simp)⟩) (by decide) (by decide)
theorem nat0 {x : Int32} (h : ¬ x < 0) : ∃ j : Nat, j < 2147483648 ∧ x = nI j := by
  obtain ⟨j, h1, h2⟩ := nI_of h
  exact ⟨j, h1, h2⟩
def rsf (f : Nat → Int32) (a b : Nat) (x : Int32) : Nat → Int32 := fun k => if a ≤ k ∧ k < b then x else f k
theorem rsf_0 (f : Nat → Int32) (a : Nat) (x : Int32) : rsf f a a x = f := by funext k; exact if_neg (by omega)
theorem rsf_s {f : Nat → Int32} {a i : Nat} {x y : Int32} (e : y = x) : upd (rsf f a (a + i) x) (a + i) y = rsf f a (a + (i + 1)) x := by
  subst e
  funext k
  unfold rsf upd
  by_cases q : k = a + i
  · rw [if_pos q, if_pos (by omega)]
  · rw [if_neg q]
    by_cases z : a ≤ k ∧ k < a + i
    · exact (if_pos z).trans (if_pos (show a ≤ k ∧ k < a + (i + 1) by omega)).symm
    · exact (if_neg z).trans (if_neg (show ¬ (a ≤ k ∧ k < a + (i + 1)) by omega)).symm
theorem rc_s' {rc : Nat → Nat} {a i c : Nat} : va_up (rc_set rc a (a + i) c) (a + i) c = rc_set rc a (a + (i + 1)) c := rc_s (by omega)
theorem nar_v {z : Int32} {C : Nat} (h : z = -1 ∨ ∃ c, c < 8 ∧ z = nI c) : vp_nar .byte (z.toInt8.toInt32) = z := by
  rcases h with rfl | ⟨c, hc, rfl⟩
  · decide
  · rw [i2b_nI (by omega), nar_b (by omega)]
theorem sbit (x : Int32) {j : Nat} (hj : j < 32) : (x >>> (nI j &&& 31)) &&& nI 1 = nI (un x / 2 ^ j % 2) := by
  rw [← bit_nI x hj]
  refine b_ext (fun i hi => ?_)
  rw [b_and, b_and, b_sshr j hj _ hi, b_ushr j hj]
  by_cases q : i = 0
  · subst q; rw [if_pos (by omega)]
  · have h1 : bt (nI 1) i = false := (by decide +kernel : ∀ i, i < 32 → ¬ i = 0 → bt (nI 1) i = false) i hi q
    rw [h1, Bool.and_false, Bool.and_false]
set_option maxHeartbeats 4000000 in
set_option maxRecDepth 100000 in
theorem lp_mbatch (G : gG) (R : Room) (KK : gK) (n : Nat) (ex : Bool) (h0 : gH) {wt : Int32} {s : Nat → Nat} {k m sg cm sd mm dr dd bk rt : Nat} {bf ti : Nat → Nat} {rI sI : Nat → Int32} {y : Nat} (hy : s 6 + y ≤ 20000) (kk : ∀ h, Mc h (nI 0) (va_up s 5 (s 5 + 1)) k m sg cm sd mm dr dd bk rt wt → h 144 = some (.inl (0, 65, .inl (fun k => nI (va_up bf (s 5) (s 6) k)))) → h 145 = some (.inl (1, 20000, .inl (rsf rI (s 6) (s 6 + y) (-1)))) → h 153 = some (.inl (1, 20000, .inl (rsf sI (s 6) (s 6 + y) (-2)))) → h 154 = some (.inl (0, 20000, .inl (fun k => nI (rc_set ti (s 6) (s 6 + y) 0 k)))) → g_fr [142, 144, 145, 153, 154] h0 h → g_W G mX11_batch R KK n ex h 0 0 139 [(2, .int (nI y)), (0, .ref 142), (1, .int (nI y))] []) : ∀ (t i : Nat) (h : gH), y - i < t → i ≤ y → Mc h (nI 0) (va_up s 5 (s 5 + 1)) k m sg cm sd mm dr dd bk rt wt → h 144 = some (.inl (0, 65, .inl (fun k => nI (va_up bf (s 5) (s 6) k)))) → h 145 = some (.inl (1, 20000, .inl (rsf rI (s 6) (s 6 + i) (-1)))) → h 153 = some (.inl (1, 20000, .inl (rsf sI (s 6) (s 6 + i) (-2)))) → h 154 = some (.inl (0, 20000, .inl (fun k => nI (rc_set ti (s 6) (s 6 + i) 0 k)))) → g_fr [142, 144, 145, 153, 154] h0 h →
    g_W G mX11_batch R KK n ex h 0 0 91 [(2, .int (nI i)), (0, .ref 142), (1, .int (nI y))] [] := by
  intro t
  induction t with
  | zero => intro i h hm; exact absurd hm (by omega)
  | succ t ih =>
    intro i h ht hi m0 a4 a5 a13 a14 hf
    refine g_iload_n dX11_batch_91 rfl rfl ?_
    refine g_iload_n dX11_batch_92 rfl rfl ?_
    refine g_icmp_geN (tgt := 139) dX11_batch_93 (by decide) (by omega) (by omega) (fun c93 => ?_) (fun c93 => ?_)
    · refine g_pick [0, 1, 2] (ls' := [(2, .int (nI i)), (0, .ref 142), (1, .int (nI y))]) rfl ?_
      have e : i = y := by omega
      subst e
      exact kk _ m0 a4 a5 a13 a14 hf
    · refine g_aload_n dX11_batch_96 rfl rfl ?_
      refine g_getf (v := .ref 145) dX11_batch_97 fX11_26 m0 rfl ?_
      refine g_aload_n dX11_batch_100 rfl rfl ?_
      refine g_getf (v := .int (nI (s 6))) dX11_batch_101 fX11_240 m0 rfl ?_
      refine g_iload_n dX11_batch_104 rfl rfl ?_
      refine g_iaddN dX11_batch_105 ?_
      refine g_iconst (v := -1) dX11_batch_106 (by decide) ?_
      refine g_bastN dX11_batch_107 a5 (by omega) (by decide) ?_
      refine g_aload_n dX11_batch_108 rfl rfl ?_
      refine g_getf (v := .ref 153) dX11_batch_109 fX11_64 (g_ne (by decide) m0) rfl ?_
      refine g_aload_n dX11_batch_112 rfl rfl ?_
      refine g_getf (v := .int (nI (s 6))) dX11_batch_113 fX11_240 (g_ne (by decide) m0) rfl ?_
      refine g_iload_n dX11_batch_116 rfl rfl ?_
      refine g_iaddN dX11_batch_117 ?_
      refine g_bipush (v := -2) dX11_batch_118 (by decide) ?_
      refine g_bastN dX11_batch_120 (g_ne (by decide) a13) (by omega) (by decide) ?_
      refine g_aload_n dX11_batch_121 rfl rfl ?_
      refine g_getf (v := .ref 154) dX11_batch_122 fX11_67 (g_ne (by decide) (g_ne (by decide) m0)) rfl ?_
      refine g_aload_n dX11_batch_125 rfl rfl ?_
      refine g_getf (v := .int (nI (s 6))) dX11_batch_126 fX11_240 (g_ne (by decide) (g_ne (by decide) m0)) rfl ?_
      refine g_iload_n dX11_batch_129 rfl rfl ?_
      refine g_iaddN dX11_batch_130 ?_
      refine g_iconst (v := nI 0) dX11_batch_131 (by decide) ?_
      refine g_iastN dX11_batch_132 (g_ne (by decide) (g_ne (by decide) a14)) (by omega) (by decide) ?_
      rw [upd_nI]
      refine g_iincN (z := 1) (ls' := [(2, .int (nI (i + 1))), (0, .ref 142), (1, .int (nI y))]) dX11_batch_133 rfl (by decide) rfl ?_
      refine g_goto (tgt := 91) dX11_batch_136 (by decide) ?_
      refine g_pick [0, 1, 2] (ls' := [(2, .int (nI (i + 1))), (0, .ref 142), (1, .int (nI y))]) rfl ?_
      exact ih (i + 1) _ (by omega) (by omega) (g_ne (by decide) (g_ne (by decide) (g_ne (by decide) m0))) (g_ne (by decide) (g_ne (by decide) (g_ne (by decide) a4))) (by rw [← rsf_s (y := vp_nar .byte (-1)) (by decide)]; exact g_ne (by decide) (g_ne (by decide) g_eq)) (by rw [← rsf_s (y := vp_nar .byte (-2)) (by decide)]; exact g_ne (by decide) g_eq) (by rw [← rc_s']; exact g_eq) (((hf.up (by simp)).up (by simp)).up (by simp))
set_option maxHeartbeats 4000000 in
set_option maxRecDepth 100000 in
theorem c_mbatch (G : gG) (d n : Nat) (ex : Bool) (h : gH) {cd wt : Int32} {s : Nat → Nat} {k m sg cm sd mm dr dd bk rt : Nat} {bf ti : Nat → Nat} {rI sI : Nat → Int32} {x : Int32} (m0 : Mc h cd s k m sg cm sd mm dr dd bk rt wt) (a4 : h 144 = some (.inl (0, 65, .inl (fun k => nI (bf k))))) (a5 : h 145 = some (.inl (1, 20000, .inl rI))) (a13 : h 153 = some (.inl (1, 20000, .inl sI))) (a14 : h 154 = some (.inl (0, 20000, .inl (fun k => nI (ti k))))) (h5 : s 5 ≤ 64) (h6 : s 6 ≤ 20000) (hsg : sg < 2 ^ 31) : g_M G mX11_batch d 0 0 [.ref 142, .int x] n ex h (q_i n ex [142, 144, 145, 153, 154] h (fun r h' => (¬ k_batch s sg x = 0 ∧ Mc h' (nI (k_batch s sg x)) s k m sg cm sd mm dr dd bk rt wt ∧ g_fr [142] h h') ∨ (k_batch s sg x = 0 ∧ r = nI (s 6) ∧ Mc h' (nI (k_batch s sg x)) (va_up (va_up s 6 (s 6 + un x)) 5 (s 5 + 1)) k m sg cm sd mm dr dd bk rt wt ∧ h' 144 = some (.inl (0, 65, .inl (fun k => nI (va_up bf (s 5) (s 6) k)))) ∧ h' 145 = some (.inl (1, 20000, .inl (rsf rI (s 6) (s 6 + un x) (-1)))) ∧ h' 153 = some (.inl (1, 20000, .inl (rsf sI (s 6) (s 6 + un x) (-2)))) ∧ h' 154 = some (.inl (0, 20000, .inl (fun k => nI (rc_set ti (s 6) (s 6 + un x) 0 k))))))) := by
  refine g_enter (by decide) (Nat.le_of_ble_eq_true rfl) ?_
  show g_W G _ _ _ n ex h 0 0 0 [(0, .ref 142), (1, .int x)] []
  refine g_aload_n dX11_batch_0 rfl rfl ?_
  refine g_iload_n dX11_batch_1 rfl rfl ?_
  refine g_iconst (v := nI 1) dX11_batch_2 (by decide) ?_
  refine g_icmp_lt (tgt := 13) dX11_batch_3 (by decide) (fun c3 => ?_) (fun c3 => ?_)
  · refine g_iconst (v := nI 1) dX11_batch_13 (by decide) ?_
    refine g_goto (tgt := 54) dX11_batch_14 (by decide) ?_
    refine g_put (fs' := [.int (nI 1), .ref 143, .int (nI (s 4)), .int (nI (s 7)), .int (nI (s 8)), .ref 144, .int (nI (s 5)), .int (nI (s 6)), .ref 145, .int (nI (s 9)), .int (nI (s 10)), .int (nI (s 11)), .int (nI (s 12)), .ref 146, .int (nI k), .ref 147, .int (nI m), .int (nI sg), .int (nI cm), .int (nI sd), .ref 148, .ref 149, .ref 150, .ref 151, .int (nI mm), .ref 152, .ref 153, .ref 154, .int (nI dr), .int (nI dd), .int (nI bk), .int wt, .ref 155, .int (nI rt), .ref 156, .ref 157, .ref 158, .ref 159, .ref 160, .ref 161, .ref 162, .ref 163, .ref 164, .ref 165, .ref 166]) dX11_batch_54 fX11_1 m0 (Nat.le_of_ble_eq_true rfl) rfl rfl rfl ?_
    refine g_aload_n dX11_batch_57 rfl rfl ?_
    refine g_getf (v := .int (nI 1)) dX11_batch_58 fX11_1 g_eq rfl ?_
    refine g_if_leN (tgt := 66) dX11_batch_61 (by decide) (by decide) (fun c61 => ?_) (fun c61 => ?_)
    · exact absurd c61 (by decide)
    · refine g_iconst (v := nI 0) dX11_batch_64 (by decide) ?_
      have ek : k_batch s sg x = 1 := (by have hu_x := un_b x; unfold k_batch; (repeat' split) <;> first | rfl | (exfalso; simp only [i_lt, i_le, i_eq, it0, itm, ifp, nI_toInt (show 0 < 2147483648 by first | decide | omega), nI_toInt (show 1 < 2147483648 by first | decide | omega), nI_toInt (show 4000 < 2147483648 by first | decide | omega)] at * <;> omega))
      exact e_i dX11_batch_65 rfl rfl (g_fr.rf.up (by simp)) (Or.inl ⟨by rw [ek]; decide, by rw [ek]; exact g_eq, g_fr.rf.up (by simp)⟩) (by decide) (by decide)
  · refine g_iload_n dX11_batch_6 rfl rfl ?_
    refine g_sipush (v := nI 4000) dX11_batch_7 (by decide) ?_
    refine g_icmp_le (tgt := 17) dX11_batch_10 (by decide) (fun c10 => ?_) (fun c10 => ?_)
    · obtain ⟨y, hy1, hy2, rfl⟩ := nat_of (by decide) ⟨Int32.not_lt.mp c3, c10⟩ (by decide)
      refine g_aload_n dX11_batch_17 rfl rfl ?_
      refine g_getf (v := .int (nI sg)) dX11_batch_18 fX11_231 m0 rfl ?_
      refine g_if_eqN (tgt := 28) dX11_batch_21 (by decide) (by omega) (fun c21 => ?_) (fun c21 => ?_)
      · refine g_aload_n dX11_batch_28 rfl rfl ?_
        refine g_getf (v := .int (nI (s 5))) dX11_batch_29 fX11_237 m0 rfl ?_
        refine g_bipush (v := nI 64) dX11_batch_32 (by decide) ?_
        refine g_icmp_eqN (tgt := 49) dX11_batch_34 (by decide) (by omega) (by omega) (fun c34 => ?_) (fun c34 => ?_)
        · refine g_iconst (v := nI 3) dX11_batch_49 (by decide) ?_
          refine g_goto (tgt := 54) dX11_batch_50 (by decide) ?_
          refine g_put (fs' := [.int (nI 3), .ref 143, .int (nI (s 4)), .int (nI (s 7)), .int (nI (s 8)), .ref 144, .int (nI (s 5)), .int (nI (s 6)), .ref 145, .int (nI (s 9)), .int (nI (s 10)), .int (nI (s 11)), .int (nI (s 12)), .ref 146, .int (nI k), .ref 147, .int (nI m), .int (nI sg), .int (nI cm), .int (nI sd), .ref 148, .ref 149, .ref 150, .ref 151, .int (nI mm), .ref 152, .ref 153, .ref 154, .int (nI dr), .int (nI dd), .int (nI bk), .int wt, .ref 155, .int (nI rt), .ref 156, .ref 157, .ref 158, .ref 159, .ref 160, .ref 161, .ref 162, .ref 163, .ref 164, .ref 165, .ref 166]) dX11_batch_54 fX11_1 m0 (Nat.le_of_ble_eq_true rfl) rfl rfl rfl ?_
          refine g_aload_n dX11_batch_57 rfl rfl ?_
          refine g_getf (v := .int (nI 3)) dX11_batch_58 fX11_1 g_eq rfl ?_
          refine g_if_leN (tgt := 66) dX11_batch_61 (by decide) (by decide) (fun c61 => ?_) (fun c61 => ?_)
          · exact absurd c61 (by decide)
          · refine g_iconst (v := nI 0) dX11_batch_64 (by decide) ?_
            have ek : k_batch s sg (nI y) = 3 := (by have hu_nI_y := un_b (nI y); unfold k_batch; (repeat' split) <;> first | rfl | (exfalso; simp only [i_lt, i_le, i_eq, it0, itm, ifp, nI_toInt (show 0 < 2147483648 by first | decide | omega), nI_toInt (show 1 < 2147483648 by first | decide | omega), nI_toInt (show 4000 < 2147483648 by first | decide | omega), nI_toInt (show y < 2147483648 by first | decide | omega)] at * <;> omega))
            exact e_i dX11_batch_65 rfl rfl (g_fr.rf.up (by simp)) (Or.inl ⟨by rw [ek]; decide, by rw [ek]; exact g_eq, g_fr.rf.up (by simp)⟩) (by decide) (by decide)
        · refine g_aload_n dX11_batch_37 rfl rfl ?_
          refine g_getf (v := .int (nI (s 6))) dX11_batch_38 fX11_240 m0 rfl ?_
          refine g_iload_n dX11_batch_41 rfl rfl ?_
          refine g_iaddN dX11_batch_42 ?_
          refine g_sipush (v := nI 20000) dX11_batch_43 (by decide) ?_
          refine g_icmp_leN (tgt := 53) dX11_batch_46 (by decide) (by omega) (by omega) (fun c46 => ?_) (fun c46 => ?_)
          · refine g_iconst (v := nI 0) dX11_batch_53 (by decide) ?_
            refine g_put (fs' := [.int (nI 0), .ref 143, .int (nI (s 4)), .int (nI (s 7)), .int (nI (s 8)), .ref 144, .int (nI (s 5)), .int (nI (s 6)), .ref 145, .int (nI (s 9)), .int (nI (s 10)), .int (nI (s 11)), .int (nI (s 12)), .ref 146, .int (nI k), .ref 147, .int (nI m), .int (nI sg), .int (nI cm), .int (nI sd), .ref 148, .ref 149, .ref 150, .ref 151, .int (nI mm), .ref 152, .ref 153, .ref 154, .int (nI dr), .int (nI dd), .int (nI bk), .int wt, .ref 155, .int (nI rt), .ref 156, .ref 157, .ref 158, .ref 159, .ref 160, .ref 161, .ref 162, .ref 163, .ref 164, .ref 165, .ref 166]) dX11_batch_54 fX11_1 m0 (Nat.le_of_ble_eq_true rfl) rfl rfl rfl ?_
            refine g_aload_n dX11_batch_57 rfl rfl ?_
            refine g_getf (v := .int (nI 0)) dX11_batch_58 fX11_1 g_eq rfl ?_
            refine g_if_leN (tgt := 66) dX11_batch_61 (by decide) (by decide) (fun c61 => ?_) (fun c61 => ?_)
            · refine g_aload_n dX11_batch_66 rfl rfl ?_
              refine g_getf (v := .ref 144) dX11_batch_67 fX11_23 g_eq rfl ?_
              refine g_aload_n dX11_batch_70 rfl rfl ?_
              refine g_getf (v := .int (nI (s 5))) dX11_batch_71 fX11_237 g_eq rfl ?_
              refine g_aload_n dX11_batch_74 rfl rfl ?_
              refine g_getf (v := .int (nI (s 6))) dX11_batch_75 fX11_240 g_eq rfl ?_
              refine g_iastN dX11_batch_78 (g_ne (by decide) a4) (by omega) (by decide) ?_
              rw [upd_nI]
              refine g_aload_n dX11_batch_79 rfl rfl ?_
              refine g_dup dX11_batch_80 rfl ?_
              refine g_getf (v := .int (nI (s 5))) dX11_batch_81 fX11_237 (g_ne (by decide) g_eq) rfl ?_
              refine g_iconst (v := nI 1) dX11_batch_84 (by decide) ?_
              refine g_iaddN dX11_batch_85 ?_
              refine g_put (fs' := [.int (nI 0), .ref 143, .int (nI (s 4)), .int (nI (s 7)), .int (nI (s 8)), .ref 144, .int (nI ((s 5) + 1)), .int (nI (s 6)), .ref 145, .int (nI (s 9)), .int (nI (s 10)), .int (nI (s 11)), .int (nI (s 12)), .ref 146, .int (nI k), .ref 147, .int (nI m), .int (nI sg), .int (nI cm), .int (nI sd), .ref 148, .ref 149, .ref 150, .ref 151, .int (nI mm), .ref 152, .ref 153, .ref 154, .int (nI dr), .int (nI dd), .int (nI bk), .int wt, .ref 155, .int (nI rt), .ref 156, .ref 157, .ref 158, .ref 159, .ref 160, .ref 161, .ref 162, .ref 163, .ref 164, .ref 165, .ref 166]) dX11_batch_86 fX11_237 (g_ne (by decide) g_eq) (Nat.le_of_ble_eq_true rfl) rfl rfl rfl ?_
              refine g_iconst (v := nI 0) dX11_batch_89 (by decide) ?_
              refine g_istore_n (ls' := [(2, .int (nI 0)), (0, .ref 142), (1, .int (nI y))]) dX11_batch_90 rfl (by decide) rfl ?_
              refine g_pick [0, 1, 2] (ls' := [(2, .int (nI 0)), (0, .ref 142), (1, .int (nI y))]) rfl ?_
              refine lp_mbatch G _ _ n ex h (bf := bf) (ti := ti) (rI := rI) (sI := sI) (by omega) (fun h2 xm0 xa4 xa5 xa13 xa14 xf => ?_) (y + 1) 0 _ (by omega) (by omega) g_eq (g_ne (by decide) g_eq) (by rw [show rsf rI (s 6) (s 6 + 0) (-1) = rI from rsf_0 _ _ _]; exact g_ne (by decide) (g_ne (by decide) (g_ne (by decide) a5))) (by rw [show rsf sI (s 6) (s 6 + 0) (-2) = sI from rsf_0 _ _ _]; exact g_ne (by decide) (g_ne (by decide) (g_ne (by decide) a13))) (by rw [show rc_set ti (s 6) (s 6 + 0) 0 = ti from rc_0 _ _ _]; exact g_ne (by decide) (g_ne (by decide) (g_ne (by decide) a14))) (((g_fr.rf.up (by simp)).up (by simp)).up (by simp))
              refine g_aload_n dX11_batch_139 rfl rfl ?_
              refine g_dup dX11_batch_140 rfl ?_
              refine g_getf (v := .int (nI (s 6))) dX11_batch_141 fX11_240 xm0 rfl ?_
              refine g_iload_n dX11_batch_144 rfl rfl ?_
              refine g_iaddN dX11_batch_145 ?_
              refine g_put (fs' := [.int (nI 0), .ref 143, .int (nI (s 4)), .int (nI (s 7)), .int (nI (s 8)), .ref 144, .int (nI (s 5 + 1)), .int (nI ((s 6) + y)), .ref 145, .int (nI (s 9)), .int (nI (s 10)), .int (nI (s 11)), .int (nI (s 12)), .ref 146, .int (nI k), .ref 147, .int (nI m), .int (nI sg), .int (nI cm), .int (nI sd), .ref 148, .ref 149, .ref 150, .ref 151, .int (nI mm), .ref 152, .ref 153, .ref 154, .int (nI dr), .int (nI dd), .int (nI bk), .int wt, .ref 155, .int (nI rt), .ref 156, .ref 157, .ref 158, .ref 159, .ref 160, .ref 161, .ref 162, .ref 163, .ref 164, .ref 165, .ref 166]) dX11_batch_146 fX11_240 xm0 (Nat.le_of_ble_eq_true rfl) rfl rfl rfl ?_
              refine g_aload_n dX11_batch_149 rfl rfl ?_
              refine g_getf (v := .int (nI ((s 6) + y))) dX11_batch_150 fX11_240 g_eq rfl ?_
              refine g_iload_n dX11_batch_153 rfl rfl ?_
              refine g_isubN dX11_batch_154 (by omega) ?_
              have ek : k_batch s sg (nI y) = 0 := (by have hu_nI_y := un_b (nI y); unfold k_batch; (repeat' split) <;> first | rfl | (exfalso; simp only [i_lt, i_le, i_eq, it0, itm, ifp, nI_toInt (show 0 < 2147483648 by first | decide | omega), nI_toInt (show 1 < 2147483648 by first | decide | omega), nI_toInt (show 4000 < 2147483648 by first | decide | omega), nI_toInt (show y < 2147483648 by first | decide | omega)] at * <;> omega))
              exact e_i dX11_batch_155 rfl rfl (xf.up (by simp)) (Or.inr ⟨ek, by rw [Nat.add_sub_cancel], by rw [ek, un_nI (by omega)]; exact g_eq, by exact g_ne (by decide) xa4, by rw [un_nI (by omega)]; exact g_ne (by decide) xa5, by rw [un_nI (by omega)]; exact g_ne (by decide) xa13, by rw [un_nI (by omega)]; exact g_ne (by decide) xa14⟩) (by decide) (by decide)
            · exact absurd c61 (by decide)
          · refine g_iconst (v := nI 3) dX11_batch_49 (by decide) ?_
            refine g_goto (tgt := 54) dX11_batch_50 (by decide) ?_
            refine g_put (fs' := [.int (nI 3), .ref 143, .int (nI (s 4)), .int (nI (s 7)), .int (nI (s 8)), .ref 144, .int (nI (s 5)), .int (nI (s 6)), .ref 145, .int (nI (s 9)), .int (nI (s 10)), .int (nI (s 11)), .int (nI (s 12)), .ref 146, .int (nI k), .ref 147, .int (nI m), .int (nI sg), .int (nI cm), .int (nI sd), .ref 148, .ref 149, .ref 150, .ref 151, .int (nI mm), .ref 152, .ref 153, .ref 154, .int (nI dr), .int (nI dd), .int (nI bk), .int wt, .ref 155, .int (nI rt), .ref 156, .ref 157, .ref 158, .ref 159, .ref 160, .ref 161, .ref 162, .ref 163, .ref 164, .ref 165, .ref 166]) dX11_batch_54 fX11_1 m0 (Nat.le_of_ble_eq_true rfl) rfl rfl rfl ?_
            refine g_aload_n dX11_batch_57 rfl rfl ?_
            refine g_getf (v := .int (nI 3)) dX11_batch_58 fX11_1 g_eq rfl ?_
            refine g_if_leN (tgt := 66) dX11_batch_61 (by decide) (by decide) (fun c61 => ?_) (fun c61 => ?_)
            · exact absurd c61 (by decide)
            · refine g_iconst (v := nI 0) dX11_batch_64 (by decide) ?_
              have ek : k_batch s sg (nI y) = 3 := (by have hu_nI_y := un_b (nI y); unfold k_batch; (repeat' split) <;> first | rfl | (exfalso; simp only [i_lt, i_le, i_eq, it0, itm, ifp, nI_toInt (show 0 < 2147483648 by first | decide | omega), nI_toInt (show 1 < 2147483648 by first | decide | omega), nI_toInt (show 4000 < 2147483648 by first | decide | omega), nI_toInt (show y < 2147483648 by first | decide | omega)] at * <;> omega))
              exact e_i dX11_batch_65 rfl rfl (g_fr.rf.up (by simp)) (Or.inl ⟨by rw [ek]; decide, by rw [ek]; exact g_eq, g_fr.rf.up (by simp)⟩) (by decide) (by decide)
      · refine g_iconst (v := nI 2) dX11_batch_24 (by decide) ?_
        refine g_goto (tgt := 54) dX11_batch_25 (by decide) ?_
        refine g_put (fs' := [.int (nI 2), .ref 143, .int (nI (s 4)), .int (nI (s 7)), .int (nI (s 8)), .ref 144, .int (nI (s 5)), .int (nI (s 6)), .ref 145, .int (nI (s 9)), .int (nI (s 10)), .int (nI (s 11)), .int (nI (s 12)), .ref 146, .int (nI k), .ref 147, .int (nI m), .int (nI sg), .int (nI cm), .int (nI sd), .ref 148, .ref 149, .ref 150, .ref 151, .int (nI mm), .ref 152, .ref 153, .ref 154, .int (nI dr), .int (nI dd), .int (nI bk), .int wt, .ref 155, .int (nI rt), .ref 156, .ref 157, .ref 158, .ref 159, .ref 160, .ref 161, .ref 162, .ref 163, .ref 164, .ref 165, .ref 166]) dX11_batch_54 fX11_1 m0 (Nat.le_of_ble_eq_true rfl) rfl rfl rfl ?_
        refine g_aload_n dX11_batch_57 rfl rfl ?_
        refine g_getf (v := .int (nI 2)) dX11_batch_58 fX11_1 g_eq rfl ?_
        refine g_if_leN (tgt := 66) dX11_batch_61 (by decide) (by decide) (fun c61 => ?_) (fun c61 => ?_)
        · exact absurd c61 (by decide)
        · refine g_iconst (v := nI 0) dX11_batch_64 (by decide) ?_
          have ek : k_batch s sg (nI y) = 2 := (by have hu_nI_y := un_b (nI y); unfold k_batch; (repeat' split) <;> first | rfl | (exfalso; simp only [i_lt, i_le, i_eq, it0, itm, ifp, nI_toInt (show 0 < 2147483648 by first | decide | omega), nI_toInt (show 1 < 2147483648 by first | decide | omega), nI_toInt (show 4000 < 2147483648 by first | decide | omega), nI_toInt (show y < 2147483648 by first | decide | omega)] at * <;> omega))
          exact e_i dX11_batch_65 rfl rfl (g_fr.rf.up (by simp)) (Or.inl ⟨by rw [ek]; decide, by rw [ek]; exact g_eq, g_fr.rf.up (by simp)⟩) (by decide) (by decide)
    · refine g_iconst (v := nI 1) dX11_batch_13 (by decide) ?_
      refine g_goto (tgt := 54) dX11_batch_14 (by decide) ?_
      refine g_put (fs' := [.int (nI 1), .ref 143, .int (nI (s 4)), .int (nI (s 7)), .int (nI (s 8)), .ref 144, .int (nI (s 5)), .int (nI (s 6)), .ref 145, .int (nI (s 9)), .int (nI (s 10)), .int (nI (s 11)), .int (nI (s 12)), .ref 146, .int (nI k), .ref 147, .int (nI m), .int (nI sg), .int (nI cm), .int (nI sd), .ref 148, .ref 149, .ref 150, .ref 151, .int (nI mm), .ref 152, .ref 153, .ref 154, .int (nI dr), .int (nI dd), .int (nI bk), .int wt, .ref 155, .int (nI rt), .ref 156, .ref 157, .ref 158, .ref 159, .ref 160, .ref 161, .ref 162, .ref 163, .ref 164, .ref 165, .ref 166]) dX11_batch_54 fX11_1 m0 (Nat.le_of_ble_eq_true rfl) rfl rfl rfl ?_
      refine g_aload_n dX11_batch_57 rfl rfl ?_
      refine g_getf (v := .int (nI 1)) dX11_batch_58 fX11_1 g_eq rfl ?_
      refine g_if_leN (tgt := 66) dX11_batch_61 (by decide) (by decide) (fun c61 => ?_) (fun c61 => ?_)
      · exact absurd c61 (by decide)
      · refine g_iconst (v := nI 0) dX11_batch_64 (by decide) ?_
        have ek : k_batch s sg x = 1 := (by have hu_x := un_b x; unfold k_batch; (repeat' split) <;> first | rfl | (exfalso; simp only [i_lt, i_le, i_eq, it0, itm, ifp, nI_toInt (show 0 < 2147483648 by first | decide | omega), nI_toInt (show 1 < 2147483648 by first | decide | omega), nI_toInt (show 4000 < 2147483648 by first | decide | omega)] at * <;> omega))
        exact e_i dX11_batch_65 rfl rfl (g_fr.rf.up (by simp)) (Or.inl ⟨by rw [ek]; decide, by rw [ek]; exact g_eq, g_fr.rf.up (by simp)⟩) (by decide) (by decide)
theorem k_set_eq (sg : Nat) (x y : Int32) : k_set sg x y = if ¬ (0 ≤ x ∧ x < nI 2) then 1 else if ¬ (nI 1 ≤ y ∧ ((un x = 0 ∧ y ≤ nI 7) ∨ (¬ un x = 0 ∧ y ≤ nI 200))) then 2 else if ¬ sg = 0 then 3 else 0 := by
  unfold k_set
  by_cases z : un x = 0 <;> simp only [z, if_true, if_false, true_and, false_and, not_true, not_false_iff, or_false, false_or]
set_option maxHeartbeats 4000000 in
set_option maxRecDepth 100000 in
theorem c_mset (G : gG) (d n : Nat) (ex : Bool) (h : gH) {cd wt : Int32} {s : Nat → Nat} {k m sg cm sd mm dr dd bk rt : Nat} {x y : Int32} (m0 : Mc h cd s k m sg cm sd mm dr dd bk rt wt) (hsg : sg < 2 ^ 31) : g_M G mX11_set d 0 0 [.ref 142, .int x, .int y] n ex h (q_i n ex [142] h (fun r h' => (¬ k_set sg x y = 0 ∧ Mc h' (nI (k_set sg x y)) s k m sg cm sd mm dr dd bk rt wt ∧ g_fr [142] h h') ∨ (k_set sg x y = 0 ∧ r = nI (if un x = 0 then s 7 else s 8) ∧ Mc h' (nI (k_set sg x y)) (va_up s (if un x = 0 then 7 else 8) (un y)) k m sg cm sd mm dr dd bk rt wt))) := by
  refine g_enter (by decide) (Nat.le_of_ble_eq_true rfl) ?_
  show g_W G _ _ _ n ex h 0 0 0 [(0, .ref 142), (1, .int x), (2, .int y)] []
  refine g_aload_n dX11_set_0 rfl rfl ?_
  refine g_iload_n dX11_set_1 rfl rfl ?_
  refine g_if_lt (tgt := 10) dX11_set_2 (by decide) (fun c2 => ?_) (fun c2 => ?_)
  · refine g_iconst (v := nI 1) dX11_set_10 (by decide) ?_
    refine g_goto (tgt := 51) dX11_set_11 (by decide) ?_
    refine g_put (fs' := [.int (nI 1), .ref 143, .int (nI (s 4)), .int (nI (s 7)), .int (nI (s 8)), .ref 144, .int (nI (s 5)), .int (nI (s 6)), .ref 145, .int (nI (s 9)), .int (nI (s 10)), .int (nI (s 11)), .int (nI (s 12)), .ref 146, .int (nI k), .ref 147, .int (nI m), .int (nI sg), .int (nI cm), .int (nI sd), .ref 148, .ref 149, .ref 150, .ref 151, .int (nI mm), .ref 152, .ref 153, .ref 154, .int (nI dr), .int (nI dd), .int (nI bk), .int wt, .ref 155, .int (nI rt), .ref 156, .ref 157, .ref 158, .ref 159, .ref 160, .ref 161, .ref 162, .ref 163, .ref 164, .ref 165, .ref 166]) dX11_set_51 fX11_1 m0 (Nat.le_of_ble_eq_true rfl) rfl rfl rfl ?_
    refine g_aload_n dX11_set_54 rfl rfl ?_
    refine g_getf (v := .int (nI 1)) dX11_set_55 fX11_1 g_eq rfl ?_
    refine g_if_leN (tgt := 63) dX11_set_58 (by decide) (by decide) (fun c58 => ?_) (fun c58 => ?_)
    · exact absurd c58 (by decide)
    · refine g_iconst (v := nI 0) dX11_set_61 (by decide) ?_
      have ek : k_set sg x y = 1 := (by have hu_x := un_b x; rw [k_set_eq]; (repeat' split) <;> first | rfl | (exfalso; simp only [i_lt, i_le, i_eq, it0, itm, ifp, nI_toInt (show 0 < 2147483648 by first | decide | omega), nI_toInt (show 1 < 2147483648 by first | decide | omega), nI_toInt (show 2 < 2147483648 by first | decide | omega), nI_toInt (show 7 < 2147483648 by first | decide | omega), nI_toInt (show 200 < 2147483648 by first | decide | omega)] at * <;> omega))
      exact e_i dX11_set_62 rfl rfl (g_fr.rf.up (by simp)) (Or.inl ⟨by rw [ek]; decide, by rw [ek]; exact g_eq, g_fr.rf.up (by simp)⟩) (by decide) (by decide)
  · refine g_iload_n dX11_set_5 rfl rfl ?_
    refine g_iconst (v := nI 1) dX11_set_6 (by decide) ?_
    refine g_icmp_le (tgt := 14) dX11_set_7 (by decide) (fun c7 => ?_) (fun c7 => ?_)
    · obtain ⟨j, hj1, hj2, rfl⟩ := nat_of (a := 0) (by decide) ⟨Int32.not_lt.mp c2, c7⟩ (by decide)
      have hju := un_nI (show j < 4294967296 by omega)
      refine g_iload_n dX11_set_14 rfl rfl ?_
      refine g_iconst (v := nI 1) dX11_set_15 (by decide) ?_
      refine g_icmp_lt (tgt := 35) dX11_set_16 (by decide) (fun c16 => ?_) (fun c16 => ?_)
      · refine g_iconst (v := nI 2) dX11_set_35 (by decide) ?_
        refine g_goto (tgt := 51) dX11_set_36 (by decide) ?_
        refine g_put (fs' := [.int (nI 2), .ref 143, .int (nI (s 4)), .int (nI (s 7)), .int (nI (s 8)), .ref 144, .int (nI (s 5)), .int (nI (s 6)), .ref 145, .int (nI (s 9)), .int (nI (s 10)), .int (nI (s 11)), .int (nI (s 12)), .ref 146, .int (nI k), .ref 147, .int (nI m), .int (nI sg), .int (nI cm), .int (nI sd), .ref 148, .ref 149, .ref 150, .ref 151, .int (nI mm), .ref 152, .ref 153, .ref 154, .int (nI dr), .int (nI dd), .int (nI bk), .int wt, .ref 155, .int (nI rt), .ref 156, .ref 157, .ref 158, .ref 159, .ref 160, .ref 161, .ref 162, .ref 163, .ref 164, .ref 165, .ref 166]) dX11_set_51 fX11_1 m0 (Nat.le_of_ble_eq_true rfl) rfl rfl rfl ?_
        refine g_aload_n dX11_set_54 rfl rfl ?_
        refine g_getf (v := .int (nI 2)) dX11_set_55 fX11_1 g_eq rfl ?_
        refine g_if_leN (tgt := 63) dX11_set_58 (by decide) (by decide) (fun c58 => ?_) (fun c58 => ?_)
        · exact absurd c58 (by decide)
        · refine g_iconst (v := nI 0) dX11_set_61 (by decide) ?_
          have ek : k_set sg (nI j) y = 2 := (by have hu__nI_j_ := un_b (nI j); rw [k_set_eq]; (repeat' split) <;> first | rfl | (exfalso; simp only [i_lt, i_le, i_eq, it0, itm, ifp, nI_toInt (show 0 < 2147483648 by first | decide | omega), nI_toInt (show 1 < 2147483648 by first | decide | omega), nI_toInt (show 2 < 2147483648 by first | decide | omega), nI_toInt (show 7 < 2147483648 by first | decide | omega), nI_toInt (show 200 < 2147483648 by first | decide | omega), nI_toInt (show j < 2147483648 by first | decide | omega)] at * <;> omega))
          exact e_i dX11_set_62 rfl rfl (g_fr.rf.up (by simp)) (Or.inl ⟨by rw [ek]; decide, by rw [ek]; exact g_eq, g_fr.rf.up (by simp)⟩) (by decide) (by decide)
      · refine g_iload_n dX11_set_19 rfl rfl ?_
        refine g_iload_n dX11_set_20 rfl rfl ?_
        refine g_if_neN (tgt := 29) dX11_set_21 (by decide) (by omega) (fun c21 => ?_) (fun c21 => ?_)
        · refine g_sipush (v := nI 200) dX11_set_29 (by decide) ?_
          refine g_icmp_le (tgt := 39) dX11_set_32 (by decide) (fun c32 => ?_) (fun c32 => ?_)
          · obtain ⟨q, hq1, rfl⟩ := nat0 (fun z => c16 (Int32.lt_trans z (by decide)))
            have hqu := un_nI (show q < 4294967296 by omega)
            refine g_aload_n dX11_set_39 rfl rfl ?_
            refine g_getf (v := .int (nI sg)) dX11_set_40 fX11_231 m0 rfl ?_
            refine g_if_eqN (tgt := 50) dX11_set_43 (by decide) (by omega) (fun c43 => ?_) (fun c43 => ?_)
            · refine g_iconst (v := nI 0) dX11_set_50 (by decide) ?_
              refine g_put (fs' := [.int (nI 0), .ref 143, .int (nI (s 4)), .int (nI (s 7)), .int (nI (s 8)), .ref 144, .int (nI (s 5)), .int (nI (s 6)), .ref 145, .int (nI (s 9)), .int (nI (s 10)), .int (nI (s 11)), .int (nI (s 12)), .ref 146, .int (nI k), .ref 147, .int (nI m), .int (nI sg), .int (nI cm), .int (nI sd), .ref 148, .ref 149, .ref 150, .ref 151, .int (nI mm), .ref 152, .ref 153, .ref 154, .int (nI dr), .int (nI dd), .int (nI bk), .int wt, .ref 155, .int (nI rt), .ref 156, .ref 157, .ref 158, .ref 159, .ref 160, .ref 161, .ref 162, .ref 163, .ref 164, .ref 165, .ref 166]) dX11_set_51 fX11_1 m0 (Nat.le_of_ble_eq_true rfl) rfl rfl rfl ?_
              refine g_aload_n dX11_set_54 rfl rfl ?_
              refine g_getf (v := .int (nI 0)) dX11_set_55 fX11_1 g_eq rfl ?_
              refine g_if_leN (tgt := 63) dX11_set_58 (by decide) (by decide) (fun c58 => ?_) (fun c58 => ?_)
              · refine g_iload_n dX11_set_63 rfl rfl ?_
                refine g_if_neN (tgt := 74) dX11_set_64 (by decide) (by omega) (fun c64 => ?_) (fun c64 => ?_)
                · refine g_aload_n dX11_set_74 rfl rfl ?_
                  refine g_getf (v := .int (nI (s 8))) dX11_set_75 fX11_20 g_eq rfl ?_
                  refine g_istore_n (ls' := [(3, .int (nI (s 8))), (0, .ref 142), (1, .int (nI j)), (2, .int (nI q))]) dX11_set_78 rfl (by decide) rfl ?_
                  refine g_aload_n dX11_set_79 rfl rfl ?_
                  refine g_iload_n dX11_set_80 rfl rfl ?_
                  refine g_if_neN (tgt := 88) dX11_set_81 (by decide) (by omega) (fun c81 => ?_) (fun c81 => ?_)
                  · refine g_aload_n dX11_set_88 rfl rfl ?_
                    refine g_getf (v := .int (nI (s 7))) dX11_set_89 fX11_17 g_eq rfl ?_
                    refine g_put (fs' := [.int (nI 0), .ref 143, .int (nI (s 4)), .int (nI (s 7)), .int (nI (s 8)), .ref 144, .int (nI (s 5)), .int (nI (s 6)), .ref 145, .int (nI (s 9)), .int (nI (s 10)), .int (nI (s 11)), .int (nI (s 12)), .ref 146, .int (nI k), .ref 147, .int (nI m), .int (nI sg), .int (nI cm), .int (nI sd), .ref 148, .ref 149, .ref 150, .ref 151, .int (nI mm), .ref 152, .ref 153, .ref 154, .int (nI dr), .int (nI dd), .int (nI bk), .int wt, .ref 155, .int (nI rt), .ref 156, .ref 157, .ref 158, .ref 159, .ref 160, .ref 161, .ref 162, .ref 163, .ref 164, .ref 165, .ref 166]) dX11_set_92 fX11_17 g_eq (Nat.le_of_ble_eq_true rfl) rfl rfl rfl ?_
                    refine g_aload_n dX11_set_95 rfl rfl ?_
                    refine g_iload_n dX11_set_96 rfl rfl ?_
                    refine g_iconst (v := nI 1) dX11_set_97 (by decide) ?_
                    refine g_icmp_neN (tgt := 105) dX11_set_98 (by decide) (by omega) (by omega) (fun c98 => ?_) (fun c98 => ?_)
                    · exact absurd (show j = 1 by omega) c98
                    · refine g_iload_n dX11_set_101 rfl rfl ?_
                      refine g_goto (tgt := 109) dX11_set_102 (by decide) ?_
                      refine g_put (fs' := [.int (nI 0), .ref 143, .int (nI (s 4)), .int (nI (s 7)), .int (nI q), .ref 144, .int (nI (s 5)), .int (nI (s 6)), .ref 145, .int (nI (s 9)), .int (nI (s 10)), .int (nI (s 11)), .int (nI (s 12)), .ref 146, .int (nI k), .ref 147, .int (nI m), .int (nI sg), .int (nI cm), .int (nI sd), .ref 148, .ref 149, .ref 150, .ref 151, .int (nI mm), .ref 152, .ref 153, .ref 154, .int (nI dr), .int (nI dd), .int (nI bk), .int wt, .ref 155, .int (nI rt), .ref 156, .ref 157, .ref 158, .ref 159, .ref 160, .ref 161, .ref 162, .ref 163, .ref 164, .ref 165, .ref 166]) dX11_set_109 fX11_20 g_eq (Nat.le_of_ble_eq_true rfl) rfl rfl rfl ?_
                      refine g_iload_n dX11_set_112 rfl rfl ?_
                      have ek : k_set sg (nI j) (nI q) = 0 := (by have hu__nI_j_ := un_b (nI j); rw [k_set_eq]; (repeat' split) <;> first | rfl | (exfalso; simp only [i_lt, i_le, i_eq, it0, itm, ifp, nI_toInt (show 0 < 2147483648 by first | decide | omega), nI_toInt (show 1 < 2147483648 by first | decide | omega), nI_toInt (show 2 < 2147483648 by first | decide | omega), nI_toInt (show 7 < 2147483648 by first | decide | omega), nI_toInt (show 200 < 2147483648 by first | decide | omega), nI_toInt (show j < 2147483648 by first | decide | omega), nI_toInt (show q < 2147483648 by first | decide | omega)] at * <;> omega))
                      exact e_i dX11_set_113 rfl rfl (((g_fr.rf.up (by simp)).up (by simp)).up (by simp)) (Or.inr ⟨ek, by rw [hju, if_neg c64], by rw [ek, hju, hqu, if_neg c64]; exact g_eq⟩) (by decide) (by decide)
                  · exact absurd c81 c64
                · refine g_aload_n dX11_set_67 rfl rfl ?_
                  refine g_getf (v := .int (nI (s 7))) dX11_set_68 fX11_17 g_eq rfl ?_
                  refine g_goto (tgt := 78) dX11_set_71 (by decide) ?_
                  refine g_istore_n (ls' := [(3, .int (nI (s 7))), (0, .ref 142), (1, .int (nI j)), (2, .int (nI q))]) dX11_set_78 rfl (by decide) rfl ?_
                  refine g_aload_n dX11_set_79 rfl rfl ?_
                  refine g_iload_n dX11_set_80 rfl rfl ?_
                  refine g_if_neN (tgt := 88) dX11_set_81 (by decide) (by omega) (fun c81 => ?_) (fun c81 => ?_)
                  · exact absurd c64 c81
                  · refine g_iload_n dX11_set_84 rfl rfl ?_
                    refine g_goto (tgt := 92) dX11_set_85 (by decide) ?_
                    refine g_put (fs' := [.int (nI 0), .ref 143, .int (nI (s 4)), .int (nI q), .int (nI (s 8)), .ref 144, .int (nI (s 5)), .int (nI (s 6)), .ref 145, .int (nI (s 9)), .int (nI (s 10)), .int (nI (s 11)), .int (nI (s 12)), .ref 146, .int (nI k), .ref 147, .int (nI m), .int (nI sg), .int (nI cm), .int (nI sd), .ref 148, .ref 149, .ref 150, .ref 151, .int (nI mm), .ref 152, .ref 153, .ref 154, .int (nI dr), .int (nI dd), .int (nI bk), .int wt, .ref 155, .int (nI rt), .ref 156, .ref 157, .ref 158, .ref 159, .ref 160, .ref 161, .ref 162, .ref 163, .ref 164, .ref 165, .ref 166]) dX11_set_92 fX11_17 g_eq (Nat.le_of_ble_eq_true rfl) rfl rfl rfl ?_
                    refine g_aload_n dX11_set_95 rfl rfl ?_
                    refine g_iload_n dX11_set_96 rfl rfl ?_
                    refine g_iconst (v := nI 1) dX11_set_97 (by decide) ?_
                    refine g_icmp_neN (tgt := 105) dX11_set_98 (by decide) (by omega) (by omega) (fun c98 => ?_) (fun c98 => ?_)
                    · refine g_aload_n dX11_set_105 rfl rfl ?_
                      refine g_getf (v := .int (nI (s 8))) dX11_set_106 fX11_20 g_eq rfl ?_
                      refine g_put (fs' := [.int (nI 0), .ref 143, .int (nI (s 4)), .int (nI q), .int (nI (s 8)), .ref 144, .int (nI (s 5)), .int (nI (s 6)), .ref 145, .int (nI (s 9)), .int (nI (s 10)), .int (nI (s 11)), .int (nI (s 12)), .ref 146, .int (nI k), .ref 147, .int (nI m), .int (nI sg), .int (nI cm), .int (nI sd), .ref 148, .ref 149, .ref 150, .ref 151, .int (nI mm), .ref 152, .ref 153, .ref 154, .int (nI dr), .int (nI dd), .int (nI bk), .int wt, .ref 155, .int (nI rt), .ref 156, .ref 157, .ref 158, .ref 159, .ref 160, .ref 161, .ref 162, .ref 163, .ref 164, .ref 165, .ref 166]) dX11_set_109 fX11_20 g_eq (Nat.le_of_ble_eq_true rfl) rfl rfl rfl ?_
                      refine g_iload_n dX11_set_112 rfl rfl ?_
                      have ek : k_set sg (nI j) (nI q) = 0 := (by have hu__nI_j_ := un_b (nI j); rw [k_set_eq]; (repeat' split) <;> first | rfl | (exfalso; simp only [i_lt, i_le, i_eq, it0, itm, ifp, nI_toInt (show 0 < 2147483648 by first | decide | omega), nI_toInt (show 1 < 2147483648 by first | decide | omega), nI_toInt (show 2 < 2147483648 by first | decide | omega), nI_toInt (show 7 < 2147483648 by first | decide | omega), nI_toInt (show 200 < 2147483648 by first | decide | omega), nI_toInt (show j < 2147483648 by first | decide | omega), nI_toInt (show q < 2147483648 by first | decide | omega)] at * <;> omega))
                      exact e_i dX11_set_113 rfl rfl (((g_fr.rf.up (by simp)).up (by simp)).up (by simp)) (Or.inr ⟨ek, by rw [hju, if_pos c64], by rw [ek, hju, hqu, if_pos c64]; exact g_eq⟩) (by decide) (by decide)
                    · exact absurd c98 (by omega)
              · exact absurd c58 (by decide)
            · refine g_iconst (v := nI 3) dX11_set_46 (by decide) ?_
              refine g_goto (tgt := 51) dX11_set_47 (by decide) ?_
              refine g_put (fs' := [.int (nI 3), .ref 143, .int (nI (s 4)), .int (nI (s 7)), .int (nI (s 8)), .ref 144, .int (nI (s 5)), .int (nI (s 6)), .ref 145, .int (nI (s 9)), .int (nI (s 10)), .int (nI (s 11)), .int (nI (s 12)), .ref 146, .int (nI k), .ref 147, .int (nI m), .int (nI sg), .int (nI cm), .int (nI sd), .ref 148, .ref 149, .ref 150, .ref 151, .int (nI mm), .ref 152, .ref 153, .ref 154, .int (nI dr), .int (nI dd), .int (nI bk), .int wt, .ref 155, .int (nI rt), .ref 156, .ref 157, .ref 158, .ref 159, .ref 160, .ref 161, .ref 162, .ref 163, .ref 164, .ref 165, .ref 166]) dX11_set_51 fX11_1 m0 (Nat.le_of_ble_eq_true rfl) rfl rfl rfl ?_
              refine g_aload_n dX11_set_54 rfl rfl ?_
              refine g_getf (v := .int (nI 3)) dX11_set_55 fX11_1 g_eq rfl ?_
              refine g_if_leN (tgt := 63) dX11_set_58 (by decide) (by decide) (fun c58 => ?_) (fun c58 => ?_)
              · exact absurd c58 (by decide)
              · refine g_iconst (v := nI 0) dX11_set_61 (by decide) ?_
                have ek : k_set sg (nI j) (nI q) = 3 := (by have hu__nI_j_ := un_b (nI j); rw [k_set_eq]; (repeat' split) <;> first | rfl | (exfalso; simp only [i_lt, i_le, i_eq, it0, itm, ifp, nI_toInt (show 0 < 2147483648 by first | decide | omega), nI_toInt (show 1 < 2147483648 by first | decide | omega), nI_toInt (show 2 < 2147483648 by first | decide | omega), nI_toInt (show 7 < 2147483648 by first | decide | omega), nI_toInt (show 200 < 2147483648 by first | decide | omega), nI_toInt (show j < 2147483648 by first | decide | omega), nI_toInt (show q < 2147483648 by first | decide | omega)] at * <;> omega))
                exact e_i dX11_set_62 rfl rfl (g_fr.rf.up (by simp)) (Or.inl ⟨by rw [ek]; decide, by rw [ek]; exact g_eq, g_fr.rf.up (by simp)⟩) (by decide) (by decide)
          · refine g_iconst (v := nI 2) dX11_set_35 (by decide) ?_
            refine g_goto (tgt := 51) dX11_set_36 (by decide) ?_
            refine g_put (fs' := [.int (nI 2), .ref 143, .int (nI (s 4)), .int (nI (s 7)), .int (nI (s 8)), .ref 144, .int (nI (s 5)), .int (nI (s 6)), .ref 145, .int (nI (s 9)), .int (nI (s 10)), .int (nI (s 11)), .int (nI (s 12)), .ref 146, .int (nI k), .ref 147, .int (nI m), .int (nI sg), .int (nI cm), .int (nI sd), .ref 148, .ref 149, .ref 150, .ref 151, .int (nI mm), .ref 152, .ref 153, .ref 154, .int (nI dr), .int (nI dd), .int (nI bk), .int wt, .ref 155, .int (nI rt), .ref 156, .ref 157, .ref 158, .ref 159, .ref 160, .ref 161, .ref 162, .ref 163, .ref 164, .ref 165, .ref 166]) dX11_set_51 fX11_1 m0 (Nat.le_of_ble_eq_true rfl) rfl rfl rfl ?_
            refine g_aload_n dX11_set_54 rfl rfl ?_
            refine g_getf (v := .int (nI 2)) dX11_set_55 fX11_1 g_eq rfl ?_
            refine g_if_leN (tgt := 63) dX11_set_58 (by decide) (by decide) (fun c58 => ?_) (fun c58 => ?_)
            · exact absurd c58 (by decide)
            · refine g_iconst (v := nI 0) dX11_set_61 (by decide) ?_
              have ek : k_set sg (nI j) y = 2 := (by have hu__nI_j_ := un_b (nI j); rw [k_set_eq]; (repeat' split) <;> first | rfl | (exfalso; simp only [i_lt, i_le, i_eq, it0, itm, ifp, nI_toInt (show 0 < 2147483648 by first | decide | omega), nI_toInt (show 1 < 2147483648 by first | decide | omega), nI_toInt (show 2 < 2147483648 by first | decide | omega), nI_toInt (show 7 < 2147483648 by first | decide | omega), nI_toInt (show 200 < 2147483648 by first | decide | omega), nI_toInt (show j < 2147483648 by first | decide | omega)] at * <;> omega))
              exact e_i dX11_set_62 rfl rfl (g_fr.rf.up (by simp)) (Or.inl ⟨by rw [ek]; decide, by rw [ek]; exact g_eq, g_fr.rf.up (by simp)⟩) (by decide) (by decide)
        · refine g_bipush (v := nI 7) dX11_set_24 (by decide) ?_
          refine g_goto (tgt := 32) dX11_set_26 (by decide) ?_
          refine g_icmp_le (tgt := 39) dX11_set_32 (by decide) (fun c32 => ?_) (fun c32 => ?_)
          · obtain ⟨q, hq1, rfl⟩ := nat0 (fun z => c16 (Int32.lt_trans z (by decide)))
            have hqu := un_nI (show q < 4294967296 by omega)
            refine g_aload_n dX11_set_39 rfl rfl ?_
            refine g_getf (v := .int (nI sg)) dX11_set_40 fX11_231 m0 rfl ?_
            refine g_if_eqN (tgt := 50) dX11_set_43 (by decide) (by omega) (fun c43 => ?_) (fun c43 => ?_)
            · refine g_iconst (v := nI 0) dX11_set_50 (by decide) ?_
              refine g_put (fs' := [.int (nI 0), .ref 143, .int (nI (s 4)), .int (nI (s 7)), .int (nI (s 8)), .ref 144, .int (nI (s 5)), .int (nI (s 6)), .ref 145, .int (nI (s 9)), .int (nI (s 10)), .int (nI (s 11)), .int (nI (s 12)), .ref 146, .int (nI k), .ref 147, .int (nI m), .int (nI sg), .int (nI cm), .int (nI sd), .ref 148, .ref 149, .ref 150, .ref 151, .int (nI mm), .ref 152, .ref 153, .ref 154, .int (nI dr), .int (nI dd), .int (nI bk), .int wt, .ref 155, .int (nI rt), .ref 156, .ref 157, .ref 158, .ref 159, .ref 160, .ref 161, .ref 162, .ref 163, .ref 164, .ref 165, .ref 166]) dX11_set_51 fX11_1 m0 (Nat.le_of_ble_eq_true rfl) rfl rfl rfl ?_
              refine g_aload_n dX11_set_54 rfl rfl ?_
              refine g_getf (v := .int (nI 0)) dX11_set_55 fX11_1 g_eq rfl ?_
              refine g_if_leN (tgt := 63) dX11_set_58 (by decide) (by decide) (fun c58 => ?_) (fun c58 => ?_)
              · refine g_iload_n dX11_set_63 rfl rfl ?_
                refine g_if_neN (tgt := 74) dX11_set_64 (by decide) (by omega) (fun c64 => ?_) (fun c64 => ?_)
                · refine g_aload_n dX11_set_74 rfl rfl ?_
                  refine g_getf (v := .int (nI (s 8))) dX11_set_75 fX11_20 g_eq rfl ?_
                  refine g_istore_n (ls' := [(3, .int (nI (s 8))), (0, .ref 142), (1, .int (nI j)), (2, .int (nI q))]) dX11_set_78 rfl (by decide) rfl ?_
                  refine g_aload_n dX11_set_79 rfl rfl ?_
                  refine g_iload_n dX11_set_80 rfl rfl ?_
                  refine g_if_neN (tgt := 88) dX11_set_81 (by decide) (by omega) (fun c81 => ?_) (fun c81 => ?_)
                  · refine g_aload_n dX11_set_88 rfl rfl ?_
                    refine g_getf (v := .int (nI (s 7))) dX11_set_89 fX11_17 g_eq rfl ?_
                    refine g_put (fs' := [.int (nI 0), .ref 143, .int (nI (s 4)), .int (nI (s 7)), .int (nI (s 8)), .ref 144, .int (nI (s 5)), .int (nI (s 6)), .ref 145, .int (nI (s 9)), .int (nI (s 10)), .int (nI (s 11)), .int (nI (s 12)), .ref 146, .int (nI k), .ref 147, .int (nI m), .int (nI sg), .int (nI cm), .int (nI sd), .ref 148, .ref 149, .ref 150, .ref 151, .int (nI mm), .ref 152, .ref 153, .ref 154, .int (nI dr), .int (nI dd), .int (nI bk), .int wt, .ref 155, .int (nI rt), .ref 156, .ref 157, .ref 158, .ref 159, .ref 160, .ref 161, .ref 162, .ref 163, .ref 164, .ref 165, .ref 166]) dX11_set_92 fX11_17 g_eq (Nat.le_of_ble_eq_true rfl) rfl rfl rfl ?_
                    refine g_aload_n dX11_set_95 rfl rfl ?_
                    refine g_iload_n dX11_set_96 rfl rfl ?_
                    refine g_iconst (v := nI 1) dX11_set_97 (by decide) ?_
                    refine g_icmp_neN (tgt := 105) dX11_set_98 (by decide) (by omega) (by omega) (fun c98 => ?_) (fun c98 => ?_)
                    · exact absurd (show j = 1 by omega) c98
                    · refine g_iload_n dX11_set_101 rfl rfl ?_
                      refine g_goto (tgt := 109) dX11_set_102 (by decide) ?_
                      refine g_put (fs' := [.int (nI 0), .ref 143, .int (nI (s 4)), .int (nI (s 7)), .int (nI q), .ref 144, .int (nI (s 5)), .int (nI (s 6)), .ref 145, .int (nI (s 9)), .int (nI (s 10)), .int (nI (s 11)), .int (nI (s 12)), .ref 146, .int (nI k), .ref 147, .int (nI m), .int (nI sg), .int (nI cm), .int (nI sd), .ref 148, .ref 149, .ref 150, .ref 151, .int (nI mm), .ref 152, .ref 153, .ref 154, .int (nI dr), .int (nI dd), .int (nI bk), .int wt, .ref 155, .int (nI rt), .ref 156, .ref 157, .ref 158, .ref 159, .ref 160, .ref 161, .ref 162, .ref 163, .ref 164, .ref 165, .ref 166]) dX11_set_109 fX11_20 g_eq (Nat.le_of_ble_eq_true rfl) rfl rfl rfl ?_
                      refine g_iload_n dX11_set_112 rfl rfl ?_
                      have ek : k_set sg (nI j) (nI q) = 0 := (by have hu__nI_j_ := un_b (nI j); rw [k_set_eq]; (repeat' split) <;> first | rfl | (exfalso; simp only [i_lt, i_le, i_eq, it0, itm, ifp, nI_toInt (show 0 < 2147483648 by first | decide | omega), nI_toInt (show 1 < 2147483648 by first | decide | omega), nI_toInt (show 2 < 2147483648 by first | decide | omega), nI_toInt (show 7 < 2147483648 by first | decide | omega), nI_toInt (show 200 < 2147483648 by first | decide | omega), nI_toInt (show j < 2147483648 by first | decide | omega), nI_toInt (show q < 2147483648 by first | decide | omega)] at * <;> omega))
                      exact e_i dX11_set_113 rfl rfl (((g_fr.rf.up (by simp)).up (by simp)).up (by simp)) (Or.inr ⟨ek, by rw [hju, if_neg c64], by rw [ek, hju, hqu, if_neg c64]; exact g_eq⟩) (by decide) (by decide)
                  · exact absurd c81 c64
                · refine g_aload_n dX11_set_67 rfl rfl ?_
                  refine g_getf (v := .int (nI (s 7))) dX11_set_68 fX11_17 g_eq rfl ?_
                  refine g_goto (tgt := 78) dX11_set_71 (by decide) ?_
                  refine g_istore_n (ls' := [(3, .int (nI (s 7))), (0, .ref 142), (1, .int (nI j)), (2, .int (nI q))]) dX11_set_78 rfl (by decide) rfl ?_
                  refine g_aload_n dX11_set_79 rfl rfl ?_
                  refine g_iload_n dX11_set_80 rfl rfl ?_
                  refine g_if_neN (tgt := 88) dX11_set_81 (by decide) (by omega) (fun c81 => ?_) (fun c81 => ?_)
                  · exact absurd c64 c81
                  · refine g_iload_n dX11_set_84 rfl rfl ?_
                    refine g_goto (tgt := 92) dX11_set_85 (by decide) ?_
                    refine g_put (fs' := [.int (nI 0), .ref 143, .int (nI (s 4)), .int (nI q), .int (nI (s 8)), .ref 144, .int (nI (s 5)), .int (nI (s 6)), .ref 145, .int (nI (s 9)), .int (nI (s 10)), .int (nI (s 11)), .int (nI (s 12)), .ref 146, .int (nI k), .ref 147, .int (nI m), .int (nI sg), .int (nI cm), .int (nI sd), .ref 148, .ref 149, .ref 150, .ref 151, .int (nI mm), .ref 152, .ref 153, .ref 154, .int (nI dr), .int (nI dd), .int (nI bk), .int wt, .ref 155, .int (nI rt), .ref 156, .ref 157, .ref 158, .ref 159, .ref 160, .ref 161, .ref 162, .ref 163, .ref 164, .ref 165, .ref 166]) dX11_set_92 fX11_17 g_eq (Nat.le_of_ble_eq_true rfl) rfl rfl rfl ?_
                    refine g_aload_n dX11_set_95 rfl rfl ?_
                    refine g_iload_n dX11_set_96 rfl rfl ?_
                    refine g_iconst (v := nI 1) dX11_set_97 (by decide) ?_
                    refine g_icmp_neN (tgt := 105) dX11_set_98 (by decide) (by omega) (by omega) (fun c98 => ?_) (fun c98 => ?_)
                    · refine g_aload_n dX11_set_105 rfl rfl ?_
                      refine g_getf (v := .int (nI (s 8))) dX11_set_106 fX11_20 g_eq rfl ?_
                      refine g_put (fs' := [.int (nI 0), .ref 143, .int (nI (s 4)), .int (nI q), .int (nI (s 8)), .ref 144, .int (nI (s 5)), .int (nI (s 6)), .ref 145, .int (nI (s 9)), .int (nI (s 10)), .int (nI (s 11)), .int (nI (s 12)), .ref 146, .int (nI k), .ref 147, .int (nI m), .int (nI sg), .int (nI cm), .int (nI sd), .ref 148, .ref 149, .ref 150, .ref 151, .int (nI mm), .ref 152, .ref 153, .ref 154, .int (nI dr), .int (nI dd), .int (nI bk), .int wt, .ref 155, .int (nI rt), .ref 156, .ref 157, .ref 158, .ref 159, .ref 160, .ref 161, .ref 162, .ref 163, .ref 164, .ref 165, .ref 166]) dX11_set_109 fX11_20 g_eq (Nat.le_of_ble_eq_true rfl) rfl rfl rfl ?_
                      refine g_iload_n dX11_set_112 rfl rfl ?_
                      have ek : k_set sg (nI j) (nI q) = 0 := (by have hu__nI_j_ := un_b (nI j); rw [k_set_eq]; (repeat' split) <;> first | rfl | (exfalso; simp only [i_lt, i_le, i_eq, it0, itm, ifp, nI_toInt (show 0 < 2147483648 by first | decide | omega), nI_toInt (show 1 < 2147483648 by first | decide | omega), nI_toInt (show 2 < 2147483648 by first | decide | omega), nI_toInt (show 7 < 2147483648 by first | decide | omega), nI_toInt (show 200 < 2147483648 by first | decide | omega), nI_toInt (show j < 2147483648 by first | decide | omega), nI_toInt (show q < 2147483648 by first | decide | omega)] at * <;> omega))
                      exact e_i dX11_set_113 rfl rfl (((g_fr.rf.up (by simp)).up (by simp)).up (by simp)) (Or.inr ⟨ek, by rw [hju, if_pos c64], by rw [ek, hju, hqu, if_pos c64]; exact g_eq⟩) (by decide) (by decide)
                    · exact absurd c98 (by omega)
              · exact absurd c58 (by decide)
            · refine g_iconst (v := nI 3) dX11_set_46 (by decide) ?_
              refine g_goto (tgt := 51) dX11_set_47 (by decide) ?_
              refine g_put (fs' := [.int (nI 3), .ref 143, .int (nI (s 4)), .int (nI (s 7)), .int (nI (s 8)), .ref 144, .int (nI (s 5)), .int (nI (s 6)), .ref 145, .int (nI (s 9)), .int (nI (s 10)), .int (nI (s 11)), .int (nI (s 12)), .ref 146, .int (nI k), .ref 147, .int (nI m), .int (nI sg), .int (nI cm), .int (nI sd), .ref 148, .ref 149, .ref 150, .ref 151, .int (nI mm), .ref 152, .ref 153, .ref 154, .int (nI dr), .int (nI dd), .int (nI bk), .int wt, .ref 155, .int (nI rt), .ref 156, .ref 157, .ref 158, .ref 159, .ref 160, .ref 161, .ref 162, .ref 163, .ref 164, .ref 165, .ref 166]) dX11_set_51 fX11_1 m0 (Nat.le_of_ble_eq_true rfl) rfl rfl rfl ?_
              refine g_aload_n dX11_set_54 rfl rfl ?_
              refine g_getf (v := .int (nI 3)) dX11_set_55 fX11_1 g_eq rfl ?_
              refine g_if_leN (tgt := 63) dX11_set_58 (by decide) (by decide) (fun c58 => ?_) (fun c58 => ?_)
              · exact absurd c58 (by decide)
              · refine g_iconst (v := nI 0) dX11_set_61 (by decide) ?_
                have ek : k_set sg (nI j) (nI q) = 3 := (by have hu__nI_j_ := un_b (nI j); rw [k_set_eq]; (repeat' split) <;> first | rfl | (exfalso; simp only [i_lt, i_le, i_eq, it0, itm, ifp, nI_toInt (show 0 < 2147483648 by first | decide | omega), nI_toInt (show 1 < 2147483648 by first | decide | omega), nI_toInt (show 2 < 2147483648 by first | decide | omega), nI_toInt (show 7 < 2147483648 by first | decide | omega), nI_toInt (show 200 < 2147483648 by first | decide | omega), nI_toInt (show j < 2147483648 by first | decide | omega), nI_toInt (show q < 2147483648 by first | decide | omega)] at * <;> omega))
                exact e_i dX11_set_62 rfl rfl (g_fr.rf.up (by simp)) (Or.inl ⟨by rw [ek]; decide, by rw [ek]; exact g_eq, g_fr.rf.up (by simp)⟩) (by decide) (by decide)
          · refine g_iconst (v := nI 2) dX11_set_35 (by decide) ?_
            refine g_goto (tgt := 51) dX11_set_36 (by decide) ?_
            refine g_put (fs' := [.int (nI 2), .ref 143, .int (nI (s 4)), .int (nI (s 7)), .int (nI (s 8)), .ref 144, .int (nI (s 5)), .int (nI (s 6)), .ref 145, .int (nI (s 9)), .int (nI (s 10)), .int (nI (s 11)), .int (nI (s 12)), .ref 146, .int (nI k), .ref 147, .int (nI m), .int (nI sg), .int (nI cm), .int (nI sd), .ref 148, .ref 149, .ref 150, .ref 151, .int (nI mm), .ref 152, .ref 153, .ref 154, .int (nI dr), .int (nI dd), .int (nI bk), .int wt, .ref 155, .int (nI rt), .ref 156, .ref 157, .ref 158, .ref 159, .ref 160, .ref 161, .ref 162, .ref 163, .ref 164, .ref 165, .ref 166]) dX11_set_51 fX11_1 m0 (Nat.le_of_ble_eq_true rfl) rfl rfl rfl ?_
            refine g_aload_n dX11_set_54 rfl rfl ?_
            refine g_getf (v := .int (nI 2)) dX11_set_55 fX11_1 g_eq rfl ?_
            refine g_if_leN (tgt := 63) dX11_set_58 (by decide) (by decide) (fun c58 => ?_) (fun c58 => ?_)
            · exact absurd c58 (by decide)
            · refine g_iconst (v := nI 0) dX11_set_61 (by decide) ?_
              have ek : k_set sg (nI j) y = 2 := (by have hu__nI_j_ := un_b (nI j); rw [k_set_eq]; (repeat' split) <;> first | rfl | (exfalso; simp only [i_lt, i_le, i_eq, it0, itm, ifp, nI_toInt (show 0 < 2147483648 by first | decide | omega), nI_toInt (show 1 < 2147483648 by first | decide | omega), nI_toInt (show 2 < 2147483648 by first | decide | omega), nI_toInt (show 7 < 2147483648 by first | decide | omega), nI_toInt (show 200 < 2147483648 by first | decide | omega), nI_toInt (show j < 2147483648 by first | decide | omega)] at * <;> omega))
              exact e_i dX11_set_62 rfl rfl (g_fr.rf.up (by simp)) (Or.inl ⟨by rw [ek]; decide, by rw [ek]; exact g_eq, g_fr.rf.up (by simp)⟩) (by decide) (by decide)
    · refine g_iconst (v := nI 1) dX11_set_10 (by decide) ?_
      refine g_goto (tgt := 51) dX11_set_11 (by decide) ?_
      refine g_put (fs' := [.int (nI 1), .ref 143, .int (nI (s 4)), .int (nI (s 7)), .int (nI (s 8)), .ref 144, .int (nI (s 5)), .int (nI (s 6)), .ref 145, .int (nI (s 9)), .int (nI (s 10)), .int (nI (s 11)), .int (nI (s 12)), .ref 146, .int (nI k), .ref 147, .int (nI m), .int (nI sg), .int (nI cm), .int (nI sd), .ref 148, .ref 149, .ref 150, .ref 151, .int (nI mm), .ref 152, .ref 153, .ref 154, .int (nI dr), .int (nI dd), .int (nI bk), .int wt, .ref 155, .int (nI rt), .ref 156, .ref 157, .ref 158, .ref 159, .ref 160, .ref 161, .ref 162, .ref 163, .ref 164, .ref 165, .ref 166]) dX11_set_51 fX11_1 m0 (Nat.le_of_ble_eq_true rfl) rfl rfl rfl ?_
      refine g_aload_n dX11_set_54 rfl rfl ?_
      refine g_getf (v := .int (nI 1)) dX11_set_55 fX11_1 g_eq rfl ?_
      refine g_if_leN (tgt := 63) dX11_set_58 (by decide) (by decide) (fun c58 => ?_) (fun c58 => ?_)
      · exact absurd c58 (by decide)
      · refine g_iconst (v := nI 0) dX11_set_61 (by decide) ?_
        have ek : k_set sg x y = 1 := (by have hu_x := un_b x; rw [k_set_eq]; (repeat' split) <;> first | rfl | (exfalso; simp only [i_lt, i_le, i_eq, it0, itm, ifp, nI_toInt (show 0 < 2147483648 by first | decide | omega), nI_toInt (show 1 < 2147483648 by first | decide | omega), nI_toInt (show 2 < 2147483648 by first | decide | omega), nI_toInt (show 7 < 2147483648 by first | decide | omega), nI_toInt (show 200 < 2147483648 by first | decide | omega)] at * <;> omega))
        exact e_i dX11_set_62 rfl rfl (g_fr.rf.up (by simp)) (Or.inl ⟨by rw [ek]; decide, by rw [ek]; exact g_eq, g_fr.rf.up (by simp)⟩) (by decide) (by decide)
