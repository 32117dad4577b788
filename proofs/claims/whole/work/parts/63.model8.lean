set_option maxHeartbeats 4000000 in
set_option maxRecDepth 100000 in
theorem lp_pu1 (G : gG) (R : Room) (KK : gK) (n : Nat) (ex : Bool) (h0 : gH) {cd wt : Int32} {s : Nat → Nat} {k m sg cm sd  dr dd bk rt : Nat} {wn : Nat → Nat} {a : Nat} (h4 : s 4 ≤ 8) (ha : a < s 4) (hwn : ∀ k, wn k ≤ 1) (kk : ∀ (h : gH) (W Lx : Nat → Nat) (SW : Nat → Int32), Mc h cd s k m sg cm sd ((pu_in wn a (s 4) (pu wn (s 4) a)).1) dr dd bk rt wt → h 148 = some (.inl (2, 8, .inl (fun k => nI (wn k)))) → h 149 = some (.inl (0, 16, .inl (fun k => nI (W k)))) → h 150 = some (.inl (0, 16, .inl (fun k => nI (Lx k)))) → h 151 = some (.inl (0, 16, .inl SW)) → (∀ k, k < (pu_in wn a (s 4) (pu wn (s 4) a)).1 → W k = (pu_in wn a (s 4) (pu wn (s 4) a)).2.1 k ∧ Lx k = (pu_in wn a (s 4) (pu wn (s 4) a)).2.2 k ∧ SW k = -1) → g_fr [142, 149, 150, 151] h0 h → g_W G mX11_pairUp R KK n ex h 0 0 89 [(2, .int (nI (s 4))), (1, .int (nI a)), (0, .ref 142)] []) : ∀ (t j : Nat) (h : gH) (W Lx : Nat → Nat) (SW : Nat → Int32), s 4 - j < t → j ≤ s 4 → Mc h cd s k m sg cm sd ((pu_in wn a j (pu wn (s 4) a)).1) dr dd bk rt wt → h 148 = some (.inl (2, 8, .inl (fun k => nI (wn k)))) → h 149 = some (.inl (0, 16, .inl (fun k => nI (W k)))) → h 150 = some (.inl (0, 16, .inl (fun k => nI (Lx k)))) → h 151 = some (.inl (0, 16, .inl SW)) → (∀ k, k < (pu_in wn a j (pu wn (s 4) a)).1 → W k = (pu_in wn a j (pu wn (s 4) a)).2.1 k ∧ Lx k = (pu_in wn a j (pu wn (s 4) a)).2.2 k ∧ SW k = -1) → g_fr [142, 149, 150, 151] h0 h →
    g_W G mX11_pairUp R KK n ex h 0 0 17 [(2, .int (nI j)), (1, .int (nI a)), (0, .ref 142)] [] := by
  intro t
  induction t with
  | zero => intro j h W Lx SW hm; exact absurd hm (by omega)
  | succ t ih =>
    intro j h W Lx SW ht hj m0 a8 a9 a10 a11 z1 hf
    refine g_iload_n dX11_pairUp_17 rfl rfl ?_
    refine g_aload_n dX11_pairUp_18 rfl rfl ?_
    refine g_getf (v := .int (nI (s 4))) dX11_pairUp_19 fX11_234 m0 rfl ?_
    refine g_icmp_geN (tgt := 89) dX11_pairUp_22 (by decide) (by omega) (by omega) (fun c22 => ?_) (fun c22 => ?_)
    · refine g_pick [0, 1, 2] (ls' := [(2, .int (nI j)), (1, .int (nI a)), (0, .ref 142)]) rfl ?_
      have e : j = s 4 := by omega
      subst e
      exact kk _ W Lx SW m0 a8 a9 a10 a11 z1 hf
    · refine g_aload_n dX11_pairUp_25 rfl rfl ?_
      refine g_getf (v := .ref 148) dX11_pairUp_26 fX11_48 m0 rfl ?_
      refine g_iload_n dX11_pairUp_29 rfl rfl ?_
      refine g_zaldN dX11_pairUp_30 a8 (by omega) (by decide) ?_
      refine g_if_eqN (tgt := 83) dX11_pairUp_31 (by decide) (by have := hwn a; omega) (fun c31 => ?_) (fun c31 => ?_)
      · refine g_iincN (z := 1) (ls' := [(2, .int (nI (j + 1))), (1, .int (nI a)), (0, .ref 142)]) dX11_pairUp_83 rfl (by decide) rfl ?_
        refine g_goto (tgt := 17) dX11_pairUp_86 (by decide) ?_
        refine g_pick [0, 1, 2] (ls' := [(2, .int (nI (j + 1))), (1, .int (nI a)), (0, .ref 142)]) rfl ?_
        have e : pu_in wn a (j + 1) (pu wn (s 4) a) = (pu_in wn a j (pu wn (s 4) a)) := if_pos (Or.inl c31)
        exact ih (j + 1) _ W Lx SW (by omega) (by omega) (by rw [e]; exact m0) a8 a9 a10 a11 (by rw [e]; exact z1) hf
      · refine g_aload_n dX11_pairUp_34 rfl rfl ?_
        refine g_getf (v := .ref 148) dX11_pairUp_35 fX11_48 m0 rfl ?_
        refine g_iload_n dX11_pairUp_38 rfl rfl ?_
        refine g_zaldN dX11_pairUp_39 a8 (by omega) (by decide) ?_
        refine g_if_neN (tgt := 83) dX11_pairUp_40 (by decide) (by have := hwn j; omega) (fun c40 => ?_) (fun c40 => ?_)
        · refine g_iincN (z := 1) (ls' := [(2, .int (nI (j + 1))), (1, .int (nI a)), (0, .ref 142)]) dX11_pairUp_83 rfl (by decide) rfl ?_
          refine g_goto (tgt := 17) dX11_pairUp_86 (by decide) ?_
          refine g_pick [0, 1, 2] (ls' := [(2, .int (nI (j + 1))), (1, .int (nI a)), (0, .ref 142)]) rfl ?_
          have e : pu_in wn a (j + 1) (pu wn (s 4) a) = (pu_in wn a j (pu wn (s 4) a)) := if_pos (Or.inr c40)
          exact ih (j + 1) _ W Lx SW (by omega) (by omega) (by rw [e]; exact m0) a8 a9 a10 a11 (by rw [e]; exact z1) hf
        · have hrm := pu_room h4 ha (show j < s 4 by omega) c31 c40
          refine g_aload_n dX11_pairUp_43 rfl rfl ?_
          refine g_getf (v := .ref 149) dX11_pairUp_44 fX11_52 m0 rfl ?_
          refine g_aload_n dX11_pairUp_47 rfl rfl ?_
          refine g_getf (v := .int (nI ((pu_in wn a j (pu wn (s 4) a)).1))) dX11_pairUp_48 fX11_250 m0 rfl ?_
          refine g_iload_n dX11_pairUp_51 rfl rfl ?_
          refine g_iastN dX11_pairUp_52 a9 (by omega) (by decide) ?_
          rw [upd_nI]
          refine g_aload_n dX11_pairUp_53 rfl rfl ?_
          refine g_getf (v := .ref 150) dX11_pairUp_54 fX11_55 (g_ne (by decide) m0) rfl ?_
          refine g_aload_n dX11_pairUp_57 rfl rfl ?_
          refine g_getf (v := .int (nI ((pu_in wn a j (pu wn (s 4) a)).1))) dX11_pairUp_58 fX11_250 (g_ne (by decide) m0) rfl ?_
          refine g_iload_n dX11_pairUp_61 rfl rfl ?_
          refine g_iastN dX11_pairUp_62 (g_ne (by decide) a10) (by omega) (by decide) ?_
          rw [upd_nI]
          refine g_aload_n dX11_pairUp_63 rfl rfl ?_
          refine g_getf (v := .ref 151) dX11_pairUp_64 fX11_58 (g_ne (by decide) (g_ne (by decide) m0)) rfl ?_
          refine g_aload_n dX11_pairUp_67 rfl rfl ?_
          refine g_getf (v := .int (nI ((pu_in wn a j (pu wn (s 4) a)).1))) dX11_pairUp_68 fX11_250 (g_ne (by decide) (g_ne (by decide) m0)) rfl ?_
          refine g_iconst (v := -1) dX11_pairUp_71 (by decide) ?_
          refine g_iastN dX11_pairUp_72 (g_ne (by decide) (g_ne (by decide) a11)) (by omega) (by decide) ?_
          refine g_aload_n dX11_pairUp_73 rfl rfl ?_
          refine g_dup dX11_pairUp_74 rfl ?_
          refine g_getf (v := .int (nI ((pu_in wn a j (pu wn (s 4) a)).1))) dX11_pairUp_75 fX11_250 (g_ne (by decide) (g_ne (by decide) (g_ne (by decide) m0))) rfl ?_
          refine g_iconst (v := nI 1) dX11_pairUp_78 (by decide) ?_
          refine g_iaddN dX11_pairUp_79 ?_
          refine g_put (fs' := [.int cd, .ref 143, .int (nI (s 4)), .int (nI (s 7)), .int (nI (s 8)), .ref 144, .int (nI (s 5)), .int (nI (s 6)), .ref 145, .int (nI (s 9)), .int (nI (s 10)), .int (nI (s 11)), .int (nI (s 12)), .ref 146, .int (nI k), .ref 147, .int (nI m), .int (nI sg), .int (nI cm), .int (nI sd), .ref 148, .ref 149, .ref 150, .ref 151, .int (nI (((pu_in wn a j (pu wn (s 4) a)).1) + 1)), .ref 152, .ref 153, .ref 154, .int (nI dr), .int (nI dd), .int (nI bk), .int wt, .ref 155, .int (nI rt), .ref 156, .ref 157, .ref 158, .ref 159, .ref 160, .ref 161, .ref 162, .ref 163, .ref 164, .ref 165, .ref 166]) dX11_pairUp_80 fX11_250 (g_ne (by decide) (g_ne (by decide) (g_ne (by decide) m0))) (Nat.le_of_ble_eq_true rfl) rfl rfl rfl ?_
          refine g_iincN (z := 1) (ls' := [(2, .int (nI (j + 1))), (1, .int (nI a)), (0, .ref 142)]) dX11_pairUp_83 rfl (by decide) rfl ?_
          refine g_goto (tgt := 17) dX11_pairUp_86 (by decide) ?_
          refine g_pick [0, 1, 2] (ls' := [(2, .int (nI (j + 1))), (1, .int (nI a)), (0, .ref 142)]) rfl ?_
          have e : pu_in wn a (j + 1) (pu wn (s 4) a) = ((pu_in wn a j (pu wn (s 4) a)).1 + 1, va_up (pu_in wn a j (pu wn (s 4) a)).2.1 (pu_in wn a j (pu wn (s 4) a)).1 a, va_up (pu_in wn a j (pu wn (s 4) a)).2.2 (pu_in wn a j (pu wn (s 4) a)).1 j) := if_neg (fun q => q.elim c31 (fun z => z c40))
          have := ih (j + 1) _ (va_up W (pu_in wn a j (pu wn (s 4) a)).1 a) (va_up Lx (pu_in wn a j (pu wn (s 4) a)).1 j) (upd SW (pu_in wn a j (pu wn (s 4) a)).1 (-1)) (by omega) (by omega) (by rw [e]; exact g_eq) (g_ne (by decide) (g_ne (by decide) (g_ne (by decide) (g_ne (by decide) a8)))) (g_ne (by decide) (g_ne (by decide) (g_ne (by decide) g_eq))) (g_ne (by decide) (g_ne (by decide) g_eq)) (g_ne (by decide) g_eq) (fun k hk => by
            rw [e] at hk ⊢
            show va_up W (pu_in wn a j (pu wn (s 4) a)).1 a k = va_up (pu_in wn a j (pu wn (s 4) a)).2.1 (pu_in wn a j (pu wn (s 4) a)).1 a k ∧ va_up Lx (pu_in wn a j (pu wn (s 4) a)).1 j k = va_up (pu_in wn a j (pu wn (s 4) a)).2.2 (pu_in wn a j (pu wn (s 4) a)).1 j k ∧ upd SW (pu_in wn a j (pu wn (s 4) a)).1 (-1) k = -1
            have hk2 : k < (pu_in wn a j (pu wn (s 4) a)).1 + 1 := hk
            by_cases q : k = (pu_in wn a j (pu wn (s 4) a)).1
            · rw [q, va_s, va_s, va_s, va_s, pk_us]; exact ⟨rfl, rfl, rfl⟩
            · rw [va_n q, va_n q, va_n q, va_n q, pk_un q]; exact z1 k (by omega)) ((((hf.up (by simp)).up (by simp)).up (by simp)).up (by simp))
          exact this
set_option maxHeartbeats 4000000 in
set_option maxRecDepth 100000 in
theorem lp_pu2 (G : gG) (R : Room) (n : Nat) (ex : Bool) (h0 : gH) {cd wt : Int32} {s : Nat → Nat} {k m sg cm sd  dr dd bk rt : Nat} {wn : Nat → Nat} (h4 : s 4 ≤ 8) (hwn : ∀ k, wn k ≤ 1) : ∀ (t a : Nat) (h : gH) (W Lx : Nat → Nat) (SW : Nat → Int32), s 4 - a < t → a ≤ s 4 → Mc h cd s k m sg cm sd ((pu wn (s 4) a).1) dr dd bk rt wt → h 148 = some (.inl (2, 8, .inl (fun k => nI (wn k)))) → h 149 = some (.inl (0, 16, .inl (fun k => nI (W k)))) → h 150 = some (.inl (0, 16, .inl (fun k => nI (Lx k)))) → h 151 = some (.inl (0, 16, .inl SW)) → (∀ k, k < (pu wn (s 4) a).1 → W k = (pu wn (s 4) a).2.1 k ∧ Lx k = (pu wn (s 4) a).2.2 k ∧ SW k = -1) → g_fr [142, 149, 150, 151] h0 h →
    g_W G mX11_pairUp R (g_K G (q_v n ex [142, 149, 150, 151] h0 (fun h' => ∃ (W Lx : Nat → Nat) (SW : Nat → Int32), Mc h' cd s k m sg cm sd ((pu wn (s 4) (s 4)).1) dr dd bk rt wt ∧ h' 149 = some (.inl (0, 16, .inl (fun k => nI (W k)))) ∧ h' 150 = some (.inl (0, 16, .inl (fun k => nI (Lx k)))) ∧ h' 151 = some (.inl (0, 16, .inl SW)) ∧ ∀ k, k < (pu wn (s 4) (s 4)).1 → W k = (pu wn (s 4) (s 4)).2.1 k ∧ Lx k = (pu wn (s 4) (s 4)).2.2 k ∧ SW k = -1)) 0 0) n ex h 0 0 7 [(1, .int (nI a)), (0, .ref 142)] [] := by
  intro t
  induction t with
  | zero => intro a h W Lx SW hm; exact absurd hm (by omega)
  | succ t ih =>
    intro a h W Lx SW ht ha m0 a8 a9 a10 a11 z1 hf
    refine g_iload_n dX11_pairUp_7 rfl rfl ?_
    refine g_aload_n dX11_pairUp_8 rfl rfl ?_
    refine g_getf (v := .int (nI (s 4))) dX11_pairUp_9 fX11_234 m0 rfl ?_
    refine g_icmp_geN (tgt := 95) dX11_pairUp_12 (by decide) (by omega) (by omega) (fun c12 => ?_) (fun c12 => ?_)
    · have e : a = s 4 := by omega
      subst e
      exact e_v dX11_pairUp_95 rfl hf ⟨W, Lx, SW, m0, a9, a10, a11, z1⟩ (by decide) (by decide)
    · refine g_iconst (v := nI 0) dX11_pairUp_15 (by decide) ?_
      refine g_istore_n (ls' := [(2, .int (nI 0)), (1, .int (nI a)), (0, .ref 142)]) dX11_pairUp_16 rfl (by decide) rfl ?_
      refine g_pick [0, 1, 2] (ls' := [(2, .int (nI 0)), (1, .int (nI a)), (0, .ref 142)]) rfl ?_
      refine lp_pu1 G _ _ n ex h0 h4 (by omega) hwn (fun h2 W2 L2 S2 xm0 xa8 xa9 xa10 xa11 xz1 xhf => ?_) (s 4 + 1) 0 h W Lx SW (by omega) (by omega) m0 a8 a9 a10 a11 z1 hf
      refine g_iincN (z := 1) (ls' := [(1, .int (nI (a + 1))), (2, .int (nI (s 4))), (0, .ref 142)]) dX11_pairUp_89 rfl (by decide) rfl ?_
      refine g_goto (tgt := 7) dX11_pairUp_92 (by decide) ?_
      refine g_pick [0, 2] (ls' := [(1, .int (nI (a + 1))), (0, .ref 142)]) rfl ?_
      exact ih (a + 1) h2 W2 L2 S2 (by omega) (by omega) xm0 xa8 xa9 xa10 xa11 xz1 xhf
set_option maxHeartbeats 4000000 in
set_option maxRecDepth 100000 in
theorem c_pairUp (G : gG) (d n : Nat) (ex : Bool) (h : gH) {cd wt : Int32} {s : Nat → Nat} {k m sg cm sd mm dr dd bk rt : Nat} {wn W Lx : Nat → Nat} {SW : Nat → Int32} (m0 : Mc h cd s k m sg cm sd mm dr dd bk rt wt) (a8 : h 148 = some (.inl (2, 8, .inl (fun k => nI (wn k))))) (a9 : h 149 = some (.inl (0, 16, .inl (fun k => nI (W k))))) (a10 : h 150 = some (.inl (0, 16, .inl (fun k => nI (Lx k))))) (a11 : h 151 = some (.inl (0, 16, .inl SW))) (h4 : s 4 ≤ 8) (hwn : ∀ k, wn k ≤ 1) : g_M G mX11_pairUp d 0 0 [.ref 142] n ex h (q_v n ex [142, 149, 150, 151] h (fun h' => ∃ (W Lx : Nat → Nat) (SW : Nat → Int32), Mc h' cd s k m sg cm sd ((pu wn (s 4) (s 4)).1) dr dd bk rt wt ∧ h' 149 = some (.inl (0, 16, .inl (fun k => nI (W k)))) ∧ h' 150 = some (.inl (0, 16, .inl (fun k => nI (Lx k)))) ∧ h' 151 = some (.inl (0, 16, .inl SW)) ∧ ∀ k, k < (pu wn (s 4) (s 4)).1 → W k = (pu wn (s 4) (s 4)).2.1 k ∧ Lx k = (pu wn (s 4) (s 4)).2.2 k ∧ SW k = -1)) := by
  refine g_enter (by decide) (Nat.le_of_ble_eq_true rfl) ?_
  show g_W G _ _ _ n ex h 0 0 0 [(0, .ref 142)] []
  refine g_aload_n dX11_pairUp_0 rfl rfl ?_
  refine g_iconst (v := nI 0) dX11_pairUp_1 (by decide) ?_
  refine g_put (fs' := [.int cd, .ref 143, .int (nI (s 4)), .int (nI (s 7)), .int (nI (s 8)), .ref 144, .int (nI (s 5)), .int (nI (s 6)), .ref 145, .int (nI (s 9)), .int (nI (s 10)), .int (nI (s 11)), .int (nI (s 12)), .ref 146, .int (nI k), .ref 147, .int (nI m), .int (nI sg), .int (nI cm), .int (nI sd), .ref 148, .ref 149, .ref 150, .ref 151, .int (nI 0), .ref 152, .ref 153, .ref 154, .int (nI dr), .int (nI dd), .int (nI bk), .int wt, .ref 155, .int (nI rt), .ref 156, .ref 157, .ref 158, .ref 159, .ref 160, .ref 161, .ref 162, .ref 163, .ref 164, .ref 165, .ref 166]) dX11_pairUp_2 fX11_250 m0 (Nat.le_of_ble_eq_true rfl) rfl rfl rfl ?_
  refine g_iconst (v := nI 0) dX11_pairUp_5 (by decide) ?_
  refine g_istore_n (ls' := [(1, .int (nI 0)), (0, .ref 142)]) dX11_pairUp_6 rfl (by decide) rfl ?_
  refine g_pick [0, 1] (ls' := [(1, .int (nI 0)), (0, .ref 142)]) rfl ?_
  exact lp_pu2 G _ n ex h h4 hwn (s 4 + 1) 0 _ W Lx SW (by omega) (by omega) g_eq (g_ne (by decide) a8) (g_ne (by decide) a9) (g_ne (by decide) a10) (g_ne (by decide) a11) (fun k hk => absurd hk (Nat.not_lt_zero k)) (g_fr.rf.up (by simp))
noncomputable def k_start (s v : Nat → Nat) (sg k sd : Nat) : Nat := @ite Nat (sg = 0 ∧ fit_ s v ∧ (sd = 0 ∨ ¬ k = 0)) (Classical.propDecidable _) 0 1
theorem ks_0 {s v : Nat → Nat} {sg k sd : Nat} (h : sg = 0 ∧ fit_ s v ∧ (sd = 0 ∨ ¬ k = 0)) : k_start s v sg k sd = 0 := @if_pos _ (Classical.propDecidable _) h _ _ _
theorem ks_1 {s v : Nat → Nat} {sg k sd : Nat} (h : ¬ (sg = 0 ∧ fit_ s v ∧ (sd = 0 ∨ ¬ k = 0))) : k_start s v sg k sd = 1 := @if_neg _ (Classical.propDecidable _) h _ _ _
set_option maxHeartbeats 4000000 in
set_option maxRecDepth 100000 in
theorem lp_mstart (G : gG) (R : Room) (KK : gK) (n : Nat) (ex : Bool) (h : gH) {cd wt : Int32} {s : Nat → Nat} {k m sg cm sd mm dr dd bk rt : Nat} {v : Nat → Nat} {g0 cm1 sd1 : Nat} (m0 : Mc h cd s k m sg cm sd mm dr dd bk rt wt) (a3 : h 143 = some (.inl (0, 8, .inl (fun k => nI (v k))))) (h4 : s 4 ≤ 8) (h6 : s 6 ≤ 20000) (hv : ∀ k, v k < 2 ^ 31) (kk : ∀ g, g ≤ 1 → (g = 1 ↔ (g0 = 1 ∧ ∀ o, o < s 4 → v o ≤ s 6)) → g_W G mX11_start R KK n ex h 0 0 80 [(4, .int (nI (s 4))), (3, .int (nI g)), (0, .ref 142), (1, .int (nI cm1)), (2, .int (nI sd1))] []) : ∀ (t c g : Nat), s 4 - c < t → c ≤ s 4 → g ≤ 1 → (g = 1 ↔ (g0 = 1 ∧ ∀ o, o < c → v o ≤ s 6)) →
    g_W G mX11_start R KK n ex h 0 0 41 [(4, .int (nI c)), (3, .int (nI g)), (0, .ref 142), (1, .int (nI cm1)), (2, .int (nI sd1))] [] := by
  intro t
  induction t with
  | zero => intro c g hm; exact absurd hm (by omega)
  | succ t ih =>
    intro c g ht hc hg1 hg2
    refine g_iload dX11_start_41 rfl ?_
    refine g_aload_n dX11_start_43 rfl rfl ?_
    refine g_getf (v := .int (nI (s 4))) dX11_start_44 fX11_234 m0 rfl ?_
    refine g_icmp_geN (tgt := 80) dX11_start_47 (by decide) (by omega) (by omega) (fun c47 => ?_) (fun c47 => ?_)
    · refine g_pick [0, 1, 2, 3, 4] (ls' := [(4, .int (nI c)), (3, .int (nI g)), (0, .ref 142), (1, .int (nI cm1)), (2, .int (nI sd1))]) rfl ?_
      have e : c = s 4 := by omega
      subst e
      exact kk g hg1 hg2
    · refine g_iload_n dX11_start_50 rfl rfl ?_
      refine g_if_eqN (tgt := 72) dX11_start_51 (by decide) (by omega) (fun c51 => ?_) (fun c51 => ?_)
      · refine g_iconst (v := nI 0) dX11_start_72 (by decide) ?_
        refine g_istore_n (ls' := [(3, .int (nI 0)), (4, .int (nI c)), (0, .ref 142), (1, .int (nI cm1)), (2, .int (nI sd1))]) dX11_start_73 rfl (by decide) rfl ?_
        refine g_iincN (z := 1) (ls' := [(4, .int (nI (c + 1))), (3, .int (nI 0)), (0, .ref 142), (1, .int (nI cm1)), (2, .int (nI sd1))]) dX11_start_74 rfl (by decide) rfl ?_
        refine g_goto (tgt := 41) dX11_start_77 (by decide) ?_
        refine g_pick [0, 1, 2, 3, 4] (ls' := [(4, .int (nI (c + 1))), (3, .int (nI 0)), (0, .ref 142), (1, .int (nI cm1)), (2, .int (nI sd1))]) rfl ?_
        exact ih (c + 1) 0 (by omega) (by omega) (by decide) ⟨fun z => absurd z (by decide), fun z => by have := hg2.mpr ⟨z.1, fun o ho => z.2 o (by omega)⟩; omega⟩
      · refine g_aload_n dX11_start_54 rfl rfl ?_
        refine g_getf (v := .ref 143) dX11_start_55 fX11_13 m0 rfl ?_
        refine g_iload dX11_start_58 rfl ?_
        refine g_ialdN dX11_start_60 a3 (by omega) (by decide) ?_
        refine g_aload_n dX11_start_61 rfl rfl ?_
        refine g_getf (v := .int (nI (s 6))) dX11_start_62 fX11_240 m0 rfl ?_
        refine g_icmp_gtN (tgt := 72) dX11_start_65 (by decide) (hv _) (by omega) (fun c65 => ?_) (fun c65 => ?_)
        · refine g_iconst (v := nI 0) dX11_start_72 (by decide) ?_
          refine g_istore_n (ls' := [(3, .int (nI 0)), (4, .int (nI c)), (0, .ref 142), (1, .int (nI cm1)), (2, .int (nI sd1))]) dX11_start_73 rfl (by decide) rfl ?_
          refine g_iincN (z := 1) (ls' := [(4, .int (nI (c + 1))), (3, .int (nI 0)), (0, .ref 142), (1, .int (nI cm1)), (2, .int (nI sd1))]) dX11_start_74 rfl (by decide) rfl ?_
          refine g_goto (tgt := 41) dX11_start_77 (by decide) ?_
          refine g_pick [0, 1, 2, 3, 4] (ls' := [(4, .int (nI (c + 1))), (3, .int (nI 0)), (0, .ref 142), (1, .int (nI cm1)), (2, .int (nI sd1))]) rfl ?_
          exact ih (c + 1) 0 (by omega) (by omega) (by decide) ⟨fun z => absurd z (by decide), fun z => absurd (z.2 c (by omega)) (by omega)⟩
        · refine g_iconst (v := nI 1) dX11_start_68 (by decide) ?_
          refine g_goto (tgt := 73) dX11_start_69 (by decide) ?_
          refine g_istore_n (ls' := [(3, .int (nI 1)), (4, .int (nI c)), (0, .ref 142), (1, .int (nI cm1)), (2, .int (nI sd1))]) dX11_start_73 rfl (by decide) rfl ?_
          refine g_iincN (z := 1) (ls' := [(4, .int (nI (c + 1))), (3, .int (nI 1)), (0, .ref 142), (1, .int (nI cm1)), (2, .int (nI sd1))]) dX11_start_74 rfl (by decide) rfl ?_
          refine g_goto (tgt := 41) dX11_start_77 (by decide) ?_
          refine g_pick [0, 1, 2, 3, 4] (ls' := [(4, .int (nI (c + 1))), (3, .int (nI 1)), (0, .ref 142), (1, .int (nI cm1)), (2, .int (nI sd1))]) rfl ?_
          exact ih (c + 1) 1 (by omega) (by omega) (by decide) ⟨fun _ => ⟨(hg2.mp (by omega)).1, fun o ho => by by_cases q : o = c; (subst q; exact c65); exact (hg2.mp (by omega)).2 o (by omega)⟩, fun _ => rfl⟩
theorem g_Bv {h h' : gH} {X : Nat → Int32} {V : Nat → Option Nat} (z : Bn h X V) (h1 : h' 156 = h 156) (h2 : h' 157 = h 157) : Bv h' V := by
  obtain ⟨B, Z, ⟨z0, z1, z2, z3⟩, z4⟩ := z
  exact ⟨B, Z, h1.trans z1, h2.trans z2, z3, z4⟩
theorem nz (b : Nat) (h : b ≤ 1) {G : gG} : narrow .boolean (g_v G (.int (nI b))) = g_v G (.int (nI b)) := by
  rcases (show b = 0 ∨ b = 1 by omega) with rfl | rfl <;> rfl
theorem nf (b : Nat) (h : b ≤ 1) {G : gG} : fits .boolean (g_v G (.int (nI b))) = true := by
  rcases (show b = 0 ∨ b = 1 by omega) with rfl | rfl <;> rfl
set_option maxHeartbeats 4000000 in
set_option maxRecDepth 100000 in
theorem c_mstart (G : gG) (d n : Nat) (ex : Bool) (h : gH) {cd wt : Int32} {s : Nat → Nat} {k m sg cm sd mm dr dd bk rt : Nat} {v wn W Lx : Nat → Nat} {SW : Nat → Int32} {V : Nat → Option Nat} {cm1 sd1 : Nat} (hcm1 : cm1 ≤ 1) (hsd1 : sd1 ≤ 1) (m0 : Mc h cd s k m sg cm sd mm dr dd bk rt wt) (a3 : h 143 = some (.inl (0, 8, .inl (fun k => nI (v k))))) (a8 : h 148 = some (.inl (2, 8, .inl (fun k => nI (wn k))))) (a9 : h 149 = some (.inl (0, 16, .inl (fun k => nI (W k))))) (a10 : h 150 = some (.inl (0, 16, .inl (fun k => nI (Lx k))))) (a11 : h 151 = some (.inl (0, 16, .inl SW))) (hBv : Bv h V) (hwn : ∀ k, wn k ≤ 1) (h4 : s 4 ≤ 8) (h6 : s 6 ≤ 20000) (h7 : s 7 ≤ 7) (h71 : 1 ≤ s 7) (hv : ∀ k, v k < 2 ^ 31) (hsg : sg < 2 ^ 31) (hk : k ≤ 20) : g_M G mX11_start (d + 2) 0 0 [.ref 142, .int (nI cm1), .int (nI sd1)] n ex h (q_v n ex [142, 148, 149, 150, 151, 156, 157] h (fun h' => (¬ k_start s v sg k sd1 = 0 ∧ Mc h' (nI (k_start s v sg k sd1)) s k m sg cm sd mm dr dd bk rt wt ∧ ∃ wn' : Nat → Nat, h' 148 = some (.inl (2, 8, .inl (fun k => nI (wn' k)))) ∧ (∀ k, wn' k ≤ 1) ∧ (¬ sg = 0 → wn' = wn) ∧ g_fr [142, 148] h h') ∨ (k_start s v sg k sd1 = 0 ∧ ∃ (wn' W' L' : Nat → Nat) (S' : Nat → Int32), Mc h' (nI (k_start s v sg k sd1)) s k m 1 cm1 sd1 ((pu wn' (s 4) (s 4)).1) dr dd bk rt wt ∧ h' 148 = some (.inl (2, 8, .inl (fun k => nI (wn' k)))) ∧ (∀ k, wn' k ≤ 1) ∧ (∀ c, c < s 4 → wn' c = wi s v c) ∧ h' 149 = some (.inl (0, 16, .inl (fun k => nI (W' k)))) ∧ h' 150 = some (.inl (0, 16, .inl (fun k => nI (L' k)))) ∧ h' 151 = some (.inl (0, 16, .inl S')) ∧ (∀ k, k < (pu wn' (s 4) (s 4)).1 → W' k = (pu wn' (s 4) (s 4)).2.1 k ∧ L' k = (pu wn' (s 4) (s 4)).2.2 k ∧ S' k = -1) ∧ Bv h' (va_up (va_up V 6 (some 1)) 7 (some 1))))) := by
  refine g_enter (by decide) (Nat.le_of_ble_eq_true rfl) ?_
  show g_W G _ _ _ n ex h 0 0 0 [(0, .ref 142), (1, .int (nI cm1)), (2, .int (nI sd1))] []
  refine g_aload_n dX11_start_0 rfl rfl ?_
  refine g_getf (v := .int (nI sg)) dX11_start_1 fX11_231 m0 rfl ?_
  refine g_if_neN (tgt := 36) dX11_start_4 (by decide) (by omega) (fun c4 => ?_) (fun c4 => ?_)
  · refine g_iconst (v := nI 0) dX11_start_36 (by decide) ?_
    refine g_istore_n (ls' := [(3, .int (nI 0)), (0, .ref 142), (1, .int (nI cm1)), (2, .int (nI sd1))]) dX11_start_37 rfl (by decide) rfl ?_
    refine g_iconst (v := nI 0) dX11_start_38 (by decide) ?_
    refine g_istore (ls' := [(4, .int (nI 0)), (3, .int (nI 0)), (0, .ref 142), (1, .int (nI cm1)), (2, .int (nI sd1))]) dX11_start_39 (by decide) rfl ?_
    refine g_pick [0, 1, 2, 3, 4] (ls' := [(4, .int (nI 0)), (3, .int (nI 0)), (0, .ref 142), (1, .int (nI cm1)), (2, .int (nI sd1))]) rfl ?_
    refine lp_mstart G _ _ n ex _ (g0 := 0) (cd := cd) (s := s) (k := k) (m := m) (sg := sg) (cm := cm) (sd := sd) (mm := mm) (dr := dr) (dd := dd) (bk := bk) (rt := rt) (wt := wt) m0 (v := v) a3 h4 h6 hv (fun g hg1 hg2 => ?_) (s 4 + 1) 0 0 (by omega) (by omega) (by decide) ⟨fun q => ⟨q, fun o ho => absurd ho (by omega)⟩, fun q => q.1⟩
    refine g_aload_n dX11_start_80 rfl rfl ?_
    refine g_iload_n dX11_start_81 rfl rfl ?_
    refine g_if_eqN (tgt := 89) dX11_start_82 (by decide) (by omega) (fun c82 => ?_) (fun c82 => ?_)
    · refine g_iconst (v := nI 1) dX11_start_89 (by decide) ?_
      refine g_put (fs' := [.int (nI 1), .ref 143, .int (nI (s 4)), .int (nI (s 7)), .int (nI (s 8)), .ref 144, .int (nI (s 5)), .int (nI (s 6)), .ref 145, .int (nI (s 9)), .int (nI (s 10)), .int (nI (s 11)), .int (nI (s 12)), .ref 146, .int (nI k), .ref 147, .int (nI m), .int (nI sg), .int (nI cm), .int (nI sd), .ref 148, .ref 149, .ref 150, .ref 151, .int (nI mm), .ref 152, .ref 153, .ref 154, .int (nI dr), .int (nI dd), .int (nI bk), .int wt, .ref 155, .int (nI rt), .ref 156, .ref 157, .ref 158, .ref 159, .ref 160, .ref 161, .ref 162, .ref 163, .ref 164, .ref 165, .ref 166]) dX11_start_90 fX11_1 m0 (Nat.le_of_ble_eq_true rfl) rfl rfl rfl ?_
      refine g_aload_n dX11_start_93 rfl rfl ?_
      refine g_getf (v := .int (nI 1)) dX11_start_94 fX11_1 g_eq rfl ?_
      refine g_if_leN (tgt := 101) dX11_start_97 (by decide) (by decide) (fun c97 => ?_) (fun c97 => ?_)
      · exact absurd c97 (by decide)
      · have ek : k_start s v sg k sd1 = 1 := ks_1 (fun q => absurd q.1 c4)
        exact e_v dX11_start_100 rfl (g_fr.rf.up (by simp)) (Or.inl ⟨by rw [ek]; decide, by rw [ek]; exact g_eq, wn, g_ne (by decide) a8, hwn, fun _ => rfl, g_fr.rf.up (by simp)⟩) (by decide) (by decide)
    · exact absurd (hg2.mp (by omega)).1 (by decide)
  · refine g_aload_n dX11_start_7 rfl rfl ?_
    refine cVi (st := []) dX11_start_8 (c_choose G (d + 1) n ex h m0 a3 a8 hwn h4 h7 hv) sX11_253 m0 rfl rfl (by simp only [g_rm]; omega) (by simp only [g_rm]; omega) (Nat.le_of_ble_eq_true rfl) ⟨Nat.le_of_ble_eq_true rfl, Nat.le_of_ble_eq_true rfl⟩ (fun r4 h1 fr2 p3 => ?_)
    obtain ⟨b, wn', rfl, hb1, y1, y2, y3, y4⟩ := p3
    refine g_if_eqN (tgt := 36) dX11_start_11 (by decide) (by omega) (fun c11 => ?_) (fun c11 => ?_)
    · refine g_iconst (v := nI 0) dX11_start_36 (by decide) ?_
      refine g_istore_n (ls' := [(3, .int (nI 0)), (0, .ref 142), (1, .int (nI cm1)), (2, .int (nI sd1))]) dX11_start_37 rfl (by decide) rfl ?_
      refine g_iconst (v := nI 0) dX11_start_38 (by decide) ?_
      refine g_istore (ls' := [(4, .int (nI 0)), (3, .int (nI 0)), (0, .ref 142), (1, .int (nI cm1)), (2, .int (nI sd1))]) dX11_start_39 (by decide) rfl ?_
      refine g_pick [0, 1, 2, 3, 4] (ls' := [(4, .int (nI 0)), (3, .int (nI 0)), (0, .ref 142), (1, .int (nI cm1)), (2, .int (nI sd1))]) rfl ?_
      refine lp_mstart G _ _ n ex _ (g0 := 0) (cd := cd) (s := s) (k := k) (m := m) (sg := sg) (cm := cm) (sd := sd) (mm := mm) (dr := dr) (dd := dd) (bk := bk) (rt := rt) (wt := wt) (fr2.at (by intro q; simp only [List.mem_cons, List.not_mem_nil, or_false] at q; omega) m0) (v := v) (fr2.at (by intro q; simp only [List.mem_cons, List.not_mem_nil, or_false] at q; omega) a3) h4 h6 hv (fun g hg1 hg2 => ?_) (s 4 + 1) 0 0 (by omega) (by omega) (by decide) ⟨fun q => ⟨q, fun o ho => absurd ho (by omega)⟩, fun q => q.1⟩
      refine g_aload_n dX11_start_80 rfl rfl ?_
      refine g_iload_n dX11_start_81 rfl rfl ?_
      refine g_if_eqN (tgt := 89) dX11_start_82 (by decide) (by omega) (fun c82 => ?_) (fun c82 => ?_)
      · refine g_iconst (v := nI 1) dX11_start_89 (by decide) ?_
        refine g_put (fs' := [.int (nI 1), .ref 143, .int (nI (s 4)), .int (nI (s 7)), .int (nI (s 8)), .ref 144, .int (nI (s 5)), .int (nI (s 6)), .ref 145, .int (nI (s 9)), .int (nI (s 10)), .int (nI (s 11)), .int (nI (s 12)), .ref 146, .int (nI k), .ref 147, .int (nI m), .int (nI sg), .int (nI cm), .int (nI sd), .ref 148, .ref 149, .ref 150, .ref 151, .int (nI mm), .ref 152, .ref 153, .ref 154, .int (nI dr), .int (nI dd), .int (nI bk), .int wt, .ref 155, .int (nI rt), .ref 156, .ref 157, .ref 158, .ref 159, .ref 160, .ref 161, .ref 162, .ref 163, .ref 164, .ref 165, .ref 166]) dX11_start_90 fX11_1 (fr2.at (by intro q; simp only [List.mem_cons, List.not_mem_nil, or_false] at q; omega) m0) (Nat.le_of_ble_eq_true rfl) rfl rfl rfl ?_
        refine g_aload_n dX11_start_93 rfl rfl ?_
        refine g_getf (v := .int (nI 1)) dX11_start_94 fX11_1 g_eq rfl ?_
        refine g_if_leN (tgt := 101) dX11_start_97 (by decide) (by decide) (fun c97 => ?_) (fun c97 => ?_)
        · exact absurd c97 (by decide)
        · have ek : k_start s v sg k sd1 = 1 := ks_1 (fun q => absurd (y3.mpr ⟨q.2.1.1, q.2.1.2.1, (tie_iff h71 q.2.1.2.1).mpr q.2.1.2.2.2.2⟩) (by omega))
          exact e_v dX11_start_100 rfl (((g_fr.rf).tr fr2 (by simp)).up (by simp)) (Or.inl ⟨by rw [ek]; decide, by rw [ek]; exact g_eq, wn', g_ne (by decide) y1, y2, fun q => absurd c4 q, (fr2.mono (by simp)).up (by simp)⟩) (by decide) (by decide)
      · exact absurd (hg2.mp (by omega)).1 (by decide)
    · refine g_aload_n dX11_start_14 rfl rfl ?_
      refine g_getf (v := .int (nI (s 6))) dX11_start_15 fX11_240 (fr2.at (by intro q; simp only [List.mem_cons, List.not_mem_nil, or_false] at q; omega) m0) rfl ?_
      refine g_if_leN (tgt := 36) dX11_start_18 (by decide) (by omega) (fun c18 => ?_) (fun c18 => ?_)
      · refine g_iconst (v := nI 0) dX11_start_36 (by decide) ?_
        refine g_istore_n (ls' := [(3, .int (nI 0)), (0, .ref 142), (1, .int (nI cm1)), (2, .int (nI sd1))]) dX11_start_37 rfl (by decide) rfl ?_
        refine g_iconst (v := nI 0) dX11_start_38 (by decide) ?_
        refine g_istore (ls' := [(4, .int (nI 0)), (3, .int (nI 0)), (0, .ref 142), (1, .int (nI cm1)), (2, .int (nI sd1))]) dX11_start_39 (by decide) rfl ?_
        refine g_pick [0, 1, 2, 3, 4] (ls' := [(4, .int (nI 0)), (3, .int (nI 0)), (0, .ref 142), (1, .int (nI cm1)), (2, .int (nI sd1))]) rfl ?_
        refine lp_mstart G _ _ n ex _ (g0 := 0) (cd := cd) (s := s) (k := k) (m := m) (sg := sg) (cm := cm) (sd := sd) (mm := mm) (dr := dr) (dd := dd) (bk := bk) (rt := rt) (wt := wt) (fr2.at (by intro q; simp only [List.mem_cons, List.not_mem_nil, or_false] at q; omega) m0) (v := v) (fr2.at (by intro q; simp only [List.mem_cons, List.not_mem_nil, or_false] at q; omega) a3) h4 h6 hv (fun g hg1 hg2 => ?_) (s 4 + 1) 0 0 (by omega) (by omega) (by decide) ⟨fun q => ⟨q, fun o ho => absurd ho (by omega)⟩, fun q => q.1⟩
        refine g_aload_n dX11_start_80 rfl rfl ?_
        refine g_iload_n dX11_start_81 rfl rfl ?_
        refine g_if_eqN (tgt := 89) dX11_start_82 (by decide) (by omega) (fun c82 => ?_) (fun c82 => ?_)
        · refine g_iconst (v := nI 1) dX11_start_89 (by decide) ?_
          refine g_put (fs' := [.int (nI 1), .ref 143, .int (nI (s 4)), .int (nI (s 7)), .int (nI (s 8)), .ref 144, .int (nI (s 5)), .int (nI (s 6)), .ref 145, .int (nI (s 9)), .int (nI (s 10)), .int (nI (s 11)), .int (nI (s 12)), .ref 146, .int (nI k), .ref 147, .int (nI m), .int (nI sg), .int (nI cm), .int (nI sd), .ref 148, .ref 149, .ref 150, .ref 151, .int (nI mm), .ref 152, .ref 153, .ref 154, .int (nI dr), .int (nI dd), .int (nI bk), .int wt, .ref 155, .int (nI rt), .ref 156, .ref 157, .ref 158, .ref 159, .ref 160, .ref 161, .ref 162, .ref 163, .ref 164, .ref 165, .ref 166]) dX11_start_90 fX11_1 (fr2.at (by intro q; simp only [List.mem_cons, List.not_mem_nil, or_false] at q; omega) m0) (Nat.le_of_ble_eq_true rfl) rfl rfl rfl ?_
          refine g_aload_n dX11_start_93 rfl rfl ?_
          refine g_getf (v := .int (nI 1)) dX11_start_94 fX11_1 g_eq rfl ?_
          refine g_if_leN (tgt := 101) dX11_start_97 (by decide) (by decide) (fun c97 => ?_) (fun c97 => ?_)
          · exact absurd c97 (by decide)
          · have ek : k_start s v sg k sd1 = 1 := ks_1 (fun q => absurd q.2.1.2.2.1 (by omega))
            exact e_v dX11_start_100 rfl (((g_fr.rf).tr fr2 (by simp)).up (by simp)) (Or.inl ⟨by rw [ek]; decide, by rw [ek]; exact g_eq, wn', g_ne (by decide) y1, y2, fun q => absurd c4 q, (fr2.mono (by simp)).up (by simp)⟩) (by decide) (by decide)
        · exact absurd (hg2.mp (by omega)).1 (by decide)
      · refine g_iload_n dX11_start_21 rfl rfl ?_
        refine g_if_eqN (tgt := 32) dX11_start_22 (by decide) (by omega) (fun c22 => ?_) (fun c22 => ?_)
        · refine g_iconst (v := nI 1) dX11_start_32 (by decide) ?_
          refine g_goto (tgt := 37) dX11_start_33 (by decide) ?_
          refine g_istore_n (ls' := [(3, .int (nI 1)), (0, .ref 142), (1, .int (nI cm1)), (2, .int (nI sd1))]) dX11_start_37 rfl (by decide) rfl ?_
          refine g_iconst (v := nI 0) dX11_start_38 (by decide) ?_
          refine g_istore (ls' := [(4, .int (nI 0)), (3, .int (nI 1)), (0, .ref 142), (1, .int (nI cm1)), (2, .int (nI sd1))]) dX11_start_39 (by decide) rfl ?_
          refine g_pick [0, 1, 2, 3, 4] (ls' := [(4, .int (nI 0)), (3, .int (nI 1)), (0, .ref 142), (1, .int (nI cm1)), (2, .int (nI sd1))]) rfl ?_
          refine lp_mstart G _ _ n ex _ (g0 := 1) (cd := cd) (s := s) (k := k) (m := m) (sg := sg) (cm := cm) (sd := sd) (mm := mm) (dr := dr) (dd := dd) (bk := bk) (rt := rt) (wt := wt) (fr2.at (by intro q; simp only [List.mem_cons, List.not_mem_nil, or_false] at q; omega) m0) (v := v) (fr2.at (by intro q; simp only [List.mem_cons, List.not_mem_nil, or_false] at q; omega) a3) h4 h6 hv (fun g hg1 hg2 => ?_) (s 4 + 1) 0 1 (by omega) (by omega) (by decide) ⟨fun q => ⟨q, fun o ho => absurd ho (by omega)⟩, fun q => q.1⟩
          refine g_aload_n dX11_start_80 rfl rfl ?_
          refine g_iload_n dX11_start_81 rfl rfl ?_
          refine g_if_eqN (tgt := 89) dX11_start_82 (by decide) (by omega) (fun c82 => ?_) (fun c82 => ?_)
          · refine g_iconst (v := nI 1) dX11_start_89 (by decide) ?_
            refine g_put (fs' := [.int (nI 1), .ref 143, .int (nI (s 4)), .int (nI (s 7)), .int (nI (s 8)), .ref 144, .int (nI (s 5)), .int (nI (s 6)), .ref 145, .int (nI (s 9)), .int (nI (s 10)), .int (nI (s 11)), .int (nI (s 12)), .ref 146, .int (nI k), .ref 147, .int (nI m), .int (nI sg), .int (nI cm), .int (nI sd), .ref 148, .ref 149, .ref 150, .ref 151, .int (nI mm), .ref 152, .ref 153, .ref 154, .int (nI dr), .int (nI dd), .int (nI bk), .int wt, .ref 155, .int (nI rt), .ref 156, .ref 157, .ref 158, .ref 159, .ref 160, .ref 161, .ref 162, .ref 163, .ref 164, .ref 165, .ref 166]) dX11_start_90 fX11_1 (fr2.at (by intro q; simp only [List.mem_cons, List.not_mem_nil, or_false] at q; omega) m0) (Nat.le_of_ble_eq_true rfl) rfl rfl rfl ?_
            refine g_aload_n dX11_start_93 rfl rfl ?_
            refine g_getf (v := .int (nI 1)) dX11_start_94 fX11_1 g_eq rfl ?_
            refine g_if_leN (tgt := 101) dX11_start_97 (by decide) (by decide) (fun c97 => ?_) (fun c97 => ?_)
            · exact absurd c97 (by decide)
            · have ek : k_start s v sg k sd1 = 1 := ks_1 (fun q => absurd (hg2.mpr ⟨rfl, q.2.1.2.2.2.1⟩) (by omega))
              exact e_v dX11_start_100 rfl (((g_fr.rf).tr fr2 (by simp)).up (by simp)) (Or.inl ⟨by rw [ek]; decide, by rw [ek]; exact g_eq, wn', g_ne (by decide) y1, y2, fun q => absurd c4 q, (fr2.mono (by simp)).up (by simp)⟩) (by decide) (by decide)
          · have hb9 : b = 1 := by omega
            have hy := y3.mp hb9
            have ek : k_start s v sg k sd1 = 0 := ks_0 ⟨c4, ⟨hy.1, hy.2.1, by omega, (hg2.mp (by omega)).2, (tie_iff h71 hy.2.1).mp hy.2.2⟩, by omega⟩
            refine g_iconst (v := nI 0) dX11_start_85 (by decide) ?_
            refine g_goto (tgt := 90) dX11_start_86 (by decide) ?_
            refine g_put (fs' := [.int (nI 0), .ref 143, .int (nI (s 4)), .int (nI (s 7)), .int (nI (s 8)), .ref 144, .int (nI (s 5)), .int (nI (s 6)), .ref 145, .int (nI (s 9)), .int (nI (s 10)), .int (nI (s 11)), .int (nI (s 12)), .ref 146, .int (nI k), .ref 147, .int (nI m), .int (nI sg), .int (nI cm), .int (nI sd), .ref 148, .ref 149, .ref 150, .ref 151, .int (nI mm), .ref 152, .ref 153, .ref 154, .int (nI dr), .int (nI dd), .int (nI bk), .int wt, .ref 155, .int (nI rt), .ref 156, .ref 157, .ref 158, .ref 159, .ref 160, .ref 161, .ref 162, .ref 163, .ref 164, .ref 165, .ref 166]) dX11_start_90 fX11_1 (fr2.at (by intro q; simp only [List.mem_cons, List.not_mem_nil, or_false] at q; omega) m0) (Nat.le_of_ble_eq_true rfl) rfl rfl rfl ?_
            refine g_aload_n dX11_start_93 rfl rfl ?_
            refine g_getf (v := .int (nI 0)) dX11_start_94 fX11_1 g_eq rfl ?_
            refine g_if_leN (tgt := 101) dX11_start_97 (by decide) (by decide) (fun c97 => ?_) (fun c97 => ?_)
            · refine g_aload_n dX11_start_101 rfl rfl ?_
              refine g_iload_n dX11_start_102 rfl rfl ?_
              refine g_put (fs' := [.int (nI 0), .ref 143, .int (nI (s 4)), .int (nI (s 7)), .int (nI (s 8)), .ref 144, .int (nI (s 5)), .int (nI (s 6)), .ref 145, .int (nI (s 9)), .int (nI (s 10)), .int (nI (s 11)), .int (nI (s 12)), .ref 146, .int (nI k), .ref 147, .int (nI m), .int (nI sg), .int (nI cm1), .int (nI sd), .ref 148, .ref 149, .ref 150, .ref 151, .int (nI mm), .ref 152, .ref 153, .ref 154, .int (nI dr), .int (nI dd), .int (nI bk), .int wt, .ref 155, .int (nI rt), .ref 156, .ref 157, .ref 158, .ref 159, .ref 160, .ref 161, .ref 162, .ref 163, .ref 164, .ref 165, .ref 166]) dX11_start_103 fX11_257 g_eq (Nat.le_of_ble_eq_true rfl) (nz cm1 hcm1) (nf cm1 hcm1) rfl ?_
              refine g_aload_n dX11_start_106 rfl rfl ?_
              refine g_iload_n dX11_start_107 rfl rfl ?_
              refine g_put (fs' := [.int (nI 0), .ref 143, .int (nI (s 4)), .int (nI (s 7)), .int (nI (s 8)), .ref 144, .int (nI (s 5)), .int (nI (s 6)), .ref 145, .int (nI (s 9)), .int (nI (s 10)), .int (nI (s 11)), .int (nI (s 12)), .ref 146, .int (nI k), .ref 147, .int (nI m), .int (nI sg), .int (nI cm1), .int (nI sd1), .ref 148, .ref 149, .ref 150, .ref 151, .int (nI mm), .ref 152, .ref 153, .ref 154, .int (nI dr), .int (nI dd), .int (nI bk), .int wt, .ref 155, .int (nI rt), .ref 156, .ref 157, .ref 158, .ref 159, .ref 160, .ref 161, .ref 162, .ref 163, .ref 164, .ref 165, .ref 166]) dX11_start_108 fX11_261 g_eq (Nat.le_of_ble_eq_true rfl) (nz sd1 hsd1) (nf sd1 hsd1) rfl ?_
              refine g_aload_n dX11_start_111 rfl rfl ?_
              refine cVv (st := []) dX11_start_112 (c_pairUp G (d + 1) n ex _ (cd := nI 0) (s := s) (k := k) (m := m) (sg := sg) (cm := cm1) (sd := sd1) (mm := mm) (dr := dr) (dd := dd) (bk := bk) (rt := rt) (wt := wt) (W := W) (Lx := Lx) (SW := SW) g_eq (g_ne (by decide) (g_ne (by decide) (g_ne (by decide) y1))) (g_ne (by decide) (g_ne (by decide) (g_ne (by decide) (fr2.at (by intro q; simp only [List.mem_cons, List.not_mem_nil, or_false] at q; omega) a9)))) (g_ne (by decide) (g_ne (by decide) (g_ne (by decide) (fr2.at (by intro q; simp only [List.mem_cons, List.not_mem_nil, or_false] at q; omega) a10)))) (g_ne (by decide) (g_ne (by decide) (g_ne (by decide) (fr2.at (by intro q; simp only [List.mem_cons, List.not_mem_nil, or_false] at q; omega) a11)))) h4 y2) sX11_264 g_eq rfl rfl (by simp only [g_rm]; omega) (by simp only [g_rm]; omega) (Nat.le_of_ble_eq_true rfl) ⟨Nat.le_of_ble_eq_true rfl, Nat.le_of_ble_eq_true rfl⟩ (fun h101 fr102 p103 => ?_)
              obtain ⟨W2, L2, S2, x1, x2, x3, x4, x5⟩ := p103
              have hB9 : Bn h101 (MX (nI 0) s k m sg cm1 sd1 (pu wn' (s 4) (s 4)).1 dr dd bk rt wt) V := (hBv.fr (S := [142, 148, 149, 150, 151]) ((((((g_fr.rf).tr fr2 (by simp)).up (by simp)).up (by simp)).up (by simp)).tr fr102 (by simp)) (by simp) (by simp)).n x1
              refine g_aload_n dX11_start_115 rfl rfl ?_
              refine g_bipush (v := nI 6) dX11_start_116 (by decide) ?_
              refine g_lconst (v := lN 1) dX11_start_118 (by decide) ?_
              refine cVv (st := []) dX11_start_119 (c_give G (d + 1) n ex h101 hB9 (by decide) (by decide)) sX11_182 x1 rfl rfl (by simp only [g_rm]; omega) (by simp only [g_rm]; omega) (Nat.le_of_ble_eq_true rfl) ⟨Nat.le_of_ble_eq_true rfl, Nat.le_of_ble_eq_true rfl⟩ (fun h105 fr106 p107 => ?_)
              have hN109 := p107
              refine g_aload_n dX11_start_122 rfl rfl ?_
              refine g_bipush (v := nI 7) dX11_start_123 (by decide) ?_
              refine g_lconst (v := lN 1) dX11_start_125 (by decide) ?_
              refine cVv (st := []) dX11_start_126 (c_give G (d + 1) n ex h105 hN109 (by decide) (by decide)) sX11_182 (fr106.at (by intro q; simp only [List.mem_cons, List.not_mem_nil, or_false] at q; omega) x1) rfl rfl (by simp only [g_rm]; omega) (by simp only [g_rm]; omega) (Nat.le_of_ble_eq_true rfl) ⟨Nat.le_of_ble_eq_true rfl, Nat.le_of_ble_eq_true rfl⟩ (fun h110 fr111 p112 => ?_)
              have hN114 := p112
              refine g_aload_n dX11_start_129 rfl rfl ?_
              refine g_iconst (v := nI 1) dX11_start_130 (by decide) ?_
              refine g_put (fs' := [.int (nI 0), .ref 143, .int (nI (s 4)), .int (nI (s 7)), .int (nI (s 8)), .ref 144, .int (nI (s 5)), .int (nI (s 6)), .ref 145, .int (nI (s 9)), .int (nI (s 10)), .int (nI (s 11)), .int (nI (s 12)), .ref 146, .int (nI k), .ref 147, .int (nI m), .int (nI 1), .int (nI cm1), .int (nI sd1), .ref 148, .ref 149, .ref 150, .ref 151, .int (nI ((pu wn' (s 4) (s 4)).1)), .ref 152, .ref 153, .ref 154, .int (nI dr), .int (nI dd), .int (nI bk), .int wt, .ref 155, .int (nI rt), .ref 156, .ref 157, .ref 158, .ref 159, .ref 160, .ref 161, .ref 162, .ref 163, .ref 164, .ref 165, .ref 166]) dX11_start_131 fX11_231 (fr111.at (by intro q; simp only [List.mem_cons, List.not_mem_nil, or_false] at q; omega) (fr106.at (by intro q; simp only [List.mem_cons, List.not_mem_nil, or_false] at q; omega) x1)) (Nat.le_of_ble_eq_true rfl) rfl rfl rfl ?_
              exact e_v dX11_start_134 rfl (((((((((g_fr.rf).tr fr2 (by simp)).up (by simp)).up (by simp)).up (by simp)).tr fr102 (by simp)).tr fr106 (by simp)).tr fr111 (by simp)).up (by simp)) (Or.inr ⟨ek, wn', W2, L2, S2, by rw [ek]; exact g_eq, g_ne (by decide) (fr111.at (by intro q; simp only [List.mem_cons, List.not_mem_nil, or_false] at q; omega) (fr106.at (by intro q; simp only [List.mem_cons, List.not_mem_nil, or_false] at q; omega) (fr102.at (by intro q; simp only [List.mem_cons, List.not_mem_nil, or_false] at q; omega) (g_ne (by decide) (g_ne (by decide) (g_ne (by decide) y1)))))), y2, y4 hb9, g_ne (by decide) (fr111.at (by intro q; simp only [List.mem_cons, List.not_mem_nil, or_false] at q; omega) (fr106.at (by intro q; simp only [List.mem_cons, List.not_mem_nil, or_false] at q; omega) x2)), g_ne (by decide) (fr111.at (by intro q; simp only [List.mem_cons, List.not_mem_nil, or_false] at q; omega) (fr106.at (by intro q; simp only [List.mem_cons, List.not_mem_nil, or_false] at q; omega) x3)), g_ne (by decide) (fr111.at (by intro q; simp only [List.mem_cons, List.not_mem_nil, or_false] at q; omega) (fr106.at (by intro q; simp only [List.mem_cons, List.not_mem_nil, or_false] at q; omega) x4)), x5, g_Bv hN114 (g_ne (by decide) rfl) (g_ne (by decide) rfl)⟩) (by decide) (by decide)
            · exact absurd c97 (by decide)
        · refine g_aload_n dX11_start_25 rfl rfl ?_
          refine g_getf (v := .int (nI k)) dX11_start_26 fX11_220 (fr2.at (by intro q; simp only [List.mem_cons, List.not_mem_nil, or_false] at q; omega) m0) rfl ?_
          refine g_if_leN (tgt := 36) dX11_start_29 (by decide) (by omega) (fun c29 => ?_) (fun c29 => ?_)
          · refine g_iconst (v := nI 0) dX11_start_36 (by decide) ?_
            refine g_istore_n (ls' := [(3, .int (nI 0)), (0, .ref 142), (1, .int (nI cm1)), (2, .int (nI sd1))]) dX11_start_37 rfl (by decide) rfl ?_
            refine g_iconst (v := nI 0) dX11_start_38 (by decide) ?_
            refine g_istore (ls' := [(4, .int (nI 0)), (3, .int (nI 0)), (0, .ref 142), (1, .int (nI cm1)), (2, .int (nI sd1))]) dX11_start_39 (by decide) rfl ?_
            refine g_pick [0, 1, 2, 3, 4] (ls' := [(4, .int (nI 0)), (3, .int (nI 0)), (0, .ref 142), (1, .int (nI cm1)), (2, .int (nI sd1))]) rfl ?_
            refine lp_mstart G _ _ n ex _ (g0 := 0) (cd := cd) (s := s) (k := k) (m := m) (sg := sg) (cm := cm) (sd := sd) (mm := mm) (dr := dr) (dd := dd) (bk := bk) (rt := rt) (wt := wt) (fr2.at (by intro q; simp only [List.mem_cons, List.not_mem_nil, or_false] at q; omega) m0) (v := v) (fr2.at (by intro q; simp only [List.mem_cons, List.not_mem_nil, or_false] at q; omega) a3) h4 h6 hv (fun g hg1 hg2 => ?_) (s 4 + 1) 0 0 (by omega) (by omega) (by decide) ⟨fun q => ⟨q, fun o ho => absurd ho (by omega)⟩, fun q => q.1⟩
            refine g_aload_n dX11_start_80 rfl rfl ?_
            refine g_iload_n dX11_start_81 rfl rfl ?_
            refine g_if_eqN (tgt := 89) dX11_start_82 (by decide) (by omega) (fun c82 => ?_) (fun c82 => ?_)
            · refine g_iconst (v := nI 1) dX11_start_89 (by decide) ?_
              refine g_put (fs' := [.int (nI 1), .ref 143, .int (nI (s 4)), .int (nI (s 7)), .int (nI (s 8)), .ref 144, .int (nI (s 5)), .int (nI (s 6)), .ref 145, .int (nI (s 9)), .int (nI (s 10)), .int (nI (s 11)), .int (nI (s 12)), .ref 146, .int (nI k), .ref 147, .int (nI m), .int (nI sg), .int (nI cm), .int (nI sd), .ref 148, .ref 149, .ref 150, .ref 151, .int (nI mm), .ref 152, .ref 153, .ref 154, .int (nI dr), .int (nI dd), .int (nI bk), .int wt, .ref 155, .int (nI rt), .ref 156, .ref 157, .ref 158, .ref 159, .ref 160, .ref 161, .ref 162, .ref 163, .ref 164, .ref 165, .ref 166]) dX11_start_90 fX11_1 (fr2.at (by intro q; simp only [List.mem_cons, List.not_mem_nil, or_false] at q; omega) m0) (Nat.le_of_ble_eq_true rfl) rfl rfl rfl ?_
              refine g_aload_n dX11_start_93 rfl rfl ?_
              refine g_getf (v := .int (nI 1)) dX11_start_94 fX11_1 g_eq rfl ?_
              refine g_if_leN (tgt := 101) dX11_start_97 (by decide) (by decide) (fun c97 => ?_) (fun c97 => ?_)
              · exact absurd c97 (by decide)
              · have ek : k_start s v sg k sd1 = 1 := ks_1 (fun q => absurd q.2.2 (by omega))
                exact e_v dX11_start_100 rfl (((g_fr.rf).tr fr2 (by simp)).up (by simp)) (Or.inl ⟨by rw [ek]; decide, by rw [ek]; exact g_eq, wn', g_ne (by decide) y1, y2, fun q => absurd c4 q, (fr2.mono (by simp)).up (by simp)⟩) (by decide) (by decide)
            · exact absurd (hg2.mp (by omega)).1 (by decide)
          · refine g_iconst (v := nI 1) dX11_start_32 (by decide) ?_
            refine g_goto (tgt := 37) dX11_start_33 (by decide) ?_
            refine g_istore_n (ls' := [(3, .int (nI 1)), (0, .ref 142), (1, .int (nI cm1)), (2, .int (nI sd1))]) dX11_start_37 rfl (by decide) rfl ?_
            refine g_iconst (v := nI 0) dX11_start_38 (by decide) ?_
            refine g_istore (ls' := [(4, .int (nI 0)), (3, .int (nI 1)), (0, .ref 142), (1, .int (nI cm1)), (2, .int (nI sd1))]) dX11_start_39 (by decide) rfl ?_
            refine g_pick [0, 1, 2, 3, 4] (ls' := [(4, .int (nI 0)), (3, .int (nI 1)), (0, .ref 142), (1, .int (nI cm1)), (2, .int (nI sd1))]) rfl ?_
            refine lp_mstart G _ _ n ex _ (g0 := 1) (cd := cd) (s := s) (k := k) (m := m) (sg := sg) (cm := cm) (sd := sd) (mm := mm) (dr := dr) (dd := dd) (bk := bk) (rt := rt) (wt := wt) (fr2.at (by intro q; simp only [List.mem_cons, List.not_mem_nil, or_false] at q; omega) m0) (v := v) (fr2.at (by intro q; simp only [List.mem_cons, List.not_mem_nil, or_false] at q; omega) a3) h4 h6 hv (fun g hg1 hg2 => ?_) (s 4 + 1) 0 1 (by omega) (by omega) (by decide) ⟨fun q => ⟨q, fun o ho => absurd ho (by omega)⟩, fun q => q.1⟩
            refine g_aload_n dX11_start_80 rfl rfl ?_
            refine g_iload_n dX11_start_81 rfl rfl ?_
            refine g_if_eqN (tgt := 89) dX11_start_82 (by decide) (by omega) (fun c82 => ?_) (fun c82 => ?_)
            · refine g_iconst (v := nI 1) dX11_start_89 (by decide) ?_
              refine g_put (fs' := [.int (nI 1), .ref 143, .int (nI (s 4)), .int (nI (s 7)), .int (nI (s 8)), .ref 144, .int (nI (s 5)), .int (nI (s 6)), .ref 145, .int (nI (s 9)), .int (nI (s 10)), .int (nI (s 11)), .int (nI (s 12)), .ref 146, .int (nI k), .ref 147, .int (nI m), .int (nI sg), .int (nI cm), .int (nI sd), .ref 148, .ref 149, .ref 150, .ref 151, .int (nI mm), .ref 152, .ref 153, .ref 154, .int (nI dr), .int (nI dd), .int (nI bk), .int wt, .ref 155, .int (nI rt), .ref 156, .ref 157, .ref 158, .ref 159, .ref 160, .ref 161, .ref 162, .ref 163, .ref 164, .ref 165, .ref 166]) dX11_start_90 fX11_1 (fr2.at (by intro q; simp only [List.mem_cons, List.not_mem_nil, or_false] at q; omega) m0) (Nat.le_of_ble_eq_true rfl) rfl rfl rfl ?_
              refine g_aload_n dX11_start_93 rfl rfl ?_
              refine g_getf (v := .int (nI 1)) dX11_start_94 fX11_1 g_eq rfl ?_
              refine g_if_leN (tgt := 101) dX11_start_97 (by decide) (by decide) (fun c97 => ?_) (fun c97 => ?_)
              · exact absurd c97 (by decide)
              · have ek : k_start s v sg k sd1 = 1 := ks_1 (fun q => absurd (hg2.mpr ⟨rfl, q.2.1.2.2.2.1⟩) (by omega))
                exact e_v dX11_start_100 rfl (((g_fr.rf).tr fr2 (by simp)).up (by simp)) (Or.inl ⟨by rw [ek]; decide, by rw [ek]; exact g_eq, wn', g_ne (by decide) y1, y2, fun q => absurd c4 q, (fr2.mono (by simp)).up (by simp)⟩) (by decide) (by decide)
            · have hb9 : b = 1 := by omega
              have hy := y3.mp hb9
              have ek : k_start s v sg k sd1 = 0 := ks_0 ⟨c4, ⟨hy.1, hy.2.1, by omega, (hg2.mp (by omega)).2, (tie_iff h71 hy.2.1).mp hy.2.2⟩, by omega⟩
              refine g_iconst (v := nI 0) dX11_start_85 (by decide) ?_
              refine g_goto (tgt := 90) dX11_start_86 (by decide) ?_
              refine g_put (fs' := [.int (nI 0), .ref 143, .int (nI (s 4)), .int (nI (s 7)), .int (nI (s 8)), .ref 144, .int (nI (s 5)), .int (nI (s 6)), .ref 145, .int (nI (s 9)), .int (nI (s 10)), .int (nI (s 11)), .int (nI (s 12)), .ref 146, .int (nI k), .ref 147, .int (nI m), .int (nI sg), .int (nI cm), .int (nI sd), .ref 148, .ref 149, .ref 150, .ref 151, .int (nI mm), .ref 152, .ref 153, .ref 154, .int (nI dr), .int (nI dd), .int (nI bk), .int wt, .ref 155, .int (nI rt), .ref 156, .ref 157, .ref 158, .ref 159, .ref 160, .ref 161, .ref 162, .ref 163, .ref 164, .ref 165, .ref 166]) dX11_start_90 fX11_1 (fr2.at (by intro q; simp only [List.mem_cons, List.not_mem_nil, or_false] at q; omega) m0) (Nat.le_of_ble_eq_true rfl) rfl rfl rfl ?_
              refine g_aload_n dX11_start_93 rfl rfl ?_
              refine g_getf (v := .int (nI 0)) dX11_start_94 fX11_1 g_eq rfl ?_
              refine g_if_leN (tgt := 101) dX11_start_97 (by decide) (by decide) (fun c97 => ?_) (fun c97 => ?_)
              · refine g_aload_n dX11_start_101 rfl rfl ?_
                refine g_iload_n dX11_start_102 rfl rfl ?_
                refine g_put (fs' := [.int (nI 0), .ref 143, .int (nI (s 4)), .int (nI (s 7)), .int (nI (s 8)), .ref 144, .int (nI (s 5)), .int (nI (s 6)), .ref 145, .int (nI (s 9)), .int (nI (s 10)), .int (nI (s 11)), .int (nI (s 12)), .ref 146, .int (nI k), .ref 147, .int (nI m), .int (nI sg), .int (nI cm1), .int (nI sd), .ref 148, .ref 149, .ref 150, .ref 151, .int (nI mm), .ref 152, .ref 153, .ref 154, .int (nI dr), .int (nI dd), .int (nI bk), .int wt, .ref 155, .int (nI rt), .ref 156, .ref 157, .ref 158, .ref 159, .ref 160, .ref 161, .ref 162, .ref 163, .ref 164, .ref 165, .ref 166]) dX11_start_103 fX11_257 g_eq (Nat.le_of_ble_eq_true rfl) (nz cm1 hcm1) (nf cm1 hcm1) rfl ?_
                refine g_aload_n dX11_start_106 rfl rfl ?_
                refine g_iload_n dX11_start_107 rfl rfl ?_
                refine g_put (fs' := [.int (nI 0), .ref 143, .int (nI (s 4)), .int (nI (s 7)), .int (nI (s 8)), .ref 144, .int (nI (s 5)), .int (nI (s 6)), .ref 145, .int (nI (s 9)), .int (nI (s 10)), .int (nI (s 11)), .int (nI (s 12)), .ref 146, .int (nI k), .ref 147, .int (nI m), .int (nI sg), .int (nI cm1), .int (nI sd1), .ref 148, .ref 149, .ref 150, .ref 151, .int (nI mm), .ref 152, .ref 153, .ref 154, .int (nI dr), .int (nI dd), .int (nI bk), .int wt, .ref 155, .int (nI rt), .ref 156, .ref 157, .ref 158, .ref 159, .ref 160, .ref 161, .ref 162, .ref 163, .ref 164, .ref 165, .ref 166]) dX11_start_108 fX11_261 g_eq (Nat.le_of_ble_eq_true rfl) (nz sd1 hsd1) (nf sd1 hsd1) rfl ?_
                refine g_aload_n dX11_start_111 rfl rfl ?_
                refine cVv (st := []) dX11_start_112 (c_pairUp G (d + 1) n ex _ (cd := nI 0) (s := s) (k := k) (m := m) (sg := sg) (cm := cm1) (sd := sd1) (mm := mm) (dr := dr) (dd := dd) (bk := bk) (rt := rt) (wt := wt) (W := W) (Lx := Lx) (SW := SW) g_eq (g_ne (by decide) (g_ne (by decide) (g_ne (by decide) y1))) (g_ne (by decide) (g_ne (by decide) (g_ne (by decide) (fr2.at (by intro q; simp only [List.mem_cons, List.not_mem_nil, or_false] at q; omega) a9)))) (g_ne (by decide) (g_ne (by decide) (g_ne (by decide) (fr2.at (by intro q; simp only [List.mem_cons, List.not_mem_nil, or_false] at q; omega) a10)))) (g_ne (by decide) (g_ne (by decide) (g_ne (by decide) (fr2.at (by intro q; simp only [List.mem_cons, List.not_mem_nil, or_false] at q; omega) a11)))) h4 y2) sX11_264 g_eq rfl rfl (by simp only [g_rm]; omega) (by simp only [g_rm]; omega) (Nat.le_of_ble_eq_true rfl) ⟨Nat.le_of_ble_eq_true rfl, Nat.le_of_ble_eq_true rfl⟩ (fun h101 fr102 p103 => ?_)
                obtain ⟨W2, L2, S2, x1, x2, x3, x4, x5⟩ := p103
                have hB9 : Bn h101 (MX (nI 0) s k m sg cm1 sd1 (pu wn' (s 4) (s 4)).1 dr dd bk rt wt) V := (hBv.fr (S := [142, 148, 149, 150, 151]) ((((((g_fr.rf).tr fr2 (by simp)).up (by simp)).up (by simp)).up (by simp)).tr fr102 (by simp)) (by simp) (by simp)).n x1
                refine g_aload_n dX11_start_115 rfl rfl ?_
                refine g_bipush (v := nI 6) dX11_start_116 (by decide) ?_
                refine g_lconst (v := lN 1) dX11_start_118 (by decide) ?_
                refine cVv (st := []) dX11_start_119 (c_give G (d + 1) n ex h101 hB9 (by decide) (by decide)) sX11_182 x1 rfl rfl (by simp only [g_rm]; omega) (by simp only [g_rm]; omega) (Nat.le_of_ble_eq_true rfl) ⟨Nat.le_of_ble_eq_true rfl, Nat.le_of_ble_eq_true rfl⟩ (fun h105 fr106 p107 => ?_)
                have hN109 := p107
                refine g_aload_n dX11_start_122 rfl rfl ?_
                refine g_bipush (v := nI 7) dX11_start_123 (by decide) ?_
                refine g_lconst (v := lN 1) dX11_start_125 (by decide) ?_
                refine cVv (st := []) dX11_start_126 (c_give G (d + 1) n ex h105 hN109 (by decide) (by decide)) sX11_182 (fr106.at (by intro q; simp only [List.mem_cons, List.not_mem_nil, or_false] at q; omega) x1) rfl rfl (by simp only [g_rm]; omega) (by simp only [g_rm]; omega) (Nat.le_of_ble_eq_true rfl) ⟨Nat.le_of_ble_eq_true rfl, Nat.le_of_ble_eq_true rfl⟩ (fun h110 fr111 p112 => ?_)
                have hN114 := p112
                refine g_aload_n dX11_start_129 rfl rfl ?_
                refine g_iconst (v := nI 1) dX11_start_130 (by decide) ?_
                refine g_put (fs' := [.int (nI 0), .ref 143, .int (nI (s 4)), .int (nI (s 7)), .int (nI (s 8)), .ref 144, .int (nI (s 5)), .int (nI (s 6)), .ref 145, .int (nI (s 9)), .int (nI (s 10)), .int (nI (s 11)), .int (nI (s 12)), .ref 146, .int (nI k), .ref 147, .int (nI m), .int (nI 1), .int (nI cm1), .int (nI sd1), .ref 148, .ref 149, .ref 150, .ref 151, .int (nI ((pu wn' (s 4) (s 4)).1)), .ref 152, .ref 153, .ref 154, .int (nI dr), .int (nI dd), .int (nI bk), .int wt, .ref 155, .int (nI rt), .ref 156, .ref 157, .ref 158, .ref 159, .ref 160, .ref 161, .ref 162, .ref 163, .ref 164, .ref 165, .ref 166]) dX11_start_131 fX11_231 (fr111.at (by intro q; simp only [List.mem_cons, List.not_mem_nil, or_false] at q; omega) (fr106.at (by intro q; simp only [List.mem_cons, List.not_mem_nil, or_false] at q; omega) x1)) (Nat.le_of_ble_eq_true rfl) rfl rfl rfl ?_
                exact e_v dX11_start_134 rfl (((((((((g_fr.rf).tr fr2 (by simp)).up (by simp)).up (by simp)).up (by simp)).tr fr102 (by simp)).tr fr106 (by simp)).tr fr111 (by simp)).up (by simp)) (Or.inr ⟨ek, wn', W2, L2, S2, by rw [ek]; exact g_eq, g_ne (by decide) (fr111.at (by intro q; simp only [List.mem_cons, List.not_mem_nil, or_false] at q; omega) (fr106.at (by intro q; simp only [List.mem_cons, List.not_mem_nil, or_false] at q; omega) (fr102.at (by intro q; simp only [List.mem_cons, List.not_mem_nil, or_false] at q; omega) (g_ne (by decide) (g_ne (by decide) (g_ne (by decide) y1)))))), y2, y4 hb9, g_ne (by decide) (fr111.at (by intro q; simp only [List.mem_cons, List.not_mem_nil, or_false] at q; omega) (fr106.at (by intro q; simp only [List.mem_cons, List.not_mem_nil, or_false] at q; omega) x2)), g_ne (by decide) (fr111.at (by intro q; simp only [List.mem_cons, List.not_mem_nil, or_false] at q; omega) (fr106.at (by intro q; simp only [List.mem_cons, List.not_mem_nil, or_false] at q; omega) x3)), g_ne (by decide) (fr111.at (by intro q; simp only [List.mem_cons, List.not_mem_nil, or_false] at q; omega) (fr106.at (by intro q; simp only [List.mem_cons, List.not_mem_nil, or_false] at q; omega) x4)), x5, g_Bv hN114 (g_ne (by decide) rfl) (g_ne (by decide) rfl)⟩) (by decide) (by decide)
              · exact absurd c97 (by decide)
