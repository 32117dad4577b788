def k_told (x : Int32) : Nat := if ¬ (0 ≤ x ∧ x < nI 13) then 1 else 0
def k_two (a b : Nat) (x y : Int32) : Nat := if ¬ (0 ≤ x ∧ x < nI a) then 1 else if ¬ (0 ≤ y ∧ y < nI b) then 1 else 0
def k_counted (s : Nat → Nat) (sg : Nat) (x y : Int32) : Nat := if ¬ (0 ≤ x ∧ x < nI (s 4)) then 1 else if ¬ (nI 0 ≤ y ∧ y ≤ nI (s 6)) then 2 else if ¬ sg = 4 then 3 else 0
/-- what told answers -/
def tAns (i : Nat) (r : Int32) (sg c b N dr dd bk m mm sr : Nat) (wt : Int32) (rt : Nat) : Prop := match i with
  | 0 => r = nI sg
  | 1 => r = nI c
  | 2 => r = nI b
  | 3 => r = nI N
  | 4 => r = nI dr
  | 5 => r = nI dd
  | 6 => r = nI bk
  | 7 => r = nI m
  | 8 => r = nI mm
  | 9 => r = nI sr
  | 10 => r = wt
  | 11 => ∃ K, ck_P N K ∧ r = nI K
  | _ => r = nI rt
theorem ck_u {N K K' : Nat} (hN : N ≤ 20000) (h : ck_P N K) (h' : ck_P N K') : K = K' := by
  obtain ⟨a1, a2, a3⟩ := h
  obtain ⟨b1, b2, b3⟩ := h'
  have key : ∀ K K', K ≤ 15 → (∀ k, k < K' → 2 ^ k < N) → K' ≤ 15 → (K = 15 ∨ N ≤ 2 ^ K) → ¬ K < K' := fun K K' k1 k2 k3 k4 q => by
    have := k2 K q
    rcases k4 with z | z
    · omega
    · omega
  have h1 := key K K' a1 b2 b1 a3
  have h2 := key K' K b1 a2 a1 b3
  omega
theorem tAns_u {i : Nat} {r r' : Int32} {sg c b N dr dd bk m mm sr : Nat} {wt : Int32} {rt : Nat} (hi : i < 13) (hN : N ≤ 20000) (h : tAns i r sg c b N dr dd bk m mm sr wt rt) (h' : tAns i r' sg c b N dr dd bk m mm sr wt rt) : r = r' := by
  have hsw : i = 0 ∨ i = 1 ∨ i = 2 ∨ i = 3 ∨ i = 4 ∨ i = 5 ∨ i = 6 ∨ i = 7 ∨ i = 8 ∨ i = 9 ∨ i = 10 ∨ i = 11 ∨ i = 12 := by omega
  rcases hsw with rfl | rfl | rfl | rfl | rfl | rfl | rfl | rfl | rfl | rfl | rfl | rfl | rfl
  all_goals first
    | exact (show r = _ from h).trans (show r' = _ from h').symm
    | (obtain ⟨K, h1, h2⟩ := (show ∃ K, ck_P N K ∧ r = nI K from h)
       obtain ⟨K', h3, h4⟩ := (show ∃ K, ck_P N K ∧ r' = nI K from h')
       rw [h2, h4, ck_u hN h1 h3])
set_option maxHeartbeats 4000000 in
set_option maxRecDepth 100000 in
theorem lp_mcad (G : gG) (R : Room) (n : Nat) (ex : Bool) (h : gH) {cd wt : Int32} {s : Nat → Nat} {k m sg cm sd mm dr dd bk rt : Nat} (m0 : Mc h cd s k m sg cm sd mm dr dd bk rt wt) (h6 : s 6 ≤ 20000) : ∀ (t i : Nat), 16 - i < t → i ≤ 15 → (∀ k, k < i → 2 ^ k < s 6) →
    g_W G mX11_coinsADraw R (g_K G (q_i n ex [] h (fun r _ => ∃ K, r = nI K ∧ ck_P (s 6) K)) 0 0) n ex h 0 0 2 [(1, .int (nI i)), (0, .ref 142)] [] := by
  intro t
  induction t with
  | zero => intro i hm; exact absurd hm (by omega)
  | succ t ih =>
    intro i ht hi hI
    refine g_aload_n dX11_coinsADraw_2 rfl rfl ?_
    refine g_getf (v := .int (nI (s 6))) dX11_coinsADraw_3 fX11_240 m0 rfl ?_
    refine g_if_leN (tgt := 25) dX11_coinsADraw_6 (by decide) (by omega) (fun c6 => ?_) (fun c6 => ?_)
    · refine g_iload_n dX11_coinsADraw_25 rfl rfl ?_
      exact e_i dX11_coinsADraw_26 rfl rfl g_fr.rf ⟨i, rfl, hi, hI, by first | exact Or.inr c16 | exact Or.inr (by rw [c6]; exact Nat.zero_le _)⟩ (by decide) (by decide)
    · have hp : 2 ^ i < 2 ^ 31 := Nat.pow_lt_pow_right (by decide) (by omega)
      refine g_iconst (v := nI 1) dX11_coinsADraw_9 (by decide) ?_
      refine g_iload_n dX11_coinsADraw_10 rfl rfl ?_
      refine g_ishl dX11_coinsADraw_11 ?_
      refine g_top (show (nI 1) <<< ((nI i) &&& 31) = nI (2 ^ i) from shl1 (by omega)) ?_
      refine g_aload_n dX11_coinsADraw_12 rfl rfl ?_
      refine g_getf (v := .int (nI (s 6))) dX11_coinsADraw_13 fX11_240 m0 rfl ?_
      refine g_icmp_geN (tgt := 25) dX11_coinsADraw_16 (by decide) hp (by omega) (fun c16 => ?_) (fun c16 => ?_)
      · refine g_iload_n dX11_coinsADraw_25 rfl rfl ?_
        exact e_i dX11_coinsADraw_26 rfl rfl g_fr.rf ⟨i, rfl, hi, hI, by first | exact Or.inr c16 | exact Or.inr (by rw [c6]; exact Nat.zero_le _)⟩ (by decide) (by decide)
      · refine g_iincN (z := 1) (ls' := [(1, .int (nI (i + 1))), (0, .ref 142)]) dX11_coinsADraw_19 rfl (by decide) rfl ?_
        refine g_goto (tgt := 2) dX11_coinsADraw_22 (by decide) ?_
        refine g_pick [0, 1] (ls' := [(1, .int (nI (i + 1))), (0, .ref 142)]) rfl ?_
        exact ih (i + 1) (by omega) (by rcases Nat.lt_or_ge i 15 with z | z; (omega); (exfalso; have h7 : 2 ^ 15 ≤ 2 ^ i := Nat.pow_le_pow_right (by decide) z; omega)) (fun k hk => by by_cases z : k = i; (subst z; exact c16); exact hI k (by omega))
set_option maxHeartbeats 4000000 in
set_option maxRecDepth 100000 in
theorem c_mcad (G : gG) (d n : Nat) (ex : Bool) (h : gH) {cd wt : Int32} {s : Nat → Nat} {k m sg cm sd mm dr dd bk rt : Nat} (m0 : Mc h cd s k m sg cm sd mm dr dd bk rt wt) (h6 : s 6 ≤ 20000) : g_M G mX11_coinsADraw d 0 0 [.ref 142] n ex h (q_i n ex [] h (fun r _ => ∃ K, r = nI K ∧ ck_P (s 6) K)) := by
  refine g_enter (by decide) (Nat.le_of_ble_eq_true rfl) ?_
  show g_W G _ _ _ n ex h 0 0 0 [(0, .ref 142)] []
  refine g_iconst (v := nI 0) dX11_coinsADraw_0 (by decide) ?_
  refine g_istore_n (ls' := [(1, .int (nI 0)), (0, .ref 142)]) dX11_coinsADraw_1 rfl (by decide) rfl ?_
  refine g_pick [0, 1] (ls' := [(1, .int (nI 0)), (0, .ref 142)]) rfl ?_
  exact lp_mcad G _ n ex h m0 h6 17 0 (by omega) (by omega) (fun k hk => absurd hk (by omega))
set_option maxHeartbeats 4000000 in
set_option maxRecDepth 100000 in
theorem lp_magain1 (G : gG) (R : Room) (KK : gK) (n : Nat) (ex : Bool) (h0 : gH) {wt : Int32} {s : Nat → Nat} {k m cm sd dr dd bk rt : Nat} {wn df ct : Nat → Nat} (kk : ∀ (h : gH), Mc h (nI 0) s k m 0 cm sd 0 dr dd bk rt wt → h 148 = some (.inl (2, 8, .inl (fun k => nI (fe wn 8 k)))) → h 152 = some (.inl (0, 8, .inl (fun k => nI (fe df 8 k)))) → h 155 = some (.inl (0, 8, .inl (fun k => nI (fe ct 8 k)))) → g_fr [142, 148, 152, 155] h0 h → g_W G mX11_again R KK n ex h 0 0 50 [(1, .int (nI 8)), (0, .ref 142)] []) : ∀ (t i : Nat) (h : gH), 8 - i < t → i ≤ 8 → Mc h (nI 0) s k m 0 cm sd 0 dr dd bk rt wt → h 148 = some (.inl (2, 8, .inl (fun k => nI (fe wn i k)))) → h 152 = some (.inl (0, 8, .inl (fun k => nI (fe df i k)))) → h 155 = some (.inl (0, 8, .inl (fun k => nI (fe ct i k)))) → g_fr [142, 148, 152, 155] h0 h →
    g_W G mX11_again R KK n ex h 0 0 17 [(1, .int (nI i)), (0, .ref 142)] [] := by
  intro t
  induction t with
  | zero => intro i h hm; exact absurd hm (by omega)
  | succ t ih =>
    intro i h ht hi m0 b8 b12 b15 hf
    refine g_iload_n dX11_again_17 rfl rfl ?_
    refine g_bipush (v := nI 8) dX11_again_18 (by decide) ?_
    refine g_icmp_geN (tgt := 50) dX11_again_20 (by decide) (by omega) (by omega) (fun c20 => ?_) (fun c20 => ?_)
    · refine g_pick [0, 1] (ls' := [(1, .int (nI i)), (0, .ref 142)]) rfl ?_
      have e : i = 8 := by omega
      subst e
      exact kk _ m0 b8 b12 b15 hf
    · refine g_aload_n dX11_again_23 rfl rfl ?_
      refine g_getf (v := .ref 148) dX11_again_24 fX11_48 m0 rfl ?_
      refine g_iload_n dX11_again_27 rfl rfl ?_
      refine g_iconst (v := nI 0) dX11_again_28 (by decide) ?_
      refine g_zastN dX11_again_29 b8 (by omega) (by decide) ?_
      rw [nar_z (by decide), upd_nI]
      refine g_aload_n dX11_again_30 rfl rfl ?_
      refine g_getf (v := .ref 152) dX11_again_31 fX11_61 (g_ne (by decide) m0) rfl ?_
      refine g_iload_n dX11_again_34 rfl rfl ?_
      refine g_iconst (v := nI 0) dX11_again_35 (by decide) ?_
      refine g_iastN dX11_again_36 (g_ne (by decide) b12) (by omega) (by decide) ?_
      rw [upd_nI]
      refine g_aload_n dX11_again_37 rfl rfl ?_
      refine g_getf (v := .ref 155) dX11_again_38 fX11_73 (g_ne (by decide) (g_ne (by decide) m0)) rfl ?_
      refine g_iload_n dX11_again_41 rfl rfl ?_
      refine g_iconst (v := nI 0) dX11_again_42 (by decide) ?_
      refine g_iastN dX11_again_43 (g_ne (by decide) (g_ne (by decide) b15)) (by omega) (by decide) ?_
      rw [upd_nI]
      refine g_iincN (z := 1) (ls' := [(1, .int (nI (i + 1))), (0, .ref 142)]) dX11_again_44 rfl (by decide) rfl ?_
      refine g_goto (tgt := 17) dX11_again_47 (by decide) ?_
      refine g_pick [0, 1] (ls' := [(1, .int (nI (i + 1))), (0, .ref 142)]) rfl ?_
      exact ih (i + 1) _ (by omega) (by omega) (g_ne (by decide) (g_ne (by decide) (g_ne (by decide) m0))) (by rw [← fe_s]; exact g_ne (by decide) (g_ne (by decide) g_eq)) (by rw [← fe_s]; exact g_ne (by decide) g_eq) (by rw [← fe_s]; exact g_eq) (((hf.up (by simp)).up (by simp)).up (by simp))
set_option maxHeartbeats 4000000 in
set_option maxRecDepth 100000 in
theorem lp_magain2 (G : gG) (R : Room) (P : gH → Prop) (n : Nat) (ex : Bool) (h0 : gH) {wt : Int32} {s : Nat → Nat} {k m cm sd dr dd bk rt : Nat} {wn df ct ti : Nat → Nat} {sI : Nat → Int32} (h6 : s 6 ≤ 20000) (hP : ∀ h', Mc h' (nI 0) s k 0 0 cm sd 0 0 0 0 0 (-1) → h' 148 = some (.inl (2, 8, .inl (fun k => nI (fe wn 8 k)))) → h' 152 = some (.inl (0, 8, .inl (fun k => nI (fe df 8 k)))) → h' 155 = some (.inl (0, 8, .inl (fun k => nI (fe ct 8 k)))) → h' 153 = some (.inl (1, 20000, .inl (rsf sI 0 (s 6) (-2)))) → h' 154 = some (.inl (0, 20000, .inl (fun k => nI (rc_set ti 0 (s 6) 0 k)))) → P h') : ∀ (t i : Nat) (h : gH), s 6 - i < t → i ≤ s 6 → Mc h (nI 0) s k m 0 cm sd 0 dr dd bk rt wt → h 148 = some (.inl (2, 8, .inl (fun k => nI (fe wn 8 k)))) → h 152 = some (.inl (0, 8, .inl (fun k => nI (fe df 8 k)))) → h 155 = some (.inl (0, 8, .inl (fun k => nI (fe ct 8 k)))) → h 153 = some (.inl (1, 20000, .inl (rsf sI 0 (0 + i) (-2)))) → h 154 = some (.inl (0, 20000, .inl (fun k => nI (rc_set ti 0 (0 + i) 0 k)))) → g_fr [142, 148, 152, 153, 154, 155] h0 h →
    g_W G mX11_again R (g_K G (q_v n ex [142, 148, 152, 153, 154, 155] h0 P) 0 0) n ex h 0 0 52 [(1, .int (nI i)), (0, .ref 142)] [] := by
  intro t
  induction t with
  | zero => intro i h hm; exact absurd hm (by omega)
  | succ t ih =>
    intro i h ht hi m0 b8 b12 b15 a13 a14 hf
    refine g_iload_n dX11_again_52 rfl rfl ?_
    refine g_aload_n dX11_again_53 rfl rfl ?_
    refine g_getf (v := .int (nI (s 6))) dX11_again_54 fX11_240 m0 rfl ?_
    refine g_icmp_geN (tgt := 81) dX11_again_57 (by decide) (by omega) (by omega) (fun c57 => ?_) (fun c57 => ?_)
    · refine g_aload_n dX11_again_81 rfl rfl ?_
      refine g_iconst (v := nI 0) dX11_again_82 (by decide) ?_
      refine g_put (fs' := [.int (nI 0), .ref 143, .int (nI (s 4)), .int (nI (s 7)), .int (nI (s 8)), .ref 144, .int (nI (s 5)), .int (nI (s 6)), .ref 145, .int (nI (s 9)), .int (nI (s 10)), .int (nI (s 11)), .int (nI (s 12)), .ref 146, .int (nI k), .ref 147, .int (nI m), .int (nI 0), .int (nI cm), .int (nI sd), .ref 148, .ref 149, .ref 150, .ref 151, .int (nI 0), .ref 152, .ref 153, .ref 154, .int (nI 0), .int (nI dd), .int (nI bk), .int wt, .ref 155, .int (nI rt), .ref 156, .ref 157, .ref 158, .ref 159, .ref 160, .ref 161, .ref 162, .ref 163, .ref 164, .ref 165, .ref 166]) dX11_again_83 fX11_288 m0 (Nat.le_of_ble_eq_true rfl) rfl rfl rfl ?_
      refine g_aload_n dX11_again_86 rfl rfl ?_
      refine g_iconst (v := nI 0) dX11_again_87 (by decide) ?_
      refine g_put (fs' := [.int (nI 0), .ref 143, .int (nI (s 4)), .int (nI (s 7)), .int (nI (s 8)), .ref 144, .int (nI (s 5)), .int (nI (s 6)), .ref 145, .int (nI (s 9)), .int (nI (s 10)), .int (nI (s 11)), .int (nI (s 12)), .ref 146, .int (nI k), .ref 147, .int (nI m), .int (nI 0), .int (nI cm), .int (nI sd), .ref 148, .ref 149, .ref 150, .ref 151, .int (nI 0), .ref 152, .ref 153, .ref 154, .int (nI 0), .int (nI 0), .int (nI bk), .int wt, .ref 155, .int (nI rt), .ref 156, .ref 157, .ref 158, .ref 159, .ref 160, .ref 161, .ref 162, .ref 163, .ref 164, .ref 165, .ref 166]) dX11_again_88 fX11_308 g_eq (Nat.le_of_ble_eq_true rfl) rfl rfl rfl ?_
      refine g_aload_n dX11_again_91 rfl rfl ?_
      refine g_iconst (v := nI 0) dX11_again_92 (by decide) ?_
      refine g_put (fs' := [.int (nI 0), .ref 143, .int (nI (s 4)), .int (nI (s 7)), .int (nI (s 8)), .ref 144, .int (nI (s 5)), .int (nI (s 6)), .ref 145, .int (nI (s 9)), .int (nI (s 10)), .int (nI (s 11)), .int (nI (s 12)), .ref 146, .int (nI k), .ref 147, .int (nI m), .int (nI 0), .int (nI cm), .int (nI sd), .ref 148, .ref 149, .ref 150, .ref 151, .int (nI 0), .ref 152, .ref 153, .ref 154, .int (nI 0), .int (nI 0), .int (nI 0), .int wt, .ref 155, .int (nI rt), .ref 156, .ref 157, .ref 158, .ref 159, .ref 160, .ref 161, .ref 162, .ref 163, .ref 164, .ref 165, .ref 166]) dX11_again_93 fX11_302 g_eq (Nat.le_of_ble_eq_true rfl) rfl rfl rfl ?_
      refine g_aload_n dX11_again_96 rfl rfl ?_
      refine g_iconst (v := -1) dX11_again_97 (by decide) ?_
      refine g_put (fs' := [.int (nI 0), .ref 143, .int (nI (s 4)), .int (nI (s 7)), .int (nI (s 8)), .ref 144, .int (nI (s 5)), .int (nI (s 6)), .ref 145, .int (nI (s 9)), .int (nI (s 10)), .int (nI (s 11)), .int (nI (s 12)), .ref 146, .int (nI k), .ref 147, .int (nI m), .int (nI 0), .int (nI cm), .int (nI sd), .ref 148, .ref 149, .ref 150, .ref 151, .int (nI 0), .ref 152, .ref 153, .ref 154, .int (nI 0), .int (nI 0), .int (nI 0), .int (-1), .ref 155, .int (nI rt), .ref 156, .ref 157, .ref 158, .ref 159, .ref 160, .ref 161, .ref 162, .ref 163, .ref 164, .ref 165, .ref 166]) dX11_again_98 fX11_70 g_eq (Nat.le_of_ble_eq_true rfl) rfl rfl rfl ?_
      refine g_aload_n dX11_again_101 rfl rfl ?_
      refine g_iconst (v := nI 0) dX11_again_102 (by decide) ?_
      refine g_put (fs' := [.int (nI 0), .ref 143, .int (nI (s 4)), .int (nI (s 7)), .int (nI (s 8)), .ref 144, .int (nI (s 5)), .int (nI (s 6)), .ref 145, .int (nI (s 9)), .int (nI (s 10)), .int (nI (s 11)), .int (nI (s 12)), .ref 146, .int (nI k), .ref 147, .int (nI m), .int (nI 0), .int (nI cm), .int (nI sd), .ref 148, .ref 149, .ref 150, .ref 151, .int (nI 0), .ref 152, .ref 153, .ref 154, .int (nI 0), .int (nI 0), .int (nI 0), .int (-1), .ref 155, .int (nI 0), .ref 156, .ref 157, .ref 158, .ref 159, .ref 160, .ref 161, .ref 162, .ref 163, .ref 164, .ref 165, .ref 166]) dX11_again_103 fX11_311 g_eq (Nat.le_of_ble_eq_true rfl) rfl rfl rfl ?_
      refine g_aload_n dX11_again_106 rfl rfl ?_
      refine g_iconst (v := nI 0) dX11_again_107 (by decide) ?_
      refine g_put (fs' := [.int (nI 0), .ref 143, .int (nI (s 4)), .int (nI (s 7)), .int (nI (s 8)), .ref 144, .int (nI (s 5)), .int (nI (s 6)), .ref 145, .int (nI (s 9)), .int (nI (s 10)), .int (nI (s 11)), .int (nI (s 12)), .ref 146, .int (nI k), .ref 147, .int (nI 0), .int (nI 0), .int (nI cm), .int (nI sd), .ref 148, .ref 149, .ref 150, .ref 151, .int (nI 0), .ref 152, .ref 153, .ref 154, .int (nI 0), .int (nI 0), .int (nI 0), .int (-1), .ref 155, .int (nI 0), .ref 156, .ref 157, .ref 158, .ref 159, .ref 160, .ref 161, .ref 162, .ref 163, .ref 164, .ref 165, .ref 166]) dX11_again_108 fX11_247 g_eq (Nat.le_of_ble_eq_true rfl) rfl rfl rfl ?_
      have e : i = s 6 := by omega
      subst e
      rw [Nat.zero_add] at a13 a14
      exact e_v dX11_again_111 rfl ((((((hf.up (by simp)).up (by simp)).up (by simp)).up (by simp)).up (by simp)).up (by simp)) (hP _ g_eq (g_ne (by decide) (g_ne (by decide) (g_ne (by decide) (g_ne (by decide) (g_ne (by decide) (g_ne (by decide) b8)))))) (g_ne (by decide) (g_ne (by decide) (g_ne (by decide) (g_ne (by decide) (g_ne (by decide) (g_ne (by decide) b12)))))) (g_ne (by decide) (g_ne (by decide) (g_ne (by decide) (g_ne (by decide) (g_ne (by decide) (g_ne (by decide) b15)))))) (g_ne (by decide) (g_ne (by decide) (g_ne (by decide) (g_ne (by decide) (g_ne (by decide) (g_ne (by decide) a13)))))) (g_ne (by decide) (g_ne (by decide) (g_ne (by decide) (g_ne (by decide) (g_ne (by decide) (g_ne (by decide) a14))))))) (by decide) (by decide)
    · refine g_aload_n dX11_again_60 rfl rfl ?_
      refine g_getf (v := .ref 153) dX11_again_61 fX11_64 m0 rfl ?_
      refine g_iload_n dX11_again_64 rfl rfl ?_
      refine g_bipush (v := -2) dX11_again_65 (by decide) ?_
      refine g_bastN dX11_again_67 a13 (by omega) (by decide) ?_
      refine g_aload_n dX11_again_68 rfl rfl ?_
      refine g_getf (v := .ref 154) dX11_again_69 fX11_67 (g_ne (by decide) m0) rfl ?_
      refine g_iload_n dX11_again_72 rfl rfl ?_
      refine g_iconst (v := nI 0) dX11_again_73 (by decide) ?_
      refine g_iastN dX11_again_74 (g_ne (by decide) a14) (by omega) (by decide) ?_
      rw [upd_nI]
      refine g_iincN (z := 1) (ls' := [(1, .int (nI (i + 1))), (0, .ref 142)]) dX11_again_75 rfl (by decide) rfl ?_
      refine g_goto (tgt := 52) dX11_again_78 (by decide) ?_
      refine g_pick [0, 1] (ls' := [(1, .int (nI (i + 1))), (0, .ref 142)]) rfl ?_
      have e5 : upd (rsf sI 0 (0 + i) (-2)) i (vp_nar .byte (-2)) = rsf sI 0 (0 + (i + 1)) (-2) := by have := rsf_s (f := sI) (a := 0) (i := i) (x := -2) (y := vp_nar .byte (-2)) (by decide); rw [Nat.zero_add] at this ⊢; exact this
      have e6 : va_up (rc_set ti 0 (0 + i) 0) i 0 = rc_set ti 0 (0 + (i + 1)) 0 := by have := rc_s' (rc := ti) (a := 0) (i := i) (c := 0); rw [Nat.zero_add] at this ⊢; exact this
      exact ih (i + 1) _ (by omega) (by omega) (g_ne (by decide) (g_ne (by decide) m0)) (g_ne (by decide) (g_ne (by decide) b8)) (g_ne (by decide) (g_ne (by decide) b12)) (g_ne (by decide) (g_ne (by decide) b15)) (by rw [← e5]; exact g_ne (by decide) g_eq) (by rw [← e6]; exact g_eq) ((hf.up (by simp)).up (by simp))
set_option maxHeartbeats 4000000 in
set_option maxRecDepth 100000 in
theorem c_magain (G : gG) (d n : Nat) (ex : Bool) (h : gH) {cd wt : Int32} {s : Nat → Nat} {k m sg cm sd mm dr dd bk rt : Nat} {wn df ct ti : Nat → Nat} {sI : Nat → Int32} (m0 : Mc h cd s k m sg cm sd mm dr dd bk rt wt) (b8 : h 148 = some (.inl (2, 8, .inl (fun k => nI (wn k))))) (b12 : h 152 = some (.inl (0, 8, .inl (fun k => nI (df k))))) (b15 : h 155 = some (.inl (0, 8, .inl (fun k => nI (ct k))))) (a13 : h 153 = some (.inl (1, 20000, .inl sI))) (a14 : h 154 = some (.inl (0, 20000, .inl (fun k => nI (ti k))))) (h6 : s 6 ≤ 20000) : g_M G mX11_again d 0 0 [.ref 142] n ex h (q_v n ex [142, 148, 152, 153, 154, 155] h (fun h' => Mc h' (nI 0) s k 0 0 cm sd 0 0 0 0 0 (-1) ∧ h' 148 = some (.inl (2, 8, .inl (fun k => nI (fe wn 8 k)))) ∧ h' 152 = some (.inl (0, 8, .inl (fun k => nI (fe df 8 k)))) ∧ h' 155 = some (.inl (0, 8, .inl (fun k => nI (fe ct 8 k)))) ∧ h' 153 = some (.inl (1, 20000, .inl (rsf sI 0 (s 6) (-2)))) ∧ h' 154 = some (.inl (0, 20000, .inl (fun k => nI (rc_set ti 0 (s 6) 0 k)))))) := by
  refine g_enter (by decide) (Nat.le_of_ble_eq_true rfl) ?_
  show g_W G _ _ _ n ex h 0 0 0 [(0, .ref 142)] []
  refine g_aload_n dX11_again_0 rfl rfl ?_
  refine g_iconst (v := nI 0) dX11_again_1 (by decide) ?_
  refine g_put (fs' := [.int (nI 0), .ref 143, .int (nI (s 4)), .int (nI (s 7)), .int (nI (s 8)), .ref 144, .int (nI (s 5)), .int (nI (s 6)), .ref 145, .int (nI (s 9)), .int (nI (s 10)), .int (nI (s 11)), .int (nI (s 12)), .ref 146, .int (nI k), .ref 147, .int (nI m), .int (nI sg), .int (nI cm), .int (nI sd), .ref 148, .ref 149, .ref 150, .ref 151, .int (nI mm), .ref 152, .ref 153, .ref 154, .int (nI dr), .int (nI dd), .int (nI bk), .int wt, .ref 155, .int (nI rt), .ref 156, .ref 157, .ref 158, .ref 159, .ref 160, .ref 161, .ref 162, .ref 163, .ref 164, .ref 165, .ref 166]) dX11_again_2 fX11_1 m0 (Nat.le_of_ble_eq_true rfl) rfl rfl rfl ?_
  refine g_aload_n dX11_again_5 rfl rfl ?_
  refine g_iconst (v := nI 0) dX11_again_6 (by decide) ?_
  refine g_put (fs' := [.int (nI 0), .ref 143, .int (nI (s 4)), .int (nI (s 7)), .int (nI (s 8)), .ref 144, .int (nI (s 5)), .int (nI (s 6)), .ref 145, .int (nI (s 9)), .int (nI (s 10)), .int (nI (s 11)), .int (nI (s 12)), .ref 146, .int (nI k), .ref 147, .int (nI m), .int (nI 0), .int (nI cm), .int (nI sd), .ref 148, .ref 149, .ref 150, .ref 151, .int (nI mm), .ref 152, .ref 153, .ref 154, .int (nI dr), .int (nI dd), .int (nI bk), .int wt, .ref 155, .int (nI rt), .ref 156, .ref 157, .ref 158, .ref 159, .ref 160, .ref 161, .ref 162, .ref 163, .ref 164, .ref 165, .ref 166]) dX11_again_7 fX11_231 g_eq (Nat.le_of_ble_eq_true rfl) rfl rfl rfl ?_
  refine g_aload_n dX11_again_10 rfl rfl ?_
  refine g_iconst (v := nI 0) dX11_again_11 (by decide) ?_
  refine g_put (fs' := [.int (nI 0), .ref 143, .int (nI (s 4)), .int (nI (s 7)), .int (nI (s 8)), .ref 144, .int (nI (s 5)), .int (nI (s 6)), .ref 145, .int (nI (s 9)), .int (nI (s 10)), .int (nI (s 11)), .int (nI (s 12)), .ref 146, .int (nI k), .ref 147, .int (nI m), .int (nI 0), .int (nI cm), .int (nI sd), .ref 148, .ref 149, .ref 150, .ref 151, .int (nI 0), .ref 152, .ref 153, .ref 154, .int (nI dr), .int (nI dd), .int (nI bk), .int wt, .ref 155, .int (nI rt), .ref 156, .ref 157, .ref 158, .ref 159, .ref 160, .ref 161, .ref 162, .ref 163, .ref 164, .ref 165, .ref 166]) dX11_again_12 fX11_250 g_eq (Nat.le_of_ble_eq_true rfl) rfl rfl rfl ?_
  refine g_iconst (v := nI 0) dX11_again_15 (by decide) ?_
  refine g_istore_n (ls' := [(1, .int (nI 0)), (0, .ref 142)]) dX11_again_16 rfl (by decide) rfl ?_
  refine g_pick [0, 1] (ls' := [(1, .int (nI 0)), (0, .ref 142)]) rfl ?_
  refine lp_magain1 G _ _ n ex h (wn := wn) (df := df) (ct := ct) (fun h2 xm0 xb8 xb12 xb15 xf => ?_) 9 0 _ (by omega) (by omega) g_eq (by rw [fe_0]; exact g_ne (by decide) (g_ne (by decide) (g_ne (by decide) b8))) (by rw [fe_0]; exact g_ne (by decide) (g_ne (by decide) (g_ne (by decide) b12))) (by rw [fe_0]; exact g_ne (by decide) (g_ne (by decide) (g_ne (by decide) b15))) (((g_fr.rf.up (by simp)).up (by simp)).up (by simp))
  refine g_iconst (v := nI 0) dX11_again_50 (by decide) ?_
  refine g_istore_n (ls' := [(1, .int (nI 0)), (0, .ref 142)]) dX11_again_51 rfl (by decide) rfl ?_
  refine g_pick [0, 1] (ls' := [(1, .int (nI 0)), (0, .ref 142)]) rfl ?_
  exact lp_magain2 G _ _ n ex h (sI := sI) (ti := ti) h6 (fun h' x1 x2 x3 x4 x5 x6 => ⟨x1, x2, x3, x4, x5, x6⟩) (s 6 + 1) 0 h2 (by omega) (by omega) xm0 xb8 xb12 xb15 (by rw [show rsf sI 0 (0 + 0) (-2) = sI from rsf_0 _ _ _]; exact xf.at (by simp) a13) (by rw [show rc_set ti 0 (0 + 0) 0 = ti from rc_0 _ _ _]; exact xf.at (by simp) a14) (xf.mono (by simp))
set_option maxHeartbeats 4000000 in
set_option maxRecDepth 100000 in
theorem lp_mtold (G : gG) (R : Room) (KK : gK) (n : Nat) (ex : Bool) (h : gH) {cd wt : Int32} {s : Nat → Nat} {k m sg cm sd mm dr dd bk rt : Nat} {sw : Nat → Int32} {x : Int32} (m0 : Mc h cd s k m sg cm sd mm dr dd bk rt wt) (a11 : h 151 = some (.inl (0, 16, .inl sw))) (hmm : mm ≤ 16) (kk : g_W G mX11_told R KK n ex h 0 0 55 [(3, .int (nI mm)), (2, .int (nI (cs_ sw mm))), (0, .ref 142), (1, .int x)] []) : ∀ (t i : Nat), mm - i < t → i ≤ mm →
    g_W G mX11_told R KK n ex h 0 0 23 [(3, .int (nI i)), (2, .int (nI (cs_ sw i))), (0, .ref 142), (1, .int x)] [] := by
  intro t
  induction t with
  | zero => intro i hm; exact absurd hm (by omega)
  | succ t ih =>
    intro i ht hi
    refine g_iload_n dX11_told_23 rfl rfl ?_
    refine g_aload_n dX11_told_24 rfl rfl ?_
    refine g_getf (v := .int (nI mm)) dX11_told_25 fX11_250 m0 rfl ?_
    refine g_icmp_geN (tgt := 55) dX11_told_28 (by decide) (by omega) (by omega) (fun c28 => ?_) (fun c28 => ?_)
    · refine g_pick [0, 1, 2, 3] (ls' := [(3, .int (nI i)), (2, .int (nI (cs_ sw i))), (0, .ref 142), (1, .int x)]) rfl ?_
      have e : i = mm := by omega
      subst e
      exact kk
    · refine g_iload_n dX11_told_31 rfl rfl ?_
      refine g_aload_n dX11_told_32 rfl rfl ?_
      refine g_getf (v := .ref 151) dX11_told_33 fX11_58 m0 rfl ?_
      refine g_iload_n dX11_told_36 rfl rfl ?_
      refine g_ialdN dX11_told_37 a11 (by omega) (by decide) ?_
      refine g_iconst (v := -1) dX11_told_38 (by decide) ?_
      refine g_icmp_eq (tgt := 46) dX11_told_39 (by decide) (fun c39 => ?_) (fun c39 => ?_)
      · refine g_iconst (v := nI 0) dX11_told_46 (by decide) ?_
        refine g_iaddN dX11_told_47 ?_
        refine g_istore_n (ls' := [(2, .int (nI ((cs_ sw i) + 0))), (3, .int (nI i)), (0, .ref 142), (1, .int x)]) dX11_told_48 rfl (by decide) rfl ?_
        refine g_iincN (z := 1) (ls' := [(3, .int (nI (i + 1))), (2, .int (nI ((cs_ sw i) + 0))), (0, .ref 142), (1, .int x)]) dX11_told_49 rfl (by decide) rfl ?_
        refine g_goto (tgt := 23) dX11_told_52 (by decide) ?_
        refine g_pick [0, 1, 2, 3] (ls' := [(3, .int (nI (i + 1))), (2, .int (nI ((cs_ sw i) + 0))), (0, .ref 142), (1, .int x)]) rfl ?_
        rw [show ((cs_ sw i) + 0) = cs_ sw (i + 1) from by show _ = cs_ sw i + _; first | rw [if_pos c39] | rw [if_neg c39]]
        exact ih (i + 1) (by omega) (by omega)
      · refine g_iconst (v := nI 1) dX11_told_42 (by decide) ?_
        refine g_goto (tgt := 47) dX11_told_43 (by decide) ?_
        refine g_iaddN dX11_told_47 ?_
        refine g_istore_n (ls' := [(2, .int (nI ((cs_ sw i) + 1))), (3, .int (nI i)), (0, .ref 142), (1, .int x)]) dX11_told_48 rfl (by decide) rfl ?_
        refine g_iincN (z := 1) (ls' := [(3, .int (nI (i + 1))), (2, .int (nI ((cs_ sw i) + 1))), (0, .ref 142), (1, .int x)]) dX11_told_49 rfl (by decide) rfl ?_
        refine g_goto (tgt := 23) dX11_told_52 (by decide) ?_
        refine g_pick [0, 1, 2, 3] (ls' := [(3, .int (nI (i + 1))), (2, .int (nI ((cs_ sw i) + 1))), (0, .ref 142), (1, .int x)]) rfl ?_
        rw [show ((cs_ sw i) + 1) = cs_ sw (i + 1) from by show _ = cs_ sw i + _; first | rw [if_pos c39] | rw [if_neg c39]]
        exact ih (i + 1) (by omega) (by omega)
set_option maxHeartbeats 4000000 in
set_option maxRecDepth 100000 in
theorem c_mtold (G : gG) (d n : Nat) (ex : Bool) (h : gH) {cd wt : Int32} {s : Nat → Nat} {k m sg cm sd mm dr dd bk rt : Nat} {sw : Nat → Int32} {x : Int32} (m0 : Mc h cd s k m sg cm sd mm dr dd bk rt wt) (a11 : h 151 = some (.inl (0, 16, .inl sw))) (hmm : mm ≤ 16) (h6 : s 6 ≤ 20000) (hrt : rt ≤ 1) : g_M G mX11_told (d + 1) 0 0 [.ref 142, .int x] n ex h (q_i n ex [142] h (fun r h' => (¬ k_told x = 0 ∧ Mc h' (nI (k_told x)) s k m sg cm sd mm dr dd bk rt wt ∧ g_fr [142] h h') ∨ (k_told x = 0 ∧ tAns (un x) r sg (s 4) (s 5) (s 6) dr dd bk m mm (cs_ sw mm) wt rt ∧ Mc h' (nI (k_told x)) s k m sg cm sd mm dr dd bk rt wt))) := by
  refine g_enter (by decide) (Nat.le_of_ble_eq_true rfl) ?_
  show g_W G _ _ _ n ex h 0 0 0 [(0, .ref 142), (1, .int x)] []
  refine g_aload_n dX11_told_0 rfl rfl ?_
  refine g_iload_n dX11_told_1 rfl rfl ?_
  refine g_if_lt (tgt := 11) dX11_told_2 (by decide) (fun c2 => ?_) (fun c2 => ?_)
  · refine g_iconst (v := nI 1) dX11_told_11 (by decide) ?_
    refine g_goto (tgt := 16) dX11_told_12 (by decide) ?_
    refine g_put (fs' := [.int (nI 1), .ref 143, .int (nI (s 4)), .int (nI (s 7)), .int (nI (s 8)), .ref 144, .int (nI (s 5)), .int (nI (s 6)), .ref 145, .int (nI (s 9)), .int (nI (s 10)), .int (nI (s 11)), .int (nI (s 12)), .ref 146, .int (nI k), .ref 147, .int (nI m), .int (nI sg), .int (nI cm), .int (nI sd), .ref 148, .ref 149, .ref 150, .ref 151, .int (nI mm), .ref 152, .ref 153, .ref 154, .int (nI dr), .int (nI dd), .int (nI bk), .int wt, .ref 155, .int (nI rt), .ref 156, .ref 157, .ref 158, .ref 159, .ref 160, .ref 161, .ref 162, .ref 163, .ref 164, .ref 165, .ref 166]) dX11_told_16 fX11_1 m0 (Nat.le_of_ble_eq_true rfl) rfl rfl rfl ?_
    refine g_iconst (v := nI 0) dX11_told_19 (by decide) ?_
    refine g_istore_n (ls' := [(2, .int (nI 0)), (0, .ref 142), (1, .int x)]) dX11_told_20 rfl (by decide) rfl ?_
    refine g_iconst (v := nI 0) dX11_told_21 (by decide) ?_
    refine g_istore_n (ls' := [(3, .int (nI 0)), (2, .int (nI 0)), (0, .ref 142), (1, .int x)]) dX11_told_22 rfl (by decide) rfl ?_
    refine g_pick [0, 1, 2, 3] (ls' := [(3, .int (nI 0)), (2, .int (nI 0)), (0, .ref 142), (1, .int x)]) rfl ?_
    refine lp_mtold G _ _ n ex _ (cd := nI 1) (s := s) (k := k) (m := m) (sg := sg) (cm := cm) (sd := sd) (mm := mm) (dr := dr) (dd := dd) (bk := bk) (rt := rt) (wt := wt) (sw := sw) g_eq (g_ne (by decide) a11) hmm ?_ (mm + 1) 0 (by omega) (by omega)
    refine g_aload_n dX11_told_55 rfl rfl ?_
    refine g_getf (v := .int (nI 1)) dX11_told_56 fX11_1 g_eq rfl ?_
    refine g_if_leN (tgt := 67) dX11_told_59 (by decide) (by decide) (fun c59 => ?_) (fun c59 => ?_)
    · exact absurd c59 (by decide)
    · refine g_bipush (v := nI 99) dX11_told_62 (by decide) ?_
      refine g_goto (tgt := 68) dX11_told_64 (by decide) ?_
      refine g_tableOut (tgt := 206) dX11_told_68 (by decide) (by decide) ?_
      refine g_iconst (v := nI 0) dX11_told_206 (by decide) ?_
      have ek : k_told x = 1 := (by have hu_x := un_b x; unfold k_told; (repeat' split) <;> first | rfl | (exfalso; simp only [i_lt, i_le, i_eq, it0, itm, ifp, nI_toInt (show 0 < 2147483648 by first | decide | omega), nI_toInt (show 1 < 2147483648 by first | decide | omega), nI_toInt (show 13 < 2147483648 by first | decide | omega), nI_toInt (show 12 < 2147483648 by first | decide | omega)] at * <;> omega))
      exact e_i dX11_told_207 rfl rfl (g_fr.rf.up (by simp)) (Or.inl ⟨by rw [ek]; decide, by rw [ek]; exact g_eq, g_fr.rf.up (by simp)⟩) (by decide) (by decide)
  · refine g_iload_n dX11_told_5 rfl rfl ?_
    refine g_bipush (v := nI 12) dX11_told_6 (by decide) ?_
    refine g_icmp_le (tgt := 15) dX11_told_8 (by decide) (fun c8 => ?_) (fun c8 => ?_)
    · refine g_iconst (v := nI 0) dX11_told_15 (by decide) ?_
      refine g_put (fs' := [.int (nI 0), .ref 143, .int (nI (s 4)), .int (nI (s 7)), .int (nI (s 8)), .ref 144, .int (nI (s 5)), .int (nI (s 6)), .ref 145, .int (nI (s 9)), .int (nI (s 10)), .int (nI (s 11)), .int (nI (s 12)), .ref 146, .int (nI k), .ref 147, .int (nI m), .int (nI sg), .int (nI cm), .int (nI sd), .ref 148, .ref 149, .ref 150, .ref 151, .int (nI mm), .ref 152, .ref 153, .ref 154, .int (nI dr), .int (nI dd), .int (nI bk), .int wt, .ref 155, .int (nI rt), .ref 156, .ref 157, .ref 158, .ref 159, .ref 160, .ref 161, .ref 162, .ref 163, .ref 164, .ref 165, .ref 166]) dX11_told_16 fX11_1 m0 (Nat.le_of_ble_eq_true rfl) rfl rfl rfl ?_
      refine g_iconst (v := nI 0) dX11_told_19 (by decide) ?_
      refine g_istore_n (ls' := [(2, .int (nI 0)), (0, .ref 142), (1, .int x)]) dX11_told_20 rfl (by decide) rfl ?_
      refine g_iconst (v := nI 0) dX11_told_21 (by decide) ?_
      refine g_istore_n (ls' := [(3, .int (nI 0)), (2, .int (nI 0)), (0, .ref 142), (1, .int x)]) dX11_told_22 rfl (by decide) rfl ?_
      refine g_pick [0, 1, 2, 3] (ls' := [(3, .int (nI 0)), (2, .int (nI 0)), (0, .ref 142), (1, .int x)]) rfl ?_
      refine lp_mtold G _ _ n ex _ (cd := nI 0) (s := s) (k := k) (m := m) (sg := sg) (cm := cm) (sd := sd) (mm := mm) (dr := dr) (dd := dd) (bk := bk) (rt := rt) (wt := wt) (sw := sw) g_eq (g_ne (by decide) a11) hmm ?_ (mm + 1) 0 (by omega) (by omega)
      refine g_aload_n dX11_told_55 rfl rfl ?_
      refine g_getf (v := .int (nI 0)) dX11_told_56 fX11_1 g_eq rfl ?_
      refine g_if_leN (tgt := 67) dX11_told_59 (by decide) (by decide) (fun c59 => ?_) (fun c59 => ?_)
      · obtain ⟨j, hj1, hj2, rfl⟩ := nat_of (a := 0) (by decide) ⟨Int32.not_lt.mp c2, c8⟩ (by decide)
        refine g_iload_n dX11_told_67 rfl rfl ?_
        have hsw : j = 0 ∨ j = 1 ∨ j = 2 ∨ j = 3 ∨ j = 4 ∨ j = 5 ∨ j = 6 ∨ j = 7 ∨ j = 8 ∨ j = 9 ∨ j = 10 ∨ j = 11 ∨ j = 12 := by omega
        rcases hsw with rfl | rfl | rfl | rfl | rfl | rfl | rfl | rfl | rfl | rfl | rfl | rfl | rfl
        · refine g_tableIn (tgt := 136) dX11_told_68 (by decide) (by decide) rfl (by decide) ?_
          refine g_aload_n dX11_told_136 rfl rfl ?_
          refine g_getf (v := .int (nI sg)) dX11_told_137 fX11_231 g_eq rfl ?_
          have ek : k_told (nI 0) = 0 := (by unfold k_told; (repeat' split) <;> first | rfl | (exfalso; simp only [i_lt, i_le, i_eq, it0, itm, ifp, nI_toInt (show 0 < 2147483648 by first | decide | omega), nI_toInt (show 1 < 2147483648 by first | decide | omega), nI_toInt (show 13 < 2147483648 by first | decide | omega), nI_toInt (show 12 < 2147483648 by first | decide | omega), nI_toInt (show 0 < 2147483648 by first | decide | omega)] at * <;> omega))
          exact e_i dX11_told_140 rfl rfl (g_fr.rf.up (by simp)) (Or.inr ⟨ek, by rw [un_nI (by decide)]; exact rfl, by rw [ek]; exact g_eq⟩) (by decide) (by decide)
        · refine g_tableIn (tgt := 141) dX11_told_68 (by decide) (by decide) rfl (by decide) ?_
          refine g_aload_n dX11_told_141 rfl rfl ?_
          refine g_getf (v := .int (nI (s 4))) dX11_told_142 fX11_234 g_eq rfl ?_
          have ek : k_told (nI 1) = 0 := (by unfold k_told; (repeat' split) <;> first | rfl | (exfalso; simp only [i_lt, i_le, i_eq, it0, itm, ifp, nI_toInt (show 0 < 2147483648 by first | decide | omega), nI_toInt (show 1 < 2147483648 by first | decide | omega), nI_toInt (show 13 < 2147483648 by first | decide | omega), nI_toInt (show 12 < 2147483648 by first | decide | omega), nI_toInt (show 1 < 2147483648 by first | decide | omega)] at * <;> omega))
          exact e_i dX11_told_145 rfl rfl (g_fr.rf.up (by simp)) (Or.inr ⟨ek, by rw [un_nI (by decide)]; exact rfl, by rw [ek]; exact g_eq⟩) (by decide) (by decide)
        · refine g_tableIn (tgt := 146) dX11_told_68 (by decide) (by decide) rfl (by decide) ?_
          refine g_aload_n dX11_told_146 rfl rfl ?_
          refine g_getf (v := .int (nI (s 5))) dX11_told_147 fX11_237 g_eq rfl ?_
          have ek : k_told (nI 2) = 0 := (by unfold k_told; (repeat' split) <;> first | rfl | (exfalso; simp only [i_lt, i_le, i_eq, it0, itm, ifp, nI_toInt (show 0 < 2147483648 by first | decide | omega), nI_toInt (show 1 < 2147483648 by first | decide | omega), nI_toInt (show 13 < 2147483648 by first | decide | omega), nI_toInt (show 12 < 2147483648 by first | decide | omega), nI_toInt (show 2 < 2147483648 by first | decide | omega)] at * <;> omega))
          exact e_i dX11_told_150 rfl rfl (g_fr.rf.up (by simp)) (Or.inr ⟨ek, by rw [un_nI (by decide)]; exact rfl, by rw [ek]; exact g_eq⟩) (by decide) (by decide)
        · refine g_tableIn (tgt := 151) dX11_told_68 (by decide) (by decide) rfl (by decide) ?_
          refine g_aload_n dX11_told_151 rfl rfl ?_
          refine g_getf (v := .int (nI (s 6))) dX11_told_152 fX11_240 g_eq rfl ?_
          have ek : k_told (nI 3) = 0 := (by unfold k_told; (repeat' split) <;> first | rfl | (exfalso; simp only [i_lt, i_le, i_eq, it0, itm, ifp, nI_toInt (show 0 < 2147483648 by first | decide | omega), nI_toInt (show 1 < 2147483648 by first | decide | omega), nI_toInt (show 13 < 2147483648 by first | decide | omega), nI_toInt (show 12 < 2147483648 by first | decide | omega), nI_toInt (show 3 < 2147483648 by first | decide | omega)] at * <;> omega))
          exact e_i dX11_told_155 rfl rfl (g_fr.rf.up (by simp)) (Or.inr ⟨ek, by rw [un_nI (by decide)]; exact rfl, by rw [ek]; exact g_eq⟩) (by decide) (by decide)
        · refine g_tableIn (tgt := 156) dX11_told_68 (by decide) (by decide) rfl (by decide) ?_
          refine g_aload_n dX11_told_156 rfl rfl ?_
          refine g_getf (v := .int (nI dr)) dX11_told_157 fX11_288 g_eq rfl ?_
          have ek : k_told (nI 4) = 0 := (by unfold k_told; (repeat' split) <;> first | rfl | (exfalso; simp only [i_lt, i_le, i_eq, it0, itm, ifp, nI_toInt (show 0 < 2147483648 by first | decide | omega), nI_toInt (show 1 < 2147483648 by first | decide | omega), nI_toInt (show 13 < 2147483648 by first | decide | omega), nI_toInt (show 12 < 2147483648 by first | decide | omega), nI_toInt (show 4 < 2147483648 by first | decide | omega)] at * <;> omega))
          exact e_i dX11_told_160 rfl rfl (g_fr.rf.up (by simp)) (Or.inr ⟨ek, by rw [un_nI (by decide)]; exact rfl, by rw [ek]; exact g_eq⟩) (by decide) (by decide)
        · refine g_tableIn (tgt := 161) dX11_told_68 (by decide) (by decide) rfl (by decide) ?_
          refine g_aload_n dX11_told_161 rfl rfl ?_
          refine g_getf (v := .int (nI dd)) dX11_told_162 fX11_308 g_eq rfl ?_
          have ek : k_told (nI 5) = 0 := (by unfold k_told; (repeat' split) <;> first | rfl | (exfalso; simp only [i_lt, i_le, i_eq, it0, itm, ifp, nI_toInt (show 0 < 2147483648 by first | decide | omega), nI_toInt (show 1 < 2147483648 by first | decide | omega), nI_toInt (show 13 < 2147483648 by first | decide | omega), nI_toInt (show 12 < 2147483648 by first | decide | omega), nI_toInt (show 5 < 2147483648 by first | decide | omega)] at * <;> omega))
          exact e_i dX11_told_165 rfl rfl (g_fr.rf.up (by simp)) (Or.inr ⟨ek, by rw [un_nI (by decide)]; exact rfl, by rw [ek]; exact g_eq⟩) (by decide) (by decide)
        · refine g_tableIn (tgt := 166) dX11_told_68 (by decide) (by decide) rfl (by decide) ?_
          refine g_aload_n dX11_told_166 rfl rfl ?_
          refine g_getf (v := .int (nI bk)) dX11_told_167 fX11_302 g_eq rfl ?_
          have ek : k_told (nI 6) = 0 := (by unfold k_told; (repeat' split) <;> first | rfl | (exfalso; simp only [i_lt, i_le, i_eq, it0, itm, ifp, nI_toInt (show 0 < 2147483648 by first | decide | omega), nI_toInt (show 1 < 2147483648 by first | decide | omega), nI_toInt (show 13 < 2147483648 by first | decide | omega), nI_toInt (show 12 < 2147483648 by first | decide | omega), nI_toInt (show 6 < 2147483648 by first | decide | omega)] at * <;> omega))
          exact e_i dX11_told_170 rfl rfl (g_fr.rf.up (by simp)) (Or.inr ⟨ek, by rw [un_nI (by decide)]; exact rfl, by rw [ek]; exact g_eq⟩) (by decide) (by decide)
        · refine g_tableIn (tgt := 171) dX11_told_68 (by decide) (by decide) rfl (by decide) ?_
          refine g_aload_n dX11_told_171 rfl rfl ?_
          refine g_getf (v := .int (nI m)) dX11_told_172 fX11_247 g_eq rfl ?_
          have ek : k_told (nI 7) = 0 := (by unfold k_told; (repeat' split) <;> first | rfl | (exfalso; simp only [i_lt, i_le, i_eq, it0, itm, ifp, nI_toInt (show 0 < 2147483648 by first | decide | omega), nI_toInt (show 1 < 2147483648 by first | decide | omega), nI_toInt (show 13 < 2147483648 by first | decide | omega), nI_toInt (show 12 < 2147483648 by first | decide | omega), nI_toInt (show 7 < 2147483648 by first | decide | omega)] at * <;> omega))
          exact e_i dX11_told_175 rfl rfl (g_fr.rf.up (by simp)) (Or.inr ⟨ek, by rw [un_nI (by decide)]; exact rfl, by rw [ek]; exact g_eq⟩) (by decide) (by decide)
        · refine g_tableIn (tgt := 176) dX11_told_68 (by decide) (by decide) rfl (by decide) ?_
          refine g_aload_n dX11_told_176 rfl rfl ?_
          refine g_getf (v := .int (nI mm)) dX11_told_177 fX11_250 g_eq rfl ?_
          have ek : k_told (nI 8) = 0 := (by unfold k_told; (repeat' split) <;> first | rfl | (exfalso; simp only [i_lt, i_le, i_eq, it0, itm, ifp, nI_toInt (show 0 < 2147483648 by first | decide | omega), nI_toInt (show 1 < 2147483648 by first | decide | omega), nI_toInt (show 13 < 2147483648 by first | decide | omega), nI_toInt (show 12 < 2147483648 by first | decide | omega), nI_toInt (show 8 < 2147483648 by first | decide | omega)] at * <;> omega))
          exact e_i dX11_told_180 rfl rfl (g_fr.rf.up (by simp)) (Or.inr ⟨ek, by rw [un_nI (by decide)]; exact rfl, by rw [ek]; exact g_eq⟩) (by decide) (by decide)
        · refine g_tableIn (tgt := 181) dX11_told_68 (by decide) (by decide) rfl (by decide) ?_
          refine g_iload_n dX11_told_181 rfl rfl ?_
          have ek : k_told (nI 9) = 0 := (by unfold k_told; (repeat' split) <;> first | rfl | (exfalso; simp only [i_lt, i_le, i_eq, it0, itm, ifp, nI_toInt (show 0 < 2147483648 by first | decide | omega), nI_toInt (show 1 < 2147483648 by first | decide | omega), nI_toInt (show 13 < 2147483648 by first | decide | omega), nI_toInt (show 12 < 2147483648 by first | decide | omega), nI_toInt (show 9 < 2147483648 by first | decide | omega)] at * <;> omega))
          exact e_i dX11_told_182 rfl rfl (g_fr.rf.up (by simp)) (Or.inr ⟨ek, by rw [un_nI (by decide)]; exact rfl, by rw [ek]; exact g_eq⟩) (by decide) (by decide)
        · refine g_tableIn (tgt := 183) dX11_told_68 (by decide) (by decide) rfl (by decide) ?_
          refine g_aload_n dX11_told_183 rfl rfl ?_
          refine g_getf (v := .int wt) dX11_told_184 fX11_70 g_eq rfl ?_
          have ek : k_told (nI 10) = 0 := (by unfold k_told; (repeat' split) <;> first | rfl | (exfalso; simp only [i_lt, i_le, i_eq, it0, itm, ifp, nI_toInt (show 0 < 2147483648 by first | decide | omega), nI_toInt (show 1 < 2147483648 by first | decide | omega), nI_toInt (show 13 < 2147483648 by first | decide | omega), nI_toInt (show 12 < 2147483648 by first | decide | omega), nI_toInt (show 10 < 2147483648 by first | decide | omega)] at * <;> omega))
          exact e_i dX11_told_187 rfl rfl (g_fr.rf.up (by simp)) (Or.inr ⟨ek, by rw [un_nI (by decide)]; exact rfl, by rw [ek]; exact g_eq⟩) (by decide) (by decide)
        · refine g_tableIn (tgt := 188) dX11_told_68 (by decide) (by decide) rfl (by decide) ?_
          refine g_aload_n dX11_told_188 rfl rfl ?_
          refine cVi (st := []) dX11_told_189 (c_mcad G d n ex _ (cd := nI 0) (s := s) (k := k) (m := m) (sg := sg) (cm := cm) (sd := sd) (mm := mm) (dr := dr) (dd := dd) (bk := bk) (rt := rt) (wt := wt) g_eq h6) sX11_296 g_eq rfl rfl (by simp only [g_rm]; omega) (by simp only [g_rm]; omega) (Nat.le_of_ble_eq_true rfl) ⟨Nat.le_of_ble_eq_true rfl, Nat.le_of_ble_eq_true rfl⟩ (fun r4 h1 fr2 p3 => ?_)
          cases g_fr0 fr2
          obtain ⟨K, rfl, hK⟩ := p3
          have ek : k_told (nI 11) = 0 := (by unfold k_told; (repeat' split) <;> first | rfl | (exfalso; simp only [i_lt, i_le, i_eq, it0, itm, ifp, nI_toInt (show 0 < 2147483648 by first | decide | omega), nI_toInt (show 1 < 2147483648 by first | decide | omega), nI_toInt (show 13 < 2147483648 by first | decide | omega), nI_toInt (show 12 < 2147483648 by first | decide | omega), nI_toInt (show 11 < 2147483648 by first | decide | omega)] at * <;> omega))
          exact e_i dX11_told_192 rfl rfl (g_fr.rf.up (by simp)) (Or.inr ⟨ek, by rw [un_nI (by decide)]; exact ⟨K, hK, rfl⟩, by rw [ek]; exact g_eq⟩) (by decide) (by decide)
        · refine g_tableIn (tgt := 193) dX11_told_68 (by decide) (by decide) rfl (by decide) ?_
          refine g_aload_n dX11_told_193 rfl rfl ?_
          refine g_getf (v := .int (nI rt)) dX11_told_194 fX11_311 g_eq rfl ?_
          refine g_if_eqN (tgt := 204) dX11_told_197 (by decide) (by omega) (fun c197 => ?_) (fun c197 => ?_)
          · refine g_iconst (v := nI 0) dX11_told_204 (by decide) ?_
            have ek : k_told (nI 12) = 0 := (by unfold k_told; (repeat' split) <;> first | rfl | (exfalso; simp only [i_lt, i_le, i_eq, it0, itm, ifp, nI_toInt (show 0 < 2147483648 by first | decide | omega), nI_toInt (show 1 < 2147483648 by first | decide | omega), nI_toInt (show 13 < 2147483648 by first | decide | omega), nI_toInt (show 12 < 2147483648 by first | decide | omega), nI_toInt (show 12 < 2147483648 by first | decide | omega)] at * <;> omega))
            exact e_i dX11_told_205 rfl rfl (g_fr.rf.up (by simp)) (Or.inr ⟨ek, by rw [un_nI (by decide)]; exact (by show nI 0 = nI rt; congr 1; omega), by rw [ek]; exact g_eq⟩) (by decide) (by decide)
          · refine g_iconst (v := nI 1) dX11_told_200 (by decide) ?_
            refine g_goto (tgt := 205) dX11_told_201 (by decide) ?_
            have ek : k_told (nI 12) = 0 := (by unfold k_told; (repeat' split) <;> first | rfl | (exfalso; simp only [i_lt, i_le, i_eq, it0, itm, ifp, nI_toInt (show 0 < 2147483648 by first | decide | omega), nI_toInt (show 1 < 2147483648 by first | decide | omega), nI_toInt (show 13 < 2147483648 by first | decide | omega), nI_toInt (show 12 < 2147483648 by first | decide | omega), nI_toInt (show 12 < 2147483648 by first | decide | omega)] at * <;> omega))
            exact e_i dX11_told_205 rfl rfl (g_fr.rf.up (by simp)) (Or.inr ⟨ek, by rw [un_nI (by decide)]; exact (by show nI 1 = nI rt; congr 1; omega), by rw [ek]; exact g_eq⟩) (by decide) (by decide)
      · exact absurd c59 (by decide)
    · refine g_iconst (v := nI 1) dX11_told_11 (by decide) ?_
      refine g_goto (tgt := 16) dX11_told_12 (by decide) ?_
      refine g_put (fs' := [.int (nI 1), .ref 143, .int (nI (s 4)), .int (nI (s 7)), .int (nI (s 8)), .ref 144, .int (nI (s 5)), .int (nI (s 6)), .ref 145, .int (nI (s 9)), .int (nI (s 10)), .int (nI (s 11)), .int (nI (s 12)), .ref 146, .int (nI k), .ref 147, .int (nI m), .int (nI sg), .int (nI cm), .int (nI sd), .ref 148, .ref 149, .ref 150, .ref 151, .int (nI mm), .ref 152, .ref 153, .ref 154, .int (nI dr), .int (nI dd), .int (nI bk), .int wt, .ref 155, .int (nI rt), .ref 156, .ref 157, .ref 158, .ref 159, .ref 160, .ref 161, .ref 162, .ref 163, .ref 164, .ref 165, .ref 166]) dX11_told_16 fX11_1 m0 (Nat.le_of_ble_eq_true rfl) rfl rfl rfl ?_
      refine g_iconst (v := nI 0) dX11_told_19 (by decide) ?_
      refine g_istore_n (ls' := [(2, .int (nI 0)), (0, .ref 142), (1, .int x)]) dX11_told_20 rfl (by decide) rfl ?_
      refine g_iconst (v := nI 0) dX11_told_21 (by decide) ?_
      refine g_istore_n (ls' := [(3, .int (nI 0)), (2, .int (nI 0)), (0, .ref 142), (1, .int x)]) dX11_told_22 rfl (by decide) rfl ?_
      refine g_pick [0, 1, 2, 3] (ls' := [(3, .int (nI 0)), (2, .int (nI 0)), (0, .ref 142), (1, .int x)]) rfl ?_
      refine lp_mtold G _ _ n ex _ (cd := nI 1) (s := s) (k := k) (m := m) (sg := sg) (cm := cm) (sd := sd) (mm := mm) (dr := dr) (dd := dd) (bk := bk) (rt := rt) (wt := wt) (sw := sw) g_eq (g_ne (by decide) a11) hmm ?_ (mm + 1) 0 (by omega) (by omega)
      refine g_aload_n dX11_told_55 rfl rfl ?_
      refine g_getf (v := .int (nI 1)) dX11_told_56 fX11_1 g_eq rfl ?_
      refine g_if_leN (tgt := 67) dX11_told_59 (by decide) (by decide) (fun c59 => ?_) (fun c59 => ?_)
      · exact absurd c59 (by decide)
      · refine g_bipush (v := nI 99) dX11_told_62 (by decide) ?_
        refine g_goto (tgt := 68) dX11_told_64 (by decide) ?_
        refine g_tableOut (tgt := 206) dX11_told_68 (by decide) (by decide) ?_
        refine g_iconst (v := nI 0) dX11_told_206 (by decide) ?_
        have ek : k_told x = 1 := (by have hu_x := un_b x; unfold k_told; (repeat' split) <;> first | rfl | (exfalso; simp only [i_lt, i_le, i_eq, it0, itm, ifp, nI_toInt (show 0 < 2147483648 by first | decide | omega), nI_toInt (show 1 < 2147483648 by first | decide | omega), nI_toInt (show 13 < 2147483648 by first | decide | omega), nI_toInt (show 12 < 2147483648 by first | decide | omega)] at * <;> omega))
        exact e_i dX11_told_207 rfl rfl (g_fr.rf.up (by simp)) (Or.inl ⟨by rw [ek]; decide, by rw [ek]; exact g_eq, g_fr.rf.up (by simp)⟩) (by decide) (by decide)
