theorem bit_nI (x : Int32) {i : Nat} (hi : i < 32) : ((x.toUInt32 >>> ((nI i).toUInt32 &&& Int32.toUInt32 31)).toInt32 &&& nI 1) = nI (un x / 2 ^ i % 2) := by
  have e1 : (x.toUInt32 >>> ((nI i).toUInt32 &&& Int32.toUInt32 31)).toInt32 = nI (un x / 2 ^ i) := by
    apply un_inj
    rw [un_nI (Nat.lt_of_le_of_lt (Nat.div_le_self _ _) (un_lt x))]
    exact pk_ushr x (nI i) i (s_u i hi)
  rw [e1, nx_and, Nat.and_one_is_mod]
/-- the coins that wait: c k is the k-th -/
def Co (h : gH) (c : Nat → Nat) (m : Nat) : Prop := ∃ (f0 : Nat) (rg : Nat → Nat), h 6 = some (.inr (0, [.ref 7, .int (nI f0), .int (nI m)])) ∧ h 7 = some (.inl (1, 4000, .inl (fun k => nI (rg k)))) ∧ f0 < 4000 ∧ m ≤ 4000 ∧ (∀ k, k < m → rg ((f0 + k) % 4000) = c k) ∧ ∀ k, rg k ≤ 1
theorem Co.cell {h : gH} {c : Nat → Nat} {m : Nat} (q : Co h c m) : ∃ fs, h 6 = some (.inr (0, fs)) := by obtain ⟨f0, rg, h1, -⟩ := q; exact ⟨_, h1⟩
theorem Co.fr {h h' : gH} {S : List Nat} {c : Nat → Nat} {m : Nat} (z : Co h c m) (hf : g_fr S h h') (h6 : 6 ∉ S) (h7 : 7 ∉ S) : Co h' c m := by
  obtain ⟨f0, rg, h1, h2, h3⟩ := z
  exact ⟨f0, rg, hf.at h6 h1, hf.at h7 h2, h3⟩
theorem Co.le {h : gH} {c : Nat → Nat} {m : Nat} (z : Co h c m) : m ≤ 4000 ∧ ∀ k, k < m → c k ≤ 1 := by
  obtain ⟨f0, rg, h1, h2, h3, h4, h5, h6⟩ := z
  exact ⟨h4, fun k hk => by rw [← h5 k hk]; exact h6 _⟩
theorem Co.cg {h : gH} {c c' : Nat → Nat} {m : Nat} (z : Co h c m) (hc : ∀ k, k < m → c k = c' k) : Co h c' m := by
  obtain ⟨f0, rg, h1, h2, h3, h4, h5, h6⟩ := z
  exact ⟨f0, rg, h1, h2, h3, h4, fun k hk => (h5 k hk).trans (hc k hk), h6⟩
set_option maxHeartbeats 4000000 in
set_option maxRecDepth 100000 in
theorem c_coEmpty (G : gG) (d n : Nat) (ex : Bool) (h : gH) {c : Nat → Nat} {m : Nat} (hc : Co h c m) : g_M G mX0_empty d 0 0 [.ref 6] n ex h (q_v n ex [6] h (fun h' => ∀ c, Co h' c 0)) := by
  obtain ⟨f0, rg, z1, z2, z3, z4, z5, z6⟩ := hc
  refine g_enter (by decide) (Nat.le_of_ble_eq_true rfl) ?_
  show g_W G _ _ _ n ex h 0 0 0 [(0, .ref 6)] []
  refine g_aload_n dX0_empty_0 rfl rfl ?_
  refine g_iconst (v := nI 0) dX0_empty_1 (by decide) ?_
  refine g_put (fs' := [.ref 7, .int (nI 0), .int (nI m)]) dX0_empty_2 fX0_15 z1 (Nat.le_of_ble_eq_true rfl) rfl rfl rfl ?_
  refine g_aload_n dX0_empty_5 rfl rfl ?_
  refine g_iconst (v := nI 0) dX0_empty_6 (by decide) ?_
  refine g_put (fs' := [.ref 7, .int (nI 0), .int (nI 0)]) dX0_empty_7 fX0_19 g_eq (Nat.le_of_ble_eq_true rfl) rfl rfl rfl ?_
  exact e_v dX0_empty_10 rfl ((g_fr.rf.up (by simp)).up (by simp)) (fun c => ⟨0, rg, g_eq, g_ne (by decide) (g_ne (by decide) z2), by decide, by decide, fun k hk => absurd hk (by omega), z6⟩) (by decide) (by decide)
/-- n coins more: the lowest n bits of x, the highest of them first; j of them are still to come -/
def ca (c : Nat → Nat) (m N : Nat) (x : Int32) : Nat → Nat := fun k => if k < m then c k else un x / 2 ^ (N - 1 - (k - m)) % 2
theorem ring_up {rg c : Nat → Nat} {f0 m b : Nat} (hm : m < 4000) (hf : f0 < 4000) (hI : ∀ k, k < m → rg ((f0 + k) % 4000) = c k) (hb : b = c m) : ∀ k, k < m + 1 → va_up rg ((f0 + m) % 4000) b ((f0 + k) % 4000) = c k := by
  intro k hk
  by_cases q : k = m
  · subst q; rw [va_s, hb]
  · rw [va_n (by omega)]
    exact hI k (by omega)
theorem up_le {rg : Nat → Nat} {i b : Nat} (h : ∀ k, rg k ≤ 1) (hb : b ≤ 1) : ∀ k, va_up rg i b k ≤ 1 := by
  intro k
  unfold va_up
  split
  · exact hb
  · exact h k
set_option maxHeartbeats 4000000 in
set_option maxRecDepth 100000 in
theorem lp_addCoins (G : gG) (R : Room) (n : Nat) (ex : Bool) (h0 : gH) {c : Nat → Nat} {m0 N f0 : Nat} {x : Int32} (hN : N ≤ 32) (hmN : m0 + N ≤ 4000) (hf0 : f0 < 4000) : ∀ (j m : Nat) (rg : Nat → Nat) (h : gH), m + j = m0 + N → j ≤ N → h 6 = some (.inr (0, [.ref 7, .int (nI f0), .int (nI m)])) → h 7 = some (.inl (1, 4000, .inl (fun k => nI (rg k)))) → (∀ k, k < m → rg ((f0 + k) % 4000) = ca c m0 N x k) → (∀ k, rg k ≤ 1) → g_fr [6, 7] h0 h →
    g_W G mX0_addCoins R (g_K G (q_i n ex [6, 7] h0 (fun r h' => r = nI (m0 + N) ∧ Co h' (ca c m0 N x) (m0 + N))) 0 0) n ex h 0 0 4 [(3, .int (nI j - nI 1)), (0, .ref 6), (1, .int x), (2, .int (nI N))] [] := by
  intro j
  induction j with
  | zero =>
    intro m rg h hm hj z1 z2 z5 z6 hf
    refine g_iload_n dX0_addCoins_4 rfl rfl ?_
    refine g_if_lt (tgt := 48) dX0_addCoins_5 (by decide) (fun c5 => ?_) (fun c5 => ?_)
    · refine g_aload_n dX0_addCoins_48 rfl rfl ?_
      refine g_getf dX0_addCoins_49 fX0_19 z1 rfl ?_
      have e : m = m0 + N := by omega
      subst e
      exact e_i dX0_addCoins_52 rfl rfl hf ⟨rfl, f0, rg, z1, z2, hf0, hmN, z5, z6⟩ (by decide) (by decide)
    · exact absurd (show nI 0 - nI 1 < 0 by decide) c5
  | succ j ih =>
    intro m rg h hm hj z1 z2 z5 z6 hf
    rw [nI_pr]
    have hb2 : un x / 2 ^ j % 2 < 2 := Nat.mod_lt _ (by decide)
    refine g_iload_n dX0_addCoins_4 rfl rfl ?_
    refine g_if_ltN (tgt := 48) dX0_addCoins_5 (by decide) (by omega) (fun c5 => ?_) (fun c5 => ?_)
    · exact c5.elim
    · refine g_aload_n dX0_addCoins_8 rfl rfl ?_
      refine g_getf dX0_addCoins_9 fX0_9 z1 rfl ?_
      refine g_aload_n dX0_addCoins_12 rfl rfl ?_
      refine g_getf dX0_addCoins_13 fX0_15 z1 rfl ?_
      refine g_aload_n dX0_addCoins_16 rfl rfl ?_
      refine g_getf dX0_addCoins_17 fX0_19 z1 rfl ?_
      refine g_iaddN dX0_addCoins_20 ?_
      refine g_sipush (v := nI 4000) dX0_addCoins_21 (by decide) ?_
      refine g_iremN dX0_addCoins_24 (by omega) (by omega) (by omega) ?_
      refine g_iload_n dX0_addCoins_25 rfl rfl ?_
      refine g_iload_n dX0_addCoins_26 rfl rfl ?_
      refine g_iushr dX0_addCoins_27 ?_
      refine g_iconst (v := nI 1) dX0_addCoins_28 (by decide) ?_
      refine g_iand dX0_addCoins_29 ?_
      refine g_top (show ((x.toUInt32 >>> ((nI j).toUInt32 &&& Int32.toUInt32 31)).toInt32) &&& (nI 1) = nI (un x / 2 ^ j % 2) from bit_nI x (by omega)) ?_
      refine g_i2b dX0_addCoins_30 ?_
      refine g_top (show (nI (un x / 2 ^ j % 2)).toInt8.toInt32 = nI (un x / 2 ^ j % 2) from i2b_nI (by omega)) ?_
      refine g_bastN dX0_addCoins_31 z2 (Nat.mod_lt _ (by decide)) (by decide) ?_
      rw [nar_b (by omega), upd_nI]
      refine g_aload_n dX0_addCoins_32 rfl rfl ?_
      refine g_dup dX0_addCoins_33 rfl ?_
      refine g_getf dX0_addCoins_34 fX0_19 (g_ne (by decide) z1) rfl ?_
      refine g_iconst (v := nI 1) dX0_addCoins_37 (by decide) ?_
      refine g_iaddN dX0_addCoins_38 ?_
      refine g_put (fs' := [.ref 7, .int (nI f0), .int (nI (m + 1))]) dX0_addCoins_39 fX0_19 (g_ne (by decide) z1) (Nat.le_of_ble_eq_true rfl) rfl rfl rfl ?_
      refine g_iinc (v := nI j - nI 1) (ls' := [(3, .int (nI j - nI 1)), (0, .ref 6), (1, .int x), (2, .int (nI N))]) dX0_addCoins_42 rfl (nI_dec _) (by decide) rfl ?_
      refine g_goto (tgt := 4) dX0_addCoins_45 (by decide) ?_
      refine g_pick [0, 1, 2, 3] (ls' := [(3, .int (nI j - nI 1)), (0, .ref 6), (1, .int x), (2, .int (nI N))]) rfl ?_
      exact ih (m + 1) _ _ (by omega) (by omega) g_eq (g_ne (by decide) g_eq) (ring_up (by omega) hf0 z5 (by unfold ca; rw [if_neg (by omega), show N - 1 - (m - m0) = j by omega])) (up_le z6 (by omega)) ((hf.up (by simp)).up (by simp))
set_option maxHeartbeats 4000000 in
set_option maxRecDepth 100000 in
theorem c_addCoins (G : gG) (d n : Nat) (ex : Bool) (h : gH) {c : Nat → Nat} {m0 N : Nat} {x : Int32} (hc : Co h c m0) (hN : N ≤ 32) (hmN : m0 + N ≤ 4000) : g_M G mX0_addCoins d 0 0 [.ref 6, .int x, .int (nI N)] n ex h (q_i n ex [6, 7] h (fun r h' => r = nI (m0 + N) ∧ Co h' (ca c m0 N x) (m0 + N))) := by
  obtain ⟨f0, rg, z1, z2, z3, z4, z5, z6⟩ := hc
  refine g_enter (by decide) (Nat.le_of_ble_eq_true rfl) ?_
  show g_W G _ _ _ n ex h 0 0 0 [(0, .ref 6), (1, .int x), (2, .int (nI N))] []
  refine g_iload_n dX0_addCoins_0 rfl rfl ?_
  refine g_iconst (v := nI 1) dX0_addCoins_1 (by decide) ?_
  refine g_isub dX0_addCoins_2 ?_
  refine g_istore_n (ls' := [(3, .int ((nI N) - (nI 1))), (0, .ref 6), (1, .int x), (2, .int (nI N))]) dX0_addCoins_3 rfl (by decide) rfl ?_
  refine g_pick [0, 1, 2, 3] (ls' := [(3, .int ((nI N) - (nI 1))), (0, .ref 6), (1, .int x), (2, .int (nI N))]) rfl ?_
  exact lp_addCoins G _ n ex h hN hmN z3 N m0 rg h rfl (Nat.le_refl _) z1 z2 (fun k hk => by unfold ca; rw [if_pos hk]; exact z5 k hk) z6 g_fr.rf
def tk (c : Nat → Nat) : Nat → Nat
  | 0 => 0
  | i + 1 => tk c i * 2 + c i
theorem tk_lt {c : Nat → Nat} {n : Nat} (h : ∀ k, k < n → c k ≤ 1) : tk c n < 2 ^ n := by
  induction n with
  | zero => exact Nat.two_pow_pos 0
  | succ n ih =>
    have h1 := ih (fun k hk => h k (by omega))
    have h2 := h n (by omega)
    show tk c n * 2 + c n < 2 ^ (n + 1)
    rw [Nat.pow_succ]
    omega
set_option maxHeartbeats 4000000 in
set_option maxRecDepth 100000 in
theorem lp_take (G : gG) (R : Room) (n : Nat) (ex : Bool) (h0 : gH) {c rg : Nat → Nat} {m N f0 : Nat} (hm : m ≤ 4000) (hN : N ≤ m) (z5 : ∀ k, k < m → rg ((f0 + k) % 4000) = c k) (z6 : ∀ k, rg k ≤ 1) : ∀ (t i : Nat) (h : gH), N - i < t → i ≤ N → h 6 = some (.inr (0, [.ref 7, .int (nI ((f0 + i) % 4000)), .int (nI m)])) → h 7 = some (.inl (1, 4000, .inl (fun k => nI (rg k)))) → g_fr [6] h0 h →
    g_W G mX0_take R (g_K G (q_i n ex [6] h0 (fun r h' => r = nI (tk c N) ∧ Co h' (fun k => c (k + N)) (m - N))) 0 0) n ex h 0 0 4 [(3, .int (nI i)), (2, .int (nI (tk c i))), (0, .ref 6), (1, .int (nI N))] [] := by
  intro t
  induction t with
  | zero => intro i h ht; exact absurd ht (by omega)
  | succ t ih =>
    intro i h ht hi z1 z2 hf
    refine g_iload_n dX0_take_4 rfl rfl ?_
    refine g_iload_n dX0_take_5 rfl rfl ?_
    refine g_icmp_geN (tgt := 43) dX0_take_6 (by decide) (by omega) (by omega) (fun c6 => ?_) (fun c6 => ?_)
    · refine g_aload_n dX0_take_43 rfl rfl ?_
      refine g_dup dX0_take_44 rfl ?_
      refine g_getf dX0_take_45 fX0_19 z1 rfl ?_
      refine g_iload_n dX0_take_48 rfl rfl ?_
      refine g_isubN dX0_take_49 (by omega) ?_
      refine g_put (fs' := [.ref 7, .int (nI ((f0 + i) % 4000)), .int (nI (m - N))]) dX0_take_50 fX0_19 z1 (Nat.le_of_ble_eq_true rfl) rfl rfl rfl ?_
      refine g_iload_n dX0_take_53 rfl rfl ?_
      have e : N = i := by omega
      subst e
      exact e_i dX0_take_54 rfl rfl (hf.up (by simp)) ⟨rfl, (f0 + N) % 4000, rg, g_eq, g_ne (by decide) z2, Nat.mod_lt _ (by decide), by omega, fun k hk => by rw [show ((f0 + N) % 4000 + k) % 4000 = (f0 + (k + N)) % 4000 by omega]; exact z5 _ (by omega), z6⟩ (by decide) (by decide)
    · refine g_iload_n dX0_take_9 rfl rfl ?_
      refine g_iconst (v := nI 2) dX0_take_10 (by decide) ?_
      refine g_imulN dX0_take_11 ?_
      refine g_aload_n dX0_take_12 rfl rfl ?_
      refine g_getf dX0_take_13 fX0_9 z1 rfl ?_
      refine g_aload_n dX0_take_16 rfl rfl ?_
      refine g_getf dX0_take_17 fX0_15 z1 rfl ?_
      refine g_baldN dX0_take_20 z2 (Nat.mod_lt _ (by decide)) (by decide) ?_
      refine g_iaddN dX0_take_21 ?_
      refine g_istore_n (ls' := [(2, .int (nI (((tk c i) * 2) + (rg ((f0 + i) % 4000))))), (3, .int (nI i)), (0, .ref 6), (1, .int (nI N))]) dX0_take_22 rfl (by decide) rfl ?_
      refine g_aload_n dX0_take_23 rfl rfl ?_
      refine g_aload_n dX0_take_24 rfl rfl ?_
      refine g_getf dX0_take_25 fX0_15 z1 rfl ?_
      refine g_iconst (v := nI 1) dX0_take_28 (by decide) ?_
      refine g_iaddN dX0_take_29 ?_
      refine g_sipush (v := nI 4000) dX0_take_30 (by decide) ?_
      refine g_iremN dX0_take_33 (by omega) (by omega) (by omega) ?_
      refine g_put (fs' := [.ref 7, .int (nI ((((f0 + i) % 4000) + 1) % 4000)), .int (nI m)]) dX0_take_34 fX0_15 z1 (Nat.le_of_ble_eq_true rfl) rfl rfl rfl ?_
      refine g_iincN (z := 1) (ls' := [(3, .int (nI (i + 1))), (2, .int (nI (((tk c i) * 2) + (rg ((f0 + i) % 4000))))), (0, .ref 6), (1, .int (nI N))]) dX0_take_37 rfl (by decide) rfl ?_
      refine g_goto (tgt := 4) dX0_take_40 (by decide) ?_
      refine g_pick [0, 1, 2, 3] (ls' := [(3, .int (nI (i + 1))), (2, .int (nI (((tk c i) * 2) + (rg ((f0 + i) % 4000))))), (0, .ref 6), (1, .int (nI N))]) rfl ?_
      rw [show tk c i * 2 + rg ((f0 + i) % 4000) = tk c (i + 1) by show _ = tk c i * 2 + c i; rw [z5 i (by omega)]]
      exact ih (i + 1) _ (by omega) (by omega) (by rw [show (f0 + (i + 1)) % 4000 = ((f0 + i) % 4000 + 1) % 4000 by omega]; exact g_eq) (g_ne (by decide) z2) (hf.up (by simp))
set_option maxHeartbeats 4000000 in
set_option maxRecDepth 100000 in
theorem c_take (G : gG) (d n : Nat) (ex : Bool) (h : gH) {c : Nat → Nat} {m N : Nat} (hc : Co h c m) (hN : N ≤ m) : g_M G mX0_take d 0 0 [.ref 6, .int (nI N)] n ex h (q_i n ex [6] h (fun r h' => r = nI (tk c N) ∧ Co h' (fun k => c (k + N)) (m - N))) := by
  obtain ⟨f0, rg, z1, z2, z3, z4, z5, z6⟩ := hc
  refine g_enter (by decide) (Nat.le_of_ble_eq_true rfl) ?_
  show g_W G _ _ _ n ex h 0 0 0 [(0, .ref 6), (1, .int (nI N))] []
  refine g_iconst (v := nI 0) dX0_take_0 (by decide) ?_
  refine g_istore_n (ls' := [(2, .int (nI 0)), (0, .ref 6), (1, .int (nI N))]) dX0_take_1 rfl (by decide) rfl ?_
  refine g_iconst (v := nI 0) dX0_take_2 (by decide) ?_
  refine g_istore_n (ls' := [(3, .int (nI 0)), (2, .int (nI 0)), (0, .ref 6), (1, .int (nI N))]) dX0_take_3 rfl (by decide) rfl ?_
  refine g_pick [0, 1, 2, 3] (ls' := [(3, .int (nI 0)), (2, .int (nI 0)), (0, .ref 6), (1, .int (nI N))]) rfl ?_
  exact lp_take G _ n ex h z4 hN z5 z6 (N + 1) 0 h (by omega) (by omega) (by rw [Nat.add_zero, Nat.mod_eq_of_lt z3]; exact z1) z2 g_fr.rf
/-- the full count: votes, told or not, how many, right -/
def Fc (h : gH) (fv ft : Nat → Nat) (m r : Nat) : Prop := h 120 = some (.inr (3, [.ref 121, .ref 122, .int (nI m), .int (nI r)])) ∧ h 121 = some (.inl (0, 8, .inl (fun k => nI (fv k)))) ∧ h 122 = some (.inl (2, 8, .inl (fun k => nI (ft k))))
theorem Fc.fr {h h' : gH} {S : List Nat} {fv ft : Nat → Nat} {m r : Nat} (z : Fc h fv ft m r) (hf : g_fr S h h') (h0 : 120 ∉ S) (h1 : 121 ∉ S) (h2 : 122 ∉ S) : Fc h' fv ft m r := ⟨hf.at h0 z.1, hf.at h1 z.2.1, hf.at h2 z.2.2⟩
def fe (ft : Nat → Nat) (i : Nat) : Nat → Nat := fun c => if c < i then 0 else ft c
theorem fe_0 (ft : Nat → Nat) : fe ft 0 = ft := by funext c; exact if_neg (by omega)
theorem fe_s (ft : Nat → Nat) (i : Nat) : va_up (fe ft i) i 0 = fe ft (i + 1) := by
  funext c
  unfold va_up
  by_cases q : c = i
  · rw [if_pos q]; exact (if_pos (show c < i + 1 by omega)).symm
  · rw [if_neg q]
    by_cases z : c < i
    · exact (if_pos z).trans (if_pos (show c < i + 1 by omega)).symm
    · exact (if_neg z).trans (if_neg (show ¬ c < i + 1 by omega)).symm
set_option maxHeartbeats 4000000 in
set_option maxRecDepth 100000 in
theorem lp_fcEmpty (G : gG) (R : Room) (n : Nat) (ex : Bool) (h0 : gH) {fv ft : Nat → Nat} : ∀ (t i : Nat) (h : gH), 8 - i < t → i ≤ 8 → Fc h fv (fe ft i) 0 0 → g_fr [120, 122] h0 h →
    g_W G mX3_empty R (g_K G (q_v n ex [120, 122] h0 (fun h' => Fc h' fv (fe ft 8) 0 0)) 0 0) n ex h 0 0 12 [(1, .int (nI i)), (0, .ref 120)] [] := by
  intro t
  induction t with
  | zero => intro i h ht; exact absurd ht (by omega)
  | succ t ih =>
    intro i h ht hi hF hf
    obtain ⟨z1, z2, z3⟩ := hF
    refine g_iload_n dX3_empty_12 rfl rfl ?_
    refine g_bipush (v := nI 8) dX3_empty_13 (by decide) ?_
    refine g_icmp_geN (tgt := 31) dX3_empty_15 (by decide) (by omega) (by omega) (fun c15 => ?_) (fun c15 => ?_)
    · have e : i = 8 := by omega
      subst e
      exact e_v dX3_empty_31 rfl hf ⟨z1, z2, z3⟩ (by decide) (by decide)
    · refine g_aload_n dX3_empty_18 rfl rfl ?_
      refine g_getf dX3_empty_19 fX3_15 z1 rfl ?_
      refine g_iload_n dX3_empty_22 rfl rfl ?_
      refine g_iconst (v := nI 0) dX3_empty_23 (by decide) ?_
      refine g_zastN dX3_empty_24 z3 (by omega) (by decide) ?_
      rw [nar_z (by omega), upd_nI]
      refine g_iincN (z := 1) (ls' := [(1, .int (nI (i + 1))), (0, .ref 120)]) dX3_empty_25 rfl (by decide) rfl ?_
      refine g_goto (tgt := 12) dX3_empty_28 (by decide) ?_
      refine g_pick [0, 1] (ls' := [(1, .int (nI (i + 1))), (0, .ref 120)]) rfl ?_
      exact ih (i + 1) _ (by omega) (by omega) ⟨g_ne (by decide) z1, g_ne (by decide) z2, by rw [← fe_s]; exact g_eq⟩ (hf.up (by simp))
set_option maxHeartbeats 4000000 in
set_option maxRecDepth 100000 in
theorem c_fcEmpty (G : gG) (d n : Nat) (ex : Bool) (h : gH) {fv ft : Nat → Nat} {m r : Nat} (hF : Fc h fv ft m r) : g_M G mX3_empty d 0 0 [.ref 120] n ex h (q_v n ex [120, 122] h (fun h' => Fc h' fv (fe ft 8) 0 0)) := by
  obtain ⟨z1, z2, z3⟩ := hF
  refine g_enter (by decide) (Nat.le_of_ble_eq_true rfl) ?_
  show g_W G _ _ _ n ex h 0 0 0 [(0, .ref 120)] []
  refine g_aload_n dX3_empty_0 rfl rfl ?_
  refine g_iconst (v := nI 0) dX3_empty_1 (by decide) ?_
  refine g_put (fs' := [.ref 121, .ref 122, .int (nI 0), .int (nI r)]) dX3_empty_2 fX3_19 z1 (Nat.le_of_ble_eq_true rfl) rfl rfl rfl ?_
  refine g_aload_n dX3_empty_5 rfl rfl ?_
  refine g_iconst (v := nI 0) dX3_empty_6 (by decide) ?_
  refine g_put (fs' := [.ref 121, .ref 122, .int (nI 0), .int (nI 0)]) dX3_empty_7 fX3_23 g_eq (Nat.le_of_ble_eq_true rfl) rfl rfl rfl ?_
  refine g_iconst (v := nI 0) dX3_empty_10 (by decide) ?_
  refine g_istore_n (ls' := [(1, .int (nI 0)), (0, .ref 120)]) dX3_empty_11 rfl (by decide) rfl ?_
  refine g_pick [0, 1] (ls' := [(1, .int (nI 0)), (0, .ref 120)]) rfl ?_
  exact lp_fcEmpty G _ n ex h 9 0 _ (by omega) (by omega) ⟨g_eq, g_ne (by decide) (g_ne (by decide) z2), by rw [fe_0]; exact g_ne (by decide) (g_ne (by decide) z3)⟩ ((g_fr.rf.up (by simp)).up (by simp))
set_option maxHeartbeats 4000000 in
set_option maxRecDepth 100000 in
theorem c_tell (G : gG) (d n : Nat) (ex : Bool) (h : gH) {fv ft : Nat → Nat} {m r c x : Nat} (hF : Fc h fv ft m r) (hc : c < 8) (hft : ∀ k, ft k < 2 ^ 31) : g_M G mX3_tell d 0 0 [.ref 120, .int (nI c), .int (nI x)] n ex h (q_v n ex [120, 121, 122] h (fun h' => (ft c = 0 ∧ Fc h' (va_up fv c x) (va_up ft c 1) (m + 1) r) ∨ (¬ ft c = 0 ∧ Fc h' (va_up fv c x) ft m r))) := by
  obtain ⟨z1, z2, z3⟩ := hF
  refine g_enter (by decide) (Nat.le_of_ble_eq_true rfl) ?_
  show g_W G _ _ _ n ex h 0 0 0 [(0, .ref 120), (1, .int (nI c)), (2, .int (nI x))] []
  refine g_aload_n dX3_tell_0 rfl rfl ?_
  refine g_getf dX3_tell_1 fX3_15 z1 rfl ?_
  refine g_iload_n dX3_tell_4 rfl rfl ?_
  refine g_zaldN dX3_tell_5 z3 (by omega) (by decide) ?_
  refine g_if_neN (tgt := 26) dX3_tell_6 (by decide) (hft _) (fun c6 => ?_) (fun c6 => ?_)
  · refine g_aload_n dX3_tell_26 rfl rfl ?_
    refine g_getf dX3_tell_27 fX3_9 z1 rfl ?_
    refine g_iload_n dX3_tell_30 rfl rfl ?_
    refine g_iload_n dX3_tell_31 rfl rfl ?_
    refine g_iastN dX3_tell_32 z2 (by omega) (by decide) ?_
    rw [upd_nI]
    exact e_v dX3_tell_33 rfl (g_fr.rf.up (by simp)) (by first | exact Or.inl ⟨c6, ⟨g_ne (by decide) z1, g_eq, g_ne (by decide) z3⟩⟩ | exact Or.inr ⟨c6, ⟨g_ne (by decide) z1, g_eq, g_ne (by decide) z3⟩⟩) (by decide) (by decide)
  · refine g_aload_n dX3_tell_9 rfl rfl ?_
    refine g_getf dX3_tell_10 fX3_15 z1 rfl ?_
    refine g_iload_n dX3_tell_13 rfl rfl ?_
    refine g_iconst (v := nI 1) dX3_tell_14 (by decide) ?_
    refine g_zastN dX3_tell_15 z3 (by omega) (by decide) ?_
    rw [nar_z (by decide), upd_nI]
    refine g_aload_n dX3_tell_16 rfl rfl ?_
    refine g_dup dX3_tell_17 rfl ?_
    refine g_getf dX3_tell_18 fX3_19 (g_ne (by decide) z1) rfl ?_
    refine g_iconst (v := nI 1) dX3_tell_21 (by decide) ?_
    refine g_iaddN dX3_tell_22 ?_
    refine g_put (fs' := [.ref 121, .ref 122, .int (nI (m + 1)), .int (nI r)]) dX3_tell_23 fX3_19 (g_ne (by decide) z1) (Nat.le_of_ble_eq_true rfl) rfl rfl rfl ?_
    refine g_aload_n dX3_tell_26 rfl rfl ?_
    refine g_getf dX3_tell_27 fX3_9 g_eq rfl ?_
    refine g_iload_n dX3_tell_30 rfl rfl ?_
    refine g_iload_n dX3_tell_31 rfl rfl ?_
    refine g_iastN dX3_tell_32 (g_ne (by decide) (g_ne (by decide) z2)) (by omega) (by decide) ?_
    rw [upd_nI]
    exact e_v dX3_tell_33 rfl (((g_fr.rf.up (by simp)).up (by simp)).up (by simp)) (by first | exact Or.inl ⟨c6, ⟨g_ne (by decide) g_eq, g_eq, g_ne (by decide) (g_ne (by decide) g_eq)⟩⟩ | exact Or.inr ⟨c6, ⟨g_ne (by decide) g_eq, g_eq, g_ne (by decide) (g_ne (by decide) g_eq)⟩⟩) (by decide) (by decide)
set_option maxHeartbeats 4000000 in
set_option maxRecDepth 100000 in
theorem c_votesOf (G : gG) (d n : Nat) (ex : Bool) (h : gH) {fv ft : Nat → Nat} {m r c : Nat} (hF : Fc h fv ft m r) (hc : c < 8) (hft : ∀ k, ft k < 2 ^ 31) : g_M G mX3_votesOf d 0 0 [.ref 120, .int (nI c)] n ex h (q_i n ex [] h (fun r _ => r = if ft c = 0 then -1 else nI (fv c))) := by
  obtain ⟨z1, z2, z3⟩ := hF
  refine g_enter (by decide) (Nat.le_of_ble_eq_true rfl) ?_
  show g_W G _ _ _ n ex h 0 0 0 [(0, .ref 120), (1, .int (nI c))] []
  refine g_aload_n dX3_votesOf_0 rfl rfl ?_
  refine g_getf dX3_votesOf_1 fX3_15 z1 rfl ?_
  refine g_iload_n dX3_votesOf_4 rfl rfl ?_
  refine g_zaldN dX3_votesOf_5 z3 (by omega) (by decide) ?_
  refine g_if_eqN (tgt := 18) dX3_votesOf_6 (by decide) (hft _) (fun c6 => ?_) (fun c6 => ?_)
  · refine g_iconst (v := -1) dX3_votesOf_18 (by decide) ?_
    exact e_i dX3_votesOf_19 rfl rfl g_fr.rf (by first | rw [if_pos c6] | rw [if_neg c6]) (by decide) (by decide)
  · refine g_aload_n dX3_votesOf_9 rfl rfl ?_
    refine g_getf dX3_votesOf_10 fX3_9 z1 rfl ?_
    refine g_iload_n dX3_votesOf_13 rfl rfl ?_
    refine g_ialdN dX3_votesOf_14 z2 (by omega) (by decide) ?_
    refine g_goto (tgt := 19) dX3_votesOf_15 (by decide) ?_
    exact e_i dX3_votesOf_19 rfl rfl g_fr.rf (by first | rw [if_pos c6] | rw [if_neg c6]) (by decide) (by decide)
