theorem ush_nI (x : Int32) {i : Nat} (hi : i < 32) : (x.toUInt32 >>> ((nI i).toUInt32 &&& Int32.toUInt32 31)).toInt32 = nI (un x / 2 ^ i) := by
  apply un_inj
  rw [un_nI (Nat.lt_of_le_of_lt (Nat.div_le_self _ _) (un_lt x))]
  exact pk_ushr x (nI i) i (s_u i hi)
theorem byte_nI (x : Int32) {i : Nat} (hi : i < 32) : ((x.toUInt32 >>> ((nI i).toUInt32 &&& Int32.toUInt32 31)).toInt32 &&& nI 255) = nI (un x / 2 ^ i % 256) := by
  rw [ush_nI x hi, nx_and]
  congr 1
  exact Nat.and_two_pow_sub_one_eq_mod _ 8
/-- the i-th byte of words -/
def bh (f : Nat → Int32) (i : Nat) : Nat := un (f (i / 4)) / 2 ^ (24 - 8 * (i % 4)) % 256
/-- words as one number, the first highest -/
def hv (f : Nat → Int32) : Nat → Nat
  | 0 => 0
  | i + 1 => hv f i * 4294967296 + un (f i)
theorem hv_congr {f g : Nat → Int32} {i : Nat} (h : ∀ k, k < i → f k = g k) : hv f i = hv g i := by
  induction i with
  | zero => rfl
  | succ i ih => show hv f i * _ + _ = hv g i * _ + _; rw [ih (fun k hk => h k (by omega)), h i (by omega)]
set_option maxHeartbeats 4000000 in
set_option maxRecDepth 100000 in
theorem c_byteOfHash (G : gG) (d n : Nat) (ex : Bool) (h : gH) {k i : Nat} {g : Nat → Int32} (s1 : h 8 = some (.inr (6, [.ref 9, .ref 10, .ref 11, .int (nI k)]))) (s4 : h 11 = some (.inl (0, 8, .inl g))) (hi : i < 32) : g_M G mX6_byteOfHash (d + 1) 0 0 [.ref 8, .int (nI i)] n ex h (q_i n ex [] h (fun r _ => r = nI (bh g i))) := by
  refine g_enter (by decide) (Nat.le_of_ble_eq_true rfl) ?_
  show g_W G _ _ _ n ex h 0 0 0 [(0, .ref 8), (1, .int (nI i))] []
  refine g_aload_n dX6_byteOfHash_0 rfl rfl ?_
  refine g_getf dX6_byteOfHash_1 fX6_18 s1 rfl ?_
  refine g_iload_n dX6_byteOfHash_4 rfl rfl ?_
  refine g_iconst (v := nI 2) dX6_byteOfHash_5 (by decide) ?_
  refine g_ishr dX6_byteOfHash_6 ?_
  refine g_top (show (nI i) >>> ((nI 2) &&& 31) = nI (i / 4) from (sm_shr i (by omega))) ?_
  refine g_ialdN dX6_byteOfHash_7 s4 (by omega) (by decide) ?_
  refine g_iload_n dX6_byteOfHash_8 rfl rfl ?_
  refine cSi (st := [.int (g (i / 4))]) dX6_byteOfHash_9 (c_shiftOf G d n ex h (p := i) (by omega)) sX6_31 rfl (by simp only [g_rm]; omega) (by simp only [g_rm]; omega) (Nat.le_of_ble_eq_true rfl) ⟨Nat.le_of_ble_eq_true rfl, Nat.le_of_ble_eq_true rfl⟩ (fun r4 h1 fr2 p3 => ?_)
  cases g_fr0 fr2
  subst p3
  refine g_iushr dX6_byteOfHash_12 ?_
  refine g_sipush (v := nI 255) dX6_byteOfHash_13 (by decide) ?_
  refine g_iand dX6_byteOfHash_16 ?_
  refine g_top (show (((g (i / 4)).toUInt32 >>> ((nI (24 - 8 * (i % 4))).toUInt32 &&& Int32.toUInt32 31)).toInt32) &&& (nI 255) = nI (bh g i) from (byte_nI _ (by omega))) ?_
  exact e_i dX6_byteOfHash_17 rfl rfl g_fr.rf rfl (by decide) (by decide)
theorem hv_s {g : Nat → Int32} {i N : Nat} : (hv g i % N * 4294967296 + un (g i)) % N = hv g (i + 1) % N := by
  show _ = (hv g i * 4294967296 + un (g i)) % N
  rw [Nat.add_mod, Nat.mul_mod, Nat.mod_mod, ← Nat.mul_mod, ← Nat.add_mod]
set_option maxHeartbeats 4000000 in
set_option maxRecDepth 100000 in
theorem lp_ballot (G : gG) (R : Room) (n : Nat) (ex : Bool) (h0 h : gH) {dg : Nat → Nat} {k num N : Nat} {g : Nat → Int32} (hN1 : 1 ≤ N) (hN2 : N ≤ 20000) (hS : Sd h dg k) (s1 : h 8 = some (.inr (6, [.ref 9, .ref 10, .ref 11, .int (nI k)]))) (s4 : h 11 = some (.inl (0, 8, .inl g))) (hg : ∀ i, i < 8 → g i = shaO dg k num i) (hfr : g_fr [10, 11] h0 h) : ∀ (t i : Nat), 8 - i < t → i ≤ 8 →
    g_W G mX6_ballotOfDraw R (g_K G (q_i n ex [10, 11] h0 (fun r h' => r = nI (hv (shaO dg k num) 8 % N) ∧ Sd h' dg k)) 0 0) n ex h 0 0 17 [(5, .int (nI i)), (3, .long (lN (hv g i % N))), (0, .ref 8), (2, .int (nI N))] [] := by
  intro t
  induction t with
  | zero => intro i hm; exact absurd hm (by omega)
  | succ t ih =>
    intro i ht hi
    refine g_iload dX6_ballotOfDraw_17 rfl ?_
    refine g_aload_n dX6_ballotOfDraw_19 rfl rfl ?_
    refine g_getf dX6_ballotOfDraw_20 fX6_18 s1 rfl ?_
    refine g_aleni dX6_ballotOfDraw_23 (by decide) s4 ?_
    refine g_icmp_geN (tgt := 54) dX6_ballotOfDraw_24 (by decide) (by omega) (by decide) (fun c24 => ?_) (fun c24 => ?_)
    · refine g_lload_n dX6_ballotOfDraw_54 rfl rfl ?_
      refine g_l2iN dX6_ballotOfDraw_55 ?_
      have e : i = 8 := by omega
      subst e
      exact e_i dX6_ballotOfDraw_56 rfl rfl hfr ⟨by rw [hv_congr hg], hS⟩ (by decide) (by decide)
    · have hmod : hv g i % N < N := Nat.mod_lt _ (by omega)
      have hun := un_lt (g i)
      refine g_lload_n dX6_ballotOfDraw_27 rfl rfl ?_
      refine g_bipush (v := nI 32) dX6_ballotOfDraw_28 (by decide) ?_
      refine g_lshl dX6_ballotOfDraw_30 ?_
      refine g_topl (show (lN (hv g i % N)) <<< ((nI 32).toInt64 &&& 63) = lN (hv g i % N * 4294967296) from (wb_shl _ (k := 32) (by decide))) ?_
      refine g_aload_n dX6_ballotOfDraw_31 rfl rfl ?_
      refine g_getf dX6_ballotOfDraw_32 fX6_18 s1 rfl ?_
      refine g_iload dX6_ballotOfDraw_35 rfl ?_
      refine g_ialdN dX6_ballotOfDraw_37 s4 (by omega) (by decide) ?_
      refine g_i2l dX6_ballotOfDraw_38 ?_
      refine g_ldc2 dX6_ballotOfDraw_39 kX6_29 rfl ?_
      refine g_topl (show (4294967295 : Int64) = lN 4294967295 by decide) ?_
      refine g_land dX6_ballotOfDraw_42 ?_
      refine g_topl (show ((g i).toInt64) &&& (lN 4294967295) = lN (un (g i)) from (un_mask _)) ?_
      refine g_lor dX6_ballotOfDraw_43 ?_
      refine g_topl (show (lN (hv g i % N * 4294967296)) ||| (lN (un (g i))) = lN (hv g i % N * 4294967296 + un (g i)) from (g_or (k := 32) (by decide) (un_lt _) (by omega))) ?_
      refine g_iload_n dX6_ballotOfDraw_44 rfl rfl ?_
      refine g_i2lN dX6_ballotOfDraw_45 (by omega) ?_
      refine g_lremN dX6_ballotOfDraw_46 (by omega) (by omega) (by omega) ?_
      refine g_lstore_n (ls' := [(3, .long (lN ((hv g i % N * 4294967296 + un (g i)) % N))), (5, .int (nI i)), (0, .ref 8), (2, .int (nI N))]) dX6_ballotOfDraw_47 rfl (by decide) rfl ?_
      refine g_iincN (z := 1) (ls' := [(5, .int (nI (i + 1))), (3, .long (lN ((hv g i % N * 4294967296 + un (g i)) % N))), (0, .ref 8), (2, .int (nI N))]) dX6_ballotOfDraw_48 rfl (by decide) rfl ?_
      refine g_goto (tgt := 17) dX6_ballotOfDraw_51 (by decide) ?_
      refine g_pick [0, 1, 2, 3] (ls' := [(5, .int (nI (i + 1))), (3, .long (lN ((hv g i % N * 4294967296 + un (g i)) % N))), (0, .ref 8), (2, .int (nI N))]) rfl ?_
      rw [hv_s]
      exact ih (i + 1) (by omega) (by omega)
set_option maxHeartbeats 4000000 in
set_option maxRecDepth 100000 in
theorem c_ballotOfDraw (G : gG) (d n : Nat) (ex : Bool) (h : gH) {dg : Nat → Nat} {k num N : Nat} (hk : k ≤ 20) (hdg : ∀ i, dg i < 2 ^ 30) (hn1 : num < 2 ^ 31) (hN1 : 1 ≤ N) (hN2 : N ≤ 20000) (hS : Sd h dg k) : g_M G mX6_ballotOfDraw (d + 3) 0 0 [.ref 8, .int (nI num), .int (nI N)] n ex h (q_i n ex [10, 11] h (fun r h' => r = nI (hv (shaO dg k num) 8 % N) ∧ Sd h' dg k)) := by
  obtain ⟨s1, s2, ⟨f, s3⟩, g, s4⟩ := id hS
  refine g_enter (by decide) (Nat.le_of_ble_eq_true rfl) ?_
  show g_W G _ _ _ n ex h 0 0 0 [(0, .ref 8), (1, .int (nI num)), (2, .int (nI N))] []
  refine g_iload_n dX6_ballotOfDraw_0 rfl rfl ?_
  refine g_iconst (v := nI 1) dX6_ballotOfDraw_1 (by decide) ?_
  refine g_icmp_geN (tgt := 7) dX6_ballotOfDraw_2 (by decide) (by omega) (by decide) (fun c2 => ?_) (fun c2 => ?_)
  · refine g_aload_n dX6_ballotOfDraw_7 rfl rfl ?_
    refine g_iload_n dX6_ballotOfDraw_8 rfl rfl ?_
    refine cVv (st := []) dX6_ballotOfDraw_9 (c_hashWith G d n ex h hk hdg hn1 hS) sX6_25 s1 rfl rfl (by simp only [g_rm]; omega) (by simp only [g_rm]; omega) (Nat.le_of_ble_eq_true rfl) ⟨Nat.le_of_ble_eq_true rfl, Nat.le_of_ble_eq_true rfl⟩ (fun h1 fr2 p3 => ?_)
    obtain ⟨⟨f1, q1⟩, g1, q2, q3⟩ := p3
    refine g_lconst (v := lN 0) dX6_ballotOfDraw_12 (by decide) ?_
    refine g_lstore_n (ls' := [(3, .long (lN 0)), (0, .ref 8), (1, .int (nI num)), (2, .int (nI N))]) dX6_ballotOfDraw_13 rfl (by decide) rfl ?_
    refine g_iconst (v := nI 0) dX6_ballotOfDraw_14 (by decide) ?_
    refine g_istore (ls' := [(5, .int (nI 0)), (3, .long (lN 0)), (0, .ref 8), (1, .int (nI num)), (2, .int (nI N))]) dX6_ballotOfDraw_15 (by decide) rfl ?_
    refine g_pick [0, 1, 2, 4] (ls' := [(5, .int (nI 0)), (3, .long (lN 0)), (0, .ref 8), (2, .int (nI N))]) rfl ?_
    have e0 : lN 0 = lN (hv g1 0 % N) := by rw [show hv g1 0 = 0 from rfl, Nat.zero_mod]
    rw [e0]
    exact lp_ballot G _ n ex h _ hN1 hN2 ⟨fr2.at (by intro q; simp only [List.mem_cons, List.not_mem_nil, or_false] at q; omega) s1, fr2.at (by intro q; simp only [List.mem_cons, List.not_mem_nil, or_false] at q; omega) s2, ⟨f1, q1⟩, g1, q2⟩ (fr2.at (by intro q; simp only [List.mem_cons, List.not_mem_nil, or_false] at q; omega) s1) q2 q3 ((g_fr.rf).tr fr2 (by simp)) 9 0 (by omega) (by omega)
  · exact absurd hN1 (by omega)
