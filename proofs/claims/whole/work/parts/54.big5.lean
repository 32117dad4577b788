theorem lZ_shr16 {c : Int} (h1 : -9223372036854775808 ≤ c) (h2 : c < 9223372036854775808) : lZ c >>> ((nI 16).toInt64 &&& 63) = lZ (c / 65536) := by
  apply Int64.toInt_inj.mp
  rw [lZ_int (by omega) (by omega)]
  have h3 : (lZ c >>> ((nI 16).toInt64 &&& 63)).toInt = (lZ c).toInt >>> 16 := by
    show (lZ c >>> ((nI 16).toInt64 &&& 63)).toBitVec.toInt = _
    rw [Int64.toBitVec_shiftRight, BitVec.sshiftRight_eq', BitVec.toInt_sshiftRight]
    rfl
  rw [h3, lZ_int h1 h2, Int.shiftRight_eq_div_pow]
  rfl
theorem lN_shr16 {c : Nat} (h : c < 9223372036854775808) : lN c >>> ((nI 16).toInt64 &&& 63) = lN (c / 65536) := by
  rw [lZ_N, lZ_shr16 (by omega) (by omega), lZ_N]
  rfl
theorem lZ_low16 (z : Int) : lZ z &&& lN 65535 = lN (z % 65536).toNat := by
  have e : lZ z = lN (z % 18446744073709551616).toNat := by
    rw [lZ_N, Int.toNat_of_nonneg (by omega)]
    apply Int64.toInt_inj.mp
    show (Int64.ofInt z).toInt = (Int64.ofInt (z % 18446744073709551616)).toInt
    rw [Int64.toInt_ofInt, Int64.toInt_ofInt]
    exact (Int.emod_bmod z 18446744073709551616).symm
  rw [e, lN_low16 (by omega)]
  congr 1
  omega
theorem dv_z (x a b : Nat) : lN x - lN a - lN b = lZ ((x : Int) - (a : Int) - (b : Int)) := by
  rw [lZ_N, lZ_N, lZ_N]
  unfold lZ
  rw [Int64.ofInt_sub, Int64.ofInt_sub]
theorem dv_y (x b : Nat) : lN x - lN b = lZ ((x : Int) - (b : Int)) := by
  rw [lZ_N, lZ_N]
  unfold lZ
  rw [Int64.ofInt_sub]
theorem dv_a (z : Int) (c : Nat) : lZ z + lN c = lZ (z + (c : Int)) := by
  rw [lZ_N]
  unfold lZ
  rw [Int64.ofInt_add]
theorem dv_n {z : Int} (h : z ≤ 0) : -(lZ z) = lN (-z).toNat := by
  rw [lZ_N, Int.toNat_of_nonneg (by omega)]
  unfold lZ
  rw [Int64.ofInt_neg]
theorem dv_f {x y b : Nat} (hx : x < 65536) (hy : y ≤ 4294836225) (hb : b ≤ 65536) : x + (-(((x : Int) - (y : Int) - (b : Int)) / 65536)).toNat * 65536 = y + b + (((x : Int) - (y : Int) - (b : Int)) % 65536).toNat ∧ (((x : Int) - (y : Int) - (b : Int)) % 65536).toNat < 65536 ∧ (-(((x : Int) - (y : Int) - (b : Int)) / 65536)).toNat ≤ 65536 ∧ ((x : Int) - (y : Int) - (b : Int)) / 65536 ≤ 0 := by omega
theorem dv_s {a u v b b' p q y x d : Nat} (h : a + q * v = u + b * p) (e : x + b' * 65536 = q * y + b + d) : a + d * p + q * (v + y * p) = u + x * p + b' * (p * 65536) := by
  have e2 : (x + b' * 65536) * p = (q * y + b + d) * p := by rw [e]
  rw [Nat.add_mul, Nat.add_mul, Nat.add_mul, Nat.mul_assoc b', Nat.mul_comm 65536 p, Nat.mul_assoc q] at e2
  rw [Nat.mul_add]
  omega
theorem dv_and {x : Nat} (h : x < 65536) : nI x &&& nI 32768 = nI (if x < 32768 then 0 else 32768) := by
  rw [nx_and]
  congr 1
  rw [show (32768 : Nat) = 2 ^ 15 by decide]
  apply Nat.eq_of_testBit_eq
  intro i
  rw [Nat.testBit_and, Nat.testBit_two_pow]
  by_cases z : 15 = i
  · subst z
    split
    · rename_i q
      rw [Nat.testBit_lt_two_pow q]; rfl
    · rw [Nat.testBit_two_pow, Nat.testBit_eq_decide_div_mod_eq, show x / 2 ^ 15 % 2 = 1 by omega]; rfl
  · rw [decide_eq_false z, Bool.and_false]
    split
    · exact (Nat.zero_testBit i).symm
    · rw [Nat.testBit_two_pow, decide_eq_false z]
theorem bv_split {B : Nat → Nat} {o j k : Nat} : bv B o (j + k) = bv B o j + bv B (o + j) k * 65536 ^ j := by
  induction k with
  | zero => show bv B o j = bv B o j + 0 * _; omega
  | succ k ih =>
    show bv B o (j + k) + B (o + (j + k)) * 65536 ^ (j + k) = _ + (bv B (o + j) k + B (o + j + k) * 65536 ^ k) * 65536 ^ j
    rw [ih, Nat.add_mul, Nat.add_assoc o j k, Nat.mul_assoc (B _), ← Nat.pow_add, Nat.add_comm k j, Nat.add_assoc]
theorem bv_cons {B : Nat → Nat} {o k : Nat} : bv B o (k + 1) = B o + bv B (o + 1) k * 65536 := by
  rw [Nat.add_comm k 1, bv_split]
  show 0 + B (o + 0) * 65536 ^ 0 + _ = _
  rw [Nat.pow_zero, Nat.mul_one, Nat.zero_add, Nat.add_zero, Nat.pow_one]
set_option maxHeartbeats 4000000 in
set_option maxRecDepth 100000 in
theorem lp_dadd (G : gG) (R : Room) (KK : gK) (n : Nat) (ex : Bool) (h0 : gH) {X : Nat → Int32} {B1 Z : Nat → Nat} {j nn s q tp : Nat} {lf : Int} (hjn : j + nn ≤ 1190)
    (kk : ∀ (B : Nat → Nat) (c : Nat) (h : gH), Bg h X B Z → c ≤ 1 → bv B (3600 + j) nn + c * 65536 ^ nn = bv B1 (3600 + j) nn + bv B1 2400 nn → (∀ k, (k < 3600 + j ∨ 3600 + j + nn ≤ k) → B k = B1 k) → g_fr [156, 157] h0 h → g_W G mX11_divide R KK n ex h 0 0 385 [(19, .int (nI nn)), (17, .long (lN c)), (15, .long (lZ lf)), (11, .long (lN q)), (8, .int (nI j)), (6, .long (lN tp)), (3, .int (nI nn)), (0, .ref 142), (1, .int (nI s))] []) :
    ∀ (t i c : Nat) (B : Nat → Nat) (h : gH), nn - i < t → i ≤ nn → c ≤ 1 → Bg h X B Z → bv B (3600 + j) i + c * 65536 ^ i = bv B1 (3600 + j) i + bv B1 2400 i → (∀ k, i ≤ k → k < nn → B (3600 + j + k) = B1 (3600 + j + k)) → (∀ k, (k < 3600 + j ∨ 3600 + j + nn ≤ k) → B k = B1 k) → g_fr [156, 157] h0 h →
    g_W G mX11_divide R KK n ex h 0 0 312 [(19, .int (nI i)), (17, .long (lN c)), (15, .long (lZ lf)), (11, .long (lN q)), (8, .int (nI j)), (6, .long (lN tp)), (3, .int (nI nn)), (0, .ref 142), (1, .int (nI s))] [] := by
  intro t
  induction t with
  | zero => intro i c B h hm; exact absurd hm (by omega)
  | succ t ih =>
    intro i c B h ht hi hc hg hval hU hO hf
    obtain ⟨m0, m1, m2, m3⟩ := id hg
    have w1 := m3 (3600 + j + i)
    have w2 := m3 (2400 + i)
    refine g_iload dX11_divide_312 rfl ?_
    refine g_iload_n dX11_divide_314 rfl rfl ?_
    refine g_icmp_geN (tgt := 385) dX11_divide_315 (by decide) (by omega) (by omega) (fun c315 => ?_) (fun c315 => ?_)
    · refine g_pick [0, 1, 2, 3, 4, 5, 6, 7, 8] (ls' := [(19, .int (nI i)), (17, .long (lN c)), (15, .long (lZ lf)), (11, .long (lN q)), (8, .int (nI j)), (6, .long (lN tp)), (3, .int (nI nn)), (0, .ref 142), (1, .int (nI s))]) rfl ?_
      have e : i = nn := by omega
      subst e
      exact kk B c _ ⟨m0, m1, m2, m3⟩ hc hval hO hf
    · refine g_lload dX11_divide_318 rfl ?_
      refine g_aload_n dX11_divide_320 rfl rfl ?_
      refine g_getf dX11_divide_321 fX11_76 m0 rfl ?_
      refine g_sipush (v := nI 3600) dX11_divide_324 (by decide) ?_
      refine g_iload dX11_divide_327 rfl ?_
      refine g_iaddN dX11_divide_329 ?_
      refine g_iload dX11_divide_330 rfl ?_
      refine g_iaddN dX11_divide_332 ?_
      refine g_ialdN dX11_divide_333 m1 (by omega) (by decide) ?_
      refine g_i2lN dX11_divide_334 (by omega) ?_
      refine g_aload_n dX11_divide_335 rfl rfl ?_
      refine g_getf dX11_divide_336 fX11_76 m0 rfl ?_
      refine g_sipush (v := nI 2400) dX11_divide_339 (by decide) ?_
      refine g_iload dX11_divide_342 rfl ?_
      refine g_iaddN dX11_divide_344 ?_
      refine g_ialdN dX11_divide_345 m1 (by omega) (by decide) ?_
      refine g_i2lN dX11_divide_346 (by omega) ?_
      refine g_laddN dX11_divide_347 ?_
      refine g_laddN dX11_divide_348 ?_
      refine g_lstore (ls' := [(17, .long (lN (c + ((B ((3600 + j) + i)) + (B (2400 + i)))))), (19, .int (nI i)), (15, .long (lZ lf)), (11, .long (lN q)), (8, .int (nI j)), (6, .long (lN tp)), (3, .int (nI nn)), (0, .ref 142), (1, .int (nI s))]) dX11_divide_349 (by decide) rfl ?_
      refine g_aload_n dX11_divide_351 rfl rfl ?_
      refine g_getf dX11_divide_352 fX11_76 m0 rfl ?_
      refine g_sipush (v := nI 3600) dX11_divide_355 (by decide) ?_
      refine g_iload dX11_divide_358 rfl ?_
      refine g_iaddN dX11_divide_360 ?_
      refine g_iload dX11_divide_361 rfl ?_
      refine g_iaddN dX11_divide_363 ?_
      refine g_lload dX11_divide_364 rfl ?_
      refine g_ldc2 dX11_divide_366 kX11_186 rfl ?_
      refine g_topl (show (65535 : Int64) = lN 65535 by decide) ?_
      refine g_land dX11_divide_369 ?_
      refine g_topl (show (lN (c + ((B ((3600 + j) + i)) + (B (2400 + i))))) &&& (lN 65535) = lN ((c + (B (3600 + j + i) + B (2400 + i))) % 65536) from lN_low16 (by omega)) ?_
      refine g_l2iN dX11_divide_370 ?_
      refine g_iastN dX11_divide_371 m1 (by omega) (by decide) ?_
      rw [upd_nI]
      refine g_lload dX11_divide_372 rfl ?_
      refine g_bipush (v := nI 16) dX11_divide_374 (by decide) ?_
      refine g_lshr dX11_divide_376 ?_
      refine g_topl (show (lN (c + ((B ((3600 + j) + i)) + (B (2400 + i))))) >>> ((nI 16).toInt64 &&& 63) = lN ((c + (B (3600 + j + i) + B (2400 + i))) / 65536) from lN_shr16 (by omega)) ?_
      refine g_lstore (ls' := [(17, .long (lN ((c + (B (3600 + j + i) + B (2400 + i))) / 65536))), (19, .int (nI i)), (15, .long (lZ lf)), (11, .long (lN q)), (8, .int (nI j)), (6, .long (lN tp)), (3, .int (nI nn)), (0, .ref 142), (1, .int (nI s))]) dX11_divide_377 (by decide) rfl ?_
      refine g_iincN (z := 1) (ls' := [(19, .int (nI (i + 1))), (17, .long (lN ((c + (B (3600 + j + i) + B (2400 + i))) / 65536))), (15, .long (lZ lf)), (11, .long (lN q)), (8, .int (nI j)), (6, .long (lN tp)), (3, .int (nI nn)), (0, .ref 142), (1, .int (nI s))]) dX11_divide_379 rfl (by decide) rfl ?_
      refine g_goto (tgt := 312) dX11_divide_382 (by decide) ?_
      refine g_pick [0, 1, 2, 3, 4, 5, 6, 7, 8] (ls' := [(19, .int (nI (i + 1))), (17, .long (lN ((c + (B (3600 + j + i) + B (2400 + i))) / 65536))), (15, .long (lZ lf)), (11, .long (lN q)), (8, .int (nI j)), (6, .long (lN tp)), (3, .int (nI nn)), (0, .ref 142), (1, .int (nI s))]) rfl ?_
      refine ih (i + 1) ((c + (B (3600 + j + i) + B (2400 + i))) / 65536) (va_up B (3600 + j + i) ((c + (B (3600 + j + i) + B (2400 + i))) % 65536)) _ (by omega) (by omega) (by omega) ⟨g_ne (by decide) m0, g_eq, g_ne (by decide) m2, up_b m3 (Nat.mod_lt _ (by decide))⟩ ?_ (fun k h1 h2 => (va_n (by omega)).trans (hU k (by omega) h2)) (fun k hk => (va_n (by omega)).trans (hO k hk)) (hf.up (by simp))
      rw [bv_put, Nat.pow_succ]
      show _ = bv B1 (3600 + j) i + B1 (3600 + j + i) * _ + (bv B1 2400 i + B1 (2400 + i) * _)
      rw [← hU i (Nat.le_refl _) (by omega), ← hO (2400 + i) (by omega)]
      exact ad_s (b1 := B (3600 + j + i)) (b2 := B (2400 + i)) hval (by omega)
theorem dv_c1 {bq U q D P : Nat} {lf : Int} (h : (bq : Int) + lf * (P : Int) + ((q * D : Nat) : Int) = (U : Int)) (hb : bq < P) (hl : lf < 0) : U < q * D := by
  have h1 : lf * (P : Int) ≤ -1 * (P : Int) := Int.mul_le_mul_of_nonneg_right (by omega) (by omega)
  omega
theorem dv_c2 {bq U q D P : Nat} {lf : Int} (h : (bq : Int) + lf * (P : Int) + ((q * D : Nat) : Int) = (U : Int)) (hl : 0 ≤ lf) (hq : U < (q + 1) * D) (hD : D ≤ P) : lf = 0 ∧ bq + q * D = U := by
  obtain ⟨l, rfl⟩ := Int.eq_ofNat_of_zero_le hl
  have h2 : bq + l * P + q * D = U := by
    have : ((bq + l * P + q * D : Nat) : Int) = (U : Int) := by push_cast; push_cast at h; exact h
    omega
  rw [Nat.add_mul] at hq
  rcases Nat.eq_zero_or_pos l with z | z
  · subst z; exact ⟨rfl, by omega⟩
  · have := Nat.mul_le_mul_right P z
    omega
theorem dv_c3 {bq bq' U q D P c : Nat} {lf : Int} (h : (bq : Int) + lf * (P : Int) + ((q * D : Nat) : Int) = (U : Int)) (hq : 1 ≤ q) (e : bq' + c * P = bq + D) : (bq' : Int) + (lf + (c : Int)) * (P : Int) + (((q - 1) * D : Nat) : Int) = (U : Int) := by
  obtain ⟨q', rfl⟩ : ∃ q', q = q' + 1 := ⟨q - 1, by omega⟩
  rw [Nat.add_mul] at h
  rw [Nat.add_sub_cancel, Int.add_mul]
  have : ((bq' + c * P : Nat) : Int) = ((bq + D : Nat) : Int) := by rw [e]
  push_cast at this h ⊢
  omega
set_option maxHeartbeats 4000000 in
set_option maxRecDepth 100000 in
theorem lp_dfix (G : gG) (R : Room) (KK : gK) (n : Nat) (ex : Bool) (h0 : gH) {X : Nat → Int32} {B0 Z : Nat → Nat} {j nn s tp U D : Nat} (hjn : j + nn ≤ 1190) (hDP : D ≤ 65536 ^ nn)
    (kk : ∀ (q : Nat) (B : Nat → Nat) (h : gH), Bg h X B Z → bv B (3600 + j) nn + q * D = U → U < (q + 1) * D → bv B 2400 nn = D → (∀ k, (k < 3600 + j ∨ 3600 + j + nn ≤ k) → B k = B0 k) → g_fr [156, 157] h0 h → g_W G mX11_divide R KK n ex h 0 0 395 [(15, .long (lZ 0)), (11, .long (lN q)), (8, .int (nI j)), (6, .long (lN tp)), (3, .int (nI nn)), (0, .ref 142), (1, .int (nI s))] []) :
    ∀ (t q : Nat) (lf : Int) (B : Nat → Nat) (h : gH), q < t → Bg h X B Z → q ≤ 65535 → -65536 ≤ lf ∧ lf ≤ 65535 → ((bv B (3600 + j) nn : Nat) : Int) + lf * ((65536 ^ nn : Nat) : Int) + ((q * D : Nat) : Int) = (U : Int) → U < (q + 1) * D → bv B 2400 nn = D → (∀ k, (k < 3600 + j ∨ 3600 + j + nn ≤ k) → B k = B0 k) → g_fr [156, 157] h0 h →
    g_W G mX11_divide R KK n ex h 0 0 293 [(15, .long (lZ lf)), (11, .long (lN q)), (8, .int (nI j)), (6, .long (lN tp)), (3, .int (nI nn)), (0, .ref 142), (1, .int (nI s))] [] := by
  intro t
  induction t with
  | zero => intro q lf B h hm; exact absurd hm (by omega)
  | succ t ih =>
    intro q lf B h ht hg hq65 hlf hval hq hD hO hf
    obtain ⟨m0, m1, m2, m3⟩ := id hg
    refine g_lload dX11_divide_293 rfl ?_
    refine g_lconst (v := lN 0) dX11_divide_295 (by decide) ?_
    refine g_lcmp dX11_divide_296 ?_
    refine g_if_ge (tgt := 395) dX11_divide_297 (by decide) (fun c297 => ?_) (fun c297 => ?_)
    · have hl0 : 0 ≤ lf := by
        rcases Int.lt_or_le lf 0 with z | z
        · exact absurd (g_lcL.mpr ((lZ_neg (by omega) (by omega)).mpr z)) (Int32.not_lt.mpr c297)
        · exact z
      refine g_pick [0, 1, 2, 3, 4, 5, 6] (ls' := [(15, .long (lZ lf)), (11, .long (lN q)), (8, .int (nI j)), (6, .long (lN tp)), (3, .int (nI nn)), (0, .ref 142), (1, .int (nI s))]) rfl ?_
      obtain ⟨rfl, hv3⟩ := dv_c2 hval hl0 hq hDP
      exact kk q B _ ⟨m0, m1, m2, m3⟩ hv3 hq hD hO hf
    · have hl0 : lf < 0 := (lZ_neg (by omega) (by omega)).mp (g_lcL.mp (Int32.not_le.mp c297))
      have hlt := dv_c1 hval (bv_lt m3 _ _) hl0
      have hq1 : 1 ≤ q := by
        rcases Nat.eq_zero_or_pos q with z | z
        · rw [z, Nat.zero_mul] at hlt; omega
        · exact z
      refine g_lload dX11_divide_300 rfl ?_
      refine g_lconst (v := lN 1) dX11_divide_302 (by decide) ?_
      refine g_lsubN dX11_divide_303 (by omega) ?_
      refine g_lstore (ls' := [(11, .long (lN (q - 1))), (15, .long (lZ lf)), (8, .int (nI j)), (6, .long (lN tp)), (3, .int (nI nn)), (0, .ref 142), (1, .int (nI s))]) dX11_divide_304 (by decide) rfl ?_
      refine g_lconst (v := lN 0) dX11_divide_306 (by decide) ?_
      refine g_lstore (ls' := [(17, .long (lN 0)), (11, .long (lN (q - 1))), (15, .long (lZ lf)), (8, .int (nI j)), (6, .long (lN tp)), (3, .int (nI nn)), (0, .ref 142), (1, .int (nI s))]) dX11_divide_307 (by decide) rfl ?_
      refine g_iconst (v := nI 0) dX11_divide_309 (by decide) ?_
      refine g_istore (ls' := [(19, .int (nI 0)), (17, .long (lN 0)), (11, .long (lN (q - 1))), (15, .long (lZ lf)), (8, .int (nI j)), (6, .long (lN tp)), (3, .int (nI nn)), (0, .ref 142), (1, .int (nI s))]) dX11_divide_310 (by decide) rfl ?_
      refine g_pick [0, 1, 3, 2, 4, 5, 6, 7, 8] (ls' := [(19, .int (nI 0)), (17, .long (lN 0)), (15, .long (lZ lf)), (11, .long (lN (q - 1))), (8, .int (nI j)), (6, .long (lN tp)), (3, .int (nI nn)), (0, .ref 142), (1, .int (nI s))]) rfl ?_
      refine lp_dadd G R KK n ex h0 hjn (fun B2 c2 h2 g2 hc2 hv2 hO2 hf2 => ?_) (nn + 1) 0 0 B _ (by omega) (by omega) (by omega) ⟨m0, m1, m2, m3⟩ (by show 0 + 0 * _ = 0 + 0; omega) (fun _ _ _ => rfl) (fun _ _ => rfl) hf
      refine g_lload dX11_divide_385 rfl ?_
      refine g_lload dX11_divide_387 rfl ?_
      refine g_ladd dX11_divide_389 ?_
      refine g_topl (show (lZ lf) + (lN c2) = lZ (lf + (c2 : Int)) from dv_a _ _) ?_
      refine g_lstore (ls' := [(15, .long (lZ (lf + (c2 : Int)))), (19, .int (nI nn)), (17, .long (lN c2)), (11, .long (lN (q - 1))), (8, .int (nI j)), (6, .long (lN tp)), (3, .int (nI nn)), (0, .ref 142), (1, .int (nI s))]) dX11_divide_390 (by decide) rfl ?_
      refine g_goto (tgt := 293) dX11_divide_392 (by decide) ?_
      refine g_pick [0, 3, 4, 5, 6, 7, 8] (ls' := [(15, .long (lZ (lf + (c2 : Int)))), (11, .long (lN (q - 1))), (8, .int (nI j)), (6, .long (lN tp)), (3, .int (nI nn)), (0, .ref 142), (1, .int (nI s))]) rfl ?_
      exact ih (q - 1) (lf + (c2 : Int)) B2 _ (by omega) g2 (by omega) (by omega) (dv_c3 hval hq1 (by rw [← hD]; exact hv2)) (by rw [Nat.sub_add_cancel hq1]; exact hlt) (by rw [← hD]; exact bv_congr (fun k hk => hO2 _ (by omega))) (fun k hk => (hO2 k hk).trans (hO k hk)) hf2
set_option maxHeartbeats 4000000 in
set_option maxRecDepth 100000 in
theorem lp_dmul (G : gG) (R : Room) (KK : gK) (n : Nat) (ex : Bool) (h0 : gH) {X : Nat → Int32} {B0 Z : Nat → Nat} {j nn s tp U D q : Nat} (hjn : j + nn ≤ 1190) (hDP : D ≤ 65536 ^ nn) (hq65 : q ≤ 65535) (hq : U < (q + 1) * D) (hD : bv B0 2400 nn = D) (hUv : bv B0 (3600 + j) (nn + 1) = U)
    (kk : ∀ (q : Nat) (B : Nat → Nat) (h : gH), Bg h X B Z → bv B (3600 + j) nn + q * D = U → U < (q + 1) * D → bv B 2400 nn = D → (∀ k, (k < 3600 + j ∨ 3600 + j + nn ≤ k) → B k = B0 k) → g_fr [156, 157] h0 h → g_W G mX11_divide R KK n ex h 0 0 395 [(15, .long (lZ 0)), (11, .long (lN q)), (8, .int (nI j)), (6, .long (lN tp)), (3, .int (nI nn)), (0, .ref 142), (1, .int (nI s))] []) :
    ∀ (t i b : Nat) (B : Nat → Nat) (h : gH), nn - i < t → i ≤ nn → b ≤ 65536 → Bg h X B Z → bv B (3600 + j) i + q * bv B0 2400 i = bv B0 (3600 + j) i + b * 65536 ^ i → (∀ k, i ≤ k → k < nn → B (3600 + j + k) = B0 (3600 + j + k)) → (∀ k, (k < 3600 + j ∨ 3600 + j + nn ≤ k) → B k = B0 k) → g_fr [156, 157] h0 h →
    g_W G mX11_divide R KK n ex h 0 0 197 [(15, .int (nI i)), (13, .long (lN b)), (11, .long (lN q)), (8, .int (nI j)), (6, .long (lN tp)), (3, .int (nI nn)), (0, .ref 142), (1, .int (nI s))] [] := by
  intro t
  induction t with
  | zero => intro i b B h hm; exact absurd hm (by omega)
  | succ t ih =>
    intro i b B h ht hi hb hg hval hU hO hf
    obtain ⟨m0, m1, m2, m3⟩ := id hg
    refine g_iload dX11_divide_197 rfl ?_
    refine g_iload_n dX11_divide_199 rfl rfl ?_
    refine g_icmp_geN (tgt := 274) dX11_divide_200 (by decide) (by omega) (by omega) (fun c200 => ?_) (fun c200 => ?_)
    · have w8 := m3 (3600 + j + nn)
      refine g_aload_n dX11_divide_274 rfl rfl ?_
      refine g_getf dX11_divide_275 fX11_76 m0 rfl ?_
      refine g_sipush (v := nI 3600) dX11_divide_278 (by decide) ?_
      refine g_iload dX11_divide_281 rfl ?_
      refine g_iaddN dX11_divide_283 ?_
      refine g_iload_n dX11_divide_284 rfl rfl ?_
      refine g_iaddN dX11_divide_285 ?_
      refine g_ialdN dX11_divide_286 m1 (by omega) (by decide) ?_
      refine g_i2lN dX11_divide_287 (by omega) ?_
      refine g_lload dX11_divide_288 rfl ?_
      refine g_lsub dX11_divide_290 ?_
      refine g_topl (show (lN (B ((3600 + j) + nn))) - (lN b) = lZ (((B (3600 + j + nn) : Nat) : Int) - ((b : Nat) : Int)) from dv_y _ _) ?_
      refine g_lstore (ls' := [(15, .long (lZ (((B (3600 + j + nn) : Nat) : Int) - ((b : Nat) : Int)))), (13, .long (lN b)), (11, .long (lN q)), (8, .int (nI j)), (6, .long (lN tp)), (3, .int (nI nn)), (0, .ref 142), (1, .int (nI s))]) dX11_divide_291 (by decide) rfl ?_
      refine g_pick [0, 2, 3, 4, 5, 6, 7] (ls' := [(15, .long (lZ (((B (3600 + j + nn) : Nat) : Int) - ((b : Nat) : Int)))), (11, .long (lN q)), (8, .int (nI j)), (6, .long (lN tp)), (3, .int (nI nn)), (0, .ref 142), (1, .int (nI s))]) rfl ?_
      have e : i = nn := by omega
      subst e
      have w9 := m3 (3600 + j + i)
      refine lp_dfix G R KK n ex h0 hjn hDP kk (q + 1) q _ B _ (by omega) ⟨m0, m1, m2, m3⟩ hq65 (by omega) ?_ hq (by rw [← hD]; exact bv_congr (fun k hk => hO _ (by omega))) hO hf
      rw [← hUv, ← hD]
      show _ = ((bv B0 (3600 + j) i + B0 (3600 + j + i) * 65536 ^ i : Nat) : Int)
      rw [← hO (3600 + j + i) (by omega), Int.sub_mul]
      have h7 : ((bv B (3600 + j) i + q * bv B0 2400 i : Nat) : Int) = ((bv B0 (3600 + j) i + b * 65536 ^ i : Nat) : Int) := by rw [hval]
      have e1 : ((B (3600 + j + i) * 65536 ^ i : Nat) : Int) = (B (3600 + j + i) : Int) * ((65536 ^ i : Nat) : Int) := Int.natCast_mul _ _
      have e2 : ((b * 65536 ^ i : Nat) : Int) = (b : Int) * ((65536 ^ i : Nat) : Int) := Int.natCast_mul _ _
      rw [← e1, ← e2]
      rw [Int.natCast_add, Int.natCast_add] at h7
      rw [Int.natCast_add]
      omega
    · have w1 := m3 (3600 + j + i)
      have w2 := m3 (2400 + i)
      have w3 : q * B (2400 + i) ≤ 65535 * 65535 := Nat.mul_le_mul hq65 (by omega)
      have f9 := dv_f w1 w3 hb
      refine g_aload_n dX11_divide_203 rfl rfl ?_
      refine g_getf dX11_divide_204 fX11_76 m0 rfl ?_
      refine g_sipush (v := nI 3600) dX11_divide_207 (by decide) ?_
      refine g_iload dX11_divide_210 rfl ?_
      refine g_iaddN dX11_divide_212 ?_
      refine g_iload dX11_divide_213 rfl ?_
      refine g_iaddN dX11_divide_215 ?_
      refine g_ialdN dX11_divide_216 m1 (by omega) (by decide) ?_
      refine g_i2lN dX11_divide_217 (by omega) ?_
      refine g_lload dX11_divide_218 rfl ?_
      refine g_aload_n dX11_divide_220 rfl rfl ?_
      refine g_getf dX11_divide_221 fX11_76 m0 rfl ?_
      refine g_sipush (v := nI 2400) dX11_divide_224 (by decide) ?_
      refine g_iload dX11_divide_227 rfl ?_
      refine g_iaddN dX11_divide_229 ?_
      refine g_ialdN dX11_divide_230 m1 (by omega) (by decide) ?_
      refine g_i2lN dX11_divide_231 (by omega) ?_
      refine g_lmulN dX11_divide_232 ?_
      refine g_lsub dX11_divide_233 ?_
      refine g_lload dX11_divide_234 rfl ?_
      refine g_lsub dX11_divide_236 ?_
      refine g_topl (show ((lN (B ((3600 + j) + i))) - (lN (q * (B (2400 + i))))) - (lN b) = lZ (((B (3600 + j + i) : Nat) : Int) - ((q * B (2400 + i) : Nat) : Int) - ((b : Nat) : Int)) from dv_z _ _ _) ?_
      refine g_lstore (ls' := [(16, .long (lZ (((B (3600 + j + i) : Nat) : Int) - ((q * B (2400 + i) : Nat) : Int) - ((b : Nat) : Int)))), (15, .int (nI i)), (13, .long (lN b)), (11, .long (lN q)), (8, .int (nI j)), (6, .long (lN tp)), (3, .int (nI nn)), (0, .ref 142), (1, .int (nI s))]) dX11_divide_237 (by decide) rfl ?_
      refine g_aload_n dX11_divide_239 rfl rfl ?_
      refine g_getf dX11_divide_240 fX11_76 m0 rfl ?_
      refine g_sipush (v := nI 3600) dX11_divide_243 (by decide) ?_
      refine g_iload dX11_divide_246 rfl ?_
      refine g_iaddN dX11_divide_248 ?_
      refine g_iload dX11_divide_249 rfl ?_
      refine g_iaddN dX11_divide_251 ?_
      refine g_lload dX11_divide_252 rfl ?_
      refine g_ldc2 dX11_divide_254 kX11_186 rfl ?_
      refine g_topl (show (65535 : Int64) = lN 65535 by decide) ?_
      refine g_land dX11_divide_257 ?_
      refine g_topl (show (lZ (((B (3600 + j + i) : Nat) : Int) - ((q * B (2400 + i) : Nat) : Int) - ((b : Nat) : Int))) &&& (lN 65535) = lN (((((B (3600 + j + i) : Nat) : Int) - ((q * B (2400 + i) : Nat) : Int) - ((b : Nat) : Int)) % 65536).toNat) from lZ_low16 _) ?_
      refine g_l2iN dX11_divide_258 ?_
      refine g_iastN dX11_divide_259 m1 (by omega) (by decide) ?_
      rw [upd_nI]
      refine g_lload dX11_divide_260 rfl ?_
      refine g_bipush (v := nI 16) dX11_divide_262 (by decide) ?_
      refine g_lshr dX11_divide_264 ?_
      refine g_topl (show (lZ (((B (3600 + j + i) : Nat) : Int) - ((q * B (2400 + i) : Nat) : Int) - ((b : Nat) : Int))) >>> ((nI 16).toInt64 &&& 63) = lZ ((((B (3600 + j + i) : Nat) : Int) - ((q * B (2400 + i) : Nat) : Int) - ((b : Nat) : Int)) / 65536) from lZ_shr16 (by omega) (by omega)) ?_
      refine g_lneg dX11_divide_265 ?_
      refine g_topl (show -(lZ ((((B (3600 + j + i) : Nat) : Int) - ((q * B (2400 + i) : Nat) : Int) - ((b : Nat) : Int)) / 65536)) = lN ((-((((B (3600 + j + i) : Nat) : Int) - ((q * B (2400 + i) : Nat) : Int) - ((b : Nat) : Int)) / 65536)).toNat) from dv_n f9.2.2.2) ?_
      refine g_lstore (ls' := [(13, .long (lN ((-((((B (3600 + j + i) : Nat) : Int) - ((q * B (2400 + i) : Nat) : Int) - ((b : Nat) : Int)) / 65536)).toNat))), (16, .long (lZ (((B (3600 + j + i) : Nat) : Int) - ((q * B (2400 + i) : Nat) : Int) - ((b : Nat) : Int)))), (15, .int (nI i)), (11, .long (lN q)), (8, .int (nI j)), (6, .long (lN tp)), (3, .int (nI nn)), (0, .ref 142), (1, .int (nI s))]) dX11_divide_266 (by decide) rfl ?_
      refine g_iincN (z := 1) (ls' := [(15, .int (nI (i + 1))), (13, .long (lN ((-((((B (3600 + j + i) : Nat) : Int) - ((q * B (2400 + i) : Nat) : Int) - ((b : Nat) : Int)) / 65536)).toNat))), (16, .long (lZ (((B (3600 + j + i) : Nat) : Int) - ((q * B (2400 + i) : Nat) : Int) - ((b : Nat) : Int)))), (11, .long (lN q)), (8, .int (nI j)), (6, .long (lN tp)), (3, .int (nI nn)), (0, .ref 142), (1, .int (nI s))]) dX11_divide_268 rfl (by decide) rfl ?_
      refine g_goto (tgt := 197) dX11_divide_271 (by decide) ?_
      refine g_pick [0, 1, 3, 4, 5, 6, 7, 8] (ls' := [(15, .int (nI (i + 1))), (13, .long (lN ((-((((B (3600 + j + i) : Nat) : Int) - ((q * B (2400 + i) : Nat) : Int) - ((b : Nat) : Int)) / 65536)).toNat))), (11, .long (lN q)), (8, .int (nI j)), (6, .long (lN tp)), (3, .int (nI nn)), (0, .ref 142), (1, .int (nI s))]) rfl ?_
      refine ih (i + 1) (-((((B (3600 + j + i) : Nat) : Int) - ((q * B (2400 + i) : Nat) : Int) - ((b : Nat) : Int)) / 65536)).toNat (va_up B (3600 + j + i) ((((B (3600 + j + i) : Nat) : Int) - ((q * B (2400 + i) : Nat) : Int) - ((b : Nat) : Int)) % 65536).toNat) _ (by omega) (by omega) f9.2.2.1 ⟨g_ne (by decide) m0, g_eq, g_ne (by decide) m2, up_b m3 f9.2.1⟩ ?_ (fun k h1 h2 => (va_n (by omega)).trans (hU k (by omega) h2)) (fun k hk => (va_n (by omega)).trans (hO k hk)) (hf.up (by simp))
      rw [bv_put, Nat.pow_succ]
      show _ + q * (bv B0 2400 i + B0 (2400 + i) * _) = bv B0 (3600 + j) i + B0 (3600 + j + i) * _ + _
      rw [← hU i (Nat.le_refl _) (by omega), ← hO (2400 + i) (by omega)]
      exact dv_s hval f9.1
