/-! limbs as natural numbers -/
theorem w_oi : Cond.instanceMethod objectInit ∈ lw_tbl := by decide +kernel
set_option maxRecDepth 20000 in
theorem w_oc : Cond.code objectInit ⟨#[0xb1]⟩ 1 none ∈ lw_tbl := by decide +kernel
def un (x : Int32) : Nat := x.toBitVec.toNat
theorem un_lt (x : Int32) : un x < 4294967296 := x.toBitVec.isLt
theorem un_nI {n : Nat} (h : n < 4294967296) : un (nI n) = n := pk_tn h
theorem nI_un (x : Int32) : nI (un x) = x := by
  apply Int32.toBitVec_inj.mp
  show BitVec.ofNat 32 x.toBitVec.toNat = x.toBitVec
  simp
theorem un_inj {x y : Int32} (h : un x = un y) : x = y := by rw [← nI_un x, h, nI_un]
theorem un_int (x : Int32) : (un x : Int) = x.toInt % 4294967296 := by
  have h1 : x.toInt = x.toBitVec.toInt := rfl
  rw [h1, BitVec.toInt_eq_toNat_bmod]
  have h2 := Int.bmod_def (x.toBitVec.toNat : Int) (2 ^ 32)
  show (x.toBitVec.toNat : Int) = _
  have h3 := x.toBitVec.isLt
  rw [h2]
  split <;> omega
theorem un_l (x : Int32) : uN x.toInt64 % 4294967296 = un x := by
  have h1 : (uN x.toInt64 : Int) = x.toInt64.toInt % 18446744073709551616 := by
    have h2 := uN_int x.toInt64
    have h3 := uN_lt x.toInt64
    rw [h2]
    split <;> omega
  have h4 : x.toInt64.toInt = x.toInt := Int32.toInt_toInt64 x
  have h5 := un_int x
  rw [h4] at h1
  omega
theorem lN_uN (x : Int64) : lN (uN x) = x := by
  apply uN_inj
  show (lN (uN x)).toBitVec.toNat = _
  rw [lN_nat (uN_lt x)]
theorem uN_lN {n : Nat} (h : n < 18446744073709551616) : uN (lN n) = n := lN_nat h
theorem un_mask (x : Int32) : x.toInt64 &&& lN 4294967295 = lN (un x) := by
  rw [← lN_uN x.toInt64, show (4294967295 : Nat) = 2 ^ 32 - 1 by decide, wb_mask (uN_lt _) (by decide)]
  rw [show (2 : Nat) ^ 32 = 4294967296 by decide, un_l]
theorem un_low16 (x : Int32) : x.toInt64 &&& lN 65535 = lN (un x % 65536) := by
  rw [← lN_uN x.toInt64, show (65535 : Nat) = 2 ^ 16 - 1 by decide, wb_mask (uN_lt _) (by decide)]
  have := un_l x
  congr 1
  omega
theorem un_hi16 (x : Int32) : (x.toUInt32 >>> ((nI 16).toUInt32 &&& Int32.toUInt32 31)).toInt32 = nI (un x / 65536) := by
  have h := pk_ushr x (nI 16) 16 (by decide)
  apply un_inj
  show _ = un (nI _)
  rw [un_nI (by have := un_lt x; omega)]
  exact h
def wv (f : Nat → Int32) : Nat → Nat
  | 0 => 0
  | u + 1 => wv f u + un (f u) * 2 ^ (32 * u)
theorem wv_congr {f g : Nat → Int32} {u : Nat} (h : ∀ i, i < u → f i = g i) : wv f u = wv g u := by
  induction u with
  | zero => rfl
  | succ u ih =>
    show wv f u + un (f u) * 2 ^ (32 * u) = wv g u + un (g u) * 2 ^ (32 * u)
    rw [ih (fun i hi => h i (by omega)), h u (by omega)]
theorem p32 (u : Nat) : 2 ^ (32 * (u + 1)) = 2 ^ (32 * u) * 4294967296 := by rw [Nat.mul_add, Nat.pow_add]
theorem wv_lt (f : Nat → Int32) (u : Nat) : wv f u < 2 ^ (32 * u) := by
  induction u with
  | zero => exact Nat.two_pow_pos _
  | succ u ih =>
    show wv f u + un (f u) * 2 ^ (32 * u) < _
    rw [p32]
    have h1 := un_lt (f u)
    have h2 : un (f u) * 2 ^ (32 * u) ≤ 4294967295 * 2 ^ (32 * u) := Nat.mul_le_mul_right _ (by omega)
    have h3 : 2 ^ (32 * u) * 4294967296 = 4294967295 * 2 ^ (32 * u) + 2 ^ (32 * u) := by omega
    omega
theorem wv_upd {f : Nat → Int32} {u j : Nat} {x : Int32} (h : u ≤ j) : wv (upd f j x) u = wv f u := wv_congr (fun i hi => pk_un (by omega))
theorem wv_put {f : Nat → Int32} {u : Nat} {x : Int32} : wv (upd f u x) (u + 1) = wv f u + un x * 2 ^ (32 * u) := by
  show wv (upd f u x) u + un (upd f u x u) * 2 ^ (32 * u) = _
  rw [wv_upd (Nat.le_refl u), pk_us]
theorem un_nIm (n : Nat) : un (nI n) = n % 4294967296 := by
  show (BitVec.ofNat 32 n).toNat = _
  rw [BitVec.toNat_ofNat]
theorem lN_sh32 {n : Nat} (h : n < 18446744073709551616) : ((lN n).toUInt64 >>> ((nI 32).toInt64.toUInt64 &&& Int64.toUInt64 63)).toInt64 = lN (n / 4294967296) := wb_shr h (by decide)
theorem lN_sh16 {n : Nat} (h : n < 18446744073709551616) : ((lN n).toUInt64 >>> ((nI 16).toInt64.toUInt64 &&& Int64.toUInt64 63)).toInt64 = lN (n / 65536) := wb_shr h (by decide)
