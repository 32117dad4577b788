set_option maxHeartbeats 4000000 in
set_option maxRecDepth 100000 in
theorem c_findLeast (G : gG) (d n : Nat) (ex : Bool) (h : gH) {s v wn en rc : Nat → Nat} {kq wq lq nn : Nat} {sw : Int32} (hv1 : v lq ≤ v wq) (hv2 : 1 ≤ v wq) (hv3 : v wq ≤ 20000) (hll : s 9 < s 10) (hl1 : s 9 ≤ 1000000) (hl2 : s 10 ≤ 1000000) (hnn : nn ≤ 30) (hkq : kq < 16) {f : Nat → Int32} (hs : Su h s v wn en rc) (hp : Pw h (24 + 6 * kq) wq lq (v wq) (v lq) sw) (o1 : h 123 = some (.inr (4, OdO))) (o2 : h 124 = some (.inl (0, 31, .inl f))) (hR : FrR h 126 40) : g_M G mX4_findLeast (d + 4) 0 0 [.ref 123, .ref (24 + 6 * kq), .int (nI nn), .ref 1] n ex h (q_v n ex [124, 126 + 1, 126 + 2, 126 + 3, 126 + 4] h (fun h' => FrR h' 126 40 ∧ ∃ f', h' 124 = some (.inl (0, 31, .inl f')) ∧ Lf f' (fun a b => decide (t_ge v (s 9) (s 10) wq lq a b)) nn (nn + 1))) := by
  obtain ⟨z1, z2, z3, z4, z5⟩ := id hs
  refine g_enter (by decide) (Nat.le_of_ble_eq_true rfl) ?_
  show g_W G _ _ _ n ex h 0 0 0 [(0, .ref 123), (1, .ref (24 + 6 * kq)), (2, .int (nI nn)), (3, .ref 1)] []
  refine g_aload_n dX4_findLeast_0 rfl rfl ?_
  refine g_getf dX4_findLeast_1 fX4_23 o1 rfl ?_
  refine g_lconst (v := lN 1) dX4_findLeast_4 (by decide) ?_
  refine g_lconst (v := lN 1) dX4_findLeast_5 (by decide) ?_
  refine cVvE (st := []) dX4_findLeast_6 (c_fbecome G (d) n ex h hR (by decide) (by decide) (by decide) (by decide) (by decide) (by decide +kernel) (by decide +kernel)) sX4_40 hR.cell rfl rfl (by simp only [g_rm]; omega) (by simp only [g_rm]; omega) (Nat.le_of_ble_eq_true rfl) ⟨Nat.le_of_ble_eq_true rfl, Nat.le_of_ble_eq_true rfl⟩ (fun h1 fr2 p3 => ?_)
  obtain ⟨A', B', q1, q2, q3, q4, q5, q6⟩ := p3
  refine g_iconst (v := nI 0) dX4_findLeast_9 (by decide) ?_
  refine g_istore (ls' := [(4, .int (nI 0)), (0, .ref 123), (1, .ref (24 + 6 * kq)), (2, .int (nI nn)), (3, .ref 1)]) dX4_findLeast_10 (by decide) rfl ?_
  refine g_iconst (v := nI 0) dX4_findLeast_12 (by decide) ?_
  refine g_istore (ls' := [(5, .int (nI 0)), (4, .int (nI 0)), (0, .ref 123), (1, .ref (24 + 6 * kq)), (2, .int (nI nn)), (3, .ref 1)]) dX4_findLeast_13 (by decide) rfl ?_
  refine g_pick [0, 1, 2, 3, 4, 5] (ls' := [(5, .int (nI 0)), (4, .int (nI 0)), (0, .ref 123), (1, .ref (24 + 6 * kq)), (2, .int (nI nn)), (3, .ref 1)]) rfl ?_
  exact lp_fl15 G d n ex h hv1 hv2 hv3 hll hl1 hl2 hnn hkq (nn + 2) 0 0 f _ (by omega) (by omega) (by omega) ⟨fr2.at (by intro q; simp only [List.mem_cons, List.not_mem_nil, or_false] at q; omega) z1, fr2.at (by intro q; simp only [List.mem_cons, List.not_mem_nil, or_false] at q; omega) z2, fr2.at (by intro q; simp only [List.mem_cons, List.not_mem_nil, or_false] at q; omega) z3, fr2.at (by intro q; simp only [List.mem_cons, List.not_mem_nil, or_false] at q; omega) z4, fr2.at (by intro q; simp only [List.mem_cons, List.not_mem_nil, or_false] at q; omega) z5⟩ (fr2.at (by intro q; simp only [List.mem_cons, List.not_mem_nil, or_false] at q; omega) hp) (fr2.at (by intro q; simp only [List.mem_cons, List.not_mem_nil, or_false] at q; omega) o1) (fr2.at (by intro q; simp only [List.mem_cons, List.not_mem_nil, or_false] at q; omega) o2) ⟨A', B', q1, q2, q3, by simpa using q4, by simpa using q5, by simpa using q6⟩ (fun b hb => absurd hb (Nat.not_lt_zero b)) (fun c hc => absurd hc (Nat.not_lt_zero c)) ((g_fr.rf).tr fr2 (by simp))
set_option maxHeartbeats 4000000 in
set_option maxRecDepth 100000 in
theorem lp_mulT (G : gG) (d n : Nat) (ex : Bool) (h0 : gH) {V F t : Nat} (hF : F ≤ 20000) (ht : t ≤ 30) (hB : ∀ i, i ≤ t → V * F ^ i < 2 ^ (32 * 40)) : ∀ (m i : Nat) (h : gH), t - i < m → i ≤ t → h 123 = some (.inr (4, OdO)) → Wh h 133 134 40 (V * F ^ i) → g_fr [133, 134] h0 h →
    g_W G mX4_multiplyTerm (g_rm (d + 2) 0 0) (g_K G (q_v n ex [133, 134] h0 (fun h' => Wh h' 133 134 40 (V * F ^ t))) 0 0) n ex h 0 0 2 [(3, .int (nI i)), (0, .ref 123), (1, .int (nI F)), (2, .int (nI t))] [] := by
  intro m
  induction m with
  | zero => intro i h hm; exact absurd hm (by omega)
  | succ m ih =>
    intro i h hm hi o1 hq hf
    refine g_iload_n dX4_multiplyTerm_2 rfl rfl ?_
    refine g_iload_n dX4_multiplyTerm_3 rfl rfl ?_
    refine g_icmp_geN (tgt := 22) dX4_multiplyTerm_4 (by decide) (by omega) (by omega) (fun c4 => ?_) (fun c4 => ?_)
    · have e : i = t := by omega
      subst e
      exact e_v dX4_multiplyTerm_22 rfl hf hq (by decide) (by decide)
    · refine g_aload_n dX4_multiplyTerm_7 rfl rfl ?_
      refine g_getf dX4_multiplyTerm_8 fX4_34 o1 rfl ?_
      refine g_iload_n dX4_multiplyTerm_11 rfl rfl ?_
      refine g_i2lN dX4_multiplyTerm_12 (by omega) ?_
      refine cVvE (st := []) dX4_multiplyTerm_13 (c_multiplyBy G d n ex h hq (by decide) (by omega) (by have := hB (i + 1) (by omega); rw [Nat.pow_succ, ← Nat.mul_assoc] at this; exact this)) sX4_66 hq.cell rfl rfl (by simp only [g_rm]; omega) (by simp only [g_rm]; omega) (Nat.le_of_ble_eq_true rfl) ⟨Nat.le_of_ble_eq_true rfl, Nat.le_of_ble_eq_true rfl⟩ (fun h1 fr2 p3 => ?_)
      refine g_iincN (z := 1) (ls' := [(3, .int (nI (i + 1))), (0, .ref 123), (1, .int (nI F)), (2, .int (nI t))]) dX4_multiplyTerm_16 rfl (by decide) rfl ?_
      refine g_goto (tgt := 2) dX4_multiplyTerm_19 (by decide) ?_
      refine g_pick [0, 1, 2, 3] (ls' := [(3, .int (nI (i + 1))), (0, .ref 123), (1, .int (nI F)), (2, .int (nI t))]) rfl ?_
      exact ih (i + 1) _ (by omega) (by omega) (fr2.at (by intro q; simp only [List.mem_cons, List.not_mem_nil, or_false] at q; omega) o1) (by rw [Nat.pow_succ, ← Nat.mul_assoc]; exact p3) ((hf).tr fr2 (by simp))
set_option maxHeartbeats 4000000 in
set_option maxRecDepth 100000 in
theorem c_multiplyTerm (G : gG) (d n : Nat) (ex : Bool) (h : gH) {V F t : Nat} (hF : F ≤ 20000) (ht : t ≤ 30) (hB : ∀ i, i ≤ t → V * F ^ i < 2 ^ (32 * 40)) (o1 : h 123 = some (.inr (4, OdO))) (hq : Wh h 133 134 40 V) : g_M G mX4_multiplyTerm (d + 2) 0 0 [.ref 123, .int (nI F), .int (nI t)] n ex h (q_v n ex [133, 134] h (fun h' => Wh h' 133 134 40 (V * F ^ t))) := by
  refine g_enter (by decide) (Nat.le_of_ble_eq_true rfl) ?_
  show g_W G _ _ _ n ex h 0 0 0 [(0, .ref 123), (1, .int (nI F)), (2, .int (nI t))] []
  refine g_iconst (v := nI 0) dX4_multiplyTerm_0 (by decide) ?_
  refine g_istore_n (ls' := [(3, .int (nI 0)), (0, .ref 123), (1, .int (nI F)), (2, .int (nI t))]) dX4_multiplyTerm_1 rfl (by decide) rfl ?_
  refine g_pick [0, 1, 2, 3] (ls' := [(3, .int (nI 0)), (0, .ref 123), (1, .int (nI F)), (2, .int (nI t))]) rfl ?_
  exact lp_mulT G d n ex h hF ht hB (t + 1) 0 h (by omega) (by omega) o1 (by rw [Nat.pow_zero, Nat.mul_one]; exact hq) g_fr.rf
section GROW
variable (su : Nat → Nat → Bool)
def cn (r : Nat → Nat) (m a : Nat) : Nat := (if a < m then r a else 0) + (if 0 < a then r (a - 1) else 0)
def gr (r : Nat → Nat) (m a : Nat) : Nat := if su a (m - a) then 0 else cn r m a
def wt (r : Nat → Nat) (m x y a : Nat) : Nat := if su a (m - a) then cn r m a * x ^ a * y ^ (m - a) else 0
def hd_ (f : Nat → Nat) : Nat → Nat
  | 0 => 0
  | i + 1 => hd_ f i + f i
/-- rows that are not sure yet, by draws for the winner -/
def rwf : Nat → Nat → Nat
  | 0 => fun a => if a = 0 then 1 else 0
  | m + 1 => gr su (rwf m) (m + 1)
/-- the weight of the rows of m draws that got sure -/
def Sx (x y : Nat) : Nat → Nat
  | 0 => 0
  | m + 1 => Sx x y m * (x + y) + hd_ (wt su (rwf su m) (m + 1) x y) (m + 2)
/-- binomials -/
def bn : Nat → Nat → Nat
  | _, 0 => 1
  | 0, _ + 1 => 0
  | n + 1, m + 1 => bn n m + bn n (m + 1)
def Tt (n x y o : Nat) : Nat → Nat
  | 0 => 0
  | m + 1 => Tt n x y o m + Sx su x y (m + 1) * bn n (m + 1) * o ^ (n - (m + 1))
theorem cn_le {r : Nat → Nat} {m a B : Nat} (h : ∀ j, r j ≤ B) : cn r m a ≤ 2 * B := by
  unfold cn
  have h1 := h a
  have h2 := h (a - 1)
  split <;> split <;> omega
theorem rwf_le (m a : Nat) : rwf su m a ≤ 2 ^ m := by
  induction m generalizing a with
  | zero => show (if a = 0 then 1 else 0) ≤ 1; split <;> decide
  | succ m ih =>
    show gr su (rwf su m) (m + 1) a ≤ _
    unfold gr
    split
    · exact Nat.zero_le _
    · have := cn_le (m := m + 1) (a := a) ih
      rw [Nat.pow_succ]; omega
theorem pw_le {x y Z a m : Nat} (hx : x ≤ Z) (hy : y ≤ Z) (ha : a ≤ m) : x ^ a * y ^ (m - a) ≤ Z ^ m := by
  calc x ^ a * y ^ (m - a) ≤ Z ^ a * Z ^ (m - a) := Nat.mul_le_mul (Nat.pow_le_pow_left hx a) (Nat.pow_le_pow_left hy _)
    _ = Z ^ m := by rw [← Nat.pow_add]; congr 1; omega
theorem wt_le {x y m a : Nat} (hx : x ≤ 20000) (hy : y ≤ 20000) (ha : a ≤ m + 1) : wt su (rwf su m) (m + 1) x y a ≤ 40000 ^ (m + 1) := by
  unfold wt
  split
  · have h1 := cn_le (m := m + 1) (a := a) (rwf_le su m)
    have h2 := pw_le (a := a) (m := m + 1) hx hy ha
    calc cn (rwf su m) (m + 1) a * x ^ a * y ^ (m + 1 - a) = cn (rwf su m) (m + 1) a * (x ^ a * y ^ (m + 1 - a)) := Nat.mul_assoc _ _ _
      _ ≤ (2 * 2 ^ m) * 20000 ^ (m + 1) := Nat.mul_le_mul h1 h2
      _ = 2 ^ (m + 1) * 20000 ^ (m + 1) := by rw [Nat.pow_succ 2 m]; congr 1; exact Nat.mul_comm _ _
      _ = 40000 ^ (m + 1) := (Nat.mul_pow 2 20000 (m + 1)).symm
  · exact Nat.zero_le _
theorem hd_le {f : Nat → Nat} {B i : Nat} (h : ∀ a, a < i → f a ≤ B) : hd_ f i ≤ i * B := by
  induction i with
  | zero => exact Nat.zero_le _
  | succ i ih =>
    show hd_ f i + f i ≤ _
    rw [Nat.add_mul, Nat.one_mul]
    exact Nat.add_le_add (ih (fun a ha => h a (by omega))) (h i (by omega))
theorem hd_mono {f : Nat → Nat} {i j : Nat} (h : i ≤ j) : hd_ f i ≤ hd_ f j := by
  induction j with
  | zero => rw [Nat.le_zero.mp h]; exact Nat.le_refl _
  | succ j ih =>
    by_cases q : i = j + 1
    · rw [q]; exact Nat.le_refl _
    · exact Nat.le_trans (ih (by omega)) (Nat.le_add_right _ _)
theorem Sx_le {x y m : Nat} (hxy : x + y ≤ 20000) (hm : m ≤ 30) : Sx su x y m ≤ 64 * 40000 ^ m := by
  induction m with
  | zero => exact Nat.zero_le _
  | succ m ih =>
    show Sx su x y m * (x + y) + hd_ _ (m + 2) ≤ _
    have h1 := ih (by omega)
    have h2 := hd_le (f := wt su (rwf su m) (m + 1) x y) (i := m + 2) (fun a ha => wt_le su (x := x) (y := y) (by omega) (by omega) (show a ≤ m + 1 by omega))
    have h3 : Sx su x y m * (x + y) ≤ 64 * 40000 ^ m * 20000 := Nat.mul_le_mul h1 hxy
    have h4 : (m + 2) * 40000 ^ (m + 1) ≤ 32 * 40000 ^ (m + 1) := Nat.mul_le_mul_right _ (by omega)
    rw [Nat.pow_succ] at *
    omega
theorem bn_le (n m : Nat) : bn n m ≤ 2 ^ n := by
  induction n generalizing m with
  | zero => cases m with
    | zero => decide
    | succ m => exact Nat.zero_le _
  | succ n ih =>
    cases m with
    | zero => exact Nat.pow_pos (by decide)
    | succ m =>
      show bn n m + bn n (m + 1) ≤ _
      have := ih m
      have := ih (m + 1)
      rw [Nat.pow_succ]; omega
theorem bn_0 {n m : Nat} (h : n < m) : bn n m = 0 := by
  induction n generalizing m with
  | zero => cases m with
    | zero => omega
    | succ m => rfl
  | succ n ih => cases m with
    | zero => omega
    | succ m => show bn n m + bn n (m + 1) = 0; rw [ih (by omega), ih (by omega)]
theorem bn_00 (n : Nat) : bn n 0 = 1 := by cases n <;> rfl
/-- the next binomial -/
theorem bn_next (n m : Nat) : bn n (m + 1) * (m + 1) = bn n m * (n - m) := by
  induction n generalizing m with
  | zero => rw [Nat.zero_sub, Nat.mul_zero]; exact Nat.zero_mul _
  | succ n ih =>
    cases m with
    | zero =>
      show (bn n 0 + bn n 1) * 1 = bn (n + 1) 0 * (n + 1)
      have h : bn n 1 * 1 = bn n 0 * (n - 0) := ih 0
      rw [bn_00, Nat.one_mul, Nat.sub_zero] at h
      rw [bn_00, bn_00]; omega
    | succ m =>
      show (bn n (m + 1) + bn n (m + 2)) * (m + 2) = (bn n m + bn n (m + 1)) * (n + 1 - (m + 1))
      have h1 := ih m
      have h2 := ih (m + 1)
      rw [show m + 1 + 1 = m + 2 by rfl] at h2
      by_cases q : m < n
      · obtain ⟨k, rfl⟩ : ∃ k, n = m + 1 + k := ⟨n - m - 1, by omega⟩
        rw [show m + 1 + k - m = k + 1 by omega] at h1
        rw [show m + 1 + k - (m + 1) = k by omega] at h2
        rw [show m + 1 + k + 1 - (m + 1) = k + 1 by omega, Nat.add_mul, Nat.add_mul, h2, ← h1, Nat.mul_add (bn (m + 1 + k) (m + 1)) (m + 1) 1, Nat.mul_add (bn (m + 1 + k) (m + 1)) k 1]
        omega
      · rw [bn_0 (show n < m + 1 by omega), bn_0 (show n < m + 2 by omega), show n + 1 - (m + 1) = 0 by omega, Nat.mul_zero, Nat.add_zero, Nat.zero_mul]
theorem bn_div {n m : Nat} (h : m < n) : bn n m * (n - (m + 1) + 1) / (m + 1) = bn n (m + 1) := by
  rw [show n - (m + 1) + 1 = n - m by omega, ← bn_next]
  exact Nat.mul_div_cancel _ (Nat.succ_pos m)
end GROW
theorem od_p1 {c x a : Nat} (hc : c ≤ 1073741824) (hx : x ≤ 20000) (ha : a ≤ 30) : c * x ^ a < 2 ^ (32 * 40) := by
  have h1 : x ^ a ≤ 20000 ^ 30 := Nat.le_trans (Nat.pow_le_pow_left hx a) (Nat.pow_le_pow_right (by decide) ha)
  have h2 : c * x ^ a ≤ 1073741824 * 20000 ^ 30 := Nat.mul_le_mul hc h1
  exact Nat.lt_of_le_of_lt h2 (by decide +kernel)
theorem od_p2 {c x y a b : Nat} (hc : c ≤ 1073741824) (hx : x ≤ 20000) (hy : y ≤ 20000) (ha : a ≤ 30) (hb : b ≤ 30) : c * x ^ a * y ^ b < 2 ^ (32 * 40) := by
  have h1 : x ^ a ≤ 20000 ^ 30 := Nat.le_trans (Nat.pow_le_pow_left hx a) (Nat.pow_le_pow_right (by decide) ha)
  have h3 : y ^ b ≤ 20000 ^ 30 := Nat.le_trans (Nat.pow_le_pow_left hy b) (Nat.pow_le_pow_right (by decide) hb)
  have h2 : c * x ^ a * y ^ b ≤ 1073741824 * 20000 ^ 30 * 20000 ^ 30 := Nat.mul_le_mul (Nat.mul_le_mul hc h1) h3
  exact Nat.lt_of_le_of_lt h2 (by decide +kernel)
set_option maxHeartbeats 4000000 in
set_option maxRecDepth 100000 in
theorem lp_grow (G : gG) (d n : Nat) (ex : Bool) (h0 : gH) {su : Nat → Nat → Bool} {lf : Nat → Int32} {r : Nat → Nat} {m x y S0 nn : Nat} (hlf : Lf lf su nn (nn + 1)) (hm : m ≤ nn) (hnn : nn ≤ 30) (hx : x ≤ 20000) (hy : y ≤ 20000) (hr : ∀ j, r j ≤ 536870912) (hB : S0 + hd_ (wt su r m x y) (m + 1) < 2 ^ (32 * 40)) : ∀ (i acc : Nat) (f : Nat → Int32) (h : gH), i ≤ m + 1 → h 123 = some (.inr (4, OdO)) → h 124 = some (.inl (0, 31, .inl lf)) → h 125 = some (.inl (0, 31, .inl f)) → (∀ j, j < i → j < m → f j = nI (r j)) → (∀ j, i ≤ j → j ≤ m → f j = nI (gr su r m j)) → Wh h 131 132 40 acc → acc + hd_ (wt su r m x y) i = S0 + hd_ (wt su r m x y) (m + 1) → Wr h 133 134 40 → g_fr [125, 131, 132, 133, 134] h0 h →
    g_W G mX4_growRows (g_rm (d + 3) 0 0) (g_K G (q_v n ex [125, 131, 132, 133, 134] h0 (fun h' => Wr h' 133 134 40 ∧ Wh h' 131 132 40 (S0 + hd_ (wt su r m x y) (m + 1)) ∧ ∃ f', h' 125 = some (.inl (0, 31, .inl f')) ∧ ∀ a, a ≤ m → f' a = nI (gr su r m a))) 0 0) n ex h 0 0 3 [(4, .int (nI i - nI 1)), (0, .ref 123), (1, .int (nI m)), (2, .int (nI x)), (3, .int (nI y))] [] := by
  intro i
  induction i with
  | zero =>
    intro acc f h hi o1 o2 o3 hlo hhi hs0 hacc hterm hf
    refine g_iload dX4_growRows_3 rfl ?_
    refine g_if_lt (tgt := 115) dX4_growRows_5 (by decide) (fun c5 => ?_) (fun c5 => ?_)
    · exact e_v dX4_growRows_115 rfl hf ⟨hterm, by rw [← hacc]; exact hs0, f, o3, fun a ha => hhi a (by omega) ha⟩ (by decide) (by decide)
    · exact absurd (show nI 0 - nI 1 < 0 by decide) c5
  | succ i ih =>
    intro acc f h hi o1 o2 o3 hlo hhi hs0 hacc hterm hf
    rw [nI_pr]
    have hcn : cn r m i ≤ 1073741824 := cn_le hr
    have hri := hr i
    have hacc2 : acc + (hd_ (wt su r m x y) i + wt su r m x y i) = S0 + hd_ (wt su r m x y) (m + 1) := hacc
    have hri1 := hr (i - 1)
    obtain ⟨x9, f9, hw9, ha9⟩ := id hterm
    refine g_iload dX4_growRows_3 rfl ?_
    refine g_if_ltN (tgt := 115) dX4_growRows_5 (by decide) (by omega) (fun c5 => ?_) (fun c5 => ?_)
    · exact c5.elim
    · refine g_iload dX4_growRows_8 rfl ?_
      refine g_iload_n dX4_growRows_10 rfl rfl ?_
      refine g_icmp_geN (tgt := 24) dX4_growRows_11 (by decide) (by omega) (by omega) (fun c11 => ?_) (fun c11 => ?_)
      · refine g_iconst (v := nI 0) dX4_growRows_24 (by decide) ?_
        refine g_istore (ls' := [(5, .int (nI 0)), (4, .int (nI i)), (0, .ref 123), (1, .int (nI m)), (2, .int (nI x)), (3, .int (nI y))]) dX4_growRows_25 (by decide) rfl ?_
        refine g_iload dX4_growRows_27 rfl ?_
        refine g_if_leN (tgt := 46) dX4_growRows_29 (by decide) (by omega) (fun c29 => ?_) (fun c29 => ?_)
        · have hcv : 0 = cn r m i := by
            unfold cn
            (repeat' split) <;> omega
          rw [show nI (0) = nI (cn r m i) by rw [hcv]]
          obtain ⟨L0, hL0, hL1, hL2⟩ := hlf (m - i) (by omega)
          have hL3 := hL2 i (by omega)
          refine g_iload dX4_growRows_46 rfl ?_
          refine g_aload_n dX4_growRows_48 rfl rfl ?_
          refine g_getf dX4_growRows_49 fX4_9 o1 rfl ?_
          refine g_iload_n dX4_growRows_52 rfl rfl ?_
          refine g_iload dX4_growRows_53 rfl ?_
          refine g_isubN dX4_growRows_55 (by omega) ?_
          refine g_ialdN dX4_growRows_56 o2 (by omega) (by decide) ?_
          refine g_top (show lf (m - i) = nI L0 from hL0) ?_
          refine g_icmp_ltN (tgt := 100) dX4_growRows_57 (by decide) (by omega) (by omega) (fun c57 => ?_) (fun c57 => ?_)
          · have hsu : ¬ su i (m - i) = true := fun q => absurd (hL3.mpr q) (by omega)
            refine g_aload_n dX4_growRows_100 rfl rfl ?_
            refine g_getf dX4_growRows_101 fX4_15 o1 rfl ?_
            refine g_iload dX4_growRows_104 rfl ?_
            refine g_iload dX4_growRows_106 rfl ?_
            refine g_iastN dX4_growRows_108 o3 (by omega) (by decide) ?_
            refine g_iinc (v := nI i - nI 1) (ls' := [(4, .int (nI i - nI 1)), (5, .int (nI (cn r m i))), (0, .ref 123), (1, .int (nI m)), (2, .int (nI x)), (3, .int (nI y))]) dX4_growRows_109 rfl (nI_dec _) (by decide) rfl ?_
            refine g_goto (tgt := 3) dX4_growRows_112 (by decide) ?_
            refine g_pick [0, 2, 3, 4, 5] (ls' := [(4, .int (nI i - nI 1)), (0, .ref 123), (1, .int (nI m)), (2, .int (nI x)), (3, .int (nI y))]) rfl ?_
            refine ih _ _ _ (by omega) (g_ne (by decide) o1) (g_ne (by decide) o2) (g_eq) (fun j h1 h2 => (by show (if j = i then _ else _) = _; rw [if_neg (by omega)]; exact hlo j (by omega) h2)) (fun j h1 h2 => (by show (if j = i then _ else _) = _; by_cases q : j = i; (rw [if_pos q, q, show gr su r m i = cn r m i from if_neg hsu]); (rw [if_neg q]; exact hhi j (by omega) h2))) (hs0.fr (S := [125]) (g_fr.rf.up (by simp)) (by intro q; simp only [List.mem_cons, List.not_mem_nil, or_false] at q; omega) (by intro q; simp only [List.mem_cons, List.not_mem_nil, or_false] at q; omega)) ?_ (hterm.fr (S := [125]) (g_fr.rf.up (by simp)) (by intro q; simp only [List.mem_cons, List.not_mem_nil, or_false] at q; omega) (by intro q; simp only [List.mem_cons, List.not_mem_nil, or_false] at q; omega)) (hf.up (by simp))
            rw [← hacc]
            show _ = acc + (hd_ (wt su r m x y) i + wt su r m x y i)
            rw [show wt su r m x y i = 0 from if_neg hsu]
            omega
          · have hsu : su i (m - i) = true := hL3.mp c57
            have hwt : wt su r m x y i = cn r m i * x ^ i * y ^ (m - i) := if_pos hsu
            have hle : hd_ (wt su r m x y) i + wt su r m x y i ≤ hd_ (wt su r m x y) (m + 1) := hd_mono (f := wt su r m x y) (show i + 1 ≤ m + 1 by omega)
            refine g_aload_n dX4_growRows_60 rfl rfl ?_
            refine g_getf dX4_growRows_61 fX4_34 o1 rfl ?_
            refine g_iload dX4_growRows_64 rfl ?_
            refine g_i2lN dX4_growRows_66 (by omega) ?_
            refine cVvE (st := []) dX4_growRows_67 (c_become G (d + 1) n ex h hw9 ha9 (by decide) (by omega) (Nat.lt_of_le_of_lt hcn (by decide +kernel))) sX4_63 (⟨_, hw9⟩) rfl rfl (by simp only [g_rm]; omega) (by simp only [g_rm]; omega) (Nat.le_of_ble_eq_true rfl) ⟨Nat.le_of_ble_eq_true rfl, Nat.le_of_ble_eq_true rfl⟩ (fun h1 fr2 p3 => ?_)
            have ht1 := p3
            have hs1 := hs0.fr fr2 (by intro q; simp only [List.mem_cons, List.not_mem_nil, or_false] at q; omega) (by intro q; simp only [List.mem_cons, List.not_mem_nil, or_false] at q; omega)
            refine g_aload_n dX4_growRows_70 rfl rfl ?_
            refine g_iload_n dX4_growRows_71 rfl rfl ?_
            refine g_iload dX4_growRows_72 rfl ?_
            refine cVv (st := []) dX4_growRows_74 (c_multiplyTerm G d n ex h1 (V := cn r m i) hx (by omega) (fun q hq => od_p1 hcn hx (by omega)) (fr2.at (by intro q; simp only [List.mem_cons, List.not_mem_nil, or_false] at q; omega) o1) ht1) sX4_77 (fr2.at (by intro q; simp only [List.mem_cons, List.not_mem_nil, or_false] at q; omega) o1) rfl rfl (by simp only [g_rm]; omega) (by simp only [g_rm]; omega) (Nat.le_of_ble_eq_true rfl) ⟨Nat.le_of_ble_eq_true rfl, Nat.le_of_ble_eq_true rfl⟩ (fun h5 fr6 p7 => ?_)
            have ht2 := p7
            have hs2 := hs1.fr fr6 (by intro q; simp only [List.mem_cons, List.not_mem_nil, or_false] at q; omega) (by intro q; simp only [List.mem_cons, List.not_mem_nil, or_false] at q; omega)
            refine g_aload_n dX4_growRows_77 rfl rfl ?_
            refine g_iload_n dX4_growRows_78 rfl rfl ?_
            refine g_iload_n dX4_growRows_79 rfl rfl ?_
            refine g_iload dX4_growRows_80 rfl ?_
            refine g_isubN dX4_growRows_82 (by omega) ?_
            refine cVv (st := []) dX4_growRows_83 (c_multiplyTerm G d n ex h5 (V := cn r m i * x ^ i) hy (by omega) (fun q hq => od_p2 hcn hx hy (by omega) (by omega)) (fr6.at (by intro q; simp only [List.mem_cons, List.not_mem_nil, or_false] at q; omega) (fr2.at (by intro q; simp only [List.mem_cons, List.not_mem_nil, or_false] at q; omega) o1)) ht2) sX4_77 (fr6.at (by intro q; simp only [List.mem_cons, List.not_mem_nil, or_false] at q; omega) (fr2.at (by intro q; simp only [List.mem_cons, List.not_mem_nil, or_false] at q; omega) o1)) rfl rfl (by simp only [g_rm]; omega) (by simp only [g_rm]; omega) (Nat.le_of_ble_eq_true rfl) ⟨Nat.le_of_ble_eq_true rfl, Nat.le_of_ble_eq_true rfl⟩ (fun h9 fr10 p11 => ?_)
            have ht3 := p11
            have hs3 := hs2.fr fr10 (by intro q; simp only [List.mem_cons, List.not_mem_nil, or_false] at q; omega) (by intro q; simp only [List.mem_cons, List.not_mem_nil, or_false] at q; omega)
            refine g_aload_n dX4_growRows_86 rfl rfl ?_
            refine g_getf dX4_growRows_87 fX4_30 (fr10.at (by intro q; simp only [List.mem_cons, List.not_mem_nil, or_false] at q; omega) (fr6.at (by intro q; simp only [List.mem_cons, List.not_mem_nil, or_false] at q; omega) (fr2.at (by intro q; simp only [List.mem_cons, List.not_mem_nil, or_false] at q; omega) o1))) rfl ?_
            refine g_aload_n dX4_growRows_90 rfl rfl ?_
            refine g_getf dX4_growRows_91 fX4_34 (fr10.at (by intro q; simp only [List.mem_cons, List.not_mem_nil, or_false] at q; omega) (fr6.at (by intro q; simp only [List.mem_cons, List.not_mem_nil, or_false] at q; omega) (fr2.at (by intro q; simp only [List.mem_cons, List.not_mem_nil, or_false] at q; omega) o1))) rfl ?_
            refine cVvE (st := []) dX4_growRows_94 (c_add G (d + 1) n ex h9 hs3 ht3 (by decide) (by decide) (Nat.lt_of_le_of_lt (by omega) hB) (by decide) (by decide)) sX4_81 hs3.cell rfl rfl (by simp only [g_rm]; omega) (by simp only [g_rm]; omega) (Nat.le_of_ble_eq_true rfl) ⟨Nat.le_of_ble_eq_true rfl, Nat.le_of_ble_eq_true rfl⟩ (fun h13 fr14 p15 => ?_)
            have hs4 := p15
            have ht4 := ht3.fr fr14 (by intro q; simp only [List.mem_cons, List.not_mem_nil, or_false] at q; omega) (by intro q; simp only [List.mem_cons, List.not_mem_nil, or_false] at q; omega)
            refine g_iconst (v := nI 0) dX4_growRows_97 (by decide) ?_
            refine g_istore (ls' := [(5, .int (nI 0)), (4, .int (nI i)), (0, .ref 123), (1, .int (nI m)), (2, .int (nI x)), (3, .int (nI y))]) dX4_growRows_98 (by decide) rfl ?_
            refine g_aload_n dX4_growRows_100 rfl rfl ?_
            refine g_getf dX4_growRows_101 fX4_15 (fr14.at (by intro q; simp only [List.mem_cons, List.not_mem_nil, or_false] at q; omega) (fr10.at (by intro q; simp only [List.mem_cons, List.not_mem_nil, or_false] at q; omega) (fr6.at (by intro q; simp only [List.mem_cons, List.not_mem_nil, or_false] at q; omega) (fr2.at (by intro q; simp only [List.mem_cons, List.not_mem_nil, or_false] at q; omega) o1)))) rfl ?_
            refine g_iload dX4_growRows_104 rfl ?_
            refine g_iload dX4_growRows_106 rfl ?_
            refine g_iastN dX4_growRows_108 (fr14.at (by intro q; simp only [List.mem_cons, List.not_mem_nil, or_false] at q; omega) (fr10.at (by intro q; simp only [List.mem_cons, List.not_mem_nil, or_false] at q; omega) (fr6.at (by intro q; simp only [List.mem_cons, List.not_mem_nil, or_false] at q; omega) (fr2.at (by intro q; simp only [List.mem_cons, List.not_mem_nil, or_false] at q; omega) o3)))) (by omega) (by decide) ?_
            refine g_iinc (v := nI i - nI 1) (ls' := [(4, .int (nI i - nI 1)), (5, .int (nI 0)), (0, .ref 123), (1, .int (nI m)), (2, .int (nI x)), (3, .int (nI y))]) dX4_growRows_109 rfl (nI_dec _) (by decide) rfl ?_
            refine g_goto (tgt := 3) dX4_growRows_112 (by decide) ?_
            refine g_pick [0, 2, 3, 4, 5] (ls' := [(4, .int (nI i - nI 1)), (0, .ref 123), (1, .int (nI m)), (2, .int (nI x)), (3, .int (nI y))]) rfl ?_
            refine ih _ _ _ (by omega) (g_ne (by decide) (fr14.at (by intro q; simp only [List.mem_cons, List.not_mem_nil, or_false] at q; omega) (fr10.at (by intro q; simp only [List.mem_cons, List.not_mem_nil, or_false] at q; omega) (fr6.at (by intro q; simp only [List.mem_cons, List.not_mem_nil, or_false] at q; omega) (fr2.at (by intro q; simp only [List.mem_cons, List.not_mem_nil, or_false] at q; omega) o1))))) (g_ne (by decide) (fr14.at (by intro q; simp only [List.mem_cons, List.not_mem_nil, or_false] at q; omega) (fr10.at (by intro q; simp only [List.mem_cons, List.not_mem_nil, or_false] at q; omega) (fr6.at (by intro q; simp only [List.mem_cons, List.not_mem_nil, or_false] at q; omega) (fr2.at (by intro q; simp only [List.mem_cons, List.not_mem_nil, or_false] at q; omega) o2))))) (g_eq) (fun j h1 h2 => (by show (if j = i then _ else _) = _; rw [if_neg (by omega)]; exact hlo j (by omega) h2)) (fun j h1 h2 => (by show (if j = i then _ else _) = _; by_cases q : j = i; (rw [if_pos q, q]; rw [show gr su r m i = 0 from if_pos hsu]); (rw [if_neg q]; exact hhi j (by omega) h2))) (hs4.fr (S := [125]) (g_fr.rf.up (by simp)) (by intro q; simp only [List.mem_cons, List.not_mem_nil, or_false] at q; omega) (by intro q; simp only [List.mem_cons, List.not_mem_nil, or_false] at q; omega)) ?_ (ht4.fr (S := [125]) (g_fr.rf.up (by simp)) (by intro q; simp only [List.mem_cons, List.not_mem_nil, or_false] at q; omega) (by intro q; simp only [List.mem_cons, List.not_mem_nil, or_false] at q; omega)).r ((((((hf).tr fr2 (by simp)).tr fr6 (by simp)).tr fr10 (by simp)).tr fr14 (by simp)).up (by simp))
            rw [← hacc]
            show _ = acc + (hd_ (wt su r m x y) i + wt su r m x y i)
            omega
        · refine g_iload dX4_growRows_32 rfl ?_
          refine g_aload_n dX4_growRows_34 rfl rfl ?_
          refine g_getf dX4_growRows_35 fX4_15 o1 rfl ?_
          refine g_iload dX4_growRows_38 rfl ?_
          refine g_iconst (v := nI 1) dX4_growRows_40 (by decide) ?_
          refine g_isubN dX4_growRows_41 (by omega) ?_
          refine g_ialdN dX4_growRows_42 o3 (by omega) (by decide) ?_
          refine g_top (show f (i - 1) = nI (r (i - 1)) from (hlo (i - 1) (by omega) (by omega))) ?_
          refine g_iaddN dX4_growRows_43 ?_
          refine g_istore (ls' := [(5, .int (nI (0 + (r (i - 1))))), (4, .int (nI i)), (0, .ref 123), (1, .int (nI m)), (2, .int (nI x)), (3, .int (nI y))]) dX4_growRows_44 (by decide) rfl ?_
          have hcv : (0 + (r (i - 1))) = cn r m i := by
            unfold cn
            (repeat' split) <;> omega
          rw [show nI ((0 + (r (i - 1)))) = nI (cn r m i) by rw [hcv]]
          obtain ⟨L0, hL0, hL1, hL2⟩ := hlf (m - i) (by omega)
          have hL3 := hL2 i (by omega)
          refine g_iload dX4_growRows_46 rfl ?_
          refine g_aload_n dX4_growRows_48 rfl rfl ?_
          refine g_getf dX4_growRows_49 fX4_9 o1 rfl ?_
          refine g_iload_n dX4_growRows_52 rfl rfl ?_
          refine g_iload dX4_growRows_53 rfl ?_
          refine g_isubN dX4_growRows_55 (by omega) ?_
          refine g_ialdN dX4_growRows_56 o2 (by omega) (by decide) ?_
          refine g_top (show lf (m - i) = nI L0 from hL0) ?_
          refine g_icmp_ltN (tgt := 100) dX4_growRows_57 (by decide) (by omega) (by omega) (fun c57 => ?_) (fun c57 => ?_)
          · have hsu : ¬ su i (m - i) = true := fun q => absurd (hL3.mpr q) (by omega)
            refine g_aload_n dX4_growRows_100 rfl rfl ?_
            refine g_getf dX4_growRows_101 fX4_15 o1 rfl ?_
            refine g_iload dX4_growRows_104 rfl ?_
            refine g_iload dX4_growRows_106 rfl ?_
            refine g_iastN dX4_growRows_108 o3 (by omega) (by decide) ?_
            refine g_iinc (v := nI i - nI 1) (ls' := [(4, .int (nI i - nI 1)), (5, .int (nI (cn r m i))), (0, .ref 123), (1, .int (nI m)), (2, .int (nI x)), (3, .int (nI y))]) dX4_growRows_109 rfl (nI_dec _) (by decide) rfl ?_
            refine g_goto (tgt := 3) dX4_growRows_112 (by decide) ?_
            refine g_pick [0, 2, 3, 4, 5] (ls' := [(4, .int (nI i - nI 1)), (0, .ref 123), (1, .int (nI m)), (2, .int (nI x)), (3, .int (nI y))]) rfl ?_
            refine ih _ _ _ (by omega) (g_ne (by decide) o1) (g_ne (by decide) o2) (g_eq) (fun j h1 h2 => (by show (if j = i then _ else _) = _; rw [if_neg (by omega)]; exact hlo j (by omega) h2)) (fun j h1 h2 => (by show (if j = i then _ else _) = _; by_cases q : j = i; (rw [if_pos q, q, show gr su r m i = cn r m i from if_neg hsu]); (rw [if_neg q]; exact hhi j (by omega) h2))) (hs0.fr (S := [125]) (g_fr.rf.up (by simp)) (by intro q; simp only [List.mem_cons, List.not_mem_nil, or_false] at q; omega) (by intro q; simp only [List.mem_cons, List.not_mem_nil, or_false] at q; omega)) ?_ (hterm.fr (S := [125]) (g_fr.rf.up (by simp)) (by intro q; simp only [List.mem_cons, List.not_mem_nil, or_false] at q; omega) (by intro q; simp only [List.mem_cons, List.not_mem_nil, or_false] at q; omega)) (hf.up (by simp))
            rw [← hacc]
            show _ = acc + (hd_ (wt su r m x y) i + wt su r m x y i)
            rw [show wt su r m x y i = 0 from if_neg hsu]
            omega
          · have hsu : su i (m - i) = true := hL3.mp c57
            have hwt : wt su r m x y i = cn r m i * x ^ i * y ^ (m - i) := if_pos hsu
            have hle : hd_ (wt su r m x y) i + wt su r m x y i ≤ hd_ (wt su r m x y) (m + 1) := hd_mono (f := wt su r m x y) (show i + 1 ≤ m + 1 by omega)
            refine g_aload_n dX4_growRows_60 rfl rfl ?_
            refine g_getf dX4_growRows_61 fX4_34 o1 rfl ?_
            refine g_iload dX4_growRows_64 rfl ?_
            refine g_i2lN dX4_growRows_66 (by omega) ?_
            refine cVvE (st := []) dX4_growRows_67 (c_become G (d + 1) n ex h hw9 ha9 (by decide) (by omega) (Nat.lt_of_le_of_lt hcn (by decide +kernel))) sX4_63 (⟨_, hw9⟩) rfl rfl (by simp only [g_rm]; omega) (by simp only [g_rm]; omega) (Nat.le_of_ble_eq_true rfl) ⟨Nat.le_of_ble_eq_true rfl, Nat.le_of_ble_eq_true rfl⟩ (fun h17 fr18 p19 => ?_)
            have ht1 := p19
            have hs1 := hs0.fr fr18 (by intro q; simp only [List.mem_cons, List.not_mem_nil, or_false] at q; omega) (by intro q; simp only [List.mem_cons, List.not_mem_nil, or_false] at q; omega)
            refine g_aload_n dX4_growRows_70 rfl rfl ?_
            refine g_iload_n dX4_growRows_71 rfl rfl ?_
            refine g_iload dX4_growRows_72 rfl ?_
            refine cVv (st := []) dX4_growRows_74 (c_multiplyTerm G d n ex h17 (V := cn r m i) hx (by omega) (fun q hq => od_p1 hcn hx (by omega)) (fr18.at (by intro q; simp only [List.mem_cons, List.not_mem_nil, or_false] at q; omega) o1) ht1) sX4_77 (fr18.at (by intro q; simp only [List.mem_cons, List.not_mem_nil, or_false] at q; omega) o1) rfl rfl (by simp only [g_rm]; omega) (by simp only [g_rm]; omega) (Nat.le_of_ble_eq_true rfl) ⟨Nat.le_of_ble_eq_true rfl, Nat.le_of_ble_eq_true rfl⟩ (fun h21 fr22 p23 => ?_)
            have ht2 := p23
            have hs2 := hs1.fr fr22 (by intro q; simp only [List.mem_cons, List.not_mem_nil, or_false] at q; omega) (by intro q; simp only [List.mem_cons, List.not_mem_nil, or_false] at q; omega)
            refine g_aload_n dX4_growRows_77 rfl rfl ?_
            refine g_iload_n dX4_growRows_78 rfl rfl ?_
            refine g_iload_n dX4_growRows_79 rfl rfl ?_
            refine g_iload dX4_growRows_80 rfl ?_
            refine g_isubN dX4_growRows_82 (by omega) ?_
            refine cVv (st := []) dX4_growRows_83 (c_multiplyTerm G d n ex h21 (V := cn r m i * x ^ i) hy (by omega) (fun q hq => od_p2 hcn hx hy (by omega) (by omega)) (fr22.at (by intro q; simp only [List.mem_cons, List.not_mem_nil, or_false] at q; omega) (fr18.at (by intro q; simp only [List.mem_cons, List.not_mem_nil, or_false] at q; omega) o1)) ht2) sX4_77 (fr22.at (by intro q; simp only [List.mem_cons, List.not_mem_nil, or_false] at q; omega) (fr18.at (by intro q; simp only [List.mem_cons, List.not_mem_nil, or_false] at q; omega) o1)) rfl rfl (by simp only [g_rm]; omega) (by simp only [g_rm]; omega) (Nat.le_of_ble_eq_true rfl) ⟨Nat.le_of_ble_eq_true rfl, Nat.le_of_ble_eq_true rfl⟩ (fun h25 fr26 p27 => ?_)
            have ht3 := p27
            have hs3 := hs2.fr fr26 (by intro q; simp only [List.mem_cons, List.not_mem_nil, or_false] at q; omega) (by intro q; simp only [List.mem_cons, List.not_mem_nil, or_false] at q; omega)
            refine g_aload_n dX4_growRows_86 rfl rfl ?_
            refine g_getf dX4_growRows_87 fX4_30 (fr26.at (by intro q; simp only [List.mem_cons, List.not_mem_nil, or_false] at q; omega) (fr22.at (by intro q; simp only [List.mem_cons, List.not_mem_nil, or_false] at q; omega) (fr18.at (by intro q; simp only [List.mem_cons, List.not_mem_nil, or_false] at q; omega) o1))) rfl ?_
            refine g_aload_n dX4_growRows_90 rfl rfl ?_
            refine g_getf dX4_growRows_91 fX4_34 (fr26.at (by intro q; simp only [List.mem_cons, List.not_mem_nil, or_false] at q; omega) (fr22.at (by intro q; simp only [List.mem_cons, List.not_mem_nil, or_false] at q; omega) (fr18.at (by intro q; simp only [List.mem_cons, List.not_mem_nil, or_false] at q; omega) o1))) rfl ?_
            refine cVvE (st := []) dX4_growRows_94 (c_add G (d + 1) n ex h25 hs3 ht3 (by decide) (by decide) (Nat.lt_of_le_of_lt (by omega) hB) (by decide) (by decide)) sX4_81 hs3.cell rfl rfl (by simp only [g_rm]; omega) (by simp only [g_rm]; omega) (Nat.le_of_ble_eq_true rfl) ⟨Nat.le_of_ble_eq_true rfl, Nat.le_of_ble_eq_true rfl⟩ (fun h29 fr30 p31 => ?_)
            have hs4 := p31
            have ht4 := ht3.fr fr30 (by intro q; simp only [List.mem_cons, List.not_mem_nil, or_false] at q; omega) (by intro q; simp only [List.mem_cons, List.not_mem_nil, or_false] at q; omega)
            refine g_iconst (v := nI 0) dX4_growRows_97 (by decide) ?_
            refine g_istore (ls' := [(5, .int (nI 0)), (4, .int (nI i)), (0, .ref 123), (1, .int (nI m)), (2, .int (nI x)), (3, .int (nI y))]) dX4_growRows_98 (by decide) rfl ?_
            refine g_aload_n dX4_growRows_100 rfl rfl ?_
            refine g_getf dX4_growRows_101 fX4_15 (fr30.at (by intro q; simp only [List.mem_cons, List.not_mem_nil, or_false] at q; omega) (fr26.at (by intro q; simp only [List.mem_cons, List.not_mem_nil, or_false] at q; omega) (fr22.at (by intro q; simp only [List.mem_cons, List.not_mem_nil, or_false] at q; omega) (fr18.at (by intro q; simp only [List.mem_cons, List.not_mem_nil, or_false] at q; omega) o1)))) rfl ?_
            refine g_iload dX4_growRows_104 rfl ?_
            refine g_iload dX4_growRows_106 rfl ?_
            refine g_iastN dX4_growRows_108 (fr30.at (by intro q; simp only [List.mem_cons, List.not_mem_nil, or_false] at q; omega) (fr26.at (by intro q; simp only [List.mem_cons, List.not_mem_nil, or_false] at q; omega) (fr22.at (by intro q; simp only [List.mem_cons, List.not_mem_nil, or_false] at q; omega) (fr18.at (by intro q; simp only [List.mem_cons, List.not_mem_nil, or_false] at q; omega) o3)))) (by omega) (by decide) ?_
            refine g_iinc (v := nI i - nI 1) (ls' := [(4, .int (nI i - nI 1)), (5, .int (nI 0)), (0, .ref 123), (1, .int (nI m)), (2, .int (nI x)), (3, .int (nI y))]) dX4_growRows_109 rfl (nI_dec _) (by decide) rfl ?_
            refine g_goto (tgt := 3) dX4_growRows_112 (by decide) ?_
            refine g_pick [0, 2, 3, 4, 5] (ls' := [(4, .int (nI i - nI 1)), (0, .ref 123), (1, .int (nI m)), (2, .int (nI x)), (3, .int (nI y))]) rfl ?_
            refine ih _ _ _ (by omega) (g_ne (by decide) (fr30.at (by intro q; simp only [List.mem_cons, List.not_mem_nil, or_false] at q; omega) (fr26.at (by intro q; simp only [List.mem_cons, List.not_mem_nil, or_false] at q; omega) (fr22.at (by intro q; simp only [List.mem_cons, List.not_mem_nil, or_false] at q; omega) (fr18.at (by intro q; simp only [List.mem_cons, List.not_mem_nil, or_false] at q; omega) o1))))) (g_ne (by decide) (fr30.at (by intro q; simp only [List.mem_cons, List.not_mem_nil, or_false] at q; omega) (fr26.at (by intro q; simp only [List.mem_cons, List.not_mem_nil, or_false] at q; omega) (fr22.at (by intro q; simp only [List.mem_cons, List.not_mem_nil, or_false] at q; omega) (fr18.at (by intro q; simp only [List.mem_cons, List.not_mem_nil, or_false] at q; omega) o2))))) (g_eq) (fun j h1 h2 => (by show (if j = i then _ else _) = _; rw [if_neg (by omega)]; exact hlo j (by omega) h2)) (fun j h1 h2 => (by show (if j = i then _ else _) = _; by_cases q : j = i; (rw [if_pos q, q]; rw [show gr su r m i = 0 from if_pos hsu]); (rw [if_neg q]; exact hhi j (by omega) h2))) (hs4.fr (S := [125]) (g_fr.rf.up (by simp)) (by intro q; simp only [List.mem_cons, List.not_mem_nil, or_false] at q; omega) (by intro q; simp only [List.mem_cons, List.not_mem_nil, or_false] at q; omega)) ?_ (ht4.fr (S := [125]) (g_fr.rf.up (by simp)) (by intro q; simp only [List.mem_cons, List.not_mem_nil, or_false] at q; omega) (by intro q; simp only [List.mem_cons, List.not_mem_nil, or_false] at q; omega)).r ((((((hf).tr fr18 (by simp)).tr fr22 (by simp)).tr fr26 (by simp)).tr fr30 (by simp)).up (by simp))
            rw [← hacc]
            show _ = acc + (hd_ (wt su r m x y) i + wt su r m x y i)
            omega
      · refine g_aload_n dX4_growRows_14 rfl rfl ?_
        refine g_getf dX4_growRows_15 fX4_15 o1 rfl ?_
        refine g_iload dX4_growRows_18 rfl ?_
        refine g_ialdN dX4_growRows_20 o3 (by omega) (by decide) ?_
        refine g_top (show f i = nI (r i) from (hlo i (by omega) (by omega))) ?_
        refine g_goto (tgt := 25) dX4_growRows_21 (by decide) ?_
        refine g_istore (ls' := [(5, .int (nI (r i))), (4, .int (nI i)), (0, .ref 123), (1, .int (nI m)), (2, .int (nI x)), (3, .int (nI y))]) dX4_growRows_25 (by decide) rfl ?_
        refine g_iload dX4_growRows_27 rfl ?_
        refine g_if_leN (tgt := 46) dX4_growRows_29 (by decide) (by omega) (fun c29 => ?_) (fun c29 => ?_)
        · have hcv : (r i) = cn r m i := by
            unfold cn
            (repeat' split) <;> omega
          rw [show nI ((r i)) = nI (cn r m i) by rw [hcv]]
          obtain ⟨L0, hL0, hL1, hL2⟩ := hlf (m - i) (by omega)
          have hL3 := hL2 i (by omega)
          refine g_iload dX4_growRows_46 rfl ?_
          refine g_aload_n dX4_growRows_48 rfl rfl ?_
          refine g_getf dX4_growRows_49 fX4_9 o1 rfl ?_
          refine g_iload_n dX4_growRows_52 rfl rfl ?_
          refine g_iload dX4_growRows_53 rfl ?_
          refine g_isubN dX4_growRows_55 (by omega) ?_
          refine g_ialdN dX4_growRows_56 o2 (by omega) (by decide) ?_
          refine g_top (show lf (m - i) = nI L0 from hL0) ?_
          refine g_icmp_ltN (tgt := 100) dX4_growRows_57 (by decide) (by omega) (by omega) (fun c57 => ?_) (fun c57 => ?_)
          · have hsu : ¬ su i (m - i) = true := fun q => absurd (hL3.mpr q) (by omega)
            refine g_aload_n dX4_growRows_100 rfl rfl ?_
            refine g_getf dX4_growRows_101 fX4_15 o1 rfl ?_
            refine g_iload dX4_growRows_104 rfl ?_
            refine g_iload dX4_growRows_106 rfl ?_
            refine g_iastN dX4_growRows_108 o3 (by omega) (by decide) ?_
            refine g_iinc (v := nI i - nI 1) (ls' := [(4, .int (nI i - nI 1)), (5, .int (nI (cn r m i))), (0, .ref 123), (1, .int (nI m)), (2, .int (nI x)), (3, .int (nI y))]) dX4_growRows_109 rfl (nI_dec _) (by decide) rfl ?_
            refine g_goto (tgt := 3) dX4_growRows_112 (by decide) ?_
            refine g_pick [0, 2, 3, 4, 5] (ls' := [(4, .int (nI i - nI 1)), (0, .ref 123), (1, .int (nI m)), (2, .int (nI x)), (3, .int (nI y))]) rfl ?_
            refine ih _ _ _ (by omega) (g_ne (by decide) o1) (g_ne (by decide) o2) (g_eq) (fun j h1 h2 => (by show (if j = i then _ else _) = _; rw [if_neg (by omega)]; exact hlo j (by omega) h2)) (fun j h1 h2 => (by show (if j = i then _ else _) = _; by_cases q : j = i; (rw [if_pos q, q, show gr su r m i = cn r m i from if_neg hsu]); (rw [if_neg q]; exact hhi j (by omega) h2))) (hs0.fr (S := [125]) (g_fr.rf.up (by simp)) (by intro q; simp only [List.mem_cons, List.not_mem_nil, or_false] at q; omega) (by intro q; simp only [List.mem_cons, List.not_mem_nil, or_false] at q; omega)) ?_ (hterm.fr (S := [125]) (g_fr.rf.up (by simp)) (by intro q; simp only [List.mem_cons, List.not_mem_nil, or_false] at q; omega) (by intro q; simp only [List.mem_cons, List.not_mem_nil, or_false] at q; omega)) (hf.up (by simp))
            rw [← hacc]
            show _ = acc + (hd_ (wt su r m x y) i + wt su r m x y i)
            rw [show wt su r m x y i = 0 from if_neg hsu]
            omega
          · have hsu : su i (m - i) = true := hL3.mp c57
            have hwt : wt su r m x y i = cn r m i * x ^ i * y ^ (m - i) := if_pos hsu
            have hle : hd_ (wt su r m x y) i + wt su r m x y i ≤ hd_ (wt su r m x y) (m + 1) := hd_mono (f := wt su r m x y) (show i + 1 ≤ m + 1 by omega)
            refine g_aload_n dX4_growRows_60 rfl rfl ?_
            refine g_getf dX4_growRows_61 fX4_34 o1 rfl ?_
            refine g_iload dX4_growRows_64 rfl ?_
            refine g_i2lN dX4_growRows_66 (by omega) ?_
            refine cVvE (st := []) dX4_growRows_67 (c_become G (d + 1) n ex h hw9 ha9 (by decide) (by omega) (Nat.lt_of_le_of_lt hcn (by decide +kernel))) sX4_63 (⟨_, hw9⟩) rfl rfl (by simp only [g_rm]; omega) (by simp only [g_rm]; omega) (Nat.le_of_ble_eq_true rfl) ⟨Nat.le_of_ble_eq_true rfl, Nat.le_of_ble_eq_true rfl⟩ (fun h33 fr34 p35 => ?_)
            have ht1 := p35
            have hs1 := hs0.fr fr34 (by intro q; simp only [List.mem_cons, List.not_mem_nil, or_false] at q; omega) (by intro q; simp only [List.mem_cons, List.not_mem_nil, or_false] at q; omega)
            refine g_aload_n dX4_growRows_70 rfl rfl ?_
            refine g_iload_n dX4_growRows_71 rfl rfl ?_
            refine g_iload dX4_growRows_72 rfl ?_
            refine cVv (st := []) dX4_growRows_74 (c_multiplyTerm G d n ex h33 (V := cn r m i) hx (by omega) (fun q hq => od_p1 hcn hx (by omega)) (fr34.at (by intro q; simp only [List.mem_cons, List.not_mem_nil, or_false] at q; omega) o1) ht1) sX4_77 (fr34.at (by intro q; simp only [List.mem_cons, List.not_mem_nil, or_false] at q; omega) o1) rfl rfl (by simp only [g_rm]; omega) (by simp only [g_rm]; omega) (Nat.le_of_ble_eq_true rfl) ⟨Nat.le_of_ble_eq_true rfl, Nat.le_of_ble_eq_true rfl⟩ (fun h37 fr38 p39 => ?_)
            have ht2 := p39
            have hs2 := hs1.fr fr38 (by intro q; simp only [List.mem_cons, List.not_mem_nil, or_false] at q; omega) (by intro q; simp only [List.mem_cons, List.not_mem_nil, or_false] at q; omega)
            refine g_aload_n dX4_growRows_77 rfl rfl ?_
            refine g_iload_n dX4_growRows_78 rfl rfl ?_
            refine g_iload_n dX4_growRows_79 rfl rfl ?_
            refine g_iload dX4_growRows_80 rfl ?_
            refine g_isubN dX4_growRows_82 (by omega) ?_
            refine cVv (st := []) dX4_growRows_83 (c_multiplyTerm G d n ex h37 (V := cn r m i * x ^ i) hy (by omega) (fun q hq => od_p2 hcn hx hy (by omega) (by omega)) (fr38.at (by intro q; simp only [List.mem_cons, List.not_mem_nil, or_false] at q; omega) (fr34.at (by intro q; simp only [List.mem_cons, List.not_mem_nil, or_false] at q; omega) o1)) ht2) sX4_77 (fr38.at (by intro q; simp only [List.mem_cons, List.not_mem_nil, or_false] at q; omega) (fr34.at (by intro q; simp only [List.mem_cons, List.not_mem_nil, or_false] at q; omega) o1)) rfl rfl (by simp only [g_rm]; omega) (by simp only [g_rm]; omega) (Nat.le_of_ble_eq_true rfl) ⟨Nat.le_of_ble_eq_true rfl, Nat.le_of_ble_eq_true rfl⟩ (fun h41 fr42 p43 => ?_)
            have ht3 := p43
            have hs3 := hs2.fr fr42 (by intro q; simp only [List.mem_cons, List.not_mem_nil, or_false] at q; omega) (by intro q; simp only [List.mem_cons, List.not_mem_nil, or_false] at q; omega)
            refine g_aload_n dX4_growRows_86 rfl rfl ?_
            refine g_getf dX4_growRows_87 fX4_30 (fr42.at (by intro q; simp only [List.mem_cons, List.not_mem_nil, or_false] at q; omega) (fr38.at (by intro q; simp only [List.mem_cons, List.not_mem_nil, or_false] at q; omega) (fr34.at (by intro q; simp only [List.mem_cons, List.not_mem_nil, or_false] at q; omega) o1))) rfl ?_
            refine g_aload_n dX4_growRows_90 rfl rfl ?_
            refine g_getf dX4_growRows_91 fX4_34 (fr42.at (by intro q; simp only [List.mem_cons, List.not_mem_nil, or_false] at q; omega) (fr38.at (by intro q; simp only [List.mem_cons, List.not_mem_nil, or_false] at q; omega) (fr34.at (by intro q; simp only [List.mem_cons, List.not_mem_nil, or_false] at q; omega) o1))) rfl ?_
            refine cVvE (st := []) dX4_growRows_94 (c_add G (d + 1) n ex h41 hs3 ht3 (by decide) (by decide) (Nat.lt_of_le_of_lt (by omega) hB) (by decide) (by decide)) sX4_81 hs3.cell rfl rfl (by simp only [g_rm]; omega) (by simp only [g_rm]; omega) (Nat.le_of_ble_eq_true rfl) ⟨Nat.le_of_ble_eq_true rfl, Nat.le_of_ble_eq_true rfl⟩ (fun h45 fr46 p47 => ?_)
            have hs4 := p47
            have ht4 := ht3.fr fr46 (by intro q; simp only [List.mem_cons, List.not_mem_nil, or_false] at q; omega) (by intro q; simp only [List.mem_cons, List.not_mem_nil, or_false] at q; omega)
            refine g_iconst (v := nI 0) dX4_growRows_97 (by decide) ?_
            refine g_istore (ls' := [(5, .int (nI 0)), (4, .int (nI i)), (0, .ref 123), (1, .int (nI m)), (2, .int (nI x)), (3, .int (nI y))]) dX4_growRows_98 (by decide) rfl ?_
            refine g_aload_n dX4_growRows_100 rfl rfl ?_
            refine g_getf dX4_growRows_101 fX4_15 (fr46.at (by intro q; simp only [List.mem_cons, List.not_mem_nil, or_false] at q; omega) (fr42.at (by intro q; simp only [List.mem_cons, List.not_mem_nil, or_false] at q; omega) (fr38.at (by intro q; simp only [List.mem_cons, List.not_mem_nil, or_false] at q; omega) (fr34.at (by intro q; simp only [List.mem_cons, List.not_mem_nil, or_false] at q; omega) o1)))) rfl ?_
            refine g_iload dX4_growRows_104 rfl ?_
            refine g_iload dX4_growRows_106 rfl ?_
            refine g_iastN dX4_growRows_108 (fr46.at (by intro q; simp only [List.mem_cons, List.not_mem_nil, or_false] at q; omega) (fr42.at (by intro q; simp only [List.mem_cons, List.not_mem_nil, or_false] at q; omega) (fr38.at (by intro q; simp only [List.mem_cons, List.not_mem_nil, or_false] at q; omega) (fr34.at (by intro q; simp only [List.mem_cons, List.not_mem_nil, or_false] at q; omega) o3)))) (by omega) (by decide) ?_
            refine g_iinc (v := nI i - nI 1) (ls' := [(4, .int (nI i - nI 1)), (5, .int (nI 0)), (0, .ref 123), (1, .int (nI m)), (2, .int (nI x)), (3, .int (nI y))]) dX4_growRows_109 rfl (nI_dec _) (by decide) rfl ?_
            refine g_goto (tgt := 3) dX4_growRows_112 (by decide) ?_
            refine g_pick [0, 2, 3, 4, 5] (ls' := [(4, .int (nI i - nI 1)), (0, .ref 123), (1, .int (nI m)), (2, .int (nI x)), (3, .int (nI y))]) rfl ?_
            refine ih _ _ _ (by omega) (g_ne (by decide) (fr46.at (by intro q; simp only [List.mem_cons, List.not_mem_nil, or_false] at q; omega) (fr42.at (by intro q; simp only [List.mem_cons, List.not_mem_nil, or_false] at q; omega) (fr38.at (by intro q; simp only [List.mem_cons, List.not_mem_nil, or_false] at q; omega) (fr34.at (by intro q; simp only [List.mem_cons, List.not_mem_nil, or_false] at q; omega) o1))))) (g_ne (by decide) (fr46.at (by intro q; simp only [List.mem_cons, List.not_mem_nil, or_false] at q; omega) (fr42.at (by intro q; simp only [List.mem_cons, List.not_mem_nil, or_false] at q; omega) (fr38.at (by intro q; simp only [List.mem_cons, List.not_mem_nil, or_false] at q; omega) (fr34.at (by intro q; simp only [List.mem_cons, List.not_mem_nil, or_false] at q; omega) o2))))) (g_eq) (fun j h1 h2 => (by show (if j = i then _ else _) = _; rw [if_neg (by omega)]; exact hlo j (by omega) h2)) (fun j h1 h2 => (by show (if j = i then _ else _) = _; by_cases q : j = i; (rw [if_pos q, q]; rw [show gr su r m i = 0 from if_pos hsu]); (rw [if_neg q]; exact hhi j (by omega) h2))) (hs4.fr (S := [125]) (g_fr.rf.up (by simp)) (by intro q; simp only [List.mem_cons, List.not_mem_nil, or_false] at q; omega) (by intro q; simp only [List.mem_cons, List.not_mem_nil, or_false] at q; omega)) ?_ (ht4.fr (S := [125]) (g_fr.rf.up (by simp)) (by intro q; simp only [List.mem_cons, List.not_mem_nil, or_false] at q; omega) (by intro q; simp only [List.mem_cons, List.not_mem_nil, or_false] at q; omega)).r ((((((hf).tr fr34 (by simp)).tr fr38 (by simp)).tr fr42 (by simp)).tr fr46 (by simp)).up (by simp))
            rw [← hacc]
            show _ = acc + (hd_ (wt su r m x y) i + wt su r m x y i)
            omega
        · refine g_iload dX4_growRows_32 rfl ?_
          refine g_aload_n dX4_growRows_34 rfl rfl ?_
          refine g_getf dX4_growRows_35 fX4_15 o1 rfl ?_
          refine g_iload dX4_growRows_38 rfl ?_
          refine g_iconst (v := nI 1) dX4_growRows_40 (by decide) ?_
          refine g_isubN dX4_growRows_41 (by omega) ?_
          refine g_ialdN dX4_growRows_42 o3 (by omega) (by decide) ?_
          refine g_top (show f (i - 1) = nI (r (i - 1)) from (hlo (i - 1) (by omega) (by omega))) ?_
          refine g_iaddN dX4_growRows_43 ?_
          refine g_istore (ls' := [(5, .int (nI ((r i) + (r (i - 1))))), (4, .int (nI i)), (0, .ref 123), (1, .int (nI m)), (2, .int (nI x)), (3, .int (nI y))]) dX4_growRows_44 (by decide) rfl ?_
          have hcv : ((r i) + (r (i - 1))) = cn r m i := by
            unfold cn
            (repeat' split) <;> omega
          rw [show nI (((r i) + (r (i - 1)))) = nI (cn r m i) by rw [hcv]]
          obtain ⟨L0, hL0, hL1, hL2⟩ := hlf (m - i) (by omega)
          have hL3 := hL2 i (by omega)
          refine g_iload dX4_growRows_46 rfl ?_
          refine g_aload_n dX4_growRows_48 rfl rfl ?_
          refine g_getf dX4_growRows_49 fX4_9 o1 rfl ?_
          refine g_iload_n dX4_growRows_52 rfl rfl ?_
          refine g_iload dX4_growRows_53 rfl ?_
          refine g_isubN dX4_growRows_55 (by omega) ?_
          refine g_ialdN dX4_growRows_56 o2 (by omega) (by decide) ?_
          refine g_top (show lf (m - i) = nI L0 from hL0) ?_
          refine g_icmp_ltN (tgt := 100) dX4_growRows_57 (by decide) (by omega) (by omega) (fun c57 => ?_) (fun c57 => ?_)
          · have hsu : ¬ su i (m - i) = true := fun q => absurd (hL3.mpr q) (by omega)
            refine g_aload_n dX4_growRows_100 rfl rfl ?_
            refine g_getf dX4_growRows_101 fX4_15 o1 rfl ?_
            refine g_iload dX4_growRows_104 rfl ?_
            refine g_iload dX4_growRows_106 rfl ?_
            refine g_iastN dX4_growRows_108 o3 (by omega) (by decide) ?_
            refine g_iinc (v := nI i - nI 1) (ls' := [(4, .int (nI i - nI 1)), (5, .int (nI (cn r m i))), (0, .ref 123), (1, .int (nI m)), (2, .int (nI x)), (3, .int (nI y))]) dX4_growRows_109 rfl (nI_dec _) (by decide) rfl ?_
            refine g_goto (tgt := 3) dX4_growRows_112 (by decide) ?_
            refine g_pick [0, 2, 3, 4, 5] (ls' := [(4, .int (nI i - nI 1)), (0, .ref 123), (1, .int (nI m)), (2, .int (nI x)), (3, .int (nI y))]) rfl ?_
            refine ih _ _ _ (by omega) (g_ne (by decide) o1) (g_ne (by decide) o2) (g_eq) (fun j h1 h2 => (by show (if j = i then _ else _) = _; rw [if_neg (by omega)]; exact hlo j (by omega) h2)) (fun j h1 h2 => (by show (if j = i then _ else _) = _; by_cases q : j = i; (rw [if_pos q, q, show gr su r m i = cn r m i from if_neg hsu]); (rw [if_neg q]; exact hhi j (by omega) h2))) (hs0.fr (S := [125]) (g_fr.rf.up (by simp)) (by intro q; simp only [List.mem_cons, List.not_mem_nil, or_false] at q; omega) (by intro q; simp only [List.mem_cons, List.not_mem_nil, or_false] at q; omega)) ?_ (hterm.fr (S := [125]) (g_fr.rf.up (by simp)) (by intro q; simp only [List.mem_cons, List.not_mem_nil, or_false] at q; omega) (by intro q; simp only [List.mem_cons, List.not_mem_nil, or_false] at q; omega)) (hf.up (by simp))
            rw [← hacc]
            show _ = acc + (hd_ (wt su r m x y) i + wt su r m x y i)
            rw [show wt su r m x y i = 0 from if_neg hsu]
            omega
          · have hsu : su i (m - i) = true := hL3.mp c57
            have hwt : wt su r m x y i = cn r m i * x ^ i * y ^ (m - i) := if_pos hsu
            have hle : hd_ (wt su r m x y) i + wt su r m x y i ≤ hd_ (wt su r m x y) (m + 1) := hd_mono (f := wt su r m x y) (show i + 1 ≤ m + 1 by omega)
            refine g_aload_n dX4_growRows_60 rfl rfl ?_
            refine g_getf dX4_growRows_61 fX4_34 o1 rfl ?_
            refine g_iload dX4_growRows_64 rfl ?_
            refine g_i2lN dX4_growRows_66 (by omega) ?_
            refine cVvE (st := []) dX4_growRows_67 (c_become G (d + 1) n ex h hw9 ha9 (by decide) (by omega) (Nat.lt_of_le_of_lt hcn (by decide +kernel))) sX4_63 (⟨_, hw9⟩) rfl rfl (by simp only [g_rm]; omega) (by simp only [g_rm]; omega) (Nat.le_of_ble_eq_true rfl) ⟨Nat.le_of_ble_eq_true rfl, Nat.le_of_ble_eq_true rfl⟩ (fun h49 fr50 p51 => ?_)
            have ht1 := p51
            have hs1 := hs0.fr fr50 (by intro q; simp only [List.mem_cons, List.not_mem_nil, or_false] at q; omega) (by intro q; simp only [List.mem_cons, List.not_mem_nil, or_false] at q; omega)
            refine g_aload_n dX4_growRows_70 rfl rfl ?_
            refine g_iload_n dX4_growRows_71 rfl rfl ?_
            refine g_iload dX4_growRows_72 rfl ?_
            refine cVv (st := []) dX4_growRows_74 (c_multiplyTerm G d n ex h49 (V := cn r m i) hx (by omega) (fun q hq => od_p1 hcn hx (by omega)) (fr50.at (by intro q; simp only [List.mem_cons, List.not_mem_nil, or_false] at q; omega) o1) ht1) sX4_77 (fr50.at (by intro q; simp only [List.mem_cons, List.not_mem_nil, or_false] at q; omega) o1) rfl rfl (by simp only [g_rm]; omega) (by simp only [g_rm]; omega) (Nat.le_of_ble_eq_true rfl) ⟨Nat.le_of_ble_eq_true rfl, Nat.le_of_ble_eq_true rfl⟩ (fun h53 fr54 p55 => ?_)
            have ht2 := p55
            have hs2 := hs1.fr fr54 (by intro q; simp only [List.mem_cons, List.not_mem_nil, or_false] at q; omega) (by intro q; simp only [List.mem_cons, List.not_mem_nil, or_false] at q; omega)
            refine g_aload_n dX4_growRows_77 rfl rfl ?_
            refine g_iload_n dX4_growRows_78 rfl rfl ?_
            refine g_iload_n dX4_growRows_79 rfl rfl ?_
            refine g_iload dX4_growRows_80 rfl ?_
            refine g_isubN dX4_growRows_82 (by omega) ?_
            refine cVv (st := []) dX4_growRows_83 (c_multiplyTerm G d n ex h53 (V := cn r m i * x ^ i) hy (by omega) (fun q hq => od_p2 hcn hx hy (by omega) (by omega)) (fr54.at (by intro q; simp only [List.mem_cons, List.not_mem_nil, or_false] at q; omega) (fr50.at (by intro q; simp only [List.mem_cons, List.not_mem_nil, or_false] at q; omega) o1)) ht2) sX4_77 (fr54.at (by intro q; simp only [List.mem_cons, List.not_mem_nil, or_false] at q; omega) (fr50.at (by intro q; simp only [List.mem_cons, List.not_mem_nil, or_false] at q; omega) o1)) rfl rfl (by simp only [g_rm]; omega) (by simp only [g_rm]; omega) (Nat.le_of_ble_eq_true rfl) ⟨Nat.le_of_ble_eq_true rfl, Nat.le_of_ble_eq_true rfl⟩ (fun h57 fr58 p59 => ?_)
            have ht3 := p59
            have hs3 := hs2.fr fr58 (by intro q; simp only [List.mem_cons, List.not_mem_nil, or_false] at q; omega) (by intro q; simp only [List.mem_cons, List.not_mem_nil, or_false] at q; omega)
            refine g_aload_n dX4_growRows_86 rfl rfl ?_
            refine g_getf dX4_growRows_87 fX4_30 (fr58.at (by intro q; simp only [List.mem_cons, List.not_mem_nil, or_false] at q; omega) (fr54.at (by intro q; simp only [List.mem_cons, List.not_mem_nil, or_false] at q; omega) (fr50.at (by intro q; simp only [List.mem_cons, List.not_mem_nil, or_false] at q; omega) o1))) rfl ?_
            refine g_aload_n dX4_growRows_90 rfl rfl ?_
            refine g_getf dX4_growRows_91 fX4_34 (fr58.at (by intro q; simp only [List.mem_cons, List.not_mem_nil, or_false] at q; omega) (fr54.at (by intro q; simp only [List.mem_cons, List.not_mem_nil, or_false] at q; omega) (fr50.at (by intro q; simp only [List.mem_cons, List.not_mem_nil, or_false] at q; omega) o1))) rfl ?_
            refine cVvE (st := []) dX4_growRows_94 (c_add G (d + 1) n ex h57 hs3 ht3 (by decide) (by decide) (Nat.lt_of_le_of_lt (by omega) hB) (by decide) (by decide)) sX4_81 hs3.cell rfl rfl (by simp only [g_rm]; omega) (by simp only [g_rm]; omega) (Nat.le_of_ble_eq_true rfl) ⟨Nat.le_of_ble_eq_true rfl, Nat.le_of_ble_eq_true rfl⟩ (fun h61 fr62 p63 => ?_)
            have hs4 := p63
            have ht4 := ht3.fr fr62 (by intro q; simp only [List.mem_cons, List.not_mem_nil, or_false] at q; omega) (by intro q; simp only [List.mem_cons, List.not_mem_nil, or_false] at q; omega)
            refine g_iconst (v := nI 0) dX4_growRows_97 (by decide) ?_
            refine g_istore (ls' := [(5, .int (nI 0)), (4, .int (nI i)), (0, .ref 123), (1, .int (nI m)), (2, .int (nI x)), (3, .int (nI y))]) dX4_growRows_98 (by decide) rfl ?_
            refine g_aload_n dX4_growRows_100 rfl rfl ?_
            refine g_getf dX4_growRows_101 fX4_15 (fr62.at (by intro q; simp only [List.mem_cons, List.not_mem_nil, or_false] at q; omega) (fr58.at (by intro q; simp only [List.mem_cons, List.not_mem_nil, or_false] at q; omega) (fr54.at (by intro q; simp only [List.mem_cons, List.not_mem_nil, or_false] at q; omega) (fr50.at (by intro q; simp only [List.mem_cons, List.not_mem_nil, or_false] at q; omega) o1)))) rfl ?_
            refine g_iload dX4_growRows_104 rfl ?_
            refine g_iload dX4_growRows_106 rfl ?_
            refine g_iastN dX4_growRows_108 (fr62.at (by intro q; simp only [List.mem_cons, List.not_mem_nil, or_false] at q; omega) (fr58.at (by intro q; simp only [List.mem_cons, List.not_mem_nil, or_false] at q; omega) (fr54.at (by intro q; simp only [List.mem_cons, List.not_mem_nil, or_false] at q; omega) (fr50.at (by intro q; simp only [List.mem_cons, List.not_mem_nil, or_false] at q; omega) o3)))) (by omega) (by decide) ?_
            refine g_iinc (v := nI i - nI 1) (ls' := [(4, .int (nI i - nI 1)), (5, .int (nI 0)), (0, .ref 123), (1, .int (nI m)), (2, .int (nI x)), (3, .int (nI y))]) dX4_growRows_109 rfl (nI_dec _) (by decide) rfl ?_
            refine g_goto (tgt := 3) dX4_growRows_112 (by decide) ?_
            refine g_pick [0, 2, 3, 4, 5] (ls' := [(4, .int (nI i - nI 1)), (0, .ref 123), (1, .int (nI m)), (2, .int (nI x)), (3, .int (nI y))]) rfl ?_
            refine ih _ _ _ (by omega) (g_ne (by decide) (fr62.at (by intro q; simp only [List.mem_cons, List.not_mem_nil, or_false] at q; omega) (fr58.at (by intro q; simp only [List.mem_cons, List.not_mem_nil, or_false] at q; omega) (fr54.at (by intro q; simp only [List.mem_cons, List.not_mem_nil, or_false] at q; omega) (fr50.at (by intro q; simp only [List.mem_cons, List.not_mem_nil, or_false] at q; omega) o1))))) (g_ne (by decide) (fr62.at (by intro q; simp only [List.mem_cons, List.not_mem_nil, or_false] at q; omega) (fr58.at (by intro q; simp only [List.mem_cons, List.not_mem_nil, or_false] at q; omega) (fr54.at (by intro q; simp only [List.mem_cons, List.not_mem_nil, or_false] at q; omega) (fr50.at (by intro q; simp only [List.mem_cons, List.not_mem_nil, or_false] at q; omega) o2))))) (g_eq) (fun j h1 h2 => (by show (if j = i then _ else _) = _; rw [if_neg (by omega)]; exact hlo j (by omega) h2)) (fun j h1 h2 => (by show (if j = i then _ else _) = _; by_cases q : j = i; (rw [if_pos q, q]; rw [show gr su r m i = 0 from if_pos hsu]); (rw [if_neg q]; exact hhi j (by omega) h2))) (hs4.fr (S := [125]) (g_fr.rf.up (by simp)) (by intro q; simp only [List.mem_cons, List.not_mem_nil, or_false] at q; omega) (by intro q; simp only [List.mem_cons, List.not_mem_nil, or_false] at q; omega)) ?_ (ht4.fr (S := [125]) (g_fr.rf.up (by simp)) (by intro q; simp only [List.mem_cons, List.not_mem_nil, or_false] at q; omega) (by intro q; simp only [List.mem_cons, List.not_mem_nil, or_false] at q; omega)).r ((((((hf).tr fr50 (by simp)).tr fr54 (by simp)).tr fr58 (by simp)).tr fr62 (by simp)).up (by simp))
            rw [← hacc]
            show _ = acc + (hd_ (wt su r m x y) i + wt su r m x y i)
            omega
