/-- the model's rows of weights, and what it adds up -/
def UU (su : Nat → Nat → Bool) (o x y : Nat) : Nat → Nat → Nat → Nat
  | 0 => fun a b => if a = 0 ∧ b = 0 then 1 else 0
  | j + 1 => NU su (NX o x y (UU su o x y j))
def AA (su : Nat → Nat → Bool) (o x y z n : Nat) : Nat → Nat
  | 0 => 0
  | j + 1 => AA su o x y z n j * z + sA (NS su (NX o x y (UU su o x y j))) n (n + 1)
theorem NU_le {su : Nat → Nat → Bool} {f : Nat → Nat → Nat} {Y : Nat} (h : ∀ a b, f a b ≤ Y) (a b : Nat) : NU su f a b ≤ Y := by
  unfold NU; split
  · exact Nat.zero_le _
  · exact h a b
theorem UU_le (su : Nat → Nat → Bool) (o x y j : Nat) : ∀ a b, UU su o x y j a b ≤ (o + x + y) ^ j := by
  induction j with
  | zero => intro a b; show (if a = 0 ∧ b = 0 then 1 else 0) ≤ 1; split <;> omega
  | succ j ih =>
    intro a b
    rw [Nat.pow_succ, Nat.mul_comm]
    exact NU_le (fun a b => NX_le ih) a b
theorem AA_le (su : Nat → Nat → Bool) (o x y n j : Nat) (hn : n ≤ 30) : AA su o x y (o + x + y) n j ≤ j * (961 * (o + x + y) ^ j) := by
  induction j with
  | zero => exact Nat.zero_le _
  | succ j ih =>
    show AA su o x y (o + x + y) n j * (o + x + y) + sA _ n (n + 1) ≤ _
    have h1 := sA_le (f := NS su (NX o x y (UU su o x y j))) (n := n) (NS_le (fun a b => NX_le (UU_le su o x y j))) (n + 1)
    have h2 : (n + 1) * ((n + 1) * ((o + x + y) * (o + x + y) ^ j)) ≤ 31 * (31 * ((o + x + y) * (o + x + y) ^ j)) := Nat.mul_le_mul (by omega) (Nat.mul_le_mul_right _ (by omega))
    have h3 := Nat.mul_le_mul_right (o + x + y) ih
    have h4 : j * (961 * (o + x + y) ^ j) * (o + x + y) = j * (961 * ((o + x + y) * (o + x + y) ^ j)) := by ac_rfl
    rw [Nat.pow_succ, Nat.mul_comm ((o + x + y) ^ j) (o + x + y), Nat.add_mul]
    omega
theorem ob_ (o j m : Nat) : bn j (m + 1) * (o * o ^ (j - (m + 1))) = bn j (m + 1) * o ^ (j - m) := by
  rcases Nat.lt_or_ge j (m + 1) with q | q
  · rw [bn_0 q, Nat.zero_mul, Nat.zero_mul]
  · rw [show j - m = j - (m + 1) + 1 by omega, Nat.pow_succ, Nat.mul_comm (o ^ _) o]
theorem rw_su {su : Nat → Nat → Bool} {m a : Nat} (h : su a (m + 1 - a) = true) : rwf su (m + 1) a = 0 := by
  show gr su (rwf su m) (m + 1) a = 0
  unfold gr
  rw [if_pos h]
theorem rw_no {su : Nat → Nat → Bool} {m a : Nat} (h : ¬ su a (m + 1 - a) = true) : rwf su (m + 1) a = cn (rwf su m) (m + 1) a := by
  show gr su (rwf su m) (m + 1) a = _
  unfold gr
  rw [if_neg h]
/-- a draw more behind m draws for one of the two -/
theorem NX_m {su : Nat → Nat → Bool} {o x y j m a b : Nat} (hab : a + b = m + 1) (ih : ∀ a b, UU su o x y j a b = bn j (a + b) * o ^ (j - (a + b)) * (rwf su (a + b) a * x ^ a * y ^ b)) : NX o x y (UU su o x y j) a b = bn j (m + 1) * o ^ (j - m) * (rwf su (m + 1) a * x ^ a * y ^ b) + bn j m * o ^ (j - m) * (cn (rwf su m) (m + 1) a * x ^ a * y ^ b) := by
  unfold NX
  have t1 : o * UU su o x y j a b = bn j (m + 1) * o ^ (j - m) * (rwf su (m + 1) a * x ^ a * y ^ b) := by
    rw [ih, hab, ← ob_ o j m]
    ac_rfl
  have t2 : (if 0 < a then x * UU su o x y j (a - 1) b else 0) = bn j m * o ^ (j - m) * ((if 0 < a then rwf su m (a - 1) else 0) * x ^ a * y ^ b) := by
    by_cases q : 0 < a
    · rw [if_pos q, if_pos q, ih, show a - 1 + b = m by omega]
      obtain ⟨a', rfl⟩ : ∃ a', a = a' + 1 := ⟨a - 1, by omega⟩
      rw [Nat.add_sub_cancel, Nat.pow_succ x a']
      ac_rfl
    · rw [if_neg q, if_neg q, Nat.zero_mul, Nat.zero_mul, Nat.mul_zero]
  have t3 : (if 0 < b then y * UU su o x y j a (b - 1) else 0) = bn j m * o ^ (j - m) * ((if a < m + 1 then rwf su m a else 0) * x ^ a * y ^ b) := by
    by_cases q : 0 < b
    · rw [if_pos q, if_pos (by omega), ih, show a + (b - 1) = m by omega]
      obtain ⟨b', rfl⟩ : ∃ b', b = b' + 1 := ⟨b - 1, by omega⟩
      rw [Nat.add_sub_cancel, Nat.pow_succ y b']
      ac_rfl
    · rw [if_neg q, if_neg (by omega), Nat.zero_mul, Nat.zero_mul, Nat.mul_zero]
  rw [t1, t2, t3]
  unfold cn
  rw [Nat.add_mul, Nat.add_mul, Nat.mul_add (bn j m * o ^ (j - m))]
  omega
theorem UU_eq {su : Nat → Nat → Bool} (h0 : ¬ su 0 0 = true) (o x y : Nat) : ∀ j a b, UU su o x y j a b = bn j (a + b) * o ^ (j - (a + b)) * (rwf su (a + b) a * x ^ a * y ^ b) := by
  intro j
  induction j with
  | zero =>
    intro a b
    show (if a = 0 ∧ b = 0 then 1 else 0) = _
    by_cases q : a = 0 ∧ b = 0
    · obtain ⟨rfl, rfl⟩ := q
      rw [if_pos ⟨rfl, rfl⟩]
      show 1 = bn 0 0 * o ^ 0 * ((if 0 = 0 then 1 else 0) * x ^ 0 * y ^ 0)
      rw [bn_00, if_pos rfl, Nat.pow_zero, Nat.pow_zero, Nat.pow_zero]
    · rw [if_neg q, bn_0 (by omega), Nat.zero_mul, Nat.zero_mul]
  | succ j ih =>
    intro a b
    show NU su (NX o x y (UU su o x y j)) a b = _
    unfold NU
    rcases Nat.eq_zero_or_pos (a + b) with q | q
    · obtain ⟨rfl, rfl⟩ : a = 0 ∧ b = 0 := by omega
      rw [if_neg h0]
      unfold NX
      rw [if_neg (by decide), if_neg (by decide), ih, Nat.add_zero, Nat.add_zero, Nat.add_zero, bn_00, bn_00, Nat.sub_zero, Nat.sub_zero, Nat.pow_succ]
      ac_rfl
    · obtain ⟨m, hm⟩ : ∃ m, a + b = m + 1 := ⟨a + b - 1, by omega⟩
      have hb : b = m + 1 - a := by omega
      by_cases z : su a b = true
      · rw [if_pos z, hm, rw_su (by rw [← hb]; exact z), Nat.zero_mul, Nat.zero_mul, Nat.mul_zero]
      · rw [if_neg z, NX_m hm ih, hm, ← rw_no (by rw [← hb]; exact z), show j + 1 - (m + 1) = j - m by omega]
        show _ = (bn j m + bn j (m + 1)) * o ^ (j - m) * _
        rw [Nat.add_mul, Nat.add_mul, Nat.add_comm]
theorem hd_cg {f g : Nat → Nat} {n : Nat} (h : ∀ i, i < n → f i = g i) : hd_ f n = hd_ g n := by
  induction n with
  | zero => rfl
  | succ n ih => show hd_ f n + f n = hd_ g n + g n; rw [ih (fun i hi => h i (by omega)), h n (by omega)]
theorem hd_mul (c : Nat) (f : Nat → Nat) (n : Nat) : hd_ (fun i => c * f i) n = c * hd_ f n := by
  induction n with
  | zero => rfl
  | succ n ih => show hd_ _ n + c * f n = c * (hd_ f n + f n); rw [ih, Nat.mul_add]
theorem sA_n (g : Nat → Nat → Nat) (n : Nat) : ∀ k, k ≤ n + 2 → sA g (n + 1) k = sA g n k + hd_ (fun a => g a (n + 1 - a)) k := by
  intro k
  induction k with
  | zero => intro _; rfl
  | succ k ih =>
    intro hk
    show sA g (n + 1) k + sB g k (n + 1 + 1 - k) = sA g n k + sB g k (n + 1 - k) + (hd_ (fun a => g a (n + 1 - a)) k + g k (n + 1 - k))
    rw [ih (by omega), show n + 1 + 1 - k = n + 1 - k + 1 by omega]
    show _ + (sB g k (n + 1 - k) + g k (n + 1 - k)) = _
    omega
/-- the triangle, diagonal by diagonal -/
theorem sA_dg (g : Nat → Nat → Nat) (n : Nat) : sA g n (n + 1) = hd_ (fun s => hd_ (fun a => g a (s - a)) (s + 1)) (n + 1) := by
  induction n with
  | zero => show 0 + (0 + g 0 0) = 0 + (0 + g 0 (0 - 0)); rfl
  | succ n ih =>
    rw [sA_n g n (n + 1 + 1) (by omega)]
    show sA g n (n + 1) + sB g (n + 1) (n + 1 - (n + 1)) + _ = hd_ _ (n + 1) + _
    rw [ih, Nat.sub_self]
    rfl
def Wm (su : Nat → Nat → Bool) (x y m : Nat) : Nat := hd_ (wt su (rwf su m) (m + 1) x y) (m + 2)
theorem NS_m {su : Nat → Nat → Bool} (h0 : ¬ su 0 0 = true) {o x y j m a b : Nat} (hab : a + b = m + 1) : NS su (NX o x y (UU su o x y j)) a b = bn j m * o ^ (j - m) * wt su (rwf su m) (m + 1) x y a := by
  have hb : b = m + 1 - a := by omega
  unfold NS wt
  by_cases z : su a b = true
  · rw [if_pos z, ← hb, if_pos z, NX_m hab (UU_eq h0 o x y j), rw_su (by rw [← hb]; exact z), Nat.zero_mul, Nat.zero_mul, Nat.mul_zero, Nat.zero_add]
  · rw [if_neg z, ← hb, if_neg z, Nat.mul_zero]
theorem sA_W {su : Nat → Nat → Bool} (h0 : ¬ su 0 0 = true) (o x y j n : Nat) : sA (NS su (NX o x y (UU su o x y j))) n (n + 1) = hd_ (fun m => bn j m * o ^ (j - m) * Wm su x y m) n := by
  rw [sA_dg]
  have key : ∀ n, hd_ (fun s => hd_ (fun a => NS su (NX o x y (UU su o x y j)) a (s - a)) (s + 1)) (n + 1) = hd_ (fun m => bn j m * o ^ (j - m) * Wm su x y m) n := by
    intro n
    induction n with
    | zero =>
      show 0 + (0 + NS su (NX o x y (UU su o x y j)) 0 (0 - 0)) = 0
      unfold NS
      rw [if_neg h0]
    | succ n ih =>
      show hd_ _ (n + 1) + hd_ (fun a => NS su (NX o x y (UU su o x y j)) a (n + 1 - a)) (n + 1 + 1) = hd_ _ n + _
      rw [ih]
      congr 1
      show _ = bn j n * o ^ (j - n) * hd_ (wt su (rwf su n) (n + 1) x y) (n + 2)
      rw [← hd_mul]
      exact hd_cg (fun a ha => NS_m h0 (by omega))
  exact key n
theorem hd_z {f : Nat → Nat} {m n : Nat} (hmn : m ≤ n) (h : ∀ i, m ≤ i → f i = 0) : hd_ f n = hd_ f m := by
  obtain ⟨k, rfl⟩ := Nat.exists_eq_add_of_le hmn
  clear hmn
  induction k with
  | zero => rfl
  | succ k ih => show hd_ f (m + k) + f (m + k) = _; rw [ih, h _ (by omega), Nat.add_zero]
theorem Tt_s (su : Nat → Nat → Bool) (x y o j : Nat) : ∀ M, Tt su (j + 1) x y o (M + 1) = o * Tt su j x y o (M + 1) + (x + y) * Tt su j x y o M + hd_ (fun m => bn j m * o ^ (j - m) * Wm su x y m) (M + 1) := by
  intro M
  induction M with
  | zero =>
    show 0 + Sx su x y 1 * bn (j + 1) 1 * o ^ (j + 1 - 1) = o * (0 + Sx su x y 1 * bn j 1 * o ^ (j - 1)) + (x + y) * 0 + (0 + bn j 0 * o ^ (j - 0) * Wm su x y 0)
    have e1 : Sx su x y 1 = Wm su x y 0 := by show 0 * (x + y) + Wm su x y 0 = _; rw [Nat.zero_mul, Nat.zero_add]
    have e2 : bn (j + 1) 1 = bn j 0 + bn j 1 := rfl
    have e3 := ob_ o j 0
    rw [e1, e2, bn_00, Nat.add_sub_cancel, Nat.sub_zero, Nat.zero_add, Nat.zero_add, Nat.mul_zero, Nat.add_zero, Nat.zero_add, Nat.one_mul]
    rw [Nat.zero_add, Nat.sub_zero] at e3
    have e4 : o * (Wm su x y 0 * bn j 1 * o ^ (j - 1)) = Wm su x y 0 * (bn j 1 * (o * o ^ (j - 1))) := by ac_rfl
    rw [e4, e3, Nat.mul_add, Nat.add_mul, Nat.mul_one, Nat.mul_comm (o ^ j) (Wm su x y 0), ← Nat.mul_assoc, Nat.add_comm]
  | succ M ih =>
    show Tt su (j + 1) x y o (M + 1) + Sx su x y (M + 2) * bn (j + 1) (M + 2) * o ^ (j + 1 - (M + 2)) = o * (Tt su j x y o (M + 1) + Sx su x y (M + 2) * bn j (M + 2) * o ^ (j - (M + 2))) + (x + y) * (Tt su j x y o M + Sx su x y (M + 1) * bn j (M + 1) * o ^ (j - (M + 1))) + (hd_ (fun m => bn j m * o ^ (j - m) * Wm su x y m) (M + 1) + bn j (M + 1) * o ^ (j - (M + 1)) * Wm su x y (M + 1))
    rw [ih, Nat.mul_add, Nat.mul_add (x + y)]
    have e1 : Sx su x y (M + 2) = Sx su x y (M + 1) * (x + y) + Wm su x y (M + 1) := rfl
    have e2 : bn (j + 1) (M + 2) = bn j (M + 1) + bn j (M + 2) := rfl
    have e3 : o * (Sx su x y (M + 2) * bn j (M + 2) * o ^ (j - (M + 2))) = Sx su x y (M + 2) * (bn j (M + 2) * o ^ (j - (M + 1))) := by
      rw [← ob_ o j (M + 1)]; ac_rfl
    have e4 : (x + y) * (Sx su x y (M + 1) * bn j (M + 1) * o ^ (j - (M + 1))) + bn j (M + 1) * o ^ (j - (M + 1)) * Wm su x y (M + 1) = Sx su x y (M + 2) * (bn j (M + 1) * o ^ (j - (M + 1))) := by
      rw [e1, Nat.add_mul (Sx su x y (M + 1) * (x + y))]
      generalize x + y = t
      congr 1 <;> ac_rfl
    have e5 : Sx su x y (M + 2) * bn (j + 1) (M + 2) * o ^ (j + 1 - (M + 2)) = Sx su x y (M + 2) * (bn j (M + 1) * o ^ (j - (M + 1))) + Sx su x y (M + 2) * (bn j (M + 2) * o ^ (j - (M + 1))) := by
      rw [e2, show j + 1 - (M + 2) = j - (M + 1) by omega, Nat.mul_assoc, Nat.add_mul, Nat.mul_add]
    rw [e5, e3]
    omega
/-- the model's sum is the class's total -/
theorem AA_eq {su : Nat → Nat → Bool} (h0 : ¬ su 0 0 = true) (o x y n : Nat) : ∀ j, j ≤ n → AA su o x y (o + x + y) n j = Tt su j x y o j := by
  intro j
  induction j with
  | zero => intro _; rfl
  | succ j ih =>
    intro hj
    show AA su o x y (o + x + y) n j * (o + x + y) + sA _ n (n + 1) = _
    rw [ih (by omega), sA_W h0, Tt_s]
    have e1 : Tt su j x y o (j + 1) = Tt su j x y o j := by
      show Tt su j x y o j + Sx su x y (j + 1) * bn j (j + 1) * _ = _
      rw [bn_0 (by omega), Nat.mul_zero, Nat.zero_mul, Nat.add_zero]
    rw [e1, hd_z (show j + 1 ≤ n from hj) (fun i hi => by rw [bn_0 (show j < i by omega), Nat.zero_mul, Nat.zero_mul]), Nat.mul_comm, Nat.add_assoc o x y, Nat.add_mul]
