abbrev OdO : List Value := [.ref 124, .ref 125, .ref 126, .ref 131, .ref 133, .ref 135]
/-- the Odds, of which nothing is known but the shape -/
def Od (h : gH) : Prop := h 123 = some (.inr (4, OdO)) ∧ (∃ f, h 124 = some (.inl (0, 31, .inl f))) ∧ (∃ f, h 125 = some (.inl (0, 31, .inl f))) ∧ FrR h 126 40 ∧ Wr h 131 132 40 ∧ Wr h 133 134 40 ∧ Wr h 135 136 40
theorem Od.fr {h h' : gH} {S : List Nat} (z : Od h) (hf : g_fr S h h') (hS : ∀ i ∈ S, i < 123 ∨ 136 < i) : Od h' := by
  obtain ⟨z1, ⟨f, z2⟩, ⟨g, z3⟩, z4, z5, z6, z7⟩ := z
  exact ⟨hf.at (fun x => by have := hS _ x; omega) z1, ⟨f, hf.at (fun x => by have := hS _ x; omega) z2⟩, ⟨g, hf.at (fun x => by have := hS _ x; omega) z3⟩, z4.fr hf (fun x => by have := hS _ x; omega) (fun x => by have := hS _ x; omega) (fun x => by have := hS _ x; omega) (fun x => by have := hS _ x; omega) (fun x => by have := hS _ x; omega), z5.fr hf (fun x => by have := hS _ x; omega) (fun x => by have := hS _ x; omega), z6.fr hf (fun x => by have := hS _ x; omega) (fun x => by have := hS _ x; omega), z7.fr hf (fun x => by have := hS _ x; omega) (fun x => by have := hS _ x; omega)⟩
theorem su_up {v : Nat → Nat} {lu ll x y a b : Nat} (hv : v y ≤ v x) (h : t_ge v lu ll x y a b) : t_ge v lu ll x y (a + 1) b := by
  unfold t_ge at *
  rw [show a + 1 + b = a + b + 1 by omega, Nat.pow_succ, Nat.pow_succ]
  calc (v x + v y) ^ (a + b) * (v x + v y) * ll = (v x + v y) ^ (a + b) * ll * (v x + v y) := by ac_rfl
    _ ≤ (2 * v x) ^ a * (2 * v y) ^ b * lu * (2 * v x) := Nat.mul_le_mul h (by omega)
    _ = (2 * v x) ^ a * (2 * v x) * (2 * v y) ^ b * lu := by ac_rfl
theorem su_mono {v : Nat → Nat} {lu ll x y a b : Nat} (hv : v y ≤ v x) (h : t_ge v lu ll x y a b) (k : Nat) : t_ge v lu ll x y (a + k) b := by
  induction k with
  | zero => exact h
  | succ k ih => exact su_up hv ih
theorem sq4 (p q : Nat) : 2 * p * (2 * q) ≤ (p + q) * (p + q) := by
  have key : ∀ p k : Nat, 2 * p * (2 * (p + k)) ≤ (p + (p + k)) * (p + (p + k)) := fun p k => by
    have e : (p + (p + k)) * (p + (p + k)) = 2 * p * (2 * (p + k)) + k * k := by
      have := Nat.mul_comm k p; simp only [Nat.mul_add, Nat.add_mul, Nat.two_mul]; omega
    omega
  rcases Nat.le_total p q with h | h
  · obtain ⟨k, rfl⟩ := Nat.exists_eq_add_of_le h
    exact key p k
  · obtain ⟨k, rfl⟩ := Nat.exists_eq_add_of_le h
    have := key q k
    rw [Nat.add_comm (q + k) q, Nat.mul_comm (2 * (q + k))]
    exact this
theorem su_dn {v : Nat → Nat} {lu ll x y a b : Nat} (hs : 1 ≤ v x + v y) (h : t_ge v lu ll x y (a + 1) (b + 1)) : t_ge v lu ll x y a b := by
  unfold t_ge at *
  rw [show a + 1 + (b + 1) = a + b + 1 + 1 by omega, Nat.pow_succ, Nat.pow_succ, Nat.pow_succ, Nat.pow_succ] at h
  have hq := sq4 (v x) (v y)
  refine Nat.le_of_mul_le_mul_right (c := (v x + v y) * (v x + v y)) ?_ (Nat.mul_pos hs hs)
  calc (v x + v y) ^ (a + b) * ll * ((v x + v y) * (v x + v y)) = (v x + v y) ^ (a + b) * (v x + v y) * (v x + v y) * ll := by ac_rfl
    _ ≤ (2 * v x) ^ a * (2 * v x) * ((2 * v y) ^ b * (2 * v y)) * lu := h
    _ = (2 * v x) ^ a * (2 * v y) ^ b * lu * (2 * v x * (2 * v y)) := by ac_rfl
    _ ≤ (2 * v x) ^ a * (2 * v y) ^ b * lu * ((v x + v y) * (v x + v y)) := Nat.mul_le_mul_left _ hq
theorem su_0 {v : Nat → Nat} {lu ll x y b : Nat} (hs : 1 ≤ v x + v y) (hv : v y ≤ v x) (hl : lu < ll) : ¬ t_ge v lu ll x y 0 b := by
  unfold t_ge
  intro h
  rw [Nat.pow_zero, Nat.one_mul, Nat.zero_add] at h
  have h1 : (2 * v y) ^ b * lu ≤ (v x + v y) ^ b * lu := Nat.mul_le_mul_right _ (Nat.pow_le_pow_left (by omega) b)
  have h2 := Nat.le_of_mul_le_mul_left (Nat.le_trans h h1) (Nat.pow_pos hs)
  omega
theorem su_next {v : Nat → Nat} {lu ll x y a b : Nat} (hs : 1 ≤ v x + v y) (hv : v y ≤ v x) (hl : lu < ll) (h : ∀ c, c < a → ¬ t_ge v lu ll x y c b) : ∀ c, c < a → ¬ t_ge v lu ll x y c (b + 1) := by
  intro c hc q
  cases c with
  | zero => exact su_0 hs hv hl q
  | succ c => exact h c (by omega) (su_dn hs q)
/-- T in the Odds -/
def To (h : gH) (vw vl a b : Nat) : Prop := ∃ A B, Fr h 126 40 A B ∧ Nat.gcd A B = 1 ∧ 1 ≤ B ∧ A * (vw + vl) ^ (a + b) = B * ((2 * vw) ^ a * (2 * vl) ^ b) ∧ A ≤ 40000 ^ (a + b) ∧ B ≤ 40000 ^ (a + b)
theorem to_room {A x e : Nat} (h : A ≤ 40000 ^ e) (he : e ≤ 61) (hx : x ≤ 40000) : A * x < 2 ^ (32 * 40) := by
  have h1 : A * x ≤ 40000 ^ e * 40000 := Nat.mul_le_mul h hx
  have h2 : 40000 ^ e * 40000 ≤ 40000 ^ 61 * 40000 := Nat.mul_le_mul_right _ (Nat.pow_le_pow_right (by decide) he)
  have h3 : 40000 ^ 61 * 40000 < 2 ^ (32 * 40) := by decide +kernel
  omega
/-- what findLeast leaves: the least number of draws for the winner that makes the pair sure -/
def Lf (f : Nat → Int32) (su : Nat → Nat → Bool) (nn B : Nat) : Prop := ∀ b, b < B → ∃ L, f b = nI L ∧ L ≤ 31 ∧ ∀ a, a + b ≤ nn → (L ≤ a ↔ su a b = true)
set_option maxHeartbeats 4000000 in
set_option maxRecDepth 100000 in
theorem lp_fl100_1 (G : gG) (d n : Nat) (ex : Bool) (h0 : gH) {s v wn en rc : Nat → Nat} {kq wq lq nn : Nat} {sw : Int32} (hv1 : v lq ≤ v wq) (hv2 : 1 ≤ v wq) (hv3 : v wq ≤ 20000) (hll : s 9 < s 10) (hl1 : s 9 ≤ 1000000) (hl2 : s 10 ≤ 1000000) (hnn : nn ≤ 30) (hkq : kq < 16) {a b : Nat} {f : Nat → Int32} {h : gH} (ha : a ≤ nn) (hb : b ≤ nn) (hz : t_ge v (s 9) (s 10) wq lq a b) (hs : Su h s v wn en rc) (hp : Pw h (24 + 6 * kq) wq lq (v wq) (v lq) sw) (o1 : h 123 = some (.inr (4, OdO))) (o2 : h 124 = some (.inl (0, 31, .inl f))) (hT : To h (v wq) (v lq) a b) (hL : Lf f (fun a b => decide (t_ge v (s 9) (s 10) wq lq a b)) nn b) (hI : ∀ c, c < a → ¬ t_ge v (s 9) (s 10) wq lq c b) (hf : g_fr [124, 126 + 1, 126 + 2, 126 + 3, 126 + 4] h0 h)
    (kk : ∀ (a : Nat) (f : Nat → Int32) (h : gH), a ≤ nn → Su h s v wn en rc → Pw h (24 + 6 * kq) wq lq (v wq) (v lq) sw → h 123 = some (.inr (4, OdO)) → h 124 = some (.inl (0, 31, .inl f)) → To h (v wq) (v lq) a (b + 1) → Lf f (fun a b => decide (t_ge v (s 9) (s 10) wq lq a b)) nn (b + 1) → (∀ c, c < a → ¬ t_ge v (s 9) (s 10) wq lq c (b + 1)) → g_fr [124, 126 + 1, 126 + 2, 126 + 3, 126 + 4] h0 h → g_W G mX4_findLeast (g_rm (d + 4) 0 0) (g_K G (q_v n ex [124, 126 + 1, 126 + 2, 126 + 3, 126 + 4] h0 (fun h' => FrR h' 126 40 ∧ ∃ f', h' 124 = some (.inl (0, 31, .inl f')) ∧ Lf f' (fun a b => decide (t_ge v (s 9) (s 10) wq lq a b)) nn (nn + 1))) 0 0) n ex h 0 0 15 [(5, .int (nI (b + 1))), (4, .int (nI a)), (0, .ref 123), (1, .ref (24 + 6 * kq)), (2, .int (nI nn)), (3, .ref 1)] []) : g_W G mX4_findLeast (g_rm (d + 4) 0 0) (g_K G (q_v n ex [124, 126 + 1, 126 + 2, 126 + 3, 126 + 4] h0 (fun h' => FrR h' 126 40 ∧ ∃ f', h' 124 = some (.inl (0, 31, .inl f')) ∧ Lf f' (fun a b => decide (t_ge v (s 9) (s 10) wq lq a b)) nn (nn + 1))) 0 0) n ex h 0 0 100 [(6, .int (nI 1)), (5, .int (nI b)), (4, .int (nI a)), (0, .ref 123), (1, .ref (24 + 6 * kq)), (2, .int (nI nn)), (3, .ref 1)] [] := by
  obtain ⟨z1, z2, z3, z4, z5⟩ := id hs
  obtain ⟨A, B, hF, hg, hB, he, hA1, hB1⟩ := id hT
  refine g_aload_n dX4_findLeast_100 rfl rfl ?_
  refine g_getf dX4_findLeast_101 fX4_9 o1 rfl ?_
  refine g_iload dX4_findLeast_104 rfl ?_
  refine g_iload dX4_findLeast_106 rfl ?_
  refine g_if_eqN (tgt := 116) dX4_findLeast_108 (by decide) (by decide) (fun c108 => ?_) (fun c108 => ?_)
  · exact absurd c108 (by decide)
  · refine g_iload dX4_findLeast_111 rfl ?_
    refine g_goto (tgt := 118) dX4_findLeast_113 (by decide) ?_
    refine g_iastN dX4_findLeast_118 o2 (by omega) (by decide) ?_
    refine g_aload_n dX4_findLeast_119 rfl rfl ?_
    refine g_aload_n dX4_findLeast_120 rfl rfl ?_
    refine g_getf dX4_findLeast_121 fX4_23 (g_ne (by decide) o1) rfl ?_
    refine g_iconst (v := nI 0) dX4_findLeast_124 (by decide) ?_
    refine cVvE (st := []) dX4_findLeast_125 (c_step G d n ex (g_up h 124 (.inl (0, 31, .inl (upd f b (nI a))))) (show Pw _ (24 + 6 * kq) wq lq (v wq) (v lq) sw from g_ne (by omega) hp) (hF.fr (S := [124]) (g_fr.rf.up (by simp)) (by intro q; simp only [List.mem_cons, List.not_mem_nil, or_false] at q; omega) (by intro q; simp only [List.mem_cons, List.not_mem_nil, or_false] at q; omega) (by intro q; simp only [List.mem_cons, List.not_mem_nil, or_false] at q; omega) (by intro q; simp only [List.mem_cons, List.not_mem_nil, or_false] at q; omega) (by intro q; simp only [List.mem_cons, List.not_mem_nil, or_false] at q; omega)) hg hB (by decide) (by decide) (by decide) hv2 hv3 (by omega) (fun _ => to_room hA1 (by omega) (by omega)) (fun _ => to_room hA1 (by omega) (by omega)) (to_room hB1 (by omega) (by omega))) sX4_57 ((show Pw _ (24 + 6 * kq) wq lq (v wq) (v lq) sw from g_ne (by omega) hp).cell) rfl rfl (by simp only [g_rm]; omega) (by simp only [g_rm]; omega) (Nat.le_of_ble_eq_true rfl) ⟨Nat.le_of_ble_eq_true rfl, Nat.le_of_ble_eq_true rfl⟩ (fun h1 fr2 p3 => ?_)
    obtain ⟨A', B', y1, y2, y3, y4, y5, y6⟩ := p3
    have htq := tq_l hB hv3 (by omega) he y4 hA1 hB1 y5 y6
    refine g_iincN (z := 1) (ls' := [(5, .int (nI (b + 1))), (6, .int (nI 1)), (4, .int (nI a)), (0, .ref 123), (1, .ref (24 + 6 * kq)), (2, .int (nI nn)), (3, .ref 1)]) dX4_findLeast_128 rfl (by decide) rfl ?_
    refine g_goto (tgt := 15) dX4_findLeast_131 (by decide) ?_
    refine g_pick [0, 2, 3, 4, 5, 6] (ls' := [(5, .int (nI (b + 1))), (4, .int (nI a)), (0, .ref 123), (1, .ref (24 + 6 * kq)), (2, .int (nI nn)), (3, .ref 1)]) rfl ?_
    exact kk a (upd f b (nI a)) h1 (by omega) ⟨fr2.at (by intro q; simp only [List.mem_cons, List.not_mem_nil, or_false] at q; omega) (g_ne (by decide) z1), fr2.at (by intro q; simp only [List.mem_cons, List.not_mem_nil, or_false] at q; omega) (g_ne (by decide) z2), fr2.at (by intro q; simp only [List.mem_cons, List.not_mem_nil, or_false] at q; omega) (g_ne (by decide) z3), fr2.at (by intro q; simp only [List.mem_cons, List.not_mem_nil, or_false] at q; omega) (g_ne (by decide) z4), fr2.at (by intro q; simp only [List.mem_cons, List.not_mem_nil, or_false] at q; omega) (g_ne (by decide) z5)⟩ (show Pw _ (24 + 6 * kq) wq lq (v wq) (v lq) sw from fr2.at (by intro q; simp only [List.mem_cons, List.not_mem_nil, or_false] at q; omega) (g_ne (by omega) hp)) (fr2.at (by intro q; simp only [List.mem_cons, List.not_mem_nil, or_false] at q; omega) (g_ne (by decide) o1)) (fr2.at (by intro q; simp only [List.mem_cons, List.not_mem_nil, or_false] at q; omega) g_eq) ⟨A', B', y1, y2, y3, htq⟩ (fun b' hb' => (by by_cases q : b' = b; (subst q; exact ⟨a, if_pos rfl, by omega, fun c hc => ⟨fun hac => decide_eq_true (by obtain ⟨k, rfl⟩ := Nat.exists_eq_add_of_le hac; exact su_mono hv1 hz k), fun hsu => Nat.not_lt.mp (fun q => hI c q (of_decide_eq_true hsu))⟩⟩); (obtain ⟨L, l1, l2⟩ := hL b' (by omega); exact ⟨L, (if_neg q).trans l1, l2⟩))) (su_next (by omega) hv1 hll hI) ((hf.up (by simp)).tr fr2 (by simp))
set_option maxHeartbeats 4000000 in
set_option maxRecDepth 100000 in
theorem lp_fl100_0 (G : gG) (d n : Nat) (ex : Bool) (h0 : gH) {s v wn en rc : Nat → Nat} {kq wq lq nn : Nat} {sw : Int32} (hv1 : v lq ≤ v wq) (hv2 : 1 ≤ v wq) (hv3 : v wq ≤ 20000) (hll : s 9 < s 10) (hl1 : s 9 ≤ 1000000) (hl2 : s 10 ≤ 1000000) (hnn : nn ≤ 30) (hkq : kq < 16) {a b : Nat} {f : Nat → Int32} {h : gH} (ha : a ≤ nn) (hb : b ≤ nn) (hz : ¬ t_ge v (s 9) (s 10) wq lq a b) (hz2 : nn ≤ a + b) (hs : Su h s v wn en rc) (hp : Pw h (24 + 6 * kq) wq lq (v wq) (v lq) sw) (o1 : h 123 = some (.inr (4, OdO))) (o2 : h 124 = some (.inl (0, 31, .inl f))) (hT : To h (v wq) (v lq) a b) (hL : Lf f (fun a b => decide (t_ge v (s 9) (s 10) wq lq a b)) nn b) (hI : ∀ c, c < a → ¬ t_ge v (s 9) (s 10) wq lq c b) (hf : g_fr [124, 126 + 1, 126 + 2, 126 + 3, 126 + 4] h0 h)
    (kk : ∀ (a : Nat) (f : Nat → Int32) (h : gH), a ≤ nn → Su h s v wn en rc → Pw h (24 + 6 * kq) wq lq (v wq) (v lq) sw → h 123 = some (.inr (4, OdO)) → h 124 = some (.inl (0, 31, .inl f)) → To h (v wq) (v lq) a (b + 1) → Lf f (fun a b => decide (t_ge v (s 9) (s 10) wq lq a b)) nn (b + 1) → (∀ c, c < a → ¬ t_ge v (s 9) (s 10) wq lq c (b + 1)) → g_fr [124, 126 + 1, 126 + 2, 126 + 3, 126 + 4] h0 h → g_W G mX4_findLeast (g_rm (d + 4) 0 0) (g_K G (q_v n ex [124, 126 + 1, 126 + 2, 126 + 3, 126 + 4] h0 (fun h' => FrR h' 126 40 ∧ ∃ f', h' 124 = some (.inl (0, 31, .inl f')) ∧ Lf f' (fun a b => decide (t_ge v (s 9) (s 10) wq lq a b)) nn (nn + 1))) 0 0) n ex h 0 0 15 [(5, .int (nI (b + 1))), (4, .int (nI a)), (0, .ref 123), (1, .ref (24 + 6 * kq)), (2, .int (nI nn)), (3, .ref 1)] []) : g_W G mX4_findLeast (g_rm (d + 4) 0 0) (g_K G (q_v n ex [124, 126 + 1, 126 + 2, 126 + 3, 126 + 4] h0 (fun h' => FrR h' 126 40 ∧ ∃ f', h' 124 = some (.inl (0, 31, .inl f')) ∧ Lf f' (fun a b => decide (t_ge v (s 9) (s 10) wq lq a b)) nn (nn + 1))) 0 0) n ex h 0 0 100 [(6, .int (nI 0)), (5, .int (nI b)), (4, .int (nI a)), (0, .ref 123), (1, .ref (24 + 6 * kq)), (2, .int (nI nn)), (3, .ref 1)] [] := by
  obtain ⟨z1, z2, z3, z4, z5⟩ := id hs
  obtain ⟨A, B, hF, hg, hB, he, hA1, hB1⟩ := id hT
  refine g_aload_n dX4_findLeast_100 rfl rfl ?_
  refine g_getf dX4_findLeast_101 fX4_9 o1 rfl ?_
  refine g_iload dX4_findLeast_104 rfl ?_
  refine g_iload dX4_findLeast_106 rfl ?_
  refine g_if_eqN (tgt := 116) dX4_findLeast_108 (by decide) (by decide) (fun c108 => ?_) (fun c108 => ?_)
  · refine g_bipush (v := nI 31) dX4_findLeast_116 (by decide) ?_
    refine g_iastN dX4_findLeast_118 o2 (by omega) (by decide) ?_
    refine g_aload_n dX4_findLeast_119 rfl rfl ?_
    refine g_aload_n dX4_findLeast_120 rfl rfl ?_
    refine g_getf dX4_findLeast_121 fX4_23 (g_ne (by decide) o1) rfl ?_
    refine g_iconst (v := nI 0) dX4_findLeast_124 (by decide) ?_
    refine cVvE (st := []) dX4_findLeast_125 (c_step G d n ex (g_up h 124 (.inl (0, 31, .inl (upd f b (nI 31))))) (show Pw _ (24 + 6 * kq) wq lq (v wq) (v lq) sw from g_ne (by omega) hp) (hF.fr (S := [124]) (g_fr.rf.up (by simp)) (by intro q; simp only [List.mem_cons, List.not_mem_nil, or_false] at q; omega) (by intro q; simp only [List.mem_cons, List.not_mem_nil, or_false] at q; omega) (by intro q; simp only [List.mem_cons, List.not_mem_nil, or_false] at q; omega) (by intro q; simp only [List.mem_cons, List.not_mem_nil, or_false] at q; omega) (by intro q; simp only [List.mem_cons, List.not_mem_nil, or_false] at q; omega)) hg hB (by decide) (by decide) (by decide) hv2 hv3 (by omega) (fun _ => to_room hA1 (by omega) (by omega)) (fun _ => to_room hA1 (by omega) (by omega)) (to_room hB1 (by omega) (by omega))) sX4_57 ((show Pw _ (24 + 6 * kq) wq lq (v wq) (v lq) sw from g_ne (by omega) hp).cell) rfl rfl (by simp only [g_rm]; omega) (by simp only [g_rm]; omega) (Nat.le_of_ble_eq_true rfl) ⟨Nat.le_of_ble_eq_true rfl, Nat.le_of_ble_eq_true rfl⟩ (fun h1 fr2 p3 => ?_)
    obtain ⟨A', B', y1, y2, y3, y4, y5, y6⟩ := p3
    have htq := tq_l hB hv3 (by omega) he y4 hA1 hB1 y5 y6
    refine g_iincN (z := 1) (ls' := [(5, .int (nI (b + 1))), (6, .int (nI 0)), (4, .int (nI a)), (0, .ref 123), (1, .ref (24 + 6 * kq)), (2, .int (nI nn)), (3, .ref 1)]) dX4_findLeast_128 rfl (by decide) rfl ?_
    refine g_goto (tgt := 15) dX4_findLeast_131 (by decide) ?_
    refine g_pick [0, 2, 3, 4, 5, 6] (ls' := [(5, .int (nI (b + 1))), (4, .int (nI a)), (0, .ref 123), (1, .ref (24 + 6 * kq)), (2, .int (nI nn)), (3, .ref 1)]) rfl ?_
    exact kk a (upd f b (nI 31)) h1 (by omega) ⟨fr2.at (by intro q; simp only [List.mem_cons, List.not_mem_nil, or_false] at q; omega) (g_ne (by decide) z1), fr2.at (by intro q; simp only [List.mem_cons, List.not_mem_nil, or_false] at q; omega) (g_ne (by decide) z2), fr2.at (by intro q; simp only [List.mem_cons, List.not_mem_nil, or_false] at q; omega) (g_ne (by decide) z3), fr2.at (by intro q; simp only [List.mem_cons, List.not_mem_nil, or_false] at q; omega) (g_ne (by decide) z4), fr2.at (by intro q; simp only [List.mem_cons, List.not_mem_nil, or_false] at q; omega) (g_ne (by decide) z5)⟩ (show Pw _ (24 + 6 * kq) wq lq (v wq) (v lq) sw from fr2.at (by intro q; simp only [List.mem_cons, List.not_mem_nil, or_false] at q; omega) (g_ne (by omega) hp)) (fr2.at (by intro q; simp only [List.mem_cons, List.not_mem_nil, or_false] at q; omega) (g_ne (by decide) o1)) (fr2.at (by intro q; simp only [List.mem_cons, List.not_mem_nil, or_false] at q; omega) g_eq) ⟨A', B', y1, y2, y3, htq⟩ (fun b' hb' => (by by_cases q : b' = b; (subst q; exact ⟨31, if_pos rfl, by omega, fun c hc => ⟨fun hac => absurd hac (by omega), fun hsu => absurd (of_decide_eq_true hsu) (by by_cases hca : c < a; exact hI c hca; rw [show c = a by omega]; exact hz)⟩⟩); (obtain ⟨L, l1, l2⟩ := hL b' (by omega); exact ⟨L, (if_neg q).trans l1, l2⟩))) (su_next (by omega) hv1 hll hI) ((hf.up (by simp)).tr fr2 (by simp))
  · exact absurd c108 (by decide)
set_option maxHeartbeats 4000000 in
set_option maxRecDepth 100000 in
theorem lp_fl46s (G : gG) (R : Room) (K : gK) (n : Nat) (ex : Bool) {h : gH} {a b kq nn : Nat} (kk : g_W G mX4_findLeast R K n ex h 0 0 100 [(6, .int (nI 1)), (5, .int (nI b)), (4, .int (nI a)), (0, .ref 123), (1, .ref (24 + 6 * kq)), (2, .int (nI nn)), (3, .ref 1)] []) : g_W G mX4_findLeast R K n ex h 0 0 46 [(6, .int (nI 1)), (5, .int (nI b)), (4, .int (nI a)), (0, .ref 123), (1, .ref (24 + 6 * kq)), (2, .int (nI nn)), (3, .ref 1)] [] := by
  refine g_iload dX4_findLeast_46 rfl ?_
  refine g_if_neN (tgt := 100) dX4_findLeast_48 (by decide) (by decide) (fun c48 => ?_) (fun c48 => ?_)
  · exact kk
  · exact absurd c48 (by decide)
set_option maxHeartbeats 4000000 in
set_option maxRecDepth 100000 in
theorem lp_fl46 (G : gG) (d n : Nat) (ex : Bool) (h0 : gH) {s v wn en rc : Nat → Nat} {kq wq lq nn : Nat} {sw : Int32} (hv1 : v lq ≤ v wq) (hv2 : 1 ≤ v wq) (hv3 : v wq ≤ 20000) (hll : s 9 < s 10) (hl1 : s 9 ≤ 1000000) (hl2 : s 10 ≤ 1000000) (hnn : nn ≤ 30) (hkq : kq < 16) {b : Nat} {f : Nat → Int32} (hb : b ≤ nn) (kk : ∀ (a : Nat) (f : Nat → Int32) (h : gH), a ≤ nn → Su h s v wn en rc → Pw h (24 + 6 * kq) wq lq (v wq) (v lq) sw → h 123 = some (.inr (4, OdO)) → h 124 = some (.inl (0, 31, .inl f)) → To h (v wq) (v lq) a (b + 1) → Lf f (fun a b => decide (t_ge v (s 9) (s 10) wq lq a b)) nn (b + 1) → (∀ c, c < a → ¬ t_ge v (s 9) (s 10) wq lq c (b + 1)) → g_fr [124, 126 + 1, 126 + 2, 126 + 3, 126 + 4] h0 h → g_W G mX4_findLeast (g_rm (d + 4) 0 0) (g_K G (q_v n ex [124, 126 + 1, 126 + 2, 126 + 3, 126 + 4] h0 (fun h' => FrR h' 126 40 ∧ ∃ f', h' 124 = some (.inl (0, 31, .inl f')) ∧ Lf f' (fun a b => decide (t_ge v (s 9) (s 10) wq lq a b)) nn (nn + 1))) 0 0) n ex h 0 0 15 [(5, .int (nI (b + 1))), (4, .int (nI a)), (0, .ref 123), (1, .ref (24 + 6 * kq)), (2, .int (nI nn)), (3, .ref 1)] []) : ∀ (t a : Nat) (h : gH), nn - a < t → a ≤ nn → ¬ t_ge v (s 9) (s 10) wq lq a b → Su h s v wn en rc → Pw h (24 + 6 * kq) wq lq (v wq) (v lq) sw → h 123 = some (.inr (4, OdO)) → h 124 = some (.inl (0, 31, .inl f)) → To h (v wq) (v lq) a b → Lf f (fun a b => decide (t_ge v (s 9) (s 10) wq lq a b)) nn b → (∀ c, c < a → ¬ t_ge v (s 9) (s 10) wq lq c b) → g_fr [124, 126 + 1, 126 + 2, 126 + 3, 126 + 4] h0 h →
    g_W G mX4_findLeast (g_rm (d + 4) 0 0) (g_K G (q_v n ex [124, 126 + 1, 126 + 2, 126 + 3, 126 + 4] h0 (fun h' => FrR h' 126 40 ∧ ∃ f', h' 124 = some (.inl (0, 31, .inl f')) ∧ Lf f' (fun a b => decide (t_ge v (s 9) (s 10) wq lq a b)) nn (nn + 1))) 0 0) n ex h 0 0 46 [(6, .int (nI 0)), (5, .int (nI b)), (4, .int (nI a)), (0, .ref 123), (1, .ref (24 + 6 * kq)), (2, .int (nI nn)), (3, .ref 1)] [] := by
  intro t
  induction t with
  | zero => intro a h hm; exact absurd hm (by omega)
  | succ t ih =>
    intro a h ht ha hz hs hp o1 o2 hT hL hI hf
    obtain ⟨z1, z2, z3, z4, z5⟩ := id hs
    obtain ⟨A, B, hF, hg, hB, he, hA1, hB1⟩ := id hT
    refine g_iload dX4_findLeast_46 rfl ?_
    refine g_if_neN (tgt := 100) dX4_findLeast_48 (by decide) (by decide) (fun c48 => ?_) (fun c48 => ?_)
    · exact absurd rfl c48
    · refine g_iload dX4_findLeast_51 rfl ?_
      refine g_iload_n dX4_findLeast_53 rfl rfl ?_
      refine g_iload dX4_findLeast_54 rfl ?_
      refine g_isubN dX4_findLeast_56 (by omega) ?_
      refine g_icmp_geN (tgt := 100) dX4_findLeast_57 (by decide) (by omega) (by omega) (fun c57 => ?_) (fun c57 => ?_)
      · refine g_pick [0, 1, 2, 3, 4, 5, 6] (ls' := [(6, .int (nI 0)), (5, .int (nI b)), (4, .int (nI a)), (0, .ref 123), (1, .ref (24 + 6 * kq)), (2, .int (nI nn)), (3, .ref 1)]) rfl ?_
        exact lp_fl100_0 G d n ex h0 hv1 hv2 hv3 hll hl1 hl2 hnn hkq ha hb hz (by omega) hs hp o1 o2 hT hL hI hf kk
      · refine g_aload_n dX4_findLeast_60 rfl rfl ?_
        refine g_aload_n dX4_findLeast_61 rfl rfl ?_
        refine g_getf dX4_findLeast_62 fX4_23 o1 rfl ?_
        refine g_iconst (v := nI 1) dX4_findLeast_65 (by decide) ?_
        refine cVvE (st := []) dX4_findLeast_66 (c_step G d n ex h (show Pw _ (24 + 6 * kq) wq lq (v wq) (v lq) sw from hp) hF hg hB (by decide) (by decide) (by decide) hv2 hv3 (by omega) (fun _ => to_room hA1 (by omega) (by omega)) (fun _ => to_room hA1 (by omega) (by omega)) (to_room hB1 (by omega) (by omega))) sX4_57 ((show Pw _ (24 + 6 * kq) wq lq (v wq) (v lq) sw from hp).cell) rfl rfl (by simp only [g_rm]; omega) (by simp only [g_rm]; omega) (Nat.le_of_ble_eq_true rfl) ⟨Nat.le_of_ble_eq_true rfl, Nat.le_of_ble_eq_true rfl⟩ (fun h1 fr2 p3 => ?_)
        obtain ⟨A', B', y1, y2, y3, y4, y5, y6⟩ := p3
        have htq := tq_w hB hv3 (by omega) he y4 hA1 hB1 y5 y6
        refine g_iincN (z := 1) (ls' := [(4, .int (nI (a + 1))), (6, .int (nI 0)), (5, .int (nI b)), (0, .ref 123), (1, .ref (24 + 6 * kq)), (2, .int (nI nn)), (3, .ref 1)]) dX4_findLeast_69 rfl (by decide) rfl ?_
        refine g_aload_n dX4_findLeast_72 rfl rfl ?_
        refine g_getf dX4_findLeast_73 fX4_23 (fr2.at (by intro q; simp only [List.mem_cons, List.not_mem_nil, or_false] at q; omega) o1) rfl ?_
        refine g_aload_n dX4_findLeast_76 rfl rfl ?_
        refine g_getf dX4_findLeast_77 fX4_44 (fr2.at (by intro q; simp only [List.mem_cons, List.not_mem_nil, or_false] at q; omega) z1) rfl ?_
        refine g_aload_n dX4_findLeast_80 rfl rfl ?_
        refine g_getf dX4_findLeast_81 fX4_50 (fr2.at (by intro q; simp only [List.mem_cons, List.not_mem_nil, or_false] at q; omega) z1) rfl ?_
        refine cViE (st := []) dX4_findLeast_84 (c_compareWith G (d + 1) n ex h1 y1 (by decide) hl2 hl1) sX4_53 y1.cell rfl rfl (by simp only [g_rm]; omega) (by simp only [g_rm]; omega) (Nat.le_of_ble_eq_true rfl) ⟨Nat.le_of_ble_eq_true rfl, Nat.le_of_ble_eq_true rfl⟩ (fun r8 h5 fr6 p7 => ?_)
        cases g_fr0 fr6
        subst p7
        refine g_if_lt (tgt := 94) dX4_findLeast_87 (by decide) (fun c87 => ?_) (fun c87 => ?_)
        · refine g_iconst (v := nI 0) dX4_findLeast_94 (by decide) ?_
          refine g_istore (ls' := [(6, .int (nI 0)), (4, .int (nI (a + 1))), (5, .int (nI b)), (0, .ref 123), (1, .ref (24 + 6 * kq)), (2, .int (nI nn)), (3, .ref 1)]) dX4_findLeast_95 (by decide) rfl ?_
          refine g_goto (tgt := 46) dX4_findLeast_97 (by decide) ?_
          refine g_pick [0, 2, 1, 3, 4, 5, 6] (ls' := [(6, .int (nI 0)), (5, .int (nI b)), (4, .int (nI (a + 1))), (0, .ref 123), (1, .ref (24 + 6 * kq)), (2, .int (nI nn)), (3, .ref 1)]) rfl ?_
          exact ih (a + 1) h1 (by omega) (by omega) (fun q => absurd ((fr_le y3 (Nat.pow_pos (show 0 < v wq + v lq by omega)) htq.1).mpr q) (Nat.not_le.mpr (cp_lt.mp c87))) ⟨fr2.at (by intro q; simp only [List.mem_cons, List.not_mem_nil, or_false] at q; omega) z1, fr2.at (by intro q; simp only [List.mem_cons, List.not_mem_nil, or_false] at q; omega) z2, fr2.at (by intro q; simp only [List.mem_cons, List.not_mem_nil, or_false] at q; omega) z3, fr2.at (by intro q; simp only [List.mem_cons, List.not_mem_nil, or_false] at q; omega) z4, fr2.at (by intro q; simp only [List.mem_cons, List.not_mem_nil, or_false] at q; omega) z5⟩ (show Pw _ (24 + 6 * kq) wq lq (v wq) (v lq) sw from fr2.at (by intro q; simp only [List.mem_cons, List.not_mem_nil, or_false] at q; omega) hp) (fr2.at (by intro q; simp only [List.mem_cons, List.not_mem_nil, or_false] at q; omega) o1) (fr2.at (by intro q; simp only [List.mem_cons, List.not_mem_nil, or_false] at q; omega) o2) ⟨A', B', y1, y2, y3, htq⟩ hL (fun c hc => by by_cases q : c = a; (rw [q]; exact hz); exact hI c (by omega)) ((hf).tr fr2 (by simp))
        · refine g_iconst (v := nI 1) dX4_findLeast_90 (by decide) ?_
          refine g_goto (tgt := 95) dX4_findLeast_91 (by decide) ?_
          refine g_istore (ls' := [(6, .int (nI 1)), (4, .int (nI (a + 1))), (5, .int (nI b)), (0, .ref 123), (1, .ref (24 + 6 * kq)), (2, .int (nI nn)), (3, .ref 1)]) dX4_findLeast_95 (by decide) rfl ?_
          refine g_goto (tgt := 46) dX4_findLeast_97 (by decide) ?_
          refine g_pick [0, 2, 1, 3, 4, 5, 6] (ls' := [(6, .int (nI 1)), (5, .int (nI b)), (4, .int (nI (a + 1))), (0, .ref 123), (1, .ref (24 + 6 * kq)), (2, .int (nI nn)), (3, .ref 1)]) rfl ?_
          refine lp_fl46s G _ _ n ex ?_
          exact lp_fl100_1 G d n ex h0 hv1 hv2 hv3 hll hl1 hl2 hnn hkq (by omega) hb ((fr_le y3 (Nat.pow_pos (show 0 < v wq + v lq by omega)) htq.1).mp (Nat.not_lt.mp (fun q => c87 (cp_lt.mpr q)))) ⟨fr2.at (by intro q; simp only [List.mem_cons, List.not_mem_nil, or_false] at q; omega) z1, fr2.at (by intro q; simp only [List.mem_cons, List.not_mem_nil, or_false] at q; omega) z2, fr2.at (by intro q; simp only [List.mem_cons, List.not_mem_nil, or_false] at q; omega) z3, fr2.at (by intro q; simp only [List.mem_cons, List.not_mem_nil, or_false] at q; omega) z4, fr2.at (by intro q; simp only [List.mem_cons, List.not_mem_nil, or_false] at q; omega) z5⟩ (show Pw _ (24 + 6 * kq) wq lq (v wq) (v lq) sw from fr2.at (by intro q; simp only [List.mem_cons, List.not_mem_nil, or_false] at q; omega) hp) (fr2.at (by intro q; simp only [List.mem_cons, List.not_mem_nil, or_false] at q; omega) o1) (fr2.at (by intro q; simp only [List.mem_cons, List.not_mem_nil, or_false] at q; omega) o2) ⟨A', B', y1, y2, y3, htq⟩ hL (fun c hc => by by_cases q : c = a; (rw [q]; exact hz); exact hI c (by omega)) ((hf).tr fr2 (by simp)) kk
set_option maxHeartbeats 4000000 in
set_option maxRecDepth 100000 in
theorem lp_fl15 (G : gG) (d n : Nat) (ex : Bool) (h0 : gH) {s v wn en rc : Nat → Nat} {kq wq lq nn : Nat} {sw : Int32} (hv1 : v lq ≤ v wq) (hv2 : 1 ≤ v wq) (hv3 : v wq ≤ 20000) (hll : s 9 < s 10) (hl1 : s 9 ≤ 1000000) (hl2 : s 10 ≤ 1000000) (hnn : nn ≤ 30) (hkq : kq < 16) : ∀ (t a b : Nat) (f : Nat → Int32) (h : gH), nn + 1 - b < t → a ≤ nn → b ≤ nn + 1 → Su h s v wn en rc → Pw h (24 + 6 * kq) wq lq (v wq) (v lq) sw → h 123 = some (.inr (4, OdO)) → h 124 = some (.inl (0, 31, .inl f)) → To h (v wq) (v lq) a b → Lf f (fun a b => decide (t_ge v (s 9) (s 10) wq lq a b)) nn b → (∀ c, c < a → ¬ t_ge v (s 9) (s 10) wq lq c b) → g_fr [124, 126 + 1, 126 + 2, 126 + 3, 126 + 4] h0 h →
    g_W G mX4_findLeast (g_rm (d + 4) 0 0) (g_K G (q_v n ex [124, 126 + 1, 126 + 2, 126 + 3, 126 + 4] h0 (fun h' => FrR h' 126 40 ∧ ∃ f', h' 124 = some (.inl (0, 31, .inl f')) ∧ Lf f' (fun a b => decide (t_ge v (s 9) (s 10) wq lq a b)) nn (nn + 1))) 0 0) n ex h 0 0 15 [(5, .int (nI b)), (4, .int (nI a)), (0, .ref 123), (1, .ref (24 + 6 * kq)), (2, .int (nI nn)), (3, .ref 1)] [] := by
  intro t
  induction t with
  | zero => intro a b f h hm; exact absurd hm (by omega)
  | succ t ih =>
    intro a b f h ht ha hb hs hp o1 o2 hT hL hI hf
    obtain ⟨z1, z2, z3, z4, z5⟩ := id hs
    obtain ⟨A, B, hF, hg, hB, he, hA1, hB1⟩ := id hT
    refine g_iload dX4_findLeast_15 rfl ?_
    refine g_iload_n dX4_findLeast_17 rfl rfl ?_
    refine g_icmp_gtN (tgt := 134) dX4_findLeast_18 (by decide) (by omega) (by omega) (fun c18 => ?_) (fun c18 => ?_)
    · have e : b = nn + 1 := by omega
      subst e
      exact e_v dX4_findLeast_134 rfl hf ⟨hF.r, f, o2, hL⟩ (by decide) (by decide)
    · refine g_aload_n dX4_findLeast_21 rfl rfl ?_
      refine g_getf dX4_findLeast_22 fX4_23 o1 rfl ?_
      refine g_aload_n dX4_findLeast_25 rfl rfl ?_
      refine g_getf dX4_findLeast_26 fX4_44 z1 rfl ?_
      refine g_aload_n dX4_findLeast_29 rfl rfl ?_
      refine g_getf dX4_findLeast_30 fX4_50 z1 rfl ?_
      refine cViE (st := []) dX4_findLeast_33 (c_compareWith G (d + 1) n ex h hF (by decide) hl2 hl1) sX4_53 hF.cell rfl rfl (by simp only [g_rm]; omega) (by simp only [g_rm]; omega) (Nat.le_of_ble_eq_true rfl) ⟨Nat.le_of_ble_eq_true rfl, Nat.le_of_ble_eq_true rfl⟩ (fun r4 h1 fr2 p3 => ?_)
      cases g_fr0 fr2
      subst p3
      refine g_if_lt (tgt := 43) dX4_findLeast_36 (by decide) (fun c36 => ?_) (fun c36 => ?_)
      · refine g_iconst (v := nI 0) dX4_findLeast_43 (by decide) ?_
        refine g_istore (ls' := [(6, .int (nI 0)), (5, .int (nI b)), (4, .int (nI a)), (0, .ref 123), (1, .ref (24 + 6 * kq)), (2, .int (nI nn)), (3, .ref 1)]) dX4_findLeast_44 (by decide) rfl ?_
        refine g_pick [0, 1, 2, 3, 4, 5, 6] (ls' := [(6, .int (nI 0)), (5, .int (nI b)), (4, .int (nI a)), (0, .ref 123), (1, .ref (24 + 6 * kq)), (2, .int (nI nn)), (3, .ref 1)]) rfl ?_
        exact lp_fl46 G d n ex h0 hv1 hv2 hv3 hll hl1 hl2 hnn hkq c18 (fun a' f' h' q1 q2 q3 q4 q5 q6 q7 q8 q9 => ih a' (b + 1) f' h' (by omega) q1 (by omega) q2 q3 q4 q5 q6 q7 q8 q9) (nn + 1) a h (by omega) ha (fun q => absurd ((fr_le hB (Nat.pow_pos (show 0 < v wq + v lq by omega)) he).mpr q) (Nat.not_le.mpr (cp_lt.mp c36))) hs hp o1 o2 hT hL hI hf
      · refine g_iconst (v := nI 1) dX4_findLeast_39 (by decide) ?_
        refine g_goto (tgt := 44) dX4_findLeast_40 (by decide) ?_
        refine g_istore (ls' := [(6, .int (nI 1)), (5, .int (nI b)), (4, .int (nI a)), (0, .ref 123), (1, .ref (24 + 6 * kq)), (2, .int (nI nn)), (3, .ref 1)]) dX4_findLeast_44 (by decide) rfl ?_
        refine g_pick [0, 1, 2, 3, 4, 5, 6] (ls' := [(6, .int (nI 1)), (5, .int (nI b)), (4, .int (nI a)), (0, .ref 123), (1, .ref (24 + 6 * kq)), (2, .int (nI nn)), (3, .ref 1)]) rfl ?_
        refine lp_fl46s G _ _ n ex ?_
        exact lp_fl100_1 G d n ex h0 hv1 hv2 hv3 hll hl1 hl2 hnn hkq ha c18 ((fr_le hB (Nat.pow_pos (show 0 < v wq + v lq by omega)) he).mp (Nat.not_lt.mp (fun q => c36 (cp_lt.mpr q)))) hs hp o1 o2 hT hL hI hf (fun a' f' h' q1 q2 q3 q4 q5 q6 q7 q8 q9 => ih a' (b + 1) f' h' (by omega) q1 (by omega) q2 q3 q4 q5 q6 q7 q8 q9)
