def SP : List Nat := List.range' 17 103
theorem mSP {x : Nat} (h1 : 17 ≤ x) (h2 : x < 120) : x ∈ SP := List.mem_range'.mpr ⟨x - 17, by omega, by omega⟩
theorem mSP' {x : Nat} (h : x ∈ SP) : 17 ≤ x ∧ x < 120 := by
  obtain ⟨i, h1, h2⟩ := List.mem_range'.mp h
  omega
theorem g_fr.mono {S S' : List Nat} {h h' : gH} (hf : g_fr S h h') (hs : ∀ i ∈ S, i ∈ S') : g_fr S' h h' := fun j hj => hf j (fun q => hj (hs j q))
theorem g_fr.of {S : List Nat} {h h' : gH} (hf : g_fr S h h') (hs : ∀ i ∈ S, 17 ≤ i ∧ i < 120) : g_fr SP h h' := hf.mono (fun i hi => mSP (hs i hi).1 (hs i hi).2)
/-- the Tests: many, sure, least margin -/
def Te (h : gH) (m sr lm : Nat) : Prop := h 17 = some (.inr (8, [.ref 18, .ref 19, .int (nI m), .int (nI sr), .int (nI lm)])) ∧ ∃ f, h 18 = some (.inl (4, 16, .inr (.inr (.inr (.inr f))))) ∧ ∀ j, j < 16 → f j = some (24 + 6 * j)
theorem Te.fr {h h' : gH} {S : List Nat} {m sr lm : Nat} (z : Te h m sr lm) (hf : g_fr S h h') (h1 : 17 ∉ S) (h2 : 18 ∉ S) : Te h' m sr lm := ⟨hf.at h1 z.1, z.2.choose, hf.at h2 z.2.choose_spec.1, z.2.choose_spec.2⟩
/-- T of a pair: in lowest terms (2 vw) ^ a (2 vl) ^ b / (vw + vl) ^ (a + b) -/
def Tq (h : gH) (q vw vl a b : Nat) : Prop := ∃ A B, Fr h q 104 A B ∧ Nat.gcd A B = 1 ∧ 1 ≤ B ∧ A * (vw + vl) ^ (a + b) = B * ((2 * vw) ^ a * (2 * vl) ^ b) ∧ A ≤ 40000 ^ (a + b) ∧ B ≤ 40000 ^ (a + b)
theorem Tq.fr {h h' : gH} {S : List Nat} {q vw vl a b : Nat} (z : Tq h q vw vl a b) (hf : g_fr S h h') (h0 : ∀ i ∈ S, i < q ∨ q + 4 < i) : Tq h' q vw vl a b := by
  obtain ⟨A, B, z1, z2⟩ := z
  exact ⟨A, B, z1.fr hf (fun x => by have := h0 _ x; omega) (fun x => by have := h0 _ x; omega) (fun x => by have := h0 _ x; omega) (fun x => by have := h0 _ x; omega) (fun x => by have := h0 _ x; omega), z2⟩
/-- the first m pairs -/
def Tk (h : gH) (m : Nat) (w l v : Nat → Nat) (sw : Nat → Int32) (ea eb : Nat → Nat) : Prop := ∀ k, k < m → Pw h (24 + 6 * k) (w k) (l k) (v (w k)) (v (l k)) (sw k) ∧ Tq h (24 + 6 * k + 1) (v (w k)) (v (l k)) (ea k) (eb k)
theorem Tk.fr {h h' : gH} {S : List Nat} {m : Nat} {w l v : Nat → Nat} {sw : Nat → Int32} {ea eb : Nat → Nat} (z : Tk h m w l v sw ea eb) (hf : g_fr S h h') (hS : ∀ i ∈ S, i < 24 ∨ 120 ≤ i) (hm : m ≤ 16) : Tk h' m w l v sw ea eb := fun k hk => ⟨hf.at (fun x => by have := hS _ x; omega) (z k hk).1, (z k hk).2.fr hf (fun i hi => by have := hS i hi; omega)⟩
/-- what is kept of all 16 pairs and of p -/
def TeR (h : gH) : Prop := (∀ k, k < 16 → FrR h (24 + 6 * k + 1) 104 ∧ ∃ x1 x2 x3 x4 x5 : Int32, h (24 + 6 * k) = some (.inr (5, [.ref (24 + 6 * k + 1), .int x1, .int x2, .int x3, .int x4, .int x5]))) ∧ FrR h 19 328
theorem TeR.fr {h h' : gH} {S : List Nat} (z : TeR h) (hf : g_fr S h h') (hS : ∀ i ∈ S, i < 19 ∨ 120 ≤ i) : TeR h' := by
  refine ⟨fun k hk => ?_, z.2.fr hf (fun x => by have := hS _ x; omega) (fun x => by have := hS _ x; omega) (fun x => by have := hS _ x; omega) (fun x => by have := hS _ x; omega) (fun x => by have := hS _ x; omega)⟩
  obtain ⟨z1, x1, x2, x3, x4, x5, z2⟩ := z.1 k hk
  exact ⟨z1.fr hf (fun x => by have := hS _ x; omega) (fun x => by have := hS _ x; omega) (fun x => by have := hS _ x; omega) (fun x => by have := hS _ x; omega) (fun x => by have := hS _ x; omega), x1, x2, x3, x4, x5, hf.at (fun x => by have := hS _ x; omega) z2⟩
theorem tq_0 {h : gH} {q vw vl A B : Nat} (hF : Fr h q 104 A B) (hg : Nat.gcd A B = 1) (hB : 1 ≤ B) (e : A * 1 = B * 1) (hA1 : A ≤ 1) (hB1 : B ≤ 1) : Tq h q vw vl 0 0 := ⟨A, B, hF, hg, hB, by simpa using e, by simpa using hA1, by simpa using hB1⟩
theorem tq_w {A B A' B' vw vl a b : Nat} (hB : 1 ≤ B) (hv : vw ≤ 20000) (hl : vl ≤ 20000) (e : A * (vw + vl) ^ (a + b) = B * ((2 * vw) ^ a * (2 * vl) ^ b)) (e' : A' * (B * (vw + vl)) = B' * (A * (2 * vw))) (a1 : A ≤ 40000 ^ (a + b)) (b1 : B ≤ 40000 ^ (a + b)) (a2 : A' ≤ A * (2 * vw)) (b2 : B' ≤ B * (vw + vl)) : A' * (vw + vl) ^ (a + 1 + b) = B' * ((2 * vw) ^ (a + 1) * (2 * vl) ^ b) ∧ A' ≤ 40000 ^ (a + 1 + b) ∧ B' ≤ 40000 ^ (a + 1 + b) := by
  have e0 : a + 1 + b = a + b + 1 := by omega
  rw [e0, Nat.pow_succ, Nat.pow_succ, Nat.pow_succ]
  refine ⟨?_, Nat.le_trans a2 (Nat.mul_le_mul a1 (by omega)), Nat.le_trans b2 (Nat.mul_le_mul b1 (by omega))⟩
  refine Nat.eq_of_mul_eq_mul_left hB ?_
  calc B * (A' * ((vw + vl) ^ (a + b) * (vw + vl))) = A' * (B * (vw + vl)) * (vw + vl) ^ (a + b) := by ac_rfl
    _ = B' * (A * (2 * vw)) * (vw + vl) ^ (a + b) := by rw [e']
    _ = B' * (2 * vw) * (A * (vw + vl) ^ (a + b)) := by ac_rfl
    _ = B' * (2 * vw) * (B * ((2 * vw) ^ a * (2 * vl) ^ b)) := by rw [e]
    _ = B * (B' * ((2 * vw) ^ a * (2 * vw) * (2 * vl) ^ b)) := by ac_rfl
theorem tq_l {A B A' B' vw vl a b : Nat} (hB : 1 ≤ B) (hv : vw ≤ 20000) (hl : vl ≤ 20000) (e : A * (vw + vl) ^ (a + b) = B * ((2 * vw) ^ a * (2 * vl) ^ b)) (e' : A' * (B * (vw + vl)) = B' * (A * (2 * vl))) (a1 : A ≤ 40000 ^ (a + b)) (b1 : B ≤ 40000 ^ (a + b)) (a2 : A' ≤ A * (2 * vl)) (b2 : B' ≤ B * (vw + vl)) : A' * (vw + vl) ^ (a + (b + 1)) = B' * ((2 * vw) ^ a * (2 * vl) ^ (b + 1)) ∧ A' ≤ 40000 ^ (a + (b + 1)) ∧ B' ≤ 40000 ^ (a + (b + 1)) := by
  have e0 : a + (b + 1) = a + b + 1 := by omega
  rw [e0, Nat.pow_succ, Nat.pow_succ, Nat.pow_succ]
  refine ⟨?_, Nat.le_trans a2 (Nat.mul_le_mul a1 (by omega)), Nat.le_trans b2 (Nat.mul_le_mul b1 (by omega))⟩
  refine Nat.eq_of_mul_eq_mul_left hB ?_
  calc B * (A' * ((vw + vl) ^ (a + b) * (vw + vl))) = A' * (B * (vw + vl)) * (vw + vl) ^ (a + b) := by ac_rfl
    _ = B' * (A * (2 * vl)) * (vw + vl) ^ (a + b) := by rw [e']
    _ = B' * (2 * vl) * (A * (vw + vl) ^ (a + b)) := by ac_rfl
    _ = B' * (2 * vl) * (B * ((2 * vw) ^ a * (2 * vl) ^ b)) := by rw [e]
    _ = B * (B' * ((2 * vw) ^ a * ((2 * vl) ^ b * (2 * vl)))) := by ac_rfl
theorem t_room {A x e : Nat} (h : A ≤ 40000 ^ e) (he : e ≤ 200) (hx : x ≤ 40000) : A * x < 2 ^ (32 * 104) := by
  have h1 : A * x ≤ 40000 ^ e * 40000 := Nat.mul_le_mul h hx
  have h2 : 40000 ^ e * 40000 ≤ 40000 ^ 200 * 40000 := Nat.mul_le_mul_right _ (Nat.pow_le_pow_right (by decide) he)
  have h3 : 40000 ^ 200 * 40000 < 2 ^ (32 * 104) := by decide +kernel
  omega
theorem fr_le {A B D M x y : Nat} (hB : 1 ≤ B) (hD : 1 ≤ D) (e : A * D = B * M) : B * y ≤ A * x ↔ D * y ≤ M * x := by
  constructor
  · intro h
    refine Nat.le_of_mul_le_mul_left (c := B) ?_ hB
    calc B * (D * y) = B * y * D := by ac_rfl
      _ ≤ A * x * D := Nat.mul_le_mul_right _ h
      _ = A * D * x := by ac_rfl
      _ = B * M * x := by rw [e]
      _ = B * (M * x) := by ac_rfl
  · intro h
    refine Nat.le_of_mul_le_mul_left (c := D) ?_ hD
    calc D * (B * y) = B * (D * y) := by ac_rfl
      _ ≤ B * (M * x) := Nat.mul_le_mul_left _ h
      _ = B * M * x := by ac_rfl
      _ = A * D * x := by rw [e]
      _ = D * (A * x) := by ac_rfl
theorem cp_lt {X Y : Nat} : cp_sg X Y < 0 ↔ X < Y := by
  unfold cp_sg
  split
  · exact ⟨fun _ => by assumption, fun _ => by decide⟩
  · split
    · exact ⟨fun q => absurd q (by decide), fun q => absurd q (by omega)⟩
    · exact ⟨fun q => absurd q (by decide), fun q => absurd q (by omega)⟩
theorem cp_gt {X Y : Nat} : 0 < cp_sg X Y ↔ Y < X := by
  unfold cp_sg
  split
  · exact ⟨fun q => absurd q (by decide), fun q => absurd q (by omega)⟩
  · split
    · exact ⟨fun q => absurd q (by decide), fun q => absurd q (by omega)⟩
    · exact ⟨fun _ => by omega, fun _ => by decide⟩
/-- how many of the first m are sure -/
def cs_ (sw : Nat → Int32) : Nat → Nat
  | 0 => 0
  | i + 1 => cs_ sw i + (if sw i = -1 then 0 else 1)
theorem cs_le (sw : Nat → Int32) (m : Nat) : cs_ sw m ≤ m := by
  induction m with
  | zero => exact Nat.le_refl 0
  | succ i ih => show cs_ sw i + _ ≤ i + 1; split <;> omega
theorem cs_congr {s t : Nat → Int32} {m : Nat} (h : ∀ k, k < m → s k = t k) : cs_ s m = cs_ t m := by
  induction m with
  | zero => rfl
  | succ i ih => show cs_ s i + _ = cs_ t i + _; rw [ih (fun k hk => h k (by omega)), h i (by omega)]
theorem cs_up {sw : Nat → Int32} {i m : Nat} {x : Int32} (hi : i < m) (h1 : sw i = -1) (h2 : ¬ x = -1) : cs_ (va_up sw i x) m = cs_ sw m + 1 := by
  induction m with
  | zero => omega
  | succ j ih =>
    show cs_ _ j + _ = cs_ sw j + _ + 1
    by_cases q : i = j
    · subst q
      rw [cs_congr (t := sw) (fun k hk => va_n (by omega)), va_s, if_neg h2, if_pos h1]
    · rw [ih (by omega), va_n (by omega)]
      omega
theorem cs_all {sw : Nat → Int32} {m : Nat} : cs_ sw m = m ↔ ∀ k, k < m → ¬ sw k = -1 := by
  induction m with
  | zero => exact ⟨fun _ k hk => absurd hk (by omega), fun _ => rfl⟩
  | succ j ih =>
    have hl := cs_le sw j
    show cs_ sw j + _ = j + 1 ↔ _
    constructor
    · intro h k hk
      by_cases q : sw j = -1
      · rw [if_pos q] at h; omega
      · rw [if_neg q] at h
        by_cases z : k = j
        · subst z; exact q
        · exact ih.mp (by omega) k (by omega)
    · intro h
      rw [if_neg (h j (by omega)), ih.mpr (fun k hk => h k (by omega))]
set_option maxHeartbeats 4000000 in
set_option maxRecDepth 100000 in
theorem c_pbegin (G : gG) (d n : Nat) (ex : Bool) (h : gH) {p a b : Nat} {x1 x2 x3 x4 x5 : Int32} {v : Nat → Nat} (h20 : 24 ≤ p) (hp : h p = some (.inr (5, [.ref (p + 1), .int x1, .int x2, .int x3, .int x4, .int x5]))) (hF : FrR h (p + 1) 104) (hv : h 2 = some (.inl (0, 8, .inl (fun k => nI (v k))))) (ha : a < 8) (hb : b < 8) : g_M G mX5_begin (d + 4) 0 0 [.ref p, .int (nI a), .int (nI b), .ref 2] n ex h (q_v n ex [p, p + 1 + 1, p + 1 + 2, p + 1 + 3, p + 1 + 4] h (fun h' => Pw h' p a b (v a) (v b) (-1) ∧ Tq h' (p + 1) (v a) (v b) 0 0)) := by
  refine g_enter (by decide) (Nat.le_of_ble_eq_true rfl) ?_
  show g_W G _ _ _ n ex h 0 0 0 [(0, .ref p), (1, .int (nI a)), (2, .int (nI b)), (3, .ref 2)] []
  refine g_aload_n dX5_begin_0 rfl rfl ?_
  refine g_iload_n dX5_begin_1 rfl rfl ?_
  refine g_put (fs' := [.ref (p + 1), .int (nI a), .int x2, .int x3, .int x4, .int x5]) dX5_begin_2 fX5_20 hp (Nat.le_of_ble_eq_true rfl) rfl rfl rfl ?_
  refine g_aload_n dX5_begin_5 rfl rfl ?_
  refine g_iload_n dX5_begin_6 rfl rfl ?_
  refine g_put (fs' := [.ref (p + 1), .int (nI a), .int (nI b), .int x3, .int x4, .int x5]) dX5_begin_7 fX5_24 g_eq (Nat.le_of_ble_eq_true rfl) rfl rfl rfl ?_
  refine g_aload_n dX5_begin_10 rfl rfl ?_
  refine g_aload_n dX5_begin_11 rfl rfl ?_
  refine g_iload_n dX5_begin_12 rfl rfl ?_
  refine g_ialdN dX5_begin_13 (g_ne (by omega) (g_ne (by omega) hv)) (by omega) (by decide) ?_
  refine g_put (fs' := [.ref (p + 1), .int (nI a), .int (nI b), .int (nI (v a)), .int x4, .int x5]) dX5_begin_14 fX5_27 g_eq (Nat.le_of_ble_eq_true rfl) rfl rfl rfl ?_
  refine g_aload_n dX5_begin_17 rfl rfl ?_
  refine g_aload_n dX5_begin_18 rfl rfl ?_
  refine g_iload_n dX5_begin_19 rfl rfl ?_
  refine g_ialdN dX5_begin_20 (g_ne (by omega) (g_ne (by omega) (g_ne (by omega) hv))) (by omega) (by decide) ?_
  refine g_put (fs' := [.ref (p + 1), .int (nI a), .int (nI b), .int (nI (v a)), .int (nI (v b)), .int x5]) dX5_begin_21 fX5_30 g_eq (Nat.le_of_ble_eq_true rfl) rfl rfl rfl ?_
  refine g_aload_n dX5_begin_24 rfl rfl ?_
  refine g_iconst (v := -1) dX5_begin_25 (by decide) ?_
  refine g_put (fs' := [.ref (p + 1), .int (nI a), .int (nI b), .int (nI (v a)), .int (nI (v b)), .int (-1)]) dX5_begin_26 fX5_33 g_eq (Nat.le_of_ble_eq_true rfl) rfl rfl rfl ?_
  refine g_aload_n dX5_begin_29 rfl rfl ?_
  refine g_getf dX5_begin_30 fX5_14 g_eq rfl ?_
  have hF' : FrR (g_up (g_up (g_up (g_up (g_up h p (.inr (5, [.ref (p + 1), .int (nI a), .int x2, .int x3, .int x4, .int x5]))) p (.inr (5, [.ref (p + 1), .int (nI a), .int (nI b), .int x3, .int x4, .int x5]))) p (.inr (5, [.ref (p + 1), .int (nI a), .int (nI b), .int (nI (v a)), .int x4, .int x5]))) p (.inr (5, [.ref (p + 1), .int (nI a), .int (nI b), .int (nI (v a)), .int (nI (v b)), .int x5]))) p (.inr (5, [.ref (p + 1), .int (nI a), .int (nI b), .int (nI (v a)), .int (nI (v b)), .int (-1)]))) (p + 1) 104 := hF.fr (S := [p]) (((((g_fr.rf.up (by simp)).up (by simp)).up (by simp)).up (by simp)).up (by simp)) (by intro q; simp only [List.mem_cons, List.not_mem_nil, or_false] at q; omega) (by intro q; simp only [List.mem_cons, List.not_mem_nil, or_false] at q; omega) (by intro q; simp only [List.mem_cons, List.not_mem_nil, or_false] at q; omega) (by intro q; simp only [List.mem_cons, List.not_mem_nil, or_false] at q; omega) (by intro q; simp only [List.mem_cons, List.not_mem_nil, or_false] at q; omega)
  refine g_lconst (v := lN 1) dX5_begin_33 (by decide) ?_
  refine g_lconst (v := lN 1) dX5_begin_34 (by decide) ?_
  refine cVvE (st := []) dX5_begin_35 (c_fbecome G d n ex (g_up (g_up (g_up (g_up (g_up h p (.inr (5, [.ref (p + 1), .int (nI a), .int x2, .int x3, .int x4, .int x5]))) p (.inr (5, [.ref (p + 1), .int (nI a), .int (nI b), .int x3, .int x4, .int x5]))) p (.inr (5, [.ref (p + 1), .int (nI a), .int (nI b), .int (nI (v a)), .int x4, .int x5]))) p (.inr (5, [.ref (p + 1), .int (nI a), .int (nI b), .int (nI (v a)), .int (nI (v b)), .int x5]))) p (.inr (5, [.ref (p + 1), .int (nI a), .int (nI b), .int (nI (v a)), .int (nI (v b)), .int (-1)]))) hF' (by decide) (by decide) (by decide) (by decide) (by decide) (Nat.lt_of_lt_of_le (show 1 < 2 ^ 32 by decide) (by decide +kernel)) (Nat.lt_of_lt_of_le (show 1 < 2 ^ 32 by decide) (by decide +kernel))) sX5_36 hF'.cell rfl rfl (by simp only [g_rm]; omega) (by simp only [g_rm]; omega) (Nat.le_of_ble_eq_true rfl) ⟨(Nat.le_of_ble_eq_true rfl), (Nat.le_of_ble_eq_true rfl)⟩ (fun h1 fr2 p3 => ?_)
  obtain ⟨A', B', q1, q2, q3, q4, q5, q6⟩ := p3
  exact e_v dX5_begin_38 rfl ((g_fr.mono (S := [p]) (((((g_fr.rf.up (by simp)).up (by simp)).up (by simp)).up (by simp)).up (by simp)) (by simp)).tr fr2 (by simp)) ⟨fr2.at (by intro q; simp only [List.mem_cons, List.not_mem_nil, or_false] at q; omega) g_eq, tq_0 q1 q2 q3 q4 q5 q6⟩ (by decide) (by decide)
set_option maxHeartbeats 4000000 in
set_option maxRecDepth 100000 in
theorem c_teEnd (G : gG) (d n : Nat) (ex : Bool) (h : gH) {m sr lm : Nat} (hT : Te h m sr lm) : g_M G mX8_end d 0 0 [.ref 17] n ex h (q_v n ex [17] h (fun h' => Te h' 0 0 lm)) := by
  obtain ⟨t1, f, t2, t3⟩ := hT
  refine g_enter (by decide) (Nat.le_of_ble_eq_true rfl) ?_
  show g_W G _ _ _ n ex h 0 0 0 [(0, .ref 17)] []
  refine g_aload_n dX8_end_0 rfl rfl ?_
  refine g_iconst (v := nI 0) dX8_end_1 (by decide) ?_
  refine g_put (fs' := [.ref 18, .ref 19, .int (nI 0), .int (nI sr), .int (nI lm)]) dX8_end_2 fX8_27 t1 (Nat.le_of_ble_eq_true rfl) rfl rfl rfl ?_
  refine g_aload_n dX8_end_5 rfl rfl ?_
  refine g_iconst (v := nI 0) dX8_end_6 (by decide) ?_
  refine g_put (fs' := [.ref 18, .ref 19, .int (nI 0), .int (nI 0), .int (nI lm)]) dX8_end_7 fX8_31 g_eq (Nat.le_of_ble_eq_true rfl) rfl rfl rfl ?_
  exact e_v dX8_end_10 rfl ((g_fr.rf.up (by simp)).up (by simp)) ⟨g_eq, f, g_ne (by decide) (g_ne (by decide) t2), t3⟩ (by decide) (by decide)
section TPOLL
variable (seen : Int32) (w l v : Nat → Nat) (lu ll dr : Nat) (sw : Nat → Int32) (ea eb : Nat → Nat)
def pw_ea (k : Nat) : Nat := if seen = nI (w k) then ea k + 1 else ea k
def pw_eb (k : Nat) : Nat := if seen = nI (w k) then eb k else if seen = nI (l k) then eb k + 1 else eb k
/-- T is at least ll / lu -/
abbrev t_ge (v : Nat → Nat) (lu ll : Nat) (x y a b : Nat) : Prop := (v x + v y) ^ (a + b) * ll ≤ (2 * v x) ^ a * (2 * v y) ^ b * lu
def pw_sw (k : Nat) : Int32 := if (seen = nI (w k) ∨ seen = nI (l k)) ∧ sw k = -1 ∧ t_ge v lu ll (w k) (l k) (pw_ea seen w ea k) (pw_eb seen w l eb k) then nI dr else sw k
end TPOLL
/-- the first i are new -/
def mx {α : Type} (i : Nat) (a b : Nat → α) (k : Nat) : α := if k < i then b k else a k
theorem mx_0 {α : Type} (a b : Nat → α) : mx 0 a b = a := funext fun k => if_neg (Nat.not_lt_zero k)
theorem mx_o {α : Type} {i : Nat} {a b : Nat → α} : mx i a b i = a i := if_neg (Nat.lt_irrefl i)
theorem mx_n {α : Type} {i : Nat} {a b : Nat → α} : mx (i + 1) a b i = b i := if_pos (Nat.lt_succ_self i)
theorem mx_l {α : Type} {i k : Nat} {a b : Nat → α} (h : k < i) : mx i a b k = b k := if_pos h
theorem mx_k {α : Type} {i k : Nat} {a b : Nat → α} (h : k ≠ i) : mx (i + 1) a b k = mx i a b k := by
  unfold mx
  by_cases z : k < i
  · rw [if_pos z, if_pos (by omega)]
  · rw [if_neg z, if_neg (by omega)]
/-- pairs in the midst of poll -/
def Tm (h : gH) (m i : Nat) (w l v : Nat → Nat) (sw1 sw2 : Nat → Int32) (ea1 eb1 ea2 eb2 : Nat → Nat) : Prop := Tk h m w l v (mx i sw1 sw2) (mx i ea1 ea2) (mx i eb1 eb2)
theorem Tm.new {h : gH} {m i : Nat} {w l v : Nat → Nat} {sw1 sw2 : Nat → Int32} {ea1 eb1 ea2 eb2 : Nat → Nat} (hh : ∀ k, k < m → k ≠ i → Pw h (24 + 6 * k) (w k) (l k) (v (w k)) (v (l k)) (mx i sw1 sw2 k) ∧ Tq h (24 + 6 * k + 1) (v (w k)) (v (l k)) (mx i ea1 ea2 k) (mx i eb1 eb2 k)) (hp : Pw h (24 + 6 * i) (w i) (l i) (v (w i)) (v (l i)) (sw2 i)) (ht : Tq h (24 + 6 * i + 1) (v (w i)) (v (l i)) (ea2 i) (eb2 i)) : Tm h m (i + 1) w l v sw1 sw2 ea1 eb1 ea2 eb2 := by
  intro k hk
  by_cases q : k = i
  · subst q
    rw [mx_n, mx_n, mx_n]
    exact ⟨hp, ht⟩
  · rw [mx_k q, mx_k q, mx_k q]
    exact hh k hk q
theorem Tm.at {h : gH} {m i : Nat} {w l v : Nat → Nat} {sw1 sw2 : Nat → Int32} {ea1 eb1 ea2 eb2 : Nat → Nat} (z : Tm h m i w l v sw1 sw2 ea1 eb1 ea2 eb2) (hi : i < m) : Pw h (24 + 6 * i) (w i) (l i) (v (w i)) (v (l i)) (sw1 i) ∧ Tq h (24 + 6 * i + 1) (v (w i)) (v (l i)) (ea1 i) (eb1 i) := by
  have := z i hi
  rw [mx_o, mx_o, mx_o] at this
  exact this
theorem Tm.off {h h' : gH} {S : List Nat} {m i : Nat} {w l v : Nat → Nat} {sw1 sw2 : Nat → Int32} {ea1 eb1 ea2 eb2 : Nat → Nat} (z : Tm h m i w l v sw1 sw2 ea1 eb1 ea2 eb2) (hm : m ≤ 16) (hf : g_fr S h h') (hS : ∀ j ∈ S, j = 17 ∨ (24 + 6 * i ≤ j ∧ j < 30 + 6 * i)) : ∀ k, k < m → k ≠ i → Pw h' (24 + 6 * k) (w k) (l k) (v (w k)) (v (l k)) (mx i sw1 sw2 k) ∧ Tq h' (24 + 6 * k + 1) (v (w k)) (v (l k)) (mx i ea1 ea2 k) (mx i eb1 eb2 k) := fun k hk hki => ⟨hf.at (fun x => by have := hS _ x; omega) (z k hk).1, (z k hk).2.fr hf (fun j hj => by have := hS j hj; omega)⟩
theorem cs_mix {s1 s2 : Nat → Int32} {i m : Nat} (h : s2 i = s1 i) : cs_ (mx (i + 1) s1 s2) m = cs_ (mx i s1 s2) m := cs_congr (fun k _ => by
  by_cases q : k = i
  · subst q; rw [mx_n, mx_o, h]
  · rw [mx_k q])
theorem cs_mixS {s1 s2 : Nat → Int32} {i m : Nat} (hi : i < m) (h1 : s1 i = -1) (h2 : ¬ s2 i = -1) : cs_ (mx (i + 1) s1 s2) m = cs_ (mx i s1 s2) m + 1 := by
  rw [← cs_up (x := s2 i) hi (by rw [mx_o]; exact h1) h2]
  refine cs_congr (fun k _ => ?_)
  by_cases q : k = i
  · subst q; rw [mx_n, va_s]
  · rw [mx_k q, va_n q]
set_option maxHeartbeats 4000000 in
set_option maxRecDepth 100000 in
theorem lp_poll (G : gG) (d n : Nat) (ex : Bool) (h0 : gH) {s v wn en rc w l ea eb : Nat → Nat} {sw : Nat → Int32} {seen : Int32} {m lm dr : Nat} (hm : m ≤ 16) (hV : ∀ k, k < m → 1 ≤ v (w k) ∧ v (w k) ≤ 20000 ∧ v (l k) ≤ 20000) (hwl : ∀ k, k < m → w k < 8 ∧ l k < 8) (hE : ∀ k, k < m → ea k + eb k ≤ 199) (hl1 : s 9 ≤ 1000000) (hl2 : s 10 ≤ 1000000) (hdr : dr < 2 ^ 31) : ∀ (t i : Nat) (h : gH), m - i < t → i ≤ m → Te h m (cs_ (mx i sw (pw_sw seen w l v (s 9) (s 10) dr sw ea eb)) m) lm → Su h s v wn en rc → Tm h m i w l v sw (pw_sw seen w l v (s 9) (s 10) dr sw ea eb) ea eb (pw_ea seen w ea) (pw_eb seen w l eb) → g_fr SP h0 h → (∀ j, (j < 24 ∨ 24 + 6 * m ≤ j) → ¬ j = 17 → h j = h0 j) →
    g_W G mX8_poll (g_rm (d + 4) 0 0) (g_K G (q_i n ex SP h0 (fun r h' => r = nI (if cs_ (pw_sw seen w l v (s 9) (s 10) dr sw ea eb) m = m then 1 else 0) ∧ Te h' m (cs_ (pw_sw seen w l v (s 9) (s 10) dr sw ea eb) m) lm ∧ Tk h' m w l v (pw_sw seen w l v (s 9) (s 10) dr sw ea eb) (pw_ea seen w ea) (pw_eb seen w l eb) ∧ ∀ j, (j < 24 ∨ 24 + 6 * m ≤ j) → ¬ j = 17 → h' j = h0 j)) 0 0) n ex h 0 0 3 [(4, .int (nI i)), (0, .ref 17), (1, .ref 1), (2, .int seen), (3, .int (nI dr))] [] := by
  intro t
  induction t with
  | zero => intro i h hm; exact absurd hm (by omega)
  | succ t ih =>
    intro i h ht hi hT hs hM hf hlow
    have hs' := hs
    obtain ⟨z1, z2, z3, z4, z5⟩ := id hs
    obtain ⟨t1, f, t2, t3⟩ := id hT
    have hcsb : cs_ (mx i sw (pw_sw seen w l v (s 9) (s 10) dr sw ea eb)) m < 2 ^ 31 := Nat.lt_of_le_of_lt (cs_le _ m) (by omega)
    refine g_iload dX8_poll_3 rfl ?_
    refine g_aload_n dX8_poll_5 rfl rfl ?_
    refine g_getf dX8_poll_6 fX8_27 t1 rfl ?_
    refine g_icmp_geN (tgt := 116) dX8_poll_9 (by decide) (by omega) (by omega) (fun c9 => ?_) (fun c9 => ?_)
    · refine g_aload_n dX8_poll_116 rfl rfl ?_
      refine g_getf dX8_poll_117 fX8_31 t1 rfl ?_
      refine g_aload_n dX8_poll_120 rfl rfl ?_
      refine g_getf dX8_poll_121 fX8_27 t1 rfl ?_
      refine g_icmp_neN (tgt := 131) dX8_poll_124 (by decide) hcsb (by omega) (fun c124 => ?_) (fun c124 => ?_)
      · refine g_iconst (v := nI 0) dX8_poll_131 (by decide) ?_
        have e : i = m := by omega
        subst e
        have hcc : cs_ (mx i sw (pw_sw seen w l v (s 9) (s 10) dr sw ea eb)) i = cs_ (pw_sw seen w l v (s 9) (s 10) dr sw ea eb) i := cs_congr (fun k hk => mx_l hk)
        rw [hcc] at hT c124
        exact e_i dX8_poll_132 rfl rfl hf ⟨by first | (rw [if_pos c124]) | (rw [if_neg c124]), hT, fun k hk => (by have := hM k hk; rw [mx_l hk, mx_l hk, mx_l hk] at this; exact this), hlow⟩ (by decide) (by decide)
      · refine g_iconst (v := nI 1) dX8_poll_127 (by decide) ?_
        refine g_goto (tgt := 132) dX8_poll_128 (by decide) ?_
        have e : i = m := by omega
        subst e
        have hcc : cs_ (mx i sw (pw_sw seen w l v (s 9) (s 10) dr sw ea eb)) i = cs_ (pw_sw seen w l v (s 9) (s 10) dr sw ea eb) i := cs_congr (fun k hk => mx_l hk)
        rw [hcc] at hT c124
        exact e_i dX8_poll_132 rfl rfl hf ⟨by first | (rw [if_pos c124]) | (rw [if_neg c124]), hT, fun k hk => (by have := hM k hk; rw [mx_l hk, mx_l hk, mx_l hk] at this; exact this), hlow⟩ (by decide) (by decide)
    · refine g_aload_n dX8_poll_12 rfl rfl ?_
      refine g_getf dX8_poll_13 fX8_11 t1 rfl ?_
      refine g_iload dX8_poll_16 rfl ?_
      refine g_aaldN (r := 24 + 6 * i) dX8_poll_18 t2 (by omega) (by decide) (t3 i (by omega)) ?_
      obtain ⟨hp, A, B, hF, hg, hB, he, hA1, hB1⟩ := hM.at c9
      have hw8 := hwl i c9
      have he1 := hE i c9
      refine g_astore (ls' := [(5, .ref (24 + 6 * i)), (4, .int (nI i)), (0, .ref 17), (1, .ref 1), (2, .int seen), (3, .int (nI dr))]) dX8_poll_19 (by decide) rfl ?_
      refine g_iload_n dX8_poll_21 rfl rfl ?_
      refine g_aload dX8_poll_22 rfl ?_
      refine g_getf dX8_poll_24 fX8_74 hp rfl ?_
      refine g_icmp_eq (tgt := 42) dX8_poll_27 (by decide) (fun c27 => ?_) (fun c27 => ?_)
      · refine g_aload dX8_poll_42 rfl ?_
        refine g_aload dX8_poll_44 rfl ?_
        refine g_getf dX8_poll_46 fX8_80 hp rfl ?_
        refine g_iload_n dX8_poll_49 rfl rfl ?_
        refine g_aload dX8_poll_50 rfl ?_
        refine g_getf dX8_poll_52 fX8_74 hp rfl ?_
        refine g_icmp_ne (tgt := 62) dX8_poll_55 (by decide) (fun c55 => ?_) (fun c55 => ?_)
        · exact absurd c27 c55
        · refine g_iconst (v := nI 1) dX8_poll_58 (by decide) ?_
          refine g_goto (tgt := 63) dX8_poll_59 (by decide) ?_
          refine cVvE (st := []) dX8_poll_63 (c_step G d n ex h hp hF hg hB (by decide) (by decide) (by decide) (hV i c9).1 (hV i c9).2.1 (hV i c9).2.2 (fun _ => t_room hA1 (by omega) (by have := (hV i c9).2.1; omega)) (fun _ => t_room hA1 (by omega) (by have := (hV i c9).2.2; omega)) (t_room hB1 (by omega) (by have := hV i c9; omega))) sX8_83 hp.cell rfl rfl (by simp only [g_rm]; omega) (by simp only [g_rm]; omega) (Nat.le_of_ble_eq_true rfl) ⟨(Nat.le_of_ble_eq_true rfl), (Nat.le_of_ble_eq_true rfl)⟩ (fun h1 fr2 p3 => ?_)
          obtain ⟨A', B', y1, y2, y3, y4, y5, y6⟩ := p3
          have hpe : pw_ea seen w ea i = ea i + 1 := if_pos (by first | exact c27 | exact c55)
          have hpb : pw_eb seen w l eb i = eb i := if_pos (by first | exact c27 | exact c55)
          have htq := tq_w hB (hV i c9).2.1 (hV i c9).2.2 he y4 hA1 hB1 y5 y6
          have hT2 : Tq h1 (24 + 6 * i + 1) (v (w i)) (v (l i)) (pw_ea seen w ea i) (pw_eb seen w l eb i) := ⟨A', B', y1, y2, y3, by rw [hpe, hpb]; exact htq.1, by rw [hpe, hpb]; exact htq.2.1, by rw [hpe, hpb]; exact htq.2.2⟩
          have hge : t_ge v (s 9) (s 10) (w i) (l i) (pw_ea seen w ea i) (pw_eb seen w l eb i) ↔ B' * s 10 ≤ A' * s 9 := (fr_le y3 (Nat.pow_pos (by have := hV i c9; omega)) (by rw [hpe, hpb]; exact htq.1)).symm
          refine g_aload dX8_poll_66 rfl ?_
          refine g_getf dX8_poll_68 fX8_87 (fr2.at (by intro q; simp only [List.mem_cons, List.not_mem_nil, or_false] at q; omega) hp) rfl ?_
          refine g_iconst (v := -1) dX8_poll_71 (by decide) ?_
          refine g_icmp_ne (tgt := 110) dX8_poll_72 (by decide) (fun c72 => ?_) (fun c72 => ?_)
          · refine g_iincN (z := 1) (ls' := [(4, .int (nI (i + 1))), (5, .ref (24 + 6 * i)), (0, .ref 17), (1, .ref 1), (2, .int seen), (3, .int (nI dr))]) dX8_poll_110 rfl (by decide) rfl ?_
            refine g_goto (tgt := 3) dX8_poll_113 (by decide) ?_
            refine g_pick [0, 2, 3, 4, 5] (ls' := [(4, .int (nI (i + 1))), (0, .ref 17), (1, .ref 1), (2, .int seen), (3, .int (nI dr))]) rfl ?_
            have hsame : pw_sw seen w l v (s 9) (s 10) dr sw ea eb i = sw i := if_neg (fun q => c72 q.2.1)
            exact ih (i + 1) _ (by omega) (by omega) (by rw [cs_mix hsame]; exact ⟨fr2.at (by intro q; simp only [List.mem_cons, List.not_mem_nil, or_false] at q; omega) t1, f, fr2.at (by intro q; simp only [List.mem_cons, List.not_mem_nil, or_false] at q; omega) t2, t3⟩) ⟨fr2.at (by intro q; simp only [List.mem_cons, List.not_mem_nil, or_false] at q; omega) z1, fr2.at (by intro q; simp only [List.mem_cons, List.not_mem_nil, or_false] at q; omega) z2, fr2.at (by intro q; simp only [List.mem_cons, List.not_mem_nil, or_false] at q; omega) z3, fr2.at (by intro q; simp only [List.mem_cons, List.not_mem_nil, or_false] at q; omega) z4, fr2.at (by intro q; simp only [List.mem_cons, List.not_mem_nil, or_false] at q; omega) z5⟩ (Tm.new (hM.off hm fr2 (by intro j q; simp only [List.mem_cons, List.not_mem_nil, or_false] at q; omega)) (by rw [hsame]; exact fr2.at (by intro q; simp only [List.mem_cons, List.not_mem_nil, or_false] at q; omega) hp) hT2) ((hf).tr (fr2.of (by intro j q; simp only [List.mem_cons, List.not_mem_nil, or_false] at q; omega)) (by simp)) (fun j h1 h2 => by first | exact (fr2.at (by intro q; simp only [List.mem_cons, List.not_mem_nil, or_false] at q; omega) (hlow j h1 h2)) | exact (g_ne (by omega) (g_ne (by omega) (fr2.at (by intro q; simp only [List.mem_cons, List.not_mem_nil, or_false] at q; omega) (hlow j h1 h2)))))
          · refine g_aload dX8_poll_75 rfl ?_
            refine g_getf dX8_poll_77 fX8_80 (fr2.at (by intro q; simp only [List.mem_cons, List.not_mem_nil, or_false] at q; omega) hp) rfl ?_
            refine g_aload_n dX8_poll_80 rfl rfl ?_
            refine g_getf dX8_poll_81 fX8_90 (fr2.at (by intro q; simp only [List.mem_cons, List.not_mem_nil, or_false] at q; omega) z1) rfl ?_
            refine g_aload_n dX8_poll_84 rfl rfl ?_
            refine g_getf dX8_poll_85 fX8_93 (fr2.at (by intro q; simp only [List.mem_cons, List.not_mem_nil, or_false] at q; omega) z1) rfl ?_
            refine cViE (st := []) dX8_poll_88 (c_compareWith G (d + 1) n ex h1 y1 (by decide) hl2 hl1) sX8_96 y1.cell rfl rfl (by simp only [g_rm]; omega) (by simp only [g_rm]; omega) (Nat.le_of_ble_eq_true rfl) ⟨(Nat.le_of_ble_eq_true rfl), (Nat.le_of_ble_eq_true rfl)⟩ (fun r8 h5 fr6 p7 => ?_)
            cases g_fr0 fr6
            subst p7
            refine g_if_lt (tgt := 110) dX8_poll_91 (by decide) (fun c91 => ?_) (fun c91 => ?_)
            · refine g_iincN (z := 1) (ls' := [(4, .int (nI (i + 1))), (5, .ref (24 + 6 * i)), (0, .ref 17), (1, .ref 1), (2, .int seen), (3, .int (nI dr))]) dX8_poll_110 rfl (by decide) rfl ?_
              refine g_goto (tgt := 3) dX8_poll_113 (by decide) ?_
              refine g_pick [0, 2, 3, 4, 5] (ls' := [(4, .int (nI (i + 1))), (0, .ref 17), (1, .ref 1), (2, .int seen), (3, .int (nI dr))]) rfl ?_
              have hsame : pw_sw seen w l v (s 9) (s 10) dr sw ea eb i = sw i := if_neg (fun q => absurd (hge.mp q.2.2) (Nat.not_le.mpr (cp_lt.mp c91)))
              exact ih (i + 1) _ (by omega) (by omega) (by rw [cs_mix hsame]; exact ⟨fr2.at (by intro q; simp only [List.mem_cons, List.not_mem_nil, or_false] at q; omega) t1, f, fr2.at (by intro q; simp only [List.mem_cons, List.not_mem_nil, or_false] at q; omega) t2, t3⟩) ⟨fr2.at (by intro q; simp only [List.mem_cons, List.not_mem_nil, or_false] at q; omega) z1, fr2.at (by intro q; simp only [List.mem_cons, List.not_mem_nil, or_false] at q; omega) z2, fr2.at (by intro q; simp only [List.mem_cons, List.not_mem_nil, or_false] at q; omega) z3, fr2.at (by intro q; simp only [List.mem_cons, List.not_mem_nil, or_false] at q; omega) z4, fr2.at (by intro q; simp only [List.mem_cons, List.not_mem_nil, or_false] at q; omega) z5⟩ (Tm.new (hM.off hm fr2 (by intro j q; simp only [List.mem_cons, List.not_mem_nil, or_false] at q; omega)) (by rw [hsame]; exact fr2.at (by intro q; simp only [List.mem_cons, List.not_mem_nil, or_false] at q; omega) hp) hT2) ((hf).tr (fr2.of (by intro j q; simp only [List.mem_cons, List.not_mem_nil, or_false] at q; omega)) (by simp)) (fun j h1 h2 => by first | exact (fr2.at (by intro q; simp only [List.mem_cons, List.not_mem_nil, or_false] at q; omega) (hlow j h1 h2)) | exact (g_ne (by omega) (g_ne (by omega) (fr2.at (by intro q; simp only [List.mem_cons, List.not_mem_nil, or_false] at q; omega) (hlow j h1 h2)))))
            · refine g_aload dX8_poll_94 rfl ?_
              refine g_iload_n dX8_poll_96 rfl rfl ?_
              refine g_put (fs' := [.ref (24 + 6 * i + 1), .int (nI (w i)), .int (nI (l i)), .int (nI (v (w i))), .int (nI (v (l i))), .int (nI dr)]) dX8_poll_97 fX8_87 (fr2.at (by intro q; simp only [List.mem_cons, List.not_mem_nil, or_false] at q; omega) hp) (Nat.le_of_ble_eq_true rfl) rfl rfl rfl ?_
              refine g_aload_n dX8_poll_100 rfl rfl ?_
              refine g_dup dX8_poll_101 rfl ?_
              refine g_getf dX8_poll_102 fX8_31 (g_ne (by omega) (fr2.at (by intro q; simp only [List.mem_cons, List.not_mem_nil, or_false] at q; omega) t1)) rfl ?_
              refine g_iconst (v := nI 1) dX8_poll_105 (by decide) ?_
              refine g_iaddN dX8_poll_106 ?_
              refine g_put (fs' := [.ref 18, .ref 19, .int (nI m), .int (nI ((cs_ (mx i sw (pw_sw seen w l v (s 9) (s 10) dr sw ea eb)) m) + 1)), .int (nI lm)]) dX8_poll_107 fX8_31 (g_ne (by omega) (fr2.at (by intro q; simp only [List.mem_cons, List.not_mem_nil, or_false] at q; omega) t1)) (Nat.le_of_ble_eq_true rfl) rfl rfl rfl ?_
              refine g_iincN (z := 1) (ls' := [(4, .int (nI (i + 1))), (5, .ref (24 + 6 * i)), (0, .ref 17), (1, .ref 1), (2, .int seen), (3, .int (nI dr))]) dX8_poll_110 rfl (by decide) rfl ?_
              refine g_goto (tgt := 3) dX8_poll_113 (by decide) ?_
              refine g_pick [0, 2, 3, 4, 5] (ls' := [(4, .int (nI (i + 1))), (0, .ref 17), (1, .ref 1), (2, .int seen), (3, .int (nI dr))]) rfl ?_
              have hset : pw_sw seen w l v (s 9) (s 10) dr sw ea eb i = nI dr := if_pos ⟨Or.inl c27, c72, hge.mpr (Nat.not_lt.mp (fun q => c91 (cp_lt.mpr q)))⟩
              exact ih (i + 1) _ (by omega) (by omega) (by rw [cs_mixS c9 c72 (by rw [hset]; exact ne_m1 hdr)]; exact ⟨g_eq, f, g_ne (by decide) (g_ne (by omega) (fr2.at (by intro q; simp only [List.mem_cons, List.not_mem_nil, or_false] at q; omega) t2)), t3⟩) ⟨g_ne (by decide) (g_ne (by omega) (fr2.at (by intro q; simp only [List.mem_cons, List.not_mem_nil, or_false] at q; omega) z1)), g_ne (by decide) (g_ne (by omega) (fr2.at (by intro q; simp only [List.mem_cons, List.not_mem_nil, or_false] at q; omega) z2)), g_ne (by decide) (g_ne (by omega) (fr2.at (by intro q; simp only [List.mem_cons, List.not_mem_nil, or_false] at q; omega) z3)), g_ne (by decide) (g_ne (by omega) (fr2.at (by intro q; simp only [List.mem_cons, List.not_mem_nil, or_false] at q; omega) z4)), g_ne (by decide) (g_ne (by omega) (fr2.at (by intro q; simp only [List.mem_cons, List.not_mem_nil, or_false] at q; omega) z5))⟩ (Tm.new (hM.off hm (S := 17 :: (24 + 6 * i) :: [24 + 6 * i + 1 + 1, 24 + 6 * i + 1 + 2, 24 + 6 * i + 1 + 3, 24 + 6 * i + 1 + 4]) ((((fr2).mono (by simp)).up (by simp)).up (by simp)) (by intro j q; simp only [List.mem_cons, List.not_mem_nil, or_false] at q; omega)) (by rw [hset]; exact g_ne (by omega) g_eq) (hT2.fr (S := [24 + 6 * i, 17]) ((g_fr.rf.up (by simp)).up (by simp)) (by intro j q; simp only [List.mem_cons, List.not_mem_nil, or_false] at q; omega))) ((((hf).tr (fr2.of (by intro j q; simp only [List.mem_cons, List.not_mem_nil, or_false] at q; omega)) (by simp)).up (mSP (by omega) (by omega))).up (mSP (by omega) (by omega))) (fun j h1 h2 => by first | exact (fr2.at (by intro q; simp only [List.mem_cons, List.not_mem_nil, or_false] at q; omega) (hlow j h1 h2)) | exact (g_ne (by omega) (g_ne (by omega) (fr2.at (by intro q; simp only [List.mem_cons, List.not_mem_nil, or_false] at q; omega) (hlow j h1 h2)))))
      · refine g_iload_n dX8_poll_30 rfl rfl ?_
        refine g_aload dX8_poll_31 rfl ?_
        refine g_getf dX8_poll_33 fX8_77 hp rfl ?_
        refine g_icmp_eq (tgt := 42) dX8_poll_36 (by decide) (fun c36 => ?_) (fun c36 => ?_)
        · refine g_aload dX8_poll_42 rfl ?_
          refine g_aload dX8_poll_44 rfl ?_
          refine g_getf dX8_poll_46 fX8_80 hp rfl ?_
          refine g_iload_n dX8_poll_49 rfl rfl ?_
          refine g_aload dX8_poll_50 rfl ?_
          refine g_getf dX8_poll_52 fX8_74 hp rfl ?_
          refine g_icmp_ne (tgt := 62) dX8_poll_55 (by decide) (fun c55 => ?_) (fun c55 => ?_)
          · refine g_iconst (v := nI 0) dX8_poll_62 (by decide) ?_
            refine cVvE (st := []) dX8_poll_63 (c_step G d n ex h hp hF hg hB (by decide) (by decide) (by decide) (hV i c9).1 (hV i c9).2.1 (hV i c9).2.2 (fun _ => t_room hA1 (by omega) (by have := (hV i c9).2.1; omega)) (fun _ => t_room hA1 (by omega) (by have := (hV i c9).2.2; omega)) (t_room hB1 (by omega) (by have := hV i c9; omega))) sX8_83 hp.cell rfl rfl (by simp only [g_rm]; omega) (by simp only [g_rm]; omega) (Nat.le_of_ble_eq_true rfl) ⟨(Nat.le_of_ble_eq_true rfl), (Nat.le_of_ble_eq_true rfl)⟩ (fun h9 fr10 p11 => ?_)
            obtain ⟨A', B', y1, y2, y3, y4, y5, y6⟩ := p11
            have hpe : pw_ea seen w ea i = ea i := if_neg c55
            have hpb : pw_eb seen w l eb i = eb i + 1 := (if_neg c55).trans (if_pos (by first | exact c36 | exact absurd c27 c55))
            have htq := tq_l hB (hV i c9).2.1 (hV i c9).2.2 he y4 hA1 hB1 y5 y6
            have hT2 : Tq h9 (24 + 6 * i + 1) (v (w i)) (v (l i)) (pw_ea seen w ea i) (pw_eb seen w l eb i) := ⟨A', B', y1, y2, y3, by rw [hpe, hpb]; exact htq.1, by rw [hpe, hpb]; exact htq.2.1, by rw [hpe, hpb]; exact htq.2.2⟩
            have hge : t_ge v (s 9) (s 10) (w i) (l i) (pw_ea seen w ea i) (pw_eb seen w l eb i) ↔ B' * s 10 ≤ A' * s 9 := (fr_le y3 (Nat.pow_pos (by have := hV i c9; omega)) (by rw [hpe, hpb]; exact htq.1)).symm
            refine g_aload dX8_poll_66 rfl ?_
            refine g_getf dX8_poll_68 fX8_87 (fr10.at (by intro q; simp only [List.mem_cons, List.not_mem_nil, or_false] at q; omega) hp) rfl ?_
            refine g_iconst (v := -1) dX8_poll_71 (by decide) ?_
            refine g_icmp_ne (tgt := 110) dX8_poll_72 (by decide) (fun c72 => ?_) (fun c72 => ?_)
            · refine g_iincN (z := 1) (ls' := [(4, .int (nI (i + 1))), (5, .ref (24 + 6 * i)), (0, .ref 17), (1, .ref 1), (2, .int seen), (3, .int (nI dr))]) dX8_poll_110 rfl (by decide) rfl ?_
              refine g_goto (tgt := 3) dX8_poll_113 (by decide) ?_
              refine g_pick [0, 2, 3, 4, 5] (ls' := [(4, .int (nI (i + 1))), (0, .ref 17), (1, .ref 1), (2, .int seen), (3, .int (nI dr))]) rfl ?_
              have hsame : pw_sw seen w l v (s 9) (s 10) dr sw ea eb i = sw i := if_neg (fun q => c72 q.2.1)
              exact ih (i + 1) _ (by omega) (by omega) (by rw [cs_mix hsame]; exact ⟨fr10.at (by intro q; simp only [List.mem_cons, List.not_mem_nil, or_false] at q; omega) t1, f, fr10.at (by intro q; simp only [List.mem_cons, List.not_mem_nil, or_false] at q; omega) t2, t3⟩) ⟨fr10.at (by intro q; simp only [List.mem_cons, List.not_mem_nil, or_false] at q; omega) z1, fr10.at (by intro q; simp only [List.mem_cons, List.not_mem_nil, or_false] at q; omega) z2, fr10.at (by intro q; simp only [List.mem_cons, List.not_mem_nil, or_false] at q; omega) z3, fr10.at (by intro q; simp only [List.mem_cons, List.not_mem_nil, or_false] at q; omega) z4, fr10.at (by intro q; simp only [List.mem_cons, List.not_mem_nil, or_false] at q; omega) z5⟩ (Tm.new (hM.off hm fr10 (by intro j q; simp only [List.mem_cons, List.not_mem_nil, or_false] at q; omega)) (by rw [hsame]; exact fr10.at (by intro q; simp only [List.mem_cons, List.not_mem_nil, or_false] at q; omega) hp) hT2) ((hf).tr (fr10.of (by intro j q; simp only [List.mem_cons, List.not_mem_nil, or_false] at q; omega)) (by simp)) (fun j h1 h2 => by first | exact (fr10.at (by intro q; simp only [List.mem_cons, List.not_mem_nil, or_false] at q; omega) (hlow j h1 h2)) | exact (g_ne (by omega) (g_ne (by omega) (fr10.at (by intro q; simp only [List.mem_cons, List.not_mem_nil, or_false] at q; omega) (hlow j h1 h2)))))
            · refine g_aload dX8_poll_75 rfl ?_
              refine g_getf dX8_poll_77 fX8_80 (fr10.at (by intro q; simp only [List.mem_cons, List.not_mem_nil, or_false] at q; omega) hp) rfl ?_
              refine g_aload_n dX8_poll_80 rfl rfl ?_
              refine g_getf dX8_poll_81 fX8_90 (fr10.at (by intro q; simp only [List.mem_cons, List.not_mem_nil, or_false] at q; omega) z1) rfl ?_
              refine g_aload_n dX8_poll_84 rfl rfl ?_
              refine g_getf dX8_poll_85 fX8_93 (fr10.at (by intro q; simp only [List.mem_cons, List.not_mem_nil, or_false] at q; omega) z1) rfl ?_
              refine cViE (st := []) dX8_poll_88 (c_compareWith G (d + 1) n ex h9 y1 (by decide) hl2 hl1) sX8_96 y1.cell rfl rfl (by simp only [g_rm]; omega) (by simp only [g_rm]; omega) (Nat.le_of_ble_eq_true rfl) ⟨(Nat.le_of_ble_eq_true rfl), (Nat.le_of_ble_eq_true rfl)⟩ (fun r16 h13 fr14 p15 => ?_)
              cases g_fr0 fr14
              subst p15
              refine g_if_lt (tgt := 110) dX8_poll_91 (by decide) (fun c91 => ?_) (fun c91 => ?_)
              · refine g_iincN (z := 1) (ls' := [(4, .int (nI (i + 1))), (5, .ref (24 + 6 * i)), (0, .ref 17), (1, .ref 1), (2, .int seen), (3, .int (nI dr))]) dX8_poll_110 rfl (by decide) rfl ?_
                refine g_goto (tgt := 3) dX8_poll_113 (by decide) ?_
                refine g_pick [0, 2, 3, 4, 5] (ls' := [(4, .int (nI (i + 1))), (0, .ref 17), (1, .ref 1), (2, .int seen), (3, .int (nI dr))]) rfl ?_
                have hsame : pw_sw seen w l v (s 9) (s 10) dr sw ea eb i = sw i := if_neg (fun q => absurd (hge.mp q.2.2) (Nat.not_le.mpr (cp_lt.mp c91)))
                exact ih (i + 1) _ (by omega) (by omega) (by rw [cs_mix hsame]; exact ⟨fr10.at (by intro q; simp only [List.mem_cons, List.not_mem_nil, or_false] at q; omega) t1, f, fr10.at (by intro q; simp only [List.mem_cons, List.not_mem_nil, or_false] at q; omega) t2, t3⟩) ⟨fr10.at (by intro q; simp only [List.mem_cons, List.not_mem_nil, or_false] at q; omega) z1, fr10.at (by intro q; simp only [List.mem_cons, List.not_mem_nil, or_false] at q; omega) z2, fr10.at (by intro q; simp only [List.mem_cons, List.not_mem_nil, or_false] at q; omega) z3, fr10.at (by intro q; simp only [List.mem_cons, List.not_mem_nil, or_false] at q; omega) z4, fr10.at (by intro q; simp only [List.mem_cons, List.not_mem_nil, or_false] at q; omega) z5⟩ (Tm.new (hM.off hm fr10 (by intro j q; simp only [List.mem_cons, List.not_mem_nil, or_false] at q; omega)) (by rw [hsame]; exact fr10.at (by intro q; simp only [List.mem_cons, List.not_mem_nil, or_false] at q; omega) hp) hT2) ((hf).tr (fr10.of (by intro j q; simp only [List.mem_cons, List.not_mem_nil, or_false] at q; omega)) (by simp)) (fun j h1 h2 => by first | exact (fr10.at (by intro q; simp only [List.mem_cons, List.not_mem_nil, or_false] at q; omega) (hlow j h1 h2)) | exact (g_ne (by omega) (g_ne (by omega) (fr10.at (by intro q; simp only [List.mem_cons, List.not_mem_nil, or_false] at q; omega) (hlow j h1 h2)))))
              · refine g_aload dX8_poll_94 rfl ?_
                refine g_iload_n dX8_poll_96 rfl rfl ?_
                refine g_put (fs' := [.ref (24 + 6 * i + 1), .int (nI (w i)), .int (nI (l i)), .int (nI (v (w i))), .int (nI (v (l i))), .int (nI dr)]) dX8_poll_97 fX8_87 (fr10.at (by intro q; simp only [List.mem_cons, List.not_mem_nil, or_false] at q; omega) hp) (Nat.le_of_ble_eq_true rfl) rfl rfl rfl ?_
                refine g_aload_n dX8_poll_100 rfl rfl ?_
                refine g_dup dX8_poll_101 rfl ?_
                refine g_getf dX8_poll_102 fX8_31 (g_ne (by omega) (fr10.at (by intro q; simp only [List.mem_cons, List.not_mem_nil, or_false] at q; omega) t1)) rfl ?_
                refine g_iconst (v := nI 1) dX8_poll_105 (by decide) ?_
                refine g_iaddN dX8_poll_106 ?_
                refine g_put (fs' := [.ref 18, .ref 19, .int (nI m), .int (nI ((cs_ (mx i sw (pw_sw seen w l v (s 9) (s 10) dr sw ea eb)) m) + 1)), .int (nI lm)]) dX8_poll_107 fX8_31 (g_ne (by omega) (fr10.at (by intro q; simp only [List.mem_cons, List.not_mem_nil, or_false] at q; omega) t1)) (Nat.le_of_ble_eq_true rfl) rfl rfl rfl ?_
                refine g_iincN (z := 1) (ls' := [(4, .int (nI (i + 1))), (5, .ref (24 + 6 * i)), (0, .ref 17), (1, .ref 1), (2, .int seen), (3, .int (nI dr))]) dX8_poll_110 rfl (by decide) rfl ?_
                refine g_goto (tgt := 3) dX8_poll_113 (by decide) ?_
                refine g_pick [0, 2, 3, 4, 5] (ls' := [(4, .int (nI (i + 1))), (0, .ref 17), (1, .ref 1), (2, .int seen), (3, .int (nI dr))]) rfl ?_
                have hset : pw_sw seen w l v (s 9) (s 10) dr sw ea eb i = nI dr := if_pos ⟨Or.inr c36, c72, hge.mpr (Nat.not_lt.mp (fun q => c91 (cp_lt.mpr q)))⟩
                exact ih (i + 1) _ (by omega) (by omega) (by rw [cs_mixS c9 c72 (by rw [hset]; exact ne_m1 hdr)]; exact ⟨g_eq, f, g_ne (by decide) (g_ne (by omega) (fr10.at (by intro q; simp only [List.mem_cons, List.not_mem_nil, or_false] at q; omega) t2)), t3⟩) ⟨g_ne (by decide) (g_ne (by omega) (fr10.at (by intro q; simp only [List.mem_cons, List.not_mem_nil, or_false] at q; omega) z1)), g_ne (by decide) (g_ne (by omega) (fr10.at (by intro q; simp only [List.mem_cons, List.not_mem_nil, or_false] at q; omega) z2)), g_ne (by decide) (g_ne (by omega) (fr10.at (by intro q; simp only [List.mem_cons, List.not_mem_nil, or_false] at q; omega) z3)), g_ne (by decide) (g_ne (by omega) (fr10.at (by intro q; simp only [List.mem_cons, List.not_mem_nil, or_false] at q; omega) z4)), g_ne (by decide) (g_ne (by omega) (fr10.at (by intro q; simp only [List.mem_cons, List.not_mem_nil, or_false] at q; omega) z5))⟩ (Tm.new (hM.off hm (S := 17 :: (24 + 6 * i) :: [24 + 6 * i + 1 + 1, 24 + 6 * i + 1 + 2, 24 + 6 * i + 1 + 3, 24 + 6 * i + 1 + 4]) ((((fr10).mono (by simp)).up (by simp)).up (by simp)) (by intro j q; simp only [List.mem_cons, List.not_mem_nil, or_false] at q; omega)) (by rw [hset]; exact g_ne (by omega) g_eq) (hT2.fr (S := [24 + 6 * i, 17]) ((g_fr.rf.up (by simp)).up (by simp)) (by intro j q; simp only [List.mem_cons, List.not_mem_nil, or_false] at q; omega))) ((((hf).tr (fr10.of (by intro j q; simp only [List.mem_cons, List.not_mem_nil, or_false] at q; omega)) (by simp)).up (mSP (by omega) (by omega))).up (mSP (by omega) (by omega))) (fun j h1 h2 => by first | exact (fr10.at (by intro q; simp only [List.mem_cons, List.not_mem_nil, or_false] at q; omega) (hlow j h1 h2)) | exact (g_ne (by omega) (g_ne (by omega) (fr10.at (by intro q; simp only [List.mem_cons, List.not_mem_nil, or_false] at q; omega) (hlow j h1 h2)))))
          · exact absurd c55 c27
        · refine g_goto (tgt := 110) dX8_poll_39 (by decide) ?_
          refine g_iincN (z := 1) (ls' := [(4, .int (nI (i + 1))), (5, .ref (24 + 6 * i)), (0, .ref 17), (1, .ref 1), (2, .int seen), (3, .int (nI dr))]) dX8_poll_110 rfl (by decide) rfl ?_
          refine g_goto (tgt := 3) dX8_poll_113 (by decide) ?_
          refine g_pick [0, 2, 3, 4, 5] (ls' := [(4, .int (nI (i + 1))), (0, .ref 17), (1, .ref 1), (2, .int seen), (3, .int (nI dr))]) rfl ?_
          have hsame : pw_sw seen w l v (s 9) (s 10) dr sw ea eb i = sw i := if_neg (fun q => q.1.elim c27 c36)
          exact ih (i + 1) _ (by omega) (by omega) (by rw [cs_mix hsame]; exact hT) hs' (Tm.new (fun k hk hki => hM k hk) (by rw [hsame]; exact hp) (by rw [show pw_ea seen w ea i = ea i from if_neg c27, show pw_eb seen w l eb i = eb i from (if_neg c27).trans (if_neg c36)]; exact ⟨A, B, hF, hg, hB, he, hA1, hB1⟩)) hf hlow
set_option maxHeartbeats 4000000 in
set_option maxRecDepth 100000 in
theorem c_poll (G : gG) (d n : Nat) (ex : Bool) (h : gH) {s v wn en rc w l ea eb : Nat → Nat} {sw : Nat → Int32} {seen : Int32} {m lm dr : Nat} (hm : m ≤ 16) (hV : ∀ k, k < m → 1 ≤ v (w k) ∧ v (w k) ≤ 20000 ∧ v (l k) ≤ 20000) (hwl : ∀ k, k < m → w k < 8 ∧ l k < 8) (hE : ∀ k, k < m → ea k + eb k ≤ 199) (hl1 : s 9 ≤ 1000000) (hl2 : s 10 ≤ 1000000) (hdr : dr < 2 ^ 31) (hT : Te h m (cs_ sw m) lm) (hs : Su h s v wn en rc) (hM : Tk h m w l v sw ea eb) : g_M G mX8_poll (d + 4) 0 0 [.ref 17, .ref 1, .int seen, .int (nI dr)] n ex h (q_i n ex SP h (fun r h' => r = nI (if cs_ (pw_sw seen w l v (s 9) (s 10) dr sw ea eb) m = m then 1 else 0) ∧ Te h' m (cs_ (pw_sw seen w l v (s 9) (s 10) dr sw ea eb) m) lm ∧ Tk h' m w l v (pw_sw seen w l v (s 9) (s 10) dr sw ea eb) (pw_ea seen w ea) (pw_eb seen w l eb) ∧ ∀ j, (j < 24 ∨ 24 + 6 * m ≤ j) → ¬ j = 17 → h' j = h j)) := by
  refine g_enter (by decide) (Nat.le_of_ble_eq_true rfl) ?_
  show g_W G _ _ _ n ex h 0 0 0 [(0, .ref 17), (1, .ref 1), (2, .int seen), (3, .int (nI dr))] []
  refine g_iconst (v := nI 0) dX8_poll_0 (by decide) ?_
  refine g_istore (ls' := [(4, .int (nI 0)), (0, .ref 17), (1, .ref 1), (2, .int seen), (3, .int (nI dr))]) dX8_poll_1 (by decide) rfl ?_
  refine g_pick [0, 1, 2, 3, 4] (ls' := [(4, .int (nI 0)), (0, .ref 17), (1, .ref 1), (2, .int seen), (3, .int (nI dr))]) rfl ?_
  exact lp_poll G d n ex h hm hV hwl hE hl1 hl2 hdr (m + 1) 0 h (by omega) (by omega) (by rw [mx_0]; exact hT) hs (fun k hk => by rw [mx_0, mx_0, mx_0]; exact hM k hk) g_fr.rf (fun _ _ _ => rfl)
