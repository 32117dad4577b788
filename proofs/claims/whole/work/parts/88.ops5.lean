theorem up_s {f : Nat → Int32} {k : Nat} {x : Int32} : upd f k x k = x := if_pos rfl
theorem up_o {f : Nat → Int32} {k j : Nat} {x : Int32} (h : ¬ j = k) : upd f k x j = f j := if_neg h
theorem md_1 {v w l : Nat → Nat} {k : Nat} (h : v (l k) < v (w k)) : 1 ≤ md v w l k := by unfold md; omega
theorem md_2 {v w l : Nat → Nat} {k : Nat} (h : v (w k) ≤ 20000) : md v w l k ≤ 20000 := by unfold md; omega
theorem stP_c {p q : Prop} [Decidable p] [Decidable q] {a b : Nat} (h : p ↔ q) : stP p a b = stP q a b := by
  unfold stP
  by_cases z : p
  · rw [if_pos z, if_pos (h.mp z)]
  · rw [if_neg z, if_neg (fun y => z (h.mpr y))]
theorem stP_r {p : Prop} [Decidable p] {a b g : Nat} (h : g = stP p a b) : (g = 1 ∨ g = 3 ∨ g = 4) ∧ (g = 1 → b < a) := by
  subst h
  unfold stP
  by_cases z : p
  · rw [if_pos z]; exact ⟨Or.inr (Or.inl rfl), fun q => absurd q (by decide)⟩
  · rw [if_neg z]
    by_cases y : a ≤ b
    · rw [if_pos y]; exact ⟨Or.inr (Or.inr rfl), fun q => absurd q (by decide)⟩
    · rw [if_neg y]; exact ⟨Or.inl rfl, fun _ => by omega⟩
theorem cdf_i {df : Nat → Nat} {sv : Int32} {j : Nat} (h : j < 8) (e : sv = nI j) : cdf df sv j = df j + 1 := if_pos ⟨h, e⟩
theorem cdf_o {df : Nat → Nat} {sv : Int32} {j : Nat} (e : ¬ sv = nI j) : cdf df sv j = df j := if_neg (fun q => e q.2)
theorem cdf_8 {df : Nat → Nat} {sv : Int32} {j : Nat} (e : 8 ≤ j) : cdf df sv j = df j := if_neg (fun q => absurd q.1 (by omega))
theorem cdf_2le {df : Nat → Nat} {sv : Int32} {N : Nat} (h : ∀ a b, a ≠ b → df a + df b ≤ N) : ∀ a b, a ≠ b → cdf df sv a + cdf df sv b ≤ N + 1 := fun a b hab => by
  have h1 := h a b hab
  unfold cdf
  by_cases q : a < 8 ∧ sv = nI a
  · by_cases z : b < 8 ∧ sv = nI b
    · exact absurd ((nI_eq (by omega) (by omega)).mp (q.2.symm.trans z.2)) hab
    · rw [if_pos q, if_neg z]; omega
  · rw [if_neg q]
    split <;> omega
theorem nIne {a b : Nat} (ha : a < 8) (hb : b < 8) (h : ¬ a = b) : ¬ nI a = nI b := fun q => h ((nI_eq (by omega) (by omega)).mp q)
theorem b_ea {df w : Nat → Nat} {sv : Int32} {k : Nat} (h : w k < 8) : pw_ea sv w (eF 0 df w) k = eF 0 (cdf df sv) w k := by
  show (if sv = nI (w k) then df (w k) + 1 else df (w k)) = cdf df sv (w k)
  by_cases q : sv = nI (w k)
  · rw [if_pos q, cdf_i h q]
  · rw [if_neg q, cdf_o q]
theorem b_eb {df w l : Nat → Nat} {sv : Int32} {k : Nat} (h : w k < 8) (h2 : l k < 8) (h3 : ¬ w k = l k) : pw_eb sv w l (eF 0 df l) k = eF 0 (cdf df sv) l k := by
  show (if sv = nI (w k) then df (l k) else if sv = nI (l k) then df (l k) + 1 else df (l k)) = cdf df sv (l k)
  by_cases q : sv = nI (w k)
  · rw [if_pos q, cdf_o (fun z => nIne h h2 h3 (q.symm.trans z))]
  · rw [if_neg q]
    by_cases z : sv = nI (l k)
    · rw [if_pos z, cdf_i h2 z]
    · rw [if_neg z, cdf_o z]
theorem b_sw {v df w l : Nat → Nat} {sw : Nat → Int32} {sv : Int32} {lu ll dr k : Nat} (h : w k < 8) (h2 : l k < 8) (h3 : ¬ w k = l k) (d3 : sw k = -1 → ¬ t_ge v lu ll (w k) (l k) (df (w k)) (df (l k))) : pw_sw sv w l v lu ll dr sw (eF 0 df w) (eF 0 df l) k = swm v w l (cdf df sv) lu ll dr sw k := by
  unfold pw_sw swm
  rw [b_ea h, b_eb h h2 h3]
  show (if (sv = nI (w k) ∨ sv = nI (l k)) ∧ sw k = -1 ∧ t_ge v lu ll (w k) (l k) (cdf df sv (w k)) (cdf df sv (l k)) then nI dr else sw k) = _
  by_cases q : sv = nI (w k) ∨ sv = nI (l k)
  · by_cases z : sw k = -1 ∧ t_ge v lu ll (w k) (l k) (cdf df sv (w k)) (cdf df sv (l k))
    · rw [if_pos ⟨q, z⟩, if_pos z]
    · rw [if_neg (fun y => z y.2), if_neg z]
  · rw [if_neg (fun y => q y.1), if_neg ?_]
    rw [cdf_o (fun y => q (Or.inl y)), cdf_o (fun y => q (Or.inr y))]
    exact fun y => d3 y.1 y.2
theorem b_d3 {v df w l : Nat → Nat} {sw : Nat → Int32} {lu ll dr k : Nat} (hdr : dr < 2 ^ 31) (h : swm v w l df lu ll dr sw k = -1) : ¬ t_ge v lu ll (w k) (l k) (df (w k)) (df (l k)) := by
  unfold swm at h
  by_cases z : sw k = -1 ∧ t_ge v lu ll (w k) (l k) (df (w k)) (df (l k))
  · rw [if_pos z] at h; exact absurd h (ne_m1 hdr)
  · rw [if_neg z] at h; exact fun y => z ⟨h, y⟩
theorem ld_z {a b : Nat} {x : Int32} (ha : ¬ x = nI a) (hb : ¬ x = nI b) : ld a b x = 0 := by unfold ld; rw [if_neg ha, if_neg hb]
theorem oe_z {w l : Nat → Nat} {k : Nat} (h : w k < 8) (h2 : l k < 8) : oe w l (-1) (-2) k = 0 := by
  unfold oe
  rw [ld_z (fun q => ne_m1 (by omega) q.symm) (fun q => ne_m1 (by omega) q.symm), ld_z (fun q => ne_m2 (by omega) q.symm) (fun q => ne_m2 (by omega) q.symm)]
  rfl
theorem cF2_0 {u g lm d : Nat} : cF2 u g lm d 0 = 2 * u * d := by
  unfold cF2
  rw [Int.zero_mul, Int.sub_zero]
  have e : (2 * (u : Int) * (d : Int)) = ((2 * u * d : Nat) : Int) := by push_cast; rfl
  rw [e]
  exact Int.toNat_natCast _
theorem mo_l {e : Nat → Int} {d : Nat → Nat} {m : Nat} (h : 1 ≤ m) : mo e d m < m := by
  obtain ⟨k, rfl⟩ : ∃ k, m = k + 1 := ⟨m - 1, by omega⟩
  exact mo_lt e d k
theorem p54 {x y N : Nat} (h : x ≤ 2 ^ (54 * N)) (hy : y ≤ 2 ^ 54) : x * y ≤ 2 ^ (54 * (N + 1)) := by
  rw [Nat.mul_add, Nat.mul_one, Nat.pow_add]
  exact Nat.mul_le_mul h hy
theorem p54' {x N : Nat} (h : x ≤ 2 ^ (54 * N)) : x ≤ 2 ^ (54 * (N + 1)) := Nat.le_trans h (Nat.pow_le_pow_right (by decide) (by omega))
theorem Pq.rs {h : gH} {pn pd p2 q2 e : Nat} (z : Pq h pn pd e) (h1 : pn * q2 = p2 * pd) (h2 : 1 ≤ q2) : Pq h p2 q2 e := by
  obtain ⟨A, B, z1, z2, z3, z4, z5, z6, z7⟩ := z
  refine ⟨A, B, z1, z2, z3, ?_, h2, z6, z7⟩
  refine Nat.eq_of_mul_eq_mul_right (show 0 < pd by omega) ?_
  calc A * q2 * pd = A * pd * q2 := by ac_rfl
    _ = B * pn * q2 := by rw [z4]
    _ = B * (pn * q2) := Nat.mul_assoc _ _ _
    _ = B * (p2 * pd) := by rw [h1]
    _ = B * p2 * pd := (Nat.mul_assoc _ _ _).symm
theorem sd_d {a b d : Nat} (h : 1 ≤ d) : a * d ≤ b * d ↔ a ≤ b := ⟨fun q => Nat.le_of_mul_le_mul_right q h, fun q => Nat.mul_le_mul_right _ q⟩
set_option maxHeartbeats 4000000 in
set_option maxRecDepth 100000 in
theorem cnt_ok {s v w l df ea' eb' : Nat → Nat} {sw sw' sw2 rI sJ : Nat → Int32} {cm mm lm pn pd pn' pd' pn2 pd2 sg' sg2 N dr : Nat} {sv rd bx : Int32} (hC : (cm = 0 ∧ sw' = (pw_sw sv w l v (s 9) (s 10) dr sw (eF cm df w) (eF cm df l)) ∧ ea' = pw_ea sv w (eF cm df w) ∧ eb' = pw_eb sv w l (eF cm df l) ∧ pn' = pn ∧ pd' = pd ∧ sg' = stP (cs_ (pw_sw sv w l v (s 9) (s 10) dr sw (eF cm df w) (eF cm df l)) mm = mm) (s 8) dr) ∨ (cm = 1 ∧ sw' = sw ∧ ea' = eF cm df w ∧ eb' = eF cm df l ∧ pn' = (pn * ((2 * s 11 * s 6 - s 12 * lm) * md v w l (mo (oe w l rd sv) (md v w l) mm))) ∧ pd' = (pd * (s 6 * cF2 (s 11) (s 12) lm (md v w l (mo (oe w l rd sv) (md v w l) mm)) (oe w l rd sv (mo (oe w l rd sv) (md v w l) mm)))) ∧ sg' = stP ((pn * ((2 * s 11 * s 6 - s 12 * lm) * md v w l (mo (oe w l rd sv) (md v w l) mm))) * s 10 ≤ (pd * (s 6 * cF2 (s 11) (s 12) lm (md v w l (mo (oe w l rd sv) (md v w l) mm)) (oe w l rd sv (mo (oe w l rd sv) (md v w l) mm)))) * s 9) (s 8) dr)) (hM : (cm = 0 ∧ sg2 = stP (cs_ (swm v w l (cdf df sv) (s 9) (s 10) dr sw) mm = mm) (s 8) dr ∧ (∀ k, k < mm → sw2 k = (swm v w l (cdf df sv) (s 9) (s 10) dr sw) k) ∧ pn2 = pn ∧ pd2 = pd) ∨ (cm = 1 ∧ sg2 = stP (pn2 * s 10 ≤ pd2 * s 9) (s 8) dr ∧ (∀ k, k < mm → sw2 k = sw k) ∧ ((bx = -2 ∧ pn2 = pn * (2 * s 11 * s 6 - lmn 1000001 v w l mm * s 12) ∧ pd2 = pd * (s 6 * (2 * s 11))) ∨ ∃ bb, bx = nI bb ∧ bb < 20000 ∧ pn2 = pn * ((2 * s 11 * s 6 - lmn 1000001 v w l mm * s 12) * (md v w l (mo (oe w l (rI bb) (sJ bb)) (md v w l) mm))) ∧ pd2 = pd * (s 6 * (cF2 (s 11) (s 12) (lmn 1000001 v w l mm) (md v w l (mo (oe w l (rI bb) (sJ bb)) (md v w l) mm)) (oe w l (rI bb) (sJ bb) (mo (oe w l (rI bb) (sJ bb)) (md v w l) mm))))))) (hlm : lm = lmn 1000001 v w l mm) (r4 : ∀ k, k < mm → w k < s 4 ∧ l k < s 4 ∧ v (l k) < v (w k) ∧ v (w k) ≤ 20000 ∧ lm ≤ md v w l k) (p4 : s 4 ≤ 8) (hm1 : 1 ≤ mm) (d3 : cm = 0 → ∀ k, k < mm → sw k = -1 → ¬ t_ge v (s 9) (s 10) (w k) (l k) (df (w k)) (df (l k))) (hdr : dr < 2 ^ 31) (b1 : pn ≤ 2 ^ (54 * N)) (b2 : pd ≤ 2 ^ (54 * N)) (b3 : 1 ≤ pd) (g1 : s 12 < s 11) (g2 : s 11 ≤ 1000000) (n1 : 1 ≤ s 6) (n2 : s 6 ≤ 20000) (hl6 : lm ≤ s 6) (x2 : bx = -2 → rd = -1 ∧ sv = -2) (xb : ∀ bb, bx = nI bb → bb < 20000 → rd = rI bb ∧ sv = sJ bb) : sg' = sg2 ∧ (∀ k, k < mm → sw' k = sw2 k) ∧ (∀ k, k < mm → ea' k = eF cm (cdf df sv) w k) ∧ (∀ k, k < mm → eb' k = eF cm (cdf df sv) l k) ∧ pn' * pd2 = pn2 * pd' ∧ 1 ≤ pd2 ∧ pn2 ≤ 2 ^ (54 * (N + 1)) ∧ pd2 ≤ 2 ^ (54 * (N + 1)) ∧ (cm = 0 → ∀ k, k < mm → sw2 k = -1 → ¬ t_ge v (s 9) (s 10) (w k) (l k) (cdf df sv (w k)) (cdf df sv (l k))) ∧ (sg2 = 1 ∨ sg2 = 3 ∨ sg2 = 4) ∧ (sg2 = 1 → dr < s 8) := by
  have hw8 : ∀ k, k < mm → w k < 8 ∧ l k < 8 ∧ ¬ w k = l k := fun k hk => by
    obtain ⟨a1, a2, a3, -⟩ := r4 k hk
    exact ⟨by omega, by omega, fun z => by rw [z] at a3; omega⟩
  rcases hC with ⟨hc, rfl, rfl, rfl, e5, e6, e7⟩ | ⟨hc, rfl, rfl, rfl, e5, e6, e7⟩
  · subst hc
    rcases hM with ⟨-, m1, m2, m3, m4⟩ | ⟨hc2, -⟩
    · have key : ∀ k, k < mm → pw_sw sv w l v (s 9) (s 10) dr sw (eF 0 df w) (eF 0 df l) k = swm v w l (cdf df sv) (s 9) (s 10) dr sw k := fun k hk => b_sw (hw8 k hk).1 (hw8 k hk).2.1 (hw8 k hk).2.2 (d3 rfl k hk)
      refine ⟨?_, fun k hk => (key k hk).trans (m2 k hk).symm, fun k hk => b_ea (hw8 k hk).1, fun k hk => b_eb (hw8 k hk).1 (hw8 k hk).2.1 (hw8 k hk).2.2, by rw [e5, e6, m3, m4], by omega, by rw [m3]; exact p54' b1, by rw [m4]; exact p54' b2, fun _ k hk q => b_d3 hdr ((m2 k hk).symm.trans q), stP_r m1⟩
      rw [e7, m1]
      exact stP_c (by rw [cs_congr key])
    · exact absurd hc2 (by decide)
  · subst hc
    rcases hM with ⟨hc2, -⟩ | ⟨-, m1, m2, m3⟩
    · exact absurd hc2 (by decide)
    · rw [← hlm] at m3
      have hj := mo_l (e := oe w l rd sv) (d := md v w l) hm1
      have q0 := r4 _ hj
      have hd1 : 1 ≤ md v w l (mo (oe w l rd sv) (md v w l) mm) := md_1 q0.2.2.1
      have hd2 : md v w l (mo (oe w l rd sv) (md v w l) mm) ≤ 20000 := md_2 q0.2.2.2.1
      have hob := oe_b w l rd sv (mo (oe w l rd sv) (md v w l) mm)
      obtain ⟨c1, c2, c3, c4, c5, c6, c7⟩ := cmp_facts g1 g2 n2 n1 q0.2.2.2.2 hd1 hd2 hl6 hob.1 hob.2
      have cx : s 12 * lm = lm * s 12 := Nat.mul_comm _ _
      have hea : ∀ k, k < mm → eF 1 df w k = eF 1 (cdf df sv) w k := fun _ _ => rfl
      have heb : ∀ k, k < mm → eF 1 df l k = eF 1 (cdf df sv) l k := fun _ _ => rfl
      rw [cx] at e5 e7
      generalize hX : 2 * s 11 * s 6 - lm * s 12 = X at e5 e7 m3
      have hXb : X ≤ 40000000000 := by omega
      have t1 : X * md v w l (mo (oe w l rd sv) (md v w l) mm) ≤ 2 ^ 54 := Nat.le_trans (Nat.mul_le_mul hXb hd2) (by decide)
      have t2 : s 6 * cF2 (s 11) (s 12) lm (md v w l (mo (oe w l rd sv) (md v w l) mm)) (oe w l rd sv (mo (oe w l rd sv) (md v w l) mm)) ≤ 2 ^ 54 := Nat.le_trans (Nat.mul_le_mul n2 c7) (by decide)
      rcases m3 with ⟨hb, m3, m4⟩ | ⟨bb, hb, hbb, m3, m4⟩
      · obtain ⟨z1, z2⟩ := x2 hb
        subst z1
        subst z2
        have ez : oe w l (-1) (-2) (mo (oe w l (-1) (-2)) (md v w l) mm) = 0 := oe_z (hw8 _ hj).1 (hw8 _ hj).2.1
        rw [ez, cF2_0] at e6 e7
        generalize md v w l (mo (oe w l (-1) (-2)) (md v w l) mm) = d at *
        have u1 : s 6 * (2 * s 11) ≤ 2 ^ 54 := Nat.le_trans (Nat.mul_le_mul n2 (Nat.mul_le_mul_left 2 g2)) (by decide)
        have u2 : 1 ≤ s 6 * (2 * s 11) := Nat.mul_pos n1 (by omega)
        refine ⟨?_, fun k hk => (m2 k hk).symm, hea, heb, ?_, ?_, ?_, ?_, fun q => absurd q (by decide), stP_r m1⟩
        · rw [e7, m1, m3, m4]
          refine stP_c ?_
          rw [show pn * (X * d) * s 10 = pn * X * s 10 * d by ac_rfl, show pd * (s 6 * (2 * s 11 * d)) * s 9 = pd * (s 6 * (2 * s 11)) * s 9 * d by ac_rfl]
          exact sd_d hd1
        · rw [e5, e6, m3, m4]; ac_rfl
        · rw [m4]; exact Nat.mul_pos b3 u2
        · rw [m3]; exact p54 b1 (Nat.le_trans hXb (by decide))
        · rw [m4]; exact p54 b2 u1
      · obtain ⟨z1, z2⟩ := xb bb hb hbb
        rw [← z1, ← z2] at m3 m4
        refine ⟨?_, fun k hk => (m2 k hk).symm, hea, heb, ?_, ?_, ?_, ?_, fun q => absurd q (by decide), stP_r m1⟩
        · rw [e7, m1, m3, m4]
        · rw [e5, e6, m3, m4]
        · rw [m4]; exact Nat.mul_pos b3 (Nat.mul_pos n1 c6)
        · rw [m3]; exact p54 b1 t1
        · rw [m4]; exact p54 b2 t2
theorem plc_n {bl : Nat → Nat} {D b b' : Nat} : plc (va_up bl D b) b' D = plc bl b' D := by
  have gen : ∀ j, j ≤ D → plc (va_up bl D b) b' j = plc bl b' j := by
    intro j
    induction j with
    | zero => intro _; rfl
    | succ j ih =>
      intro hj
      unfold plc
      rw [ih (by omega), va_o (show ¬ j = D by omega)]
  exact gen D (Nat.le_refl _)
theorem plc_a {bl : Nat → Nat} {D b b' k : Nat} (h : plc bl b' D = some k) : plc (va_up bl D b) b' (D + 1) = some k := by
  unfold plc
  rw [plc_n, h]
theorem plc_b {bl : Nat → Nat} {D b b' : Nat} (h : plc bl b' D = none) : plc (va_up bl D b) b' (D + 1) = if b = b' then some D else none := by
  unfold plc
  rw [plc_n, h]
  show (if va_up bl D b D = b' then some D else none) = _
  rw [va_e]
theorem se_new {bl : Nat → Nat} {se sI : Nat → Int32} {D b N : Nat} (hn : plc bl b D = none) (h : ∀ x, x < N → sI x = seC bl se D x) : ∀ x, x < N → sI x = seC (va_up bl D b) (upd se D (-2)) (D + 1) x := fun x hx => by
  rw [h x hx]
  cases hp : plc bl x D with
  | some k =>
    rw [seC_s hp, seC_s (plc_a hp), up_o (by have := (plc_some hp).1; omega)]
  | none =>
    rw [seC_n hp]
    by_cases q : b = x
    · have e := plc_b (b := b) hp
      rw [if_pos q] at e
      rw [seC_s e, up_s]
    · have e := plc_b (b := b) hp
      rw [if_neg q] at e
      rw [seC_n e]
theorem ti_new {bl ti tM : Nat → Nat} {D b N : Nat} (hn : plc bl b D = none) (h : ∀ x, x < N → tM x = tiC bl ti D x) : ∀ x, x < N → va_up tM b (tM b + 1) x = tiC (va_up bl D b) (va_up ti D 1) (D + 1) x := fun x hx => by
  by_cases q : x = b
  · subst q
    have e := plc_b (b := x) hn
    rw [if_pos rfl] at e
    rw [va_e, h x hx, tiC_n hn, tiC_s e, va_e]
  · rw [va_o q, h x hx]
    cases hp : plc bl x D with
    | some k => rw [tiC_s hp, tiC_s (plc_a hp), va_o (by have := (plc_some hp).1; omega)]
    | none =>
      have e := plc_b (b := b) hp
      rw [if_neg (fun z => q z.symm)] at e
      rw [tiC_n hp, tiC_n e]
theorem ti_old {bl ti tM : Nat → Nat} {D b N kp : Nat} (hk : plc bl b D = some kp) (h : ∀ x, x < N → tM x = tiC bl ti D x) : ∀ x, x < N → va_up tM b (tM b + 1) x = tiC bl (va_up ti kp (ti kp + 1)) D x := fun x hx => by
  by_cases q : x = b
  · subst q
    rw [va_e, h x hx, tiC_s hk, tiC_s hk, va_e]
  · rw [va_o q, h x hx]
    cases hp : plc bl x D with
    | some k =>
      rw [tiC_s hp, tiC_s hp, va_o ?_]
      intro z
      subst z
      exact q ((plc_some hp).2.1.symm.trans (plc_some hk).2.1)
    | none => rw [tiC_n hp, tiC_n hp]
theorem se_see {bl : Nat → Nat} {se sI : Nat → Int32} {D N : Nat} {x : Int32} (hD : 1 ≤ D) (hn : plc bl (bl (D - 1)) (D - 1) = none) (h : ∀ b, b < N → sI b = seC bl se D b) : ∀ b, b < N → upd sI (bl (D - 1)) x b = seC bl (upd se (D - 1) x) D b := fun b hb => by
  have hp0 : plc bl (bl (D - 1)) D = some (D - 1) := plc_of (by omega) rfl (fun j hj => plc_none hn j hj)
  by_cases q : b = bl (D - 1)
  · subst q
    rw [up_s, seC_s hp0, up_s]
  · rw [up_o q, h b hb]
    cases hp : plc bl b D with
    | some k =>
      rw [seC_s hp, seC_s hp, up_o ?_]
      intro z
      subst z
      exact q (plc_some hp).2.1.symm
    | none => rw [seC_n hp, seC_n hp]
theorem st_n {g : Nat} (h : g = 1 ∨ g = 3 ∨ g = 4) : ¬ g = 0 ∧ ¬ g = 2 ∧ g ≤ 5 := by omega
theorem dD_3 {g D : Nat} (h : g = 1 ∨ g = 3 ∨ g = 4) : dD g D = D := if_neg (by omega)
theorem cN_3 {g D : Nat} (h : g = 1 ∨ g = 3 ∨ g = 4) : cN g D = D := if_neg (by omega)
theorem wT_3 {g D : Nat} {bl : Nat → Nat} (h : g = 1 ∨ g = 3 ∨ g = 4) : wT g bl D = -1 := if_neg (by omega)
set_option maxHeartbeats 4000000 in
set_option maxRecDepth 100000 in
theorem t_draw (G : gG) (n : Nat) (h : gH) {kk : Nat} {ou : Nat → Int64} (z : Rel h kk ou) : StI G mL_draw mX11_draw [.ref 0, .ref 167] [.ref 142] n h := by
  obtain ⟨s, v, wn, en, rc, dg, c, bl, ti, df, w, l, fv, ft, bf, wM, tM, ct, O, Bx, S0, se, sw, rI, sI, V, k, m, sg, cm, sd, D, dr, bk, mm, lm, pn, pd, e, fm, fr, A, B, z⟩ := z
  have zz := z
  obtain ⟨⟨a0, hs, hS, hC, hl, hT, hK, hR, hP, hF, hO, hQ⟩, ⟨b3, b4, b5, hM, b7, b8, b9, b10, b11, b12, b13, b14, b15, hBv, b16, b17, b18⟩, ⟨p4, p5, p6, p65, p71, p7, p81, p8, p9, p10, p12, p11⟩, ⟨q1, q2, q3, q4, q5, q6⟩, ⟨pk, pdg, pc, psg, pcm, psd, pv, pwn, pwM, pww⟩, ⟨l1, l2, l3, l4, l5, l6, l7, l8, l9, l10⟩, ⟨f1, f2, f3, f4, f5, f6, f7⟩, ⟨r1, r2, r3, r4⟩, ⟨d1, d2, d3⟩, ⟨v0, v1, v6, v7, v8⟩, ⟨o1, o2, o3⟩, m0, hou⟩ := z
  by_cases hs1 : sg = 1
  · subst hs1
    have hdl : dr < s 8 := l3 rfl
    have hpd1 : 1 ≤ pd := by obtain ⟨_, _, -, -, -, -, q, -⟩ := hP (by decide); exact q
    have hcN : cN 1 dr = dr := rfl
    have v8' := v8 (by decide)
    rw [hcN] at v8'
    have hdf : ∀ c, df c ≤ 199 := fun c => by have := d2 c (c + 1) (by omega); rw [hcN] at this; omega
    have hE : ∀ k, k < mm → eF cm df w k + eF cm df l k ≤ 199 := fun k hk => eF_le (by have := (r4 k hk).2.2.1; have := d2 (w k) (l k) (fun z => by rw [z] at this; omega); rw [hcN] at this; omega)
    have hm4 : m ≤ 4000 := (by obtain ⟨_, _, _, _, _, q, _⟩ := hC; exact q)
    refine ⟨_, _, w_draw G 0 n h (c_draw G 1 n h a0 rfl hs hl hC hS pk (fun i => by have := pdg i; omega) psd hdl l1 l7 l5 l6 (by omega) p8 r1 (fun k hk => ⟨(r4 k hk).2.2.1, (r4 k hk).2.2.2.1⟩) (by omega) p10 hT hK (fun k hk => ⟨by have := (r4 k hk).1; omega, by have := (r4 k hk).2.1; omega⟩) hE (r3 (by decide)).1 (hP (by decide)) (by omega) p12 p11 (r3 (by decide)).2.1 p6 (fun k hk => (r4 k hk).2.2.2.2) (r3 (by decide)).2.2.1 hR pcm) (fun v h' q => ⟨rfl, (by obtain ⟨r', _, _, e, -⟩ := q; exact ⟨r', e⟩)⟩) a0 hou (by decide), fun r h1 hf p => ?_⟩
    obtain ⟨hr, ⟨hk, h1', w0, P, hfr, rfl⟩ | ⟨hk, rfl⟩⟩ := p
    · obtain ⟨r', m1', c1', er, nr1, PC, PS, P⟩ := P
      have e0 : w0 = r' := Value.int.inj (Option.some.inj er)
      subst e0
      have m1 := hf.at (by decide) m0
      obtain ⟨b3', b4', b5', hM', b7', b8', b9', b10', b11', b12', b13', b14', b15', hBv', b16', b17', b18'⟩ := (zz.2.1).fr hf (by decide)
      refine ⟨_, _, _, hr, (show k_draw 1 < 2 ^ 31 by decide), c_mdraw G 3 n false _ m1 hBv' b3' b9' b10' b5' b11' b12' b13' pk hM' b7' pc hm4 b14' psd rfl (by omega) p8 r1 (fun k hk => ⟨by have := (r4 k hk).1; omega, by have := (r4 k hk).2.1; omega⟩) (fun k hk => ⟨(r4 k hk).2.2.1, (r4 k hk).2.2.2.1⟩) hdf (by omega) p10 v6 v7 (rm_80 (v8 (by decide)).1 (cN_le l2 p8)) (rm_80 (v8 (by decide)).2.1 (cN_le l2 p8)) p12 p11 (r3 (by decide)).2.1 p6 (r3 (by decide)).1 (by rw [← (r3 (by decide)).2.2.2]; exact (r3 (by decide)).2.2.1) (fun k hk => by rw [← (r3 (by decide)).2.2.2]; exact (r4 k hk).2.2.2.2) pcm (fun b hb => by rw [l8 b hb]; cases hp : plc bl b D with | none => exact Or.inl (seC_n hp) | some k => (rw [seC_s hp]; exact Or.inr (l7 k (plc_some hp).1))) (by omega), ⟨_, m1⟩, fun b h2 hg q => ?_⟩
      obtain ⟨m2', c2', nr2, y7, yc1, ym, hMh, q⟩ := q
      obtain ⟨eb, em, hcc⟩ := NRel.u p6 nr1 nr2
      subst eb
      subst em
      have hB : g_fr [142, 147, 151, 152, 154, 156, 157, 162, 163, 164, 165, 167] h1' h2 := (g_fr.rf.up (by decide)).tr hg (by decide)
      have hA : g_fr [0, 6, 10, 11, 12, 13, 14, 15, 16, 17, 18, 19, 20, 21, 22, 23, 24, 25, 26, 27, 28, 29, 30, 31, 32, 33, 34, 35, 36, 37, 38, 39, 40, 41, 42, 43, 44, 45, 46, 47, 48, 49, 50, 51, 52, 53, 54, 55, 56, 57, 58, 59, 60, 61, 62, 63, 64, 65, 66, 67, 68, 69, 70, 71, 72, 73, 74, 75, 76, 77, 78, 79, 80, 81, 82, 83, 84, 85, 86, 87, 88, 89, 90, 91, 92, 93, 94, 95, 96, 97, 98, 99, 100, 101, 102, 103, 104, 105, 106, 107, 108, 109, 110, 111, 112, 113, 114, 115, 116, 117, 118, 119, 142, 147, 151, 152, 154, 156, 157, 162, 163, 164, 165, 167] h h2 := (hf.mono (by decide)).tr hg (by decide)
      have hN2 : ∀ b, b < s 6 → ¬ nI b = (-1 : Int32) ∧ ¬ nI b = (-2 : Int32) := fun b hb => ⟨ne_m1 (by omega), ne_m2 (by omega)⟩
      rcases P with ⟨p_1, hfx⟩ | ⟨p_1, sg', sw', ea', eb', pn', pd', e', Pa, Pdl, Pte, Ptk, Ppq, Pter, pe, pcl⟩ | ⟨b, hb, p_1, P⟩
      · subst p_1
        rcases q with ⟨-, hm, hgx⟩ | ⟨q1, -⟩ | ⟨b, hb, q1, -⟩
        · clear hA hB
          have hB : g_fr [142, 147, 162, 163, 164, 165, 167] h1' h2 := (g_fr.rf.up (by decide)).tr hgx (by decide)
          have hA : g_fr [6, 10, 11, 142, 147, 162, 163, 164, 165, 167] h h2 := (hfx.mono (by decide)).tr hB (by decide)
          refine ⟨_, ⟨_, _, _, _, _, _, _, _, _, _, _, _, _, _, _, _, _, _, _, _, _, _, _, _, _, _, _, _, _, _, _, _, _, _, _, _, _, _, _, _, _, _, _, ⟨hA.at (by decide) a0, hs.fr hA (by decide), PS.fr hB (by decide), ((PC.fr hB (by decide) (by decide)).congr hcc), hl.fr hA (by decide), hT.fr hA (by decide) (by decide), hK.fr hA (by decide) r1, hR.fr hA (by decide), (fun q => (hP q).fr hA (by decide)), hF.fr hA (by decide) (by decide) (by decide), hO.fr hA (by decide), hQ.fr hA (by decide) (by decide) (by decide) (by decide) (by decide)⟩, ⟨hA.at (by decide) b3, hA.at (by decide) b4, hA.at (by decide) b5, hMh, y7, hA.at (by decide) b8, hA.at (by decide) b9, hA.at (by decide) b10, hA.at (by decide) b11, hA.at (by decide) b12, hA.at (by decide) b13, hA.at (by decide) b14, hA.at (by decide) b15, hBv.fr hA (by decide) (by decide), hA.at (by decide) b16, hA.at (by decide) b17, hA.at (by decide) b18⟩, zz.2.2.1, zz.2.2.2.1, ⟨pk, pdg, yc1, psg, pcm, psd, pv, pwn, pwM, pww⟩, zz.2.2.2.2.2.1, zz.2.2.2.2.2.2.1, zz.2.2.2.2.2.2.2.1, zz.2.2.2.2.2.2.2.2.1, zz.2.2.2.2.2.2.2.2.2.1, zz.2.2.2.2.2.2.2.2.2.2.1, hm, hg.at (by decide) g_eq⟩, fun _ => vp_up0 _ _⟩
        · exact absurd q1 (by decide)
        · exact absurd q1.symm (hN2 b hb).1
      · subst p_1
        rcases q with ⟨q1, -⟩ | ⟨-, y14, sg2, sw2, V', pn2, pd2, hm, y11, y12, hBv2, u6, u7, u0, u1, mcl⟩ | ⟨b, hb, q1, -⟩
        · exact absurd q1 (by decide)
        · have ck := cnt_ok (rI := rI) (sJ := sI) (N := dr) (dr := dr + 1) (sv := -2) (rd := -1) (bx := -2) pcl mcl (r3 (by decide)).2.2.2 r4 p4 (r3 (by decide)).1 d3 (by omega) (v8 (by decide)).1 (v8 (by decide)).2.1 hpd1 p12 p11 (r3 (by decide)).2.1 p6 (r3 (by decide)).2.2.1 (fun _ => ⟨rfl, rfl⟩) (fun bb hbb hb2 => absurd hbb.symm (ne_m2 (by omega)))
          obtain ⟨k1, k2, k3, k4, k5, k6, k7, k8, k9, k10, k11⟩ := ck
          subst k1
          rw [cs_congr k2] at Pte
          replace Ptk := Ptk.cg (fun _ _ => rfl) (fun _ _ => rfl) k2 k3 k4
          replace Ppq := Ppq.rs k5 k6
          have gd2 : ∀ a b, a ≠ b → cdf df (-2) a + cdf df (-2) b ≤ cN sg' (dr + 1) := fun a b hab => by
            rw [cN_3 k10]
            exact cdf_2le d2 a b hab
          have he9 : e' ≤ (dr + 1) := Nat.le_trans pe (Nat.succ_le_succ v8'.2.2)
          have hm' : Mc h2 (nI 0) s k m1' sg' cm sd mm (dr + 1) (dD sg' D) (bk + 1) fr (wT sg' bl D) := by rw [dD_3 k10, wT_3 k10]; exact hm
          refine ⟨_, ⟨_, _, _, _, _, _, _, _, _, _, _, _, _, _, _, _, _, _, _, _, _, _, _, _, _, _, _, _, _, _, _, _, _, _, _, _, _, _, _, _, _, _, _, ⟨hB.at (by decide) Pa, hs.fr hA (by decide), PS.fr hB (by decide), ((PC.fr hB (by decide) (by decide)).congr hcc), Pdl.fr hB (by decide), Pte.fr hB (by decide) (by decide), Ptk.fr hB (by decide) r1, Pter.fr hB (by decide), (fun _ => Ppq.fr hB (by decide)), hF.fr hA (by decide) (by decide) (by decide), hO.fr hA (by decide), hQ.fr hA (by decide) (by decide) (by decide) (by decide) (by decide)⟩, ⟨hA.at (by decide) b3, hA.at (by decide) b4, hA.at (by decide) b5, hMh, y7, hA.at (by decide) b8, hA.at (by decide) b9, hA.at (by decide) b10, y11, y12, hA.at (by decide) b13, y14, hA.at (by decide) b15, hBv2, hA.at (by decide) b16, hA.at (by decide) b17, hA.at (by decide) b18⟩, zz.2.2.1, zz.2.2.2.1, ⟨pk, pdg, yc1, (st_n k10).2.2, pcm, psd, pv, pwn, pwM, fun _ => pww (by decide)⟩, ⟨Nat.le_succ_of_le l1, hdl, k11, fun q => absurd q (st_n k10).2.1, l5, l6, (by rw [dD_3 k10]; exact l7), l8, l9, fun q => absurd q (st_n k10).1⟩, ⟨f1, f2, f3, f4, f5, f6, fun q => absurd q (st_n k10).1⟩, ⟨r1, fun q => absurd q (st_n k10).1, fun _ => r3 (by decide), r4⟩, ⟨fun x hx => (cdf_8 hx).trans (d1 x hx), gd2, k9⟩, ⟨u0.trans v0, u1.trans v1, u6, u7, fun _ => ⟨(by rw [cN_3 k10]; exact k7), (by rw [cN_3 k10]; exact k8), (by rw [cN_3 k10]; exact he9)⟩⟩, zz.2.2.2.2.2.2.2.2.2.2.1, hm', hg.at (by decide) g_eq⟩, fun _ => vp_up0 _ _⟩
        · exact absurd q1.symm (hN2 b hb).2
      · subst p_1
        rcases q with ⟨q1, -⟩ | ⟨q1, -⟩ | ⟨b2, hb2, q1, y14, q⟩
        · exact absurd q1 (hN2 b hb).1
        · exact absurd q1 (hN2 b hb).2
        · have e3 : b = b2 := (nI_eq (by omega) (by omega)).mp q1
          subst e3
          rcases P with ⟨kp, hkp, sg', sw', ea', eb', pn', pd', e', Pa, Pdl, Pte, Ptk, Ppq, Pter, pe, pcl⟩ | ⟨hkp, Pa, Pdl, hfx⟩
          · have hse : sI b = se kp := (l8 b hb).trans (seC_s hkp)
            have hks := plc_some hkp
            have hok := l7 kp hks.1
            rcases q with ⟨q2, -⟩ | ⟨-, sg2, sw2, V', pn2, pd2, hm, y11, y12, hBv2, u6, u7, u0, u1, mcl⟩
            · exfalso
              rw [hse] at q2
              rcases hok with z | ⟨c0, hc0, z⟩
              · rw [z] at q2; exact absurd q2 (by decide)
              · rw [z] at q2; exact ne_m2 (by omega) q2
            · rw [hse] at mcl y12
              have xb : ∀ bb, nI b = nI bb → bb < 20000 → nI (rc (bl kp)) - nI 1 = rI bb ∧ se kp = sI bb := fun bb hbb hb2 => by
                have e4 : b = bb := (nI_eq (by omega) (by omega)).mp hbb
                subst e4
                rw [hks.2.1]
                exact ⟨(q5 b hb).symm, hse.symm⟩
              have ck := cnt_ok (rI := rI) (sJ := sI) (N := dr) (dr := dr + 1) (sv := se kp) (rd := nI (rc (bl kp)) - nI 1) (bx := nI b) pcl mcl (r3 (by decide)).2.2.2 r4 p4 (r3 (by decide)).1 d3 (by omega) (v8 (by decide)).1 (v8 (by decide)).2.1 hpd1 p12 p11 (r3 (by decide)).2.1 p6 (r3 (by decide)).2.2.1 (fun z => absurd z (hN2 b hb).2) xb
              obtain ⟨k1, k2, k3, k4, k5, k6, k7, k8, k9, k10, k11⟩ := ck
              subst k1
              rw [cs_congr k2] at Pte
              replace Ptk := Ptk.cg (fun _ _ => rfl) (fun _ _ => rfl) k2 k3 k4
              replace Ppq := Ppq.rs k5 k6
              have gd2 : ∀ a b, a ≠ b → cdf df (se kp) a + cdf df (se kp) b ≤ cN sg' (dr + 1) := fun a b hab => by
                rw [cN_3 k10]
                exact cdf_2le d2 a b hab
              have he9 : e' ≤ (dr + 1) := Nat.le_trans pe (Nat.succ_le_succ v8'.2.2)
              have hm' : Mc h2 (nI 0) s k m1' sg' cm sd mm (dr + 1) (dD sg' D) bk fr (wT sg' bl D) := by rw [dD_3 k10, wT_3 k10]; exact hm
              refine ⟨_, ⟨_, _, _, _, _, _, _, _, _, _, _, _, _, _, _, _, _, _, _, _, _, _, _, _, _, _, _, _, _, _, _, _, _, _, _, _, _, _, _, _, _, _, _, ⟨hB.at (by decide) Pa, hs.fr hA (by decide), PS.fr hB (by decide), ((PC.fr hB (by decide) (by decide)).congr hcc), Pdl.fr hB (by decide), Pte.fr hB (by decide) (by decide), Ptk.fr hB (by decide) r1, Pter.fr hB (by decide), (fun _ => Ppq.fr hB (by decide)), hF.fr hA (by decide) (by decide) (by decide), hO.fr hA (by decide), hQ.fr hA (by decide) (by decide) (by decide) (by decide) (by decide)⟩, ⟨hA.at (by decide) b3, hA.at (by decide) b4, hA.at (by decide) b5, hMh, y7, hA.at (by decide) b8, hA.at (by decide) b9, hA.at (by decide) b10, y11, y12, hA.at (by decide) b13, y14, hA.at (by decide) b15, hBv2, hA.at (by decide) b16, hA.at (by decide) b17, hA.at (by decide) b18⟩, zz.2.2.1, zz.2.2.2.1, ⟨pk, pdg, yc1, (st_n k10).2.2, pcm, psd, pv, pwn, pwM, fun _ => pww (by decide)⟩, ⟨Nat.le_succ_of_le l1, hdl, k11, fun q => absurd q (st_n k10).2.1, l5, l6, (by rw [dD_3 k10]; exact l7), l8, ti_old hkp l9, fun q => absurd q (st_n k10).1⟩, ⟨f1, f2, f3, f4, f5, f6, fun q => absurd q (st_n k10).1⟩, ⟨r1, fun q => absurd q (st_n k10).1, fun _ => r3 (by decide), r4⟩, ⟨fun x hx => (cdf_8 hx).trans (d1 x hx), gd2, k9⟩, ⟨u0.trans v0, u1.trans v1, u6, u7, fun _ => ⟨(by rw [cN_3 k10]; exact k7), (by rw [cN_3 k10]; exact k8), (by rw [cN_3 k10]; exact he9)⟩⟩, zz.2.2.2.2.2.2.2.2.2.2.1, hm', hg.at (by decide) g_eq⟩, fun _ => vp_up0 _ _⟩
          · have hse : sI b = -2 := (l8 b hb).trans (seC_n hkp)
            rcases q with ⟨-, hm, hgx⟩ | ⟨q2, -⟩
            · clear hA hB
              have hB : g_fr [142, 147, 154, 162, 163, 164, 165, 167] h1' h2 := (g_fr.rf.up (by decide)).tr hgx (by decide)
              have hA : g_fr [0, 6, 10, 11, 12, 13, 14, 15, 142, 147, 154, 162, 163, 164, 165, 167] h h2 := (hfx.mono (by decide)).tr hB (by decide)
              have gl5 : ∀ k, k < D + 1 → va_up bl D b k < s 6 := fun k hk => by
                by_cases q : k = D
                · rw [q, va_e]; exact hb
                · rw [va_o q]; exact l5 k (by omega)
              have hm' : Mc h2 (nI 0) s k m1' 2 cm sd mm (dr + 1) (dD 2 (D + 1)) bk fr (wT 2 (va_up bl D b) (D + 1)) := by
                show Mc h2 (nI 0) s k m1' 2 cm sd mm (dr + 1) D bk fr (nI (va_up bl D b D))
                rw [va_e]; exact hm
              refine ⟨_, ⟨_, _, _, _, _, _, _, _, _, _, _, _, _, _, _, _, _, _, _, _, _, _, _, _, _, _, _, _, _, _, _, _, _, _, _, _, _, _, _, _, _, _, _, ⟨hB.at (by decide) Pa, hs.fr hA (by decide), PS.fr hB (by decide), ((PC.fr hB (by decide) (by decide)).congr hcc), Pdl.fr hB (by decide), hT.fr hA (by decide) (by decide), hK.fr hA (by decide) r1, hR.fr hA (by decide), (fun _ => (hP (by decide)).fr hA (by decide)), hF.fr hA (by decide) (by decide) (by decide), hO.fr hA (by decide), hQ.fr hA (by decide) (by decide) (by decide) (by decide) (by decide)⟩, ⟨hA.at (by decide) b3, hA.at (by decide) b4, hA.at (by decide) b5, hMh, y7, hA.at (by decide) b8, hA.at (by decide) b9, hA.at (by decide) b10, hA.at (by decide) b11, hA.at (by decide) b12, hA.at (by decide) b13, y14, hA.at (by decide) b15, hBv.fr hA (by decide) (by decide), hA.at (by decide) b16, hA.at (by decide) b17, hA.at (by decide) b18⟩, zz.2.2.1, zz.2.2.2.1, ⟨pk, pdg, yc1, (by decide), pcm, psd, pv, pwn, pwM, fun _ => pww (by decide)⟩, ⟨by omega, by omega, fun q => absurd q (by decide), fun _ => ⟨by omega, up_s, (by show plc (va_up bl D b) (va_up bl D b D) D = none; rw [va_e, plc_n]; exact hkp)⟩, gl5, va_lt l6 (by omega), (fun k hk => by have hk : k < D := hk; rw [up_o (show ¬ k = D by omega)]; exact l7 k hk), se_new hkp l8, ti_new hkp l9, fun q => absurd q (by decide)⟩, ⟨f1, f2, f3, f4, f5, f6, fun q => absurd q (by decide)⟩, ⟨r1, fun q => absurd q (by decide), fun _ => r3 (by decide), r4⟩, ⟨d1, d2, d3⟩, ⟨v0, v1, v6, v7, fun _ => v8 (by decide)⟩, zz.2.2.2.2.2.2.2.2.2.2.1, hm', hg.at (by decide) g_eq⟩, fun _ => vp_up0 _ _⟩
            · exact absurd hse q2
    · exact absurd (show k_draw 1 = 0 from rfl) hk
  · have e1 : k_draw sg = 1 := if_neg hs1
    refine ⟨_, _, w_draw G 0 n h (c_draw0 G 1 n h a0 (by omega) hs1) (fun v h' q => q.elim) a0 hou (by decide), fun r h1 hf p => ?_⟩
    obtain ⟨hr, ⟨hk, h1', w0, P, hfr, rfl⟩ | ⟨hk, rfl⟩⟩ := p
    · exact P.elim
    · rw [e1] at hr
      refine ⟨1, _, _, hr, by decide, c_mdraw0 G 9 n false _ m0 (by omega) hs1, ⟨_, m0⟩, fun b h2 hg q => ?_⟩
      exact ⟨_, zz.same q.2 q.1, fun q => absurd q (by decide)⟩
theorem kse_0 {s : Nat → Nat} {sg : Nat} {x : Int32} (h4 : s 4 ≤ 8) (h : k_see s sg x = 0) : sg = 2 ∧ (x = -1 ∨ (0 ≤ x.toInt ∧ x.toInt < s 4)) := by
  unfold k_see at h
  (repeat' split at h) <;> first | (exact absurd h (by decide)) | (simp only [i_lt, i_le, i_eq, it0, itm, Classical.not_not, not_or, not_and, nI_toInt (show s 4 < 2147483648 by first | decide | omega)] at *; (first | omega | (rename_i q; rcases Classical.em (x = -1) with z | z <;> first | (exact ⟨by omega, Or.inl z⟩) | (exact ⟨by omega, Or.inr (by omega)⟩))))
set_option maxHeartbeats 4000000 in
set_option maxRecDepth 100000 in
theorem t_see (G : gG) (n : Nat) (h : gH) {x : Int32} {kk : Nat} {ou : Nat → Int64} (z : Rel h kk ou) : StI G mL_see mX11_see [.ref 0, .int x, .ref 167] [.ref 142, .int x] n h := by
  obtain ⟨s, v, wn, en, rc, dg, c, bl, ti, df, w, l, fv, ft, bf, wM, tM, ct, O, Bx, S0, se, sw, rI, sI, V, k, m, sg, cm, sd, D, dr, bk, mm, lm, pn, pd, e, fm, fr, A, B, z⟩ := z
  have zz := z
  obtain ⟨⟨a0, hs, hS, hC, hl, hT, hK, hR, hP, hF, hO, hQ⟩, ⟨b3, b4, b5, hM, b7, b8, b9, b10, b11, b12, b13, b14, b15, hBv, b16, b17, b18⟩, ⟨p4, p5, p6, p65, p71, p7, p81, p8, p9, p10, p12, p11⟩, ⟨q1, q2, q3, q4, q5, q6⟩, ⟨pk, pdg, pc, psg, pcm, psd, pv, pwn, pwM, pww⟩, ⟨l1, l2, l3, l4, l5, l6, l7, l8, l9, l10⟩, ⟨f1, f2, f3, f4, f5, f6, f7⟩, ⟨r1, r2, r3, r4⟩, ⟨d1, d2, d3⟩, ⟨v0, v1, v6, v7, v8⟩, ⟨o1, o2, o3⟩, m0, hou⟩ := z
  by_cases hs2 : sg = 2
  · subst hs2
    have l4' := l4 rfl
    have hD1 := l4'.1
    have hpd1 : 1 ≤ pd := by obtain ⟨_, _, -, -, -, -, q, -⟩ := hP (by decide); exact q
    have hcN : cN 2 dr = dr - 1 := rfl
    have hdD : dD 2 D = D - 1 := rfl
    have hdr1 : dr - 1 + 1 = dr := by omega
    have hDD : D - 1 + 1 = D := by omega
    have hlt : ∀ k, k < D → ¬ k = D - 1 → k < D - 1 := fun k h1 h2 => by omega
    have v8' := v8 (by decide)
    rw [hcN] at v8'
    have hdf : ∀ c, df c ≤ 199 := fun c => by have := d2 c (c + 1) (by omega); rw [hcN] at this; omega
    have hE : ∀ k, k < mm → eF cm df w k + eF cm df l k ≤ 199 := fun k hk => eF_le (by have := (r4 k hk).2.2.1; have := d2 (w k) (l k) (fun z => by rw [z] at this; omega); rw [hcN] at this; omega)
    have hbw := l5 (D - 1) (by omega)
    refine ⟨_, _, w_see G 0 n h (c_see G 0 n h (x := x) a0 (by decide) hs hl p4 (by omega) (fun _ => hD1) l5 (by omega) p8 r1 (fun k hk => ⟨(r4 k hk).2.2.1, (r4 k hk).2.2.2.1⟩) (by omega) p10 hT hK (fun k hk => ⟨by have := (r4 k hk).1; omega, by have := (r4 k hk).2.1; omega⟩) hE (r3 (by decide)).1 (hP (by decide)) (by omega) p12 p11 (r3 (by decide)).2.1 p6 (fun k hk => (r4 k hk).2.2.2.2) (r3 (by decide)).2.2.1 hR pcm) (fun v h' q => ⟨q.1, (by obtain ⟨-, sg', _, _, _, _, _, _, e, -⟩ := q; exact ⟨_, e⟩)⟩) a0 hou (by decide), fun r h1 hf p => ?_⟩
    obtain ⟨hr, ⟨hk, h1', w0, P, hfr, rfl⟩ | ⟨hk, rfl⟩⟩ := p
    · have kx := (kse_0 p4 hk).2
      have hx1 : x = -1 ∨ ∃ c, c < 8 ∧ x = nI c := by
        rcases kx with z | z
        · exact Or.inl z
        · exact Or.inr ⟨un x, by have := un_b x; omega, (nI_un x).symm⟩
      have hxv : -1 ≤ x ∧ x < nI (s 4) := by
        rw [i_le, i_lt, nI_toInt (by omega)]
        rcases kx with z | z
        · rw [z]; exact ⟨by decide, by show (-1 : Int) < _; omega⟩
        · rw [show (-1 : Int32).toInt = -1 from rfl]; omega
      obtain ⟨-, sg', sw', ea', eb', pn', pd', e', er, Pa, Pdl, Pte, Ptk, Ppq, Pter, pe, pcl⟩ := P
      have e0 : w0 = nI sg' := Value.int.inj (Option.some.inj er)
      have m1 := hf.at (by decide) m0
      obtain ⟨b3', b4', b5', hM', b7', b8', b9', b10', b11', b12', b13', b14', b15', hBv', b16', b17', b18'⟩ := (zz.2.1).fr hf (by decide)
      refine ⟨_, _, _, hr, (by unfold k_see; (repeat' split) <;> decide), c_msee G 3 n false _ (x := x) (bw := bl (D - 1)) m1 hBv' b3' b9' b10' b5' b11' b12' b13' rfl (by omega) hx1 hxv r1 (fun k hk => ⟨by have := (r4 k hk).1; omega, by have := (r4 k hk).2.1; omega⟩) (fun k hk => ⟨(r4 k hk).2.2.1, (r4 k hk).2.2.2.1⟩) hdf (by omega) p10 p8 v6 v7 (rm_80 (v8 (by decide)).1 (cN_le l2 p8)) (rm_80 (v8 (by decide)).2.1 (cN_le l2 p8)) p12 p11 (r3 (by decide)).2.1 p6 (r3 (by decide)).1 (by rw [← (r3 (by decide)).2.2.2]; exact (r3 (by decide)).2.2.1) (fun k hk => by rw [← (r3 (by decide)).2.2.2]; exact (r4 k hk).2.2.2.2) pcm l2, ⟨_, m1⟩, fun b h2 hg q => ?_⟩
      obtain ⟨y13, sg2, sw2, V', pn2, pd2, hbr, hm, y11, y12, hBv2, u6, u7, u0, u1, mcl⟩ := q
      have hB : g_fr [142, 151, 152, 153, 156, 157, 167] h1' h2 := (g_fr.rf.up (by decide)).tr hg (by decide)
      have hA : g_fr [0, 14, 16, 17, 18, 19, 20, 21, 22, 23, 24, 25, 26, 27, 28, 29, 30, 31, 32, 33, 34, 35, 36, 37, 38, 39, 40, 41, 42, 43, 44, 45, 46, 47, 48, 49, 50, 51, 52, 53, 54, 55, 56, 57, 58, 59, 60, 61, 62, 63, 64, 65, 66, 67, 68, 69, 70, 71, 72, 73, 74, 75, 76, 77, 78, 79, 80, 81, 82, 83, 84, 85, 86, 87, 88, 89, 90, 91, 92, 93, 94, 95, 96, 97, 98, 99, 100, 101, 102, 103, 104, 105, 106, 107, 108, 109, 110, 111, 112, 113, 114, 115, 116, 117, 118, 119, 142, 151, 152, 153, 156, 157, 167] h h2 := (hf.mono (by decide)).tr hg (by decide)
      have xb : ∀ bb, nI (bl (D - 1)) = nI bb → bb < 20000 → nI (rc (bl (D - 1))) - nI 1 = rI bb ∧ x = upd sI (bl (D - 1)) x bb := fun bb hbb hb2 => by
        have e4 : bl (D - 1) = bb := (nI_eq (by omega) (by omega)).mp hbb
        subst e4
        exact ⟨(q5 _ hbw).symm, up_s.symm⟩
      have ck := cnt_ok (rI := rI) (sJ := upd sI (bl (D - 1)) x) (N := dr - 1) (dr := dr) (sv := x) (rd := nI (rc (bl (D - 1))) - nI 1) (bx := nI (bl (D - 1))) pcl mcl (r3 (by decide)).2.2.2 r4 p4 (r3 (by decide)).1 d3 (by omega) (v8 (by decide)).1 (v8 (by decide)).2.1 hpd1 p12 p11 (r3 (by decide)).2.1 p6 (r3 (by decide)).2.2.1 (fun z => absurd z (ne_m2 (by omega))) xb
      obtain ⟨k1, k2, k3, k4, k5, k6, k7, k8, k9, k10, k11⟩ := ck
      subst k1
      rw [cs_congr k2] at Pte
      replace Ptk := Ptk.cg (fun _ _ => rfl) (fun _ _ => rfl) k2 k3 k4
      replace Ppq := Ppq.rs k5 k6
      have gd2 : ∀ a b, a ≠ b → cdf df x a + cdf df x b ≤ cN sg' dr := fun a b hab => by
        rw [cN_3 k10]
        exact (hdr1 ▸ cdf_2le d2 a b hab : cdf df x a + cdf df x b ≤ dr)
      have he9 : e' ≤ dr := (hdr1 ▸ Nat.le_trans pe (Nat.succ_le_succ v8'.2.2) : e' ≤ dr)
      rw [hdr1] at k7 k8
      have gl7 : ∀ k, k < D → s_ok (upd se (D - 1) x k) := fun k hk => by
        by_cases q : k = D - 1
        · rw [q, up_s]; exact hx1
        · rw [up_o q]; exact l7 k (hlt k hk q)
      have hm' : Mc h2 (nI 0) s k m sg' cm sd mm dr (dD sg' D) bk fr (wT sg' bl D) := by
        rw [dD_3 k10, wT_3 k10]
        exact (hDD ▸ hm : _)
      have hk0 : nI (k_see s 2 x) = nI 0 := by rw [hk]
      refine ⟨_, ⟨_, _, _, _, _, _, _, _, _, _, _, _, _, _, _, _, _, _, _, _, _, _, _, _, _, _, _, _, _, _, _, _, _, _, _, _, _, _, _, _, _, _, _, ⟨hB.at (by decide) Pa, hs.fr hA (by decide), hS.fr hA (by decide), hC.fr hA (by decide) (by decide), Pdl.fr hB (by decide), Pte.fr hB (by decide) (by decide), Ptk.fr hB (by decide) r1, Pter.fr hB (by decide), (fun _ => Ppq.fr hB (by decide)), hF.fr hA (by decide) (by decide) (by decide), hO.fr hA (by decide), hQ.fr hA (by decide) (by decide) (by decide) (by decide) (by decide)⟩, ⟨hA.at (by decide) b3, hA.at (by decide) b4, hA.at (by decide) b5, hM.fr hA (by decide), hA.at (by decide) b7, hA.at (by decide) b8, hA.at (by decide) b9, hA.at (by decide) b10, y11, y12, y13, hA.at (by decide) b14, hA.at (by decide) b15, hBv2, hA.at (by decide) b16, hA.at (by decide) b17, hA.at (by decide) b18⟩, zz.2.2.1, zz.2.2.2.1, ⟨pk, pdg, pc, (st_n k10).2.2, pcm, psd, pv, pwn, pwM, fun _ => pww (by decide)⟩, ⟨l1, l2, k11, fun q => absurd q (st_n k10).2.1, l5, l6, (by rw [dD_3 k10]; exact gl7), se_see hD1 l4'.2.2 l8, l9, fun q => absurd q (st_n k10).1⟩, ⟨f1, f2, f3, f4, f5, f6, fun q => absurd q (st_n k10).1⟩, ⟨r1, fun q => absurd q (st_n k10).1, fun _ => r3 (by decide), r4⟩, ⟨fun x hx => (cdf_8 hx).trans (d1 x hx), gd2, k9⟩, ⟨u0.trans v0, u1.trans v1, u6, u7, fun _ => ⟨(by rw [cN_3 k10]; exact k7), (by rw [cN_3 k10]; exact k8), (by rw [cN_3 k10]; exact he9)⟩⟩, zz.2.2.2.2.2.2.2.2.2.2.1, (hk0 ▸ hm'), hg.at (by decide) g_eq⟩, fun _ => ?_⟩
      rw [vp_up0, hbr, e0]
    · refine ⟨_, _, _, hr, (by unfold k_see; (repeat' split) <;> decide), c_msee0 G 8 n false _ m0 (by omega) p4 hk, ⟨_, m0⟩, fun b h2 hg q => ?_⟩
      exact ⟨_, zz.same q.2 q.1, fun q => absurd q hk⟩
  · refine ⟨_, _, w_see G 0 n h (c_see0 G 0 n h (x := x) a0 (by omega) hs hl hs2) (fun v h' q => q.elim) a0 hou (by decide), fun r h1 hf p => ?_⟩
    obtain ⟨hr, ⟨hk, h1', w0, P, hfr, rfl⟩ | ⟨hk, rfl⟩⟩ := p
    · exact P.elim
    · refine ⟨_, _, _, hr, (by unfold k_see; (repeat' split) <;> decide), c_msee0 G 8 n false _ m0 (by omega) p4 hk, ⟨_, m0⟩, fun b h2 hg q => ?_⟩
      exact ⟨_, zz.same q.2 q.1, fun q => absurd q hk⟩
