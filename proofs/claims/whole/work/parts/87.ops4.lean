set_option maxHeartbeats 4000000 in
set_option maxRecDepth 100000 in
theorem t_digest (G : gG) (n : Nat) (h : gH) {x y : Int32} {kk : Nat} {ou : Nat → Int64} (z : Rel h kk ou) : StI G mL_digest mX11_digest [.ref 0, .int x, .int y, .ref 167] [.ref 142, .int x, .int y] n h := by
  obtain ⟨s, v, wn, en, rc, dg, c, bl, ti, df, w, l, fv, ft, bf, wM, tM, ct, O, Bx, S0, se, sw, rI, sI, V, k, m, sg, cm, sd, D, dr, bk, mm, lm, pn, pd, e, fm, fr, A, B, z⟩ := z
  have zz := z
  obtain ⟨⟨a0, hs, hS, hC, hl, hT, hK, hR, hP, hF, hO, hQ⟩, ⟨b3, b4, b5, hM, b7, b8, b9, b10, b11, b12, b13, b14, b15, hBv, b16, b17, b18⟩, ⟨p4, p5, p6, p65, p71, p7, p81, p8, p9, p10, p12, p11⟩, ⟨q1, q2, q3, q4, q5, q6⟩, ⟨pk, pdg, pc, psg, pcm, psd, pv, pwn, pwM, pww⟩, ⟨l1, l2, l3, l4, l5, l6, l7, l8, l9, l10⟩, ⟨f1, f2, f3, f4, f5, f6, f7⟩, ⟨r1, r2, r3, r4⟩, ⟨d1, d2, d3⟩, ⟨v0, v1, v6, v7, v8⟩, ⟨o1, o2, o3⟩, m0, hou⟩ := z
  refine ⟨_, _, w_digest G 0 n h (c_digest G 1 n h (x := x) (y := y) a0 (by omega) hS pk (fun i => by have := pdg i; omega)) (fun v h' q => ⟨q.1, _, q.2.1⟩) a0 hou (by decide), fun r h1 hf p => ?_⟩
  obtain ⟨hr, ⟨hk, h1', w0, P, hfr, rfl⟩ | ⟨hk, rfl⟩⟩ := p
  · have kz := id hk
    have _u := kz
    have m1 := hf.at (by decide) m0
    obtain ⟨b3, b4, b5, hM, b7, b8, b9, b10, b11, b12, b13, b14, b15, hBv, b16, b17, b18⟩ := (zz.2.1).fr hf (by decide)
    refine ⟨_, _, _, hr, (by unfold k_digest; (repeat' split) <;> decide), c_mdigest G 6 n false _ (x := x) (y := y) pk m1 hM, ⟨_, m1⟩, fun b h2 hg q => ?_⟩
    obtain ⟨hk2, -⟩ | ⟨-, hb, hm, hM2⟩ := q
    · exact absurd hk hk2
    · obtain ⟨b3, b4, b5, hM, b7, b8, b9, b10, b11, b12, b13, b14, b15, hBv, b16, b17, b18⟩ := zz.2.1
      have hA : g_fr [10, 11, 142, 162, 163, 164, 165, 167] h h2 := (hf.mono (by decide)).tr hg (by decide)
      have hB : g_fr [142, 162, 163, 164, 165, 167] h1' h2 := (g_fr.rf.up (by decide)).tr hg (by decide)
      refine ⟨_, ⟨_, _, _, _, _, _, _, _, _, _, _, _, _, _, _, _, _, _, _, _, _, _, _, _, _, _, _, _, _, _, _, _, _, _, _, _, _, _, _, _, _, _, _, ⟨hA.at (by decide) a0, hs.fr hA (by decide), (P.2.2).fr hB (by decide), hC.fr hA (by decide) (by decide), hl.fr hA (by decide), hT.fr hA (by decide) (by decide), hK.fr hA (by decide) r1, hR.fr hA (by decide), (fun q => (hP q).fr hA (by decide)), hF.fr hA (by decide) (by decide) (by decide), hO.fr hA (by decide), hQ.fr hA (by decide) (by decide) (by decide) (by decide) (by decide)⟩, ⟨hA.at (by decide) b3, hA.at (by decide) b4, hA.at (by decide) b5, hM2, hA.at (by decide) b7, hA.at (by decide) b8, hA.at (by decide) b9, hA.at (by decide) b10, hA.at (by decide) b11, hA.at (by decide) b12, hA.at (by decide) b13, hA.at (by decide) b14, hA.at (by decide) b15, hBv.fr hA (by decide) (by decide), hA.at (by decide) b16, hA.at (by decide) b17, hA.at (by decide) b18⟩, zz.2.2.1, zz.2.2.2.1, zz.2.2.2.2.1, zz.2.2.2.2.2.1, zz.2.2.2.2.2.2.1, zz.2.2.2.2.2.2.2.1, zz.2.2.2.2.2.2.2.2.1, zz.2.2.2.2.2.2.2.2.2.1, zz.2.2.2.2.2.2.2.2.2.2.1, hm, hg.at (by decide) g_eq⟩, fun _ => ?_⟩
      rw [vp_up0]
      have e2 : w0 = b := by
        exact (Value.int.inj (Option.some.inj P.2.1)).trans hb.symm
      rw [e2]
  · refine ⟨_, _, _, hr, (by unfold k_digest; (repeat' split) <;> decide), c_mdigest G 6 n false _ (x := x) (y := y) pk m0 hM, ⟨_, m0⟩, fun b h2 hg q => ?_⟩
    obtain ⟨hk2, hm, hg2⟩ | ⟨hk2, -⟩ := q
    · exact ⟨_, zz.same hg2 hm, fun q => absurd q hk⟩
    · exact absurd hk2 hk
set_option maxHeartbeats 4000000 in
set_option maxRecDepth 100000 in
theorem t_risk (G : gG) (n : Nat) (h : gH) {i_ n_ x_ y_ z_ : Int32} {kk : Nat} {ou : Nat → Int64} (z : Rel h kk ou) : StI G mL_risk mX11_risk [.ref 0, .int i_, .int n_, .int x_, .int y_, .int z_, .ref 167] [.ref 142, .int i_, .int n_, .int x_, .int y_, .int z_] n h := by
  obtain ⟨s, v, wn, en, rc, dg, c, bl, ti, df, w, l, fv, ft, bf, wM, tM, ct, O, Bx, S0, se, sw, rI, sI, V, k, m, sg, cm, sd, D, dr, bk, mm, lm, pn, pd, e, fm, fr, A, B, z⟩ := z
  have zz := z
  obtain ⟨⟨a0, hs, hS, hC, hl, hT, hK, hR, hP, hF, hO, hQ⟩, ⟨b3, b4, b5, hM, b7, b8, b9, b10, b11, b12, b13, b14, b15, hBv, b16, b17, b18⟩, ⟨p4, p5, p6, p65, p71, p7, p81, p8, p9, p10, p12, p11⟩, ⟨q1, q2, q3, q4, q5, q6⟩, ⟨pk, pdg, pc, psg, pcm, psd, pv, pwn, pwM, pww⟩, ⟨l1, l2, l3, l4, l5, l6, l7, l8, l9, l10⟩, ⟨f1, f2, f3, f4, f5, f6, f7⟩, ⟨r1, r2, r3, r4⟩, ⟨d1, d2, d3⟩, ⟨v0, v1, v6, v7, v8⟩, ⟨o1, o2, o3⟩, m0, hou⟩ := z
  refine ⟨_, _, w_risk G 0 n h (c_risk G 1 n h (i_ := i_) (n_ := n_) (x_ := x_) (y_ := y_) (z_ := z_) a0 (by omega) hs hT hK hO hQ r1 (fun k hk => ⟨(r4 k hk).2.2.1, (r4 k hk).2.2.2.1⟩) p9 (by omega) p10) (fun v h' q => ⟨q.1, _, q.2.1⟩) a0 hou (by decide), fun r h1 hf p => ?_⟩
  obtain ⟨hr, ⟨hk, h1', w0, P, hfr, rfl⟩ | ⟨hk, rfl⟩⟩ := p
  · have kz := id hk
    have _u := kz
    have m1 := hf.at (by decide) m0
    obtain ⟨b3, b4, b5, hM, b7, b8, b9, b10, b11, b12, b13, b14, b15, hBv, b16, b17, b18⟩ := (zz.2.1).fr hf (by decide)
    refine ⟨_, _, _, hr, (by unfold k_risk; (repeat' split) <;> decide), c_mrisk G 4 n false _ (i_ := i_) (n_ := n_) (x_ := x_) (y_ := y_) (z_ := z_) m1 hBv b3 b9 b10 b16 b17 b18 o1 o2 o3 r1 (fun k hk => ⟨by have := (r4 k hk).1; omega, by have := (r4 k hk).2.1; omega⟩) (fun k hk => ⟨(r4 k hk).2.2.1, (r4 k hk).2.2.2.1⟩) (by omega) p10 p9 (by omega), ⟨_, m1⟩, fun b h2 hg q => ?_⟩
    obtain ⟨hk2, -⟩ | ⟨-, hb, hm, hBv2, ⟨S2, hS2, hS3⟩, ⟨O2, hO2, hO3⟩, ⟨X2, hX2, hX3⟩⟩ := q
    · exact absurd hk hk2
    · obtain ⟨b3, b4, b5, hM, b7, b8, b9, b10, b11, b12, b13, b14, b15, hBv, b16, b17, b18⟩ := zz.2.1
      have hA : g_fr [124, 125, 126, 127, 128, 129, 130, 131, 132, 133, 134, 135, 136, 137, 138, 139, 140, 141, 142, 156, 157, 158, 159, 166, 167] h h2 := (hf.mono (by decide)).tr hg (by decide)
      have hB : g_fr [142, 156, 157, 158, 159, 166, 167] h1' h2 := (g_fr.rf.up (by decide)).tr hg (by decide)
      refine ⟨_, ⟨_, _, _, _, _, _, _, _, _, _, _, _, _, _, _, _, _, _, _, _, _, _, _, _, _, _, _, _, _, _, _, _, _, _, _, _, _, _, _, _, _, _, _, ⟨hA.at (by decide) a0, hs.fr hA (by decide), hS.fr hA (by decide), hC.fr hA (by decide) (by decide), hl.fr hA (by decide), hT.fr hA (by decide) (by decide), hK.fr hA (by decide) r1, hR.fr hA (by decide), (fun q => (hP q).fr hA (by decide)), hF.fr hA (by decide) (by decide) (by decide), (P.2.2.2).fr hB (by decide), (P.2.2.1).fr hB (by decide) (by decide) (by decide) (by decide) (by decide)⟩, ⟨hA.at (by decide) b3, hA.at (by decide) b4, hA.at (by decide) b5, hM.fr hA (by decide), hA.at (by decide) b7, hA.at (by decide) b8, hA.at (by decide) b9, hA.at (by decide) b10, hA.at (by decide) b11, hA.at (by decide) b12, hA.at (by decide) b13, hA.at (by decide) b14, hA.at (by decide) b15, hBv2, hO2, hX2, hS2⟩, zz.2.2.1, zz.2.2.2.1, zz.2.2.2.2.1, zz.2.2.2.2.2.1, zz.2.2.2.2.2.2.1, zz.2.2.2.2.2.2.2.1, zz.2.2.2.2.2.2.2.2.1, ⟨rfl, rfl, v6, v7, v8⟩, ⟨hO3, hX3, hS3⟩, hm, hg.at (by decide) g_eq⟩, fun _ => ?_⟩
      rw [vp_up0]
      have e2 : w0 = b := by
        exact (Value.int.inj (Option.some.inj P.2.1)).trans hb.symm
      rw [e2]
  · refine ⟨_, _, _, hr, (by unfold k_risk; (repeat' split) <;> decide), c_mrisk G 4 n false _ (i_ := i_) (n_ := n_) (x_ := x_) (y_ := y_) (z_ := z_) m0 hBv b3 b9 b10 b16 b17 b18 o1 o2 o3 r1 (fun k hk => ⟨by have := (r4 k hk).1; omega, by have := (r4 k hk).2.1; omega⟩) (fun k hk => ⟨(r4 k hk).2.2.1, (r4 k hk).2.2.2.1⟩) (by omega) p10 p9 (by omega), ⟨_, m0⟩, fun b h2 hg q => ?_⟩
    obtain ⟨hk2, hm, hg2⟩ | ⟨hk2, -⟩ := q
    · exact ⟨_, zz.same hg2 hm, fun q => absurd q hk⟩
    · exact absurd hk2 hk
theorem sh_eA {s v w l df : Nat → Nat} {cm mm pn lm lm' i k : Nat} (h : i = 3 → lm = lm') : shM s v w l (eF cm df w) (eF cm df l) pn lm i k = shA s v w l df cm mm pn lm' i k := by
  match i, h with
  | 0, h =>
    show (2 * v (w k)) ^ (if cm = 0 then df (w k) else 0) * (2 * v (l k)) ^ (if cm = 0 then df (l k) else 0) = if cm = 0 then RA v df (w k) (l k) else 1
    by_cases q : cm = 0
    · rw [if_pos q, if_pos q, if_pos q]; rfl
    · rw [if_neg q, if_neg q, if_neg q, Nat.pow_zero, Nat.pow_zero]
  | 1, h => rfl
  | 2, h => rfl
  | 3, h => exact h rfl
  | i + 4, h => rfl
theorem sh_eB {s v w l df : Nat → Nat} {cm mm pd i k : Nat} : shD s v w l (eF cm df w) (eF cm df l) pd i k = shB s v w l df cm mm pd i k := by
  match i with
  | 0 =>
    show (v (w k) + v (l k)) ^ ((if cm = 0 then df (w k) else 0) + (if cm = 0 then df (l k) else 0)) = if cm = 0 then RB v df (w k) (l k) else 1
    by_cases q : cm = 0
    · rw [if_pos q, if_pos q, if_pos q]; rfl
    · rw [if_neg q, if_neg q, if_neg q, Nat.add_zero, Nat.pow_zero]
  | 1 => rfl
  | 2 => rfl
  | 3 => rfl
  | i + 4 => rfl
theorem rm_40 {x e : Nat} (h : x ≤ 40000 ^ e) (he : e ≤ 400) : x * 2 ^ 15 < RM := Nat.lt_of_le_of_lt (Nat.mul_le_mul_right _ (Nat.le_trans h (Nat.pow_le_pow_right (by decide) he))) (by unfold RM; decide +kernel)
theorem rm_54 {x e : Nat} (h : x ≤ 2 ^ (54 * e)) (he : e ≤ 200) : x * 2 ^ 15 < RM := Nat.lt_of_le_of_lt (Nat.mul_le_mul_right _ (Nat.le_trans h (Nat.pow_le_pow_right (by decide) (Nat.mul_le_mul_left 54 he)))) (by unfold RM; decide +kernel)
theorem rm_80 {x e : Nat} (h : x ≤ 2 ^ (54 * e)) (he : e ≤ 200) : x * 2 ^ 80 < RM := Nat.lt_of_le_of_lt (Nat.mul_le_mul_right _ (Nat.le_trans h (Nat.pow_le_pow_right (by decide) (Nat.mul_le_mul_left 54 he)))) (by unfold RM; decide +kernel)
theorem rm_6 {x : Nat} (h : x ≤ 1000000) : x * 2 ^ 15 < RM := rm_40 (e := 2) (Nat.le_trans h (by decide)) (by decide)
theorem cN_le {sg dr c : Nat} (h1 : dr ≤ c) (h2 : c ≤ 200) : cN sg dr ≤ 200 := by unfold cN; split <;> omega
theorem pw2_le {x y a b : Nat} (hx : x ≤ 40000) (hy : y ≤ 40000) : x ^ a * y ^ b ≤ 40000 ^ (a + b) := by
  rw [Nat.pow_add]
  exact Nat.mul_le_mul (Nat.pow_le_pow_left hx a) (Nat.pow_le_pow_left hy b)
theorem ks_u {sg mm : Nat} {x y : Int32} (h : k_show sg mm x y = 0) : un x = 3 → ¬ sg = 0 := by
  unfold k_show at h
  have hu := un_b x
  split at h
  · exact absurd h (by decide)
  · split at h
    · exact absurd h (by decide)
    · rename_i q1 q2
      simp only [i_lt, i_le, i_eq, it0, nI_toInt (show 4 < 2147483648 by decide), nI_toInt (show 5 < 2147483648 by decide), Classical.not_not, not_and] at q1 q2
      intro q
      exact q2 (by omega)
theorem sh_b {s v w l df : Nat → Nat} {sg cm mm dr lm pn pd e j q : Nat} {h : gH} (h1 : ¬ j = 4 → ¬ sg = 0) (h2 : j ≤ 4) (h3 : j = 0 ∨ j = 2 → q < mm) (p6 : s 6 ≤ 20000) (p9 : s 9 < s 10) (p10 : s 10 ≤ 1000000) (d2 : ∀ a b, a ≠ b → df a + df b ≤ cN sg dr) (hc : cN sg dr ≤ 200) (hP : ¬ sg = 0 → Pq h pn pd e) (v8 : ¬ sg = 0 → pn ≤ 2 ^ (54 * cN sg dr) ∧ pd ≤ 2 ^ (54 * cN sg dr) ∧ e ≤ cN sg dr) (r3 : ¬ sg = 0 → 1 ≤ mm ∧ 1 ≤ s 6 ∧ lm ≤ s 6) (hV : ∀ k, k < mm → v (l k) < v (w k) ∧ v (w k) ≤ 20000) : ¬ shB s v w l df cm mm pd j q = 0 ∧ shA s v w l df cm mm pn lm j q * 2 ^ 15 < RM ∧ shB s v w l df cm mm pd j q * 2 ^ 15 < RM := by
  match j, h1, h2, h3 with
  | 0, h1, h2, h3 =>
    have hq := hV q (h3 (Or.inl rfl))
    have hne : w q ≠ l q := fun z => by rw [z] at hq; omega
    have hd := d2 (w q) (l q) hne
    show ¬ (if cm = 0 then RB v df (w q) (l q) else 1) = 0 ∧ (if cm = 0 then RA v df (w q) (l q) else 1) * 2 ^ 15 < RM ∧ (if cm = 0 then RB v df (w q) (l q) else 1) * 2 ^ 15 < RM
    by_cases z : cm = 0
    · rw [if_pos z, if_pos z]
      refine ⟨?_, rm_40 (pw2_le (by omega) (by omega)) (by omega), rm_40 (Nat.pow_le_pow_left (by omega) _) (by omega)⟩
      have := Nat.pow_pos (n := df (w q) + df (l q)) (show 0 < v (w q) + v (l q) by omega)
      show ¬ (v (w q) + v (l q)) ^ (df (w q) + df (l q)) = 0
      omega
    · rw [if_neg z, if_neg z]
      exact ⟨by decide, rm_6 (by decide), rm_6 (by decide)⟩
  | 1, h1, h2, h3 =>
    have hs := h1 (by decide)
    obtain ⟨A, B, -, -, -, -, hp, -⟩ := hP hs
    have h8 := v8 hs
    exact ⟨(by show ¬ pd = 0; omega), rm_54 h8.1 hc, rm_54 h8.2.1 hc⟩
  | 2, h1, h2, h3 =>
    have hq := hV q (h3 (Or.inr rfl))
    exact ⟨(by show ¬ v (w q) + v (l q) = 0; omega), rm_6 (by show v (w q) ≤ _; omega), rm_6 (by show v (w q) + v (l q) ≤ _; omega)⟩
  | 3, h1, h2, h3 =>
    have := r3 (h1 (by decide))
    exact ⟨(by show ¬ s 6 = 0; omega), rm_6 (by show lm ≤ _; omega), rm_6 (by show s 6 ≤ _; omega)⟩
  | 4, h1, h2, h3 => exact ⟨(by show ¬ s 10 = 0; omega), rm_6 (by show s 9 ≤ _; omega), rm_6 (by show s 10 ≤ _; omega)⟩
  | j + 5, h1, h2, h3 => exact absurd h2 (by omega)
theorem eF_le {cm N : Nat} {df w l : Nat → Nat} {k : Nat} (h : df (w k) + df (l k) ≤ N) : eF cm df w k + eF cm df l k ≤ N := by
  unfold eF
  by_cases q : cm = 0
  · rw [if_pos q, if_pos q]; exact h
  · rw [if_neg q, if_neg q]; exact Nat.zero_le _
set_option maxHeartbeats 4000000 in
set_option maxRecDepth 100000 in
theorem t_show (G : gG) (n : Nat) (h : gH) {x y : Int32} {kk : Nat} {ou : Nat → Int64} (z : Rel h kk ou) : StS G mL_show mX11_show [.ref 0, .int x, .int y, .ref 167] [.ref 142, .int x, .int y] n h := by
  obtain ⟨s, v, wn, en, rc, dg, c, bl, ti, df, w, l, fv, ft, bf, wM, tM, ct, O, Bx, S0, se, sw, rI, sI, V, k, m, sg, cm, sd, D, dr, bk, mm, lm, pn, pd, e, fm, fr, A, B, z⟩ := z
  have zz := z
  obtain ⟨⟨a0, hs, hS, hC, hl, hT, hK, hR, hP, hF, hO, hQ⟩, ⟨b3, b4, b5, hM, b7, b8, b9, b10, b11, b12, b13, b14, b15, hBv, b16, b17, b18⟩, ⟨p4, p5, p6, p65, p71, p7, p81, p8, p9, p10, p12, p11⟩, ⟨q1, q2, q3, q4, q5, q6⟩, ⟨pk, pdg, pc, psg, pcm, psd, pv, pwn, pwM, pww⟩, ⟨l1, l2, l3, l4, l5, l6, l7, l8, l9, l10⟩, ⟨f1, f2, f3, f4, f5, f6, f7⟩, ⟨r1, r2, r3, r4⟩, ⟨d1, d2, d3⟩, ⟨v0, v1, v6, v7, v8⟩, ⟨o1, o2, o3⟩, m0, hou⟩ := z
  have hc2 : cN sg dr ≤ 200 := cN_le l2 p8
  have hdf : ∀ c, df c ≤ 200 := fun c => by have := d2 c (c + 1) (by omega); omega
  obtain ⟨e', hPe, he⟩ : ∃ e', (¬ sg = 0 → Pq h pn pd e') ∧ e' ≤ 200 := by
    by_cases q : sg = 0
    · exact ⟨0, fun z => absurd q z, by decide⟩
    · exact ⟨e, hP, by have := (v8 q).2.2; omega⟩
  have hE : ∀ k, k < mm → eF cm df w k + eF cm df l k ≤ 400 := fun k hk => eF_le (by have := (r4 k hk).2.2.1; have := d2 (w k) (l k) (fun z => by rw [z] at this; omega); omega)
  have hsh : ∀ j q, (¬ j = 4 → ¬ sg = 0) → j ≤ 4 → (j = 0 ∨ j = 2 → q < mm) → ¬ shB s v w l df cm mm pd j q = 0 ∧ shA s v w l df cm mm pn (lmn 1000001 v w l mm) j q * 2 ^ 15 < RM ∧ shB s v w l df cm mm pd j q * 2 ^ 15 < RM := fun j q h1 h2 h3 => sh_b h1 h2 h3 p6 p9 p10 d2 hc2 hP v8 (fun z => ⟨(r3 z).1, (r3 z).2.1, by rw [← (r3 z).2.2.2]; exact (r3 z).2.2.1⟩) (fun k hk => ⟨(r4 k hk).2.2.1, (r4 k hk).2.2.2.1⟩)
  refine ⟨_, _, w_show G 0 n h (c_show G 1 n h (x := x) (y := y) (pn := pn) (pd := pd) a0 (by omega) hs hT hK hQ hPe he r1 (fun k hk => ⟨(r4 k hk).2.2.1, (r4 k hk).2.2.2.1⟩) hE (fun q => ⟨(r3 q).2.1, (r3 q).2.2.1⟩) p6 p9 (by omega) p10) (fun v h' q => ⟨q.1, _, q.2.1, (by split <;> decide)⟩) a0 hou (by decide), fun r h1 hf p => ?_⟩
  obtain ⟨hr, ⟨hk, h1', w0, P, hw1, hfr, rfl⟩ | ⟨hk, rfl⟩⟩ := p
  · have kz := id hk
    have _u := kz
    have m1 := hf.at (by decide) m0
    obtain ⟨b3, b4, b5, hM, b7, b8, b9, b10, b11, b12, b13, b14, b15, hBv, b16, b17, b18⟩ := (zz.2.1).fr hf (by decide)
    refine ⟨_, _, _, hr, (by unfold k_show; (repeat' split) <;> decide), c_mshow G 4 n false _ (x := x) (y := y) m1 hBv b3 b9 b10 b12 r1 (fun k hk => ⟨by have := (r4 k hk).1; omega, by have := (r4 k hk).2.1; omega⟩) (fun k hk => ⟨(r4 k hk).2.2.1, (r4 k hk).2.2.2.1⟩) hdf pcm v6 v7 p6 (by omega) p10 (by omega) hsh, ⟨_, m1⟩, fun b h2 hg q => ?_⟩
    obtain ⟨hk2, -⟩ | ⟨-, hb, hm, hBv2⟩ := q
    · exact absurd hk hk2
    · obtain ⟨b3, b4, b5, hM, b7, b8, b9, b10, b11, b12, b13, b14, b15, hBv, b16, b17, b18⟩ := zz.2.1
      have hA : g_fr [138, 139, 140, 141, 142, 156, 157, 167] h h2 := (hf.mono (by decide)).tr hg (by decide)
      have hB : g_fr [142, 156, 157, 167] h1' h2 := (g_fr.rf.up (by decide)).tr hg (by decide)
      have eA := sh_eA (s := s) (v := v) (w := w) (l := l) (df := df) (cm := cm) (mm := mm) (pn := pn) (lm := lm) (lm' := lmn 1000001 v w l mm) (i := un x) (k := un y) (fun q => (r3 (ks_u hk q)).2.2.2)
      have eB := sh_eB (s := s) (v := v) (w := w) (l := l) (df := df) (cm := cm) (mm := mm) (pd := pd) (i := un x) (k := un y)
      refine ⟨_, ⟨_, _, _, _, _, _, _, _, _, _, _, _, _, _, _, _, _, _, _, _, _, _, _, _, _, _, _, _, _, _, _, _, _, _, _, _, _, _, _, _, _, _, _, ⟨hA.at (by decide) a0, hs.fr hA (by decide), hS.fr hA (by decide), hC.fr hA (by decide) (by decide), hl.fr hA (by decide), hT.fr hA (by decide) (by decide), hK.fr hA (by decide) r1, hR.fr hA (by decide), (fun q => (hP q).fr hA (by decide)), hF.fr hA (by decide) (by decide) (by decide), hO.fr hA (by decide), (P.2.2).fr hB (by decide) (by decide) (by decide) (by decide) (by decide)⟩, ⟨hA.at (by decide) b3, hA.at (by decide) b4, hA.at (by decide) b5, hM.fr hA (by decide), hA.at (by decide) b7, hA.at (by decide) b8, hA.at (by decide) b9, hA.at (by decide) b10, hA.at (by decide) b11, hA.at (by decide) b12, hA.at (by decide) b13, hA.at (by decide) b14, hA.at (by decide) b15, hBv2, hA.at (by decide) b16, hA.at (by decide) b17, hA.at (by decide) b18⟩, zz.2.2.1, zz.2.2.2.1, zz.2.2.2.2.1, zz.2.2.2.2.2.1, zz.2.2.2.2.2.2.1, zz.2.2.2.2.2.2.2.1, zz.2.2.2.2.2.2.2.2.1, ⟨(by show some _ = some _; rw [eA, eB]), (by show some _ = some _; rw [eA, eB]), v6, v7, v8⟩, zz.2.2.2.2.2.2.2.2.2.2.1, hm, hg.at (by decide) g_eq⟩, fun _ => ?_⟩
      refine ⟨w0, hw1, ?_, vp_up0 _ _⟩
      rw [hb, ← eA, ← eB]
      exact (Value.int.inj (Option.some.inj P.2.1)).symm
  · refine ⟨_, _, _, hr, (by unfold k_show; (repeat' split) <;> decide), c_mshow G 4 n false _ (x := x) (y := y) m0 hBv b3 b9 b10 b12 r1 (fun k hk => ⟨by have := (r4 k hk).1; omega, by have := (r4 k hk).2.1; omega⟩) (fun k hk => ⟨(r4 k hk).2.2.1, (r4 k hk).2.2.2.1⟩) hdf pcm v6 v7 p6 (by omega) p10 (by omega) hsh, ⟨_, m0⟩, fun b h2 hg q => ?_⟩
    obtain ⟨hk2, hm, hg2⟩ | ⟨hk2, -⟩ := q
    · exact ⟨_, zz.same hg2 hm, fun q => absurd q hk⟩
    · exact absurd hk2 hk
theorem kct_0 {s : Nat → Nat} {sg : Nat} {x y : Int32} (h4 : s 4 ≤ 8) (h6 : s 6 ≤ 20000) (h : k_counted s sg x y = 0) : sg = 4 ∧ un x < s 4 ∧ un y ≤ s 6 := by
  unfold k_counted at h
  have hu_x := un_b x; have hu_y := un_b y; (repeat' split at h) <;> first | (exact absurd h (by decide)) | (simp only [i_lt, i_le, i_eq, it0, itm, Classical.not_not, not_or, not_and, nI_toInt (show 0 < 2147483648 by first | decide | omega), nI_toInt (show s 4 < 2147483648 by first | decide | omega), nI_toInt (show s 6 < 2147483648 by first | decide | omega)] at *; omega)
theorem cz_up {ct : Nat → Nat} {x y i : Nat} (h : x < i) : cz (va_up ct x (y + 1)) i = if ct x = 0 then cz ct i + 1 else cz ct i := by
  induction i with
  | zero => exact absurd h (by omega)
  | succ i ih =>
    show cz (va_up ct x (y + 1)) i + (if va_up ct x (y + 1) i = 0 then 0 else 1) = if ct x = 0 then cz ct i + (if ct i = 0 then 0 else 1) + 1 else cz ct i + (if ct i = 0 then 0 else 1)
    by_cases q : x = i
    · subst q
      have e : cz (va_up ct x (y + 1)) x = cz ct x := by
        have gen : ∀ j, j ≤ x → cz (va_up ct x (y + 1)) j = cz ct j := by
          intro j
          induction j with
          | zero => intro _; rfl
          | succ j ih2 => intro hj; show cz (va_up ct x (y + 1)) j + (if va_up ct x (y + 1) j = 0 then 0 else 1) = cz ct j + (if ct j = 0 then 0 else 1); rw [ih2 (by omega), va_o (show ¬ j = x by omega)]
        exact gen x (Nat.le_refl _)
      rw [e, va_e, if_neg (show ¬ y + 1 = 0 by omega)]
      split <;> omega
    · rw [ih (by omega), va_o (show ¬ i = x by omega)]
      split <;> omega
theorem cz_all {ct : Nat → Nat} {i : Nat} (h : cz ct i = i) : ∀ c, c < i → ¬ ct c = 0 := by
  induction i with
  | zero => intro c hc; exact absurd hc (by omega)
  | succ i ih =>
    have hl := cz_le ct i
    have h1 : cz ct i + (if ct i = 0 then 0 else 1) = i + 1 := h
    intro c hc
    by_cases q : c = i
    · subst q
      intro z
      rw [if_pos z] at h1
      omega
    · refine ih ?_ c (by omega)
      split at h1 <;> omega
set_option maxHeartbeats 4000000 in
set_option maxRecDepth 100000 in
theorem t_counted (G : gG) (n : Nat) (h : gH) {x y : Int32} {kk : Nat} {ou : Nat → Int64} (z : Rel h kk ou) : StI G mL_counted mX11_counted [.ref 0, .int x, .int y, .ref 167] [.ref 142, .int x, .int y] n h := by
  obtain ⟨s, v, wn, en, rc, dg, c, bl, ti, df, w, l, fv, ft, bf, wM, tM, ct, O, Bx, S0, se, sw, rI, sI, V, k, m, sg, cm, sd, D, dr, bk, mm, lm, pn, pd, e, fm, fr, A, B, z⟩ := z
  have zz := z
  obtain ⟨⟨a0, hs, hS, hC, hl, hT, hK, hR, hP, hF, hO, hQ⟩, ⟨b3, b4, b5, hM, b7, b8, b9, b10, b11, b12, b13, b14, b15, hBv, b16, b17, b18⟩, ⟨p4, p5, p6, p65, p71, p7, p81, p8, p9, p10, p12, p11⟩, ⟨q1, q2, q3, q4, q5, q6⟩, ⟨pk, pdg, pc, psg, pcm, psd, pv, pwn, pwM, pww⟩, ⟨l1, l2, l3, l4, l5, l6, l7, l8, l9, l10⟩, ⟨f1, f2, f3, f4, f5, f6, f7⟩, ⟨r1, r2, r3, r4⟩, ⟨d1, d2, d3⟩, ⟨v0, v1, v6, v7, v8⟩, ⟨o1, o2, o3⟩, m0, hou⟩ := z
  refine ⟨_, _, w_counted G 0 n h (c_counted G 1 n h (x := x) (y := y) a0 (by omega) hs hF hT hK r1 (fun k hk => ⟨by have := (r4 k hk).1; omega, by have := (r4 k hk).2.1; omega⟩) f1 (fun k => by have := f2 k; omega) p4 p6 (by have := cz_le ct (s 4); omega)) (fun v h' q => ⟨q.1, (by obtain ⟨-, fm1, fr1, -, e, -⟩ := q; exact ⟨_, e⟩)⟩) a0 hou (by decide), fun r h1 hf p => ?_⟩
  obtain ⟨hr, ⟨hk, h1', w0, P, hfr, rfl⟩ | ⟨hk, rfl⟩⟩ := p
  · have kz := kct_0 p4 p6 hk
    obtain ⟨rfl, kx, ky⟩ := kz
    have m1 := hf.at (by decide) m0
    obtain ⟨b3, b4, b5, hM, b7, b8, b9, b10, b11, b12, b13, b14, b15, hBv, b16, b17, b18⟩ := (zz.2.1).fr hf (by decide)
    refine ⟨_, _, _, hr, (by unfold k_counted; (repeat' split) <;> decide), c_mcounted G 9 n false _ (x := x) (y := y) m1 b15 b9 b10 f4 p4 p6 r1 (fun k hk => ⟨by have := (r4 k hk).1; omega, by have := (r4 k hk).2.1; omega⟩) (by omega), ⟨_, m1⟩, fun b h2 hg q => ?_⟩
    obtain ⟨hk2, -⟩ | ⟨-, hb, y15, hmm⟩ := q
    · exact absurd hk hk2
    · obtain ⟨b3, b4, b5, hM, b7, b8, b9, b10, b11, b12, b13, b14, b15, hBv, b16, b17, b18⟩ := zz.2.1
      have hA : g_fr [0, 120, 121, 122, 142, 155, 167] h h2 := (hf.mono (by decide)).tr hg (by decide)
      have hB : g_fr [142, 155, 167] h1' h2 := (g_fr.rf.up (by decide)).tr hg (by decide)
      obtain ⟨-, fm1, fr1, e1, er, hFc, hcl⟩ := id P
      have hx8 : un x < 8 := by omega
      have hcx := f3 _ hx8
      have ec : fm1 = cz (va_up ct (un x) (un y + 1)) (s 4) := by
        rw [e1, cz_up kx, f5, hcx]
        by_cases q : ft (un x) = 0
        · rw [if_pos q, if_pos q, if_pos rfl]
        · rw [if_neg q, if_neg q, if_neg (by omega)]
      have gF : ∀ j, j < 8 → va_up ct (un x) (un y + 1) j = if va_up ft (un x) 1 j = 0 then 0 else va_up fv (un x) (un y) j + 1 := fun j hj => by
        by_cases q : j = un x
        · rw [q, va_e, va_e, va_e, if_neg (by decide)]
        · rw [va_o q, va_o q, va_o q]; exact f3 j hj
      have e2 : w0 = b := by rw [hb, ← ec]; exact Value.int.inj (Option.some.inj er)
      have hl9 := cz_le (va_up ct (un x) (un y + 1)) (s 4)
      rcases hcl with ⟨g1, g2, g3⟩ | ⟨g1, g2, g3, g4⟩
      · rcases hmm with ⟨n1, n2⟩ | ⟨n1, q, n2, n3, n4⟩
        · subst g3
          refine ⟨_, ⟨_, _, _, _, _, _, _, _, _, _, _, _, _, _, _, _, _, _, _, _, _, _, _, _, _, _, _, _, _, _, _, _, _, _, _, _, _, _, _, _, _, _, _, ⟨hB.at (by decide) g2, hs.fr hA (by decide), hS.fr hA (by decide), hC.fr hA (by decide) (by decide), hl.fr hA (by decide), hT.fr hA (by decide) (by decide), hK.fr hA (by decide) r1, hR.fr hA (by decide), (fun _ => (hP (by decide)).fr hA (by decide)), hFc.fr hB (by decide) (by decide) (by decide), hO.fr hA (by decide), hQ.fr hA (by decide) (by decide) (by decide) (by decide) (by decide)⟩, ⟨hA.at (by decide) b3, hA.at (by decide) b4, hA.at (by decide) b5, hM.fr hA (by decide), hA.at (by decide) b7, hA.at (by decide) b8, hA.at (by decide) b9, hA.at (by decide) b10, hA.at (by decide) b11, hA.at (by decide) b12, hA.at (by decide) b13, hA.at (by decide) b14, y15, hBv.fr hA (by decide) (by decide), hA.at (by decide) b16, hA.at (by decide) b17, hA.at (by decide) b18⟩, zz.2.2.1, zz.2.2.2.1, ⟨pk, pdg, pc, (by decide), pcm, psd, pv, pwn, pwM, fun _ => pww (by decide)⟩, ⟨l1, l2, fun q => absurd q (by decide), fun q => absurd q (by decide), l5, l6, l7, l8, l9, fun q => absurd q (by decide)⟩, ⟨va_le f1 (by decide), va_le f2 (by omega), gF, va_lt f4 (by omega), ec, f6, fun q => absurd q (by decide)⟩, ⟨r1, fun q => absurd q (by decide), fun _ => r3 (by decide), r4⟩, ⟨d1, d2, d3⟩, ⟨v0, v1, v6, v7, fun _ => v8 (by decide)⟩, zz.2.2.2.2.2.2.2.2.2.2.1, n2, hg.at (by decide) g_eq⟩, fun _ => ?_⟩
          rw [vp_up0, e2]
        · exact absurd n1 (by omega)
      · rcases hmm with ⟨n1, n2⟩ | ⟨n1, q, n2, n3, n4⟩
        · exact absurd (show cz (va_up ct (un x) (un y + 1)) (s 4) = s 4 by omega) n1
        · have hall := cz_all n1
          have hq : fr1 = q := by
            have key : (∀ k, k < mm → va_up fv (un x) (un y) (l k) < va_up fv (un x) (un y) (w k)) ↔ (∀ k, k < mm → va_up ct (un x) (un y + 1) (l k) < va_up ct (un x) (un y + 1) (w k)) := by
              have aux : ∀ c, c < s 4 → va_up ct (un x) (un y + 1) c = va_up fv (un x) (un y) c + 1 := fun c hc => by
                have h1 := gF c (by omega)
                have h2 := hall c hc
                by_cases z : va_up ft (un x) 1 c = 0
                · rw [if_pos z] at h1; exact absurd h1 h2
                · rw [if_neg z] at h1; exact h1
              constructor
              · intro z k hk
                rw [aux _ (r4 k hk).1, aux _ (r4 k hk).2.1]
                exact Nat.succ_lt_succ (z k hk)
              · intro z k hk
                have := z k hk
                rw [aux _ (r4 k hk).1, aux _ (r4 k hk).2.1] at this
                exact Nat.lt_of_succ_lt_succ this
            have : fr1 = 1 ↔ q = 1 := g4.trans (key.trans n4.symm)
            omega
          subst hq
          refine ⟨_, ⟨_, _, _, _, _, _, _, _, _, _, _, _, _, _, _, _, _, _, _, _, _, _, _, _, _, _, _, _, _, _, _, _, _, _, _, _, _, _, _, _, _, _, _, ⟨hB.at (by decide) g2, hs.fr hA (by decide), hS.fr hA (by decide), hC.fr hA (by decide) (by decide), hl.fr hA (by decide), hT.fr hA (by decide) (by decide), hK.fr hA (by decide) r1, hR.fr hA (by decide), (fun _ => (hP (by decide)).fr hA (by decide)), hFc.fr hB (by decide) (by decide) (by decide), hO.fr hA (by decide), hQ.fr hA (by decide) (by decide) (by decide) (by decide) (by decide)⟩, ⟨hA.at (by decide) b3, hA.at (by decide) b4, hA.at (by decide) b5, hM.fr hA (by decide), hA.at (by decide) b7, hA.at (by decide) b8, hA.at (by decide) b9, hA.at (by decide) b10, hA.at (by decide) b11, hA.at (by decide) b12, hA.at (by decide) b13, hA.at (by decide) b14, y15, hBv.fr hA (by decide) (by decide), hA.at (by decide) b16, hA.at (by decide) b17, hA.at (by decide) b18⟩, zz.2.2.1, zz.2.2.2.1, ⟨pk, pdg, pc, (by decide), pcm, psd, pv, pwn, pwM, fun _ => pww (by decide)⟩, ⟨l1, l2, fun q => absurd q (by decide), fun q => absurd q (by decide), l5, l6, l7, l8, l9, fun q => absurd q (by decide)⟩, ⟨va_le f1 (by decide), va_le f2 (by omega), gF, va_lt f4 (by omega), ec, g3, fun q => absurd q (by decide)⟩, ⟨r1, fun q => absurd q (by decide), fun _ => r3 (by decide), r4⟩, ⟨d1, d2, d3⟩, ⟨v0, v1, v6, v7, fun _ => v8 (by decide)⟩, zz.2.2.2.2.2.2.2.2.2.2.1, n2, hg.at (by decide) g_eq⟩, fun _ => ?_⟩
          rw [vp_up0, e2]
  · refine ⟨_, _, _, hr, (by unfold k_counted; (repeat' split) <;> decide), c_mcounted G 9 n false _ (x := x) (y := y) m0 b15 b9 b10 f4 p4 p6 r1 (fun k hk => ⟨by have := (r4 k hk).1; omega, by have := (r4 k hk).2.1; omega⟩) (by omega), ⟨_, m0⟩, fun b h2 hg q => ?_⟩
    obtain ⟨hk2, hm, hg2⟩ | ⟨hk2, -⟩ := q
    · exact ⟨_, zz.same hg2 hm, fun q => absurd q hk⟩
    · exact absurd hk2 hk
/-- a step that gives nothing and refuses nothing -/
def StA (G : gG) (ML MX : gM) (n : Nat) (h : gH) : Prop := ∃ S P, g_M G ML 9 0 0 [.ref 0] n false h (q_v n false S h P) ∧ (∃ fs, h 0 = some (.inr (10, fs))) ∧ ∀ h1, g_fr S h h1 → P h1 → ∃ S2 P2, g_M G MX 9 0 0 [.ref 142] n false h1 (q_v n false S2 h1 P2) ∧ (∃ fs, h1 142 = some (.inr (11, fs))) ∧ ∀ h2, g_fr S2 h1 h2 → P2 h2 → ∃ ou, Rel h2 0 ou
theorem fe_l {f : Nat → Nat} {x b : Nat} (h : f x ≤ b) : fe f 8 x ≤ b := by unfold fe; split <;> omega
theorem fe_8 {f : Nat → Nat} (h : ∀ x, 8 ≤ x → f x = 0) (x : Nat) : fe f 8 x = 0 := by
  unfold fe
  split
  · rfl
  · exact h x (by omega)
theorem fe_i {f : Nat → Nat} {x : Nat} (h : x < 8) : fe f 8 x = 0 := if_pos h
set_option maxHeartbeats 4000000 in
set_option maxRecDepth 100000 in
theorem t_again (G : gG) (n : Nat) (h : gH) {kk : Nat} {ou : Nat → Int64} (z : Rel h kk ou) : StA G mX10_again mX11_again n h := by
  obtain ⟨s, v, wn, en, rc, dg, c, bl, ti, df, w, l, fv, ft, bf, wM, tM, ct, O, Bx, S0, se, sw, rI, sI, V, k, m, sg, cm, sd, D, dr, bk, mm, lm, pn, pd, e, fm, fr, A, B, z⟩ := z
  have zz := z
  obtain ⟨⟨a0, hs, hS, hC, hl, hT, hK, hR, hP, hF, hO, hQ⟩, ⟨b3, b4, b5, hM, b7, b8, b9, b10, b11, b12, b13, b14, b15, hBv, b16, b17, b18⟩, ⟨p4, p5, p6, p65, p71, p7, p81, p8, p9, p10, p12, p11⟩, ⟨q1, q2, q3, q4, q5, q6⟩, ⟨pk, pdg, pc, psg, pcm, psd, pv, pwn, pwM, pww⟩, ⟨l1, l2, l3, l4, l5, l6, l7, l8, l9, l10⟩, ⟨f1, f2, f3, f4, f5, f6, f7⟩, ⟨r1, r2, r3, r4⟩, ⟨d1, d2, d3⟩, ⟨v0, v1, v6, v7, v8⟩, ⟨o1, o2, o3⟩, m0, hou⟩ := z
  refine ⟨_, _, c_again G 8 n false h a0 hC hl hF hT, ⟨_, a0⟩, fun h1 hf p => ?_⟩
  obtain ⟨P1, P2, P3, P4, P5⟩ := p
  have m1 := hf.at (by decide) m0
  obtain ⟨b3, b4, b5, hM, b7, b8, b9, b10, b11, b12, b13, b14, b15, hBv, b16, b17, b18⟩ := (zz.2.1).fr hf (by decide)
  refine ⟨_, _, c_magain G 9 n false _ m1 b8 b12 b15 b13 b14 p6, ⟨_, m1⟩, fun h2 hg q => ?_⟩
  obtain ⟨hm, y8, y12, y15, y13, y14⟩ := q
  obtain ⟨b3, b4, b5, hM, b7, b8, b9, b10, b11, b12, b13, b14, b15, hBv, b16, b17, b18⟩ := zz.2.1
  have hA : g_fr [0, 6, 12, 16, 17, 120, 122, 142, 148, 152, 153, 154, 155] h h2 := (hf.mono (by decide)).tr hg (by decide)
  exact ⟨_, ⟨_, _, _, _, _, _, _, _, _, _, _, _, _, _, _, _, _, _, _, _, _, _, _, _, _, _, _, _, _, _, _, _, _, _, _, _, _, _, e, _, _, _, _, ⟨hg.at (by decide) P1, hs.fr hA (by decide), hS.fr hA (by decide), (P2 c).fr hg (by decide) (by decide), P3.fr hg (by decide), P5.fr hg (by decide) (by decide), Tk.z, hR.fr hA (by decide), (fun q => absurd rfl q), P4.fr hg (by decide) (by decide) (by decide), hO.fr hA (by decide), hQ.fr hA (by decide) (by decide) (by decide) (by decide) (by decide)⟩, ⟨hA.at (by decide) b3, hA.at (by decide) b4, hA.at (by decide) b5, hM.fr hA (by decide), hA.at (by decide) b7, y8, hA.at (by decide) b9, hA.at (by decide) b10, hA.at (by decide) b11, y12, y13, y14, y15, hBv.fr hA (by decide) (by decide), hA.at (by decide) b16, hA.at (by decide) b17, hA.at (by decide) b18⟩, zz.2.2.1, zz.2.2.2.1, ⟨pk, pdg, pc, by decide, pcm, psd, pv, pwn, fun x => fe_l (pwM x), fun q => absurd rfl q⟩, ⟨Nat.le_refl _, Nat.zero_le _, fun q => absurd q (by decide), fun q => absurd q (by decide), fun k hk => absurd hk (by omega), l6, fun k hk => absurd hk (Nat.not_lt_zero k), fun b hb => rsf_i ⟨Nat.zero_le b, hb⟩, fun b hb => rcs_i ⟨Nat.zero_le b, hb⟩, fun _ => ⟨rfl, rfl, rfl⟩⟩, ⟨fun x => fe_l (f1 x), f2, fun x hx => by rw [fe_i hx, fe_i hx, if_pos rfl], fun x => Nat.lt_of_le_of_lt (fe_l (Nat.le_refl _)) (f4 x), (cz_0 (fun x hx => fe_i (by omega))).symm, by decide, fun _ x hx => fe_i hx⟩, ⟨by decide, fun _ => rfl, fun q => absurd rfl q, fun k hk => absurd hk (Nat.not_lt_zero k)⟩, ⟨fun x _ => fe_8 d1 x, fun a b _ => by rw [fe_8 d1, fe_8 d1]; exact Nat.zero_le _, fun _ k hk => absurd hk (Nat.not_lt_zero k)⟩, ⟨v0, v1, v6, v7, fun q => absurd rfl q⟩, zz.2.2.2.2.2.2.2.2.2.2.1, hm, hA.at (by decide) hou⟩⟩
theorem pu_in_cg {f g : Nat → Nat} {a j C : Nat} (h : ∀ c, c < C → f c = g c) (ha : a < C) (hj : j ≤ C) (z : Nat × (Nat → Nat) × (Nat → Nat)) : pu_in f a j z = pu_in g a j z := by
  induction j with
  | zero => rfl
  | succ j ih =>
    show (if f a = 0 ∨ ¬ f j = 0 then pu_in f a j z else ((pu_in f a j z).1 + 1, va_up (pu_in f a j z).2.1 (pu_in f a j z).1 a, va_up (pu_in f a j z).2.2 (pu_in f a j z).1 j)) = (if g a = 0 ∨ ¬ g j = 0 then pu_in g a j z else ((pu_in g a j z).1 + 1, va_up (pu_in g a j z).2.1 (pu_in g a j z).1 a, va_up (pu_in g a j z).2.2 (pu_in g a j z).1 j))
    rw [ih (by omega), h a ha, h j (by omega)]
theorem pu_cg {f g : Nat → Nat} {a C : Nat} (h : ∀ c, c < C → f c = g c) (ha : a ≤ C) : pu f C a = pu g C a := by
  induction a with
  | zero => rfl
  | succ a ih => show pu_in f a C (pu f C a) = pu_in g a C (pu g C a); rw [ih (by omega), pu_in_cg h (by omega) (Nat.le_refl _)]
def pu_ok (f : Nat → Nat) (C : Nat) (z : Nat × (Nat → Nat) × (Nat → Nat)) : Prop := ∀ k, k < z.1 → z.2.1 k < C ∧ z.2.2 k < C ∧ ¬ f (z.2.1 k) = 0 ∧ f (z.2.2 k) = 0
theorem pu_in_ok {f : Nat → Nat} {a j C : Nat} (ha : a < C) (hj : j ≤ C) {z : Nat × (Nat → Nat) × (Nat → Nat)} (hz : pu_ok f C z) : pu_ok f C (pu_in f a j z) := by
  induction j with
  | zero => exact hz
  | succ j ih =>
    have i1 := ih (by omega)
    show pu_ok f C (if f a = 0 ∨ ¬ f j = 0 then pu_in f a j z else ((pu_in f a j z).1 + 1, va_up (pu_in f a j z).2.1 (pu_in f a j z).1 a, va_up (pu_in f a j z).2.2 (pu_in f a j z).1 j))
    by_cases q : f a = 0 ∨ ¬ f j = 0
    · rw [if_pos q]; exact i1
    · rw [if_neg q]
      intro k hk
      have hk' : k < (pu_in f a j z).1 + 1 := hk
      show va_up (pu_in f a j z).2.1 (pu_in f a j z).1 a k < C ∧ va_up (pu_in f a j z).2.2 (pu_in f a j z).1 j k < C ∧ ¬ f (va_up (pu_in f a j z).2.1 (pu_in f a j z).1 a k) = 0 ∧ f (va_up (pu_in f a j z).2.2 (pu_in f a j z).1 j k) = 0
      by_cases e : k = (pu_in f a j z).1
      · rw [e, va_e, va_e]
        exact ⟨ha, by omega, fun y => q (Or.inl y), Classical.not_not.mp (fun y => q (Or.inr y))⟩
      · rw [va_o e, va_o e]
        exact i1 k (by omega)
theorem pu_ok' (f : Nat → Nat) (C a : Nat) (ha : a ≤ C) : pu_ok f C (pu f C a) := by
  induction a with
  | zero => intro k hk; exact absurd hk (Nat.not_lt_zero k)
  | succ a ih => exact pu_in_ok (by omega) (Nat.le_refl _) (ih (by omega))
theorem lmn_eq {N M : Nat} {v w l : Nat → Nat} {m : Nat} (h1 : 1 ≤ m) (h2 : ∀ k, k < m → v (w k) - v (l k) ≤ N) (h3 : ∀ k, k < m → v (w k) - v (l k) ≤ M) : lmn N v w l m = lmn M v w l m := by
  induction m with
  | zero => exact absurd h1 (by decide)
  | succ m ih =>
    show min (lmn N v w l m) (v (w m) - v (l m)) = min (lmn M v w l m) (v (w m) - v (l m))
    by_cases q : m = 0
    · subst q
      have a := h2 0 (by decide)
      have b := h3 0 (by decide)
      show min N _ = min M _
      rw [Nat.min_eq_right a, Nat.min_eq_right b]
    · rw [ih (by omega) (fun k hk => h2 k (by omega)) (fun k hk => h3 k (by omega))]
theorem lmn_md {N : Nat} {v w l : Nat → Nat} {m k : Nat} (h : k < m) : lmn N v w l m ≤ md v w l k := by
  induction m with
  | zero => exact absurd h (by omega)
  | succ m ih =>
    by_cases q : k = m
    · subst q; exact Nat.min_le_right _ _
    · exact Nat.le_trans (Nat.min_le_left _ _) (ih (by omega))
theorem cs_z {sw : Nat → Int32} {m : Nat} (h : ∀ k, k < m → sw k = -1) : cs_ sw m = 0 := by
  induction m with
  | zero => rfl
  | succ m ih => show cs_ sw m + _ = 0; rw [ih (fun k hk => h k (by omega)), if_pos (h m (by omega))]
theorem Tk.cg {h : gH} {m : Nat} {w l w' l' v : Nat → Nat} {sw sw' : Nat → Int32} {ea eb ea' eb' : Nat → Nat} (z : Tk h m w l v sw ea eb) (h1 : ∀ k, k < m → w k = w' k) (h2 : ∀ k, k < m → l k = l' k) (h3 : ∀ k, k < m → sw k = sw' k) (h4 : ∀ k, k < m → ea k = ea' k) (h5 : ∀ k, k < m → eb k = eb' k) : Tk h m w' l' v sw' ea' eb' := fun k hk => by
  rw [← h1 k hk, ← h2 k hk, ← h3 k hk, ← h4 k hk, ← h5 k hk]
  exact z k hk
theorem cw_hw {s v f : Nat → Nat} {i : Nat} (h : ∀ c, c < i → f c = wi s v c) : cw_ f i = hw_ s v i := by
  induction i with
  | zero => rfl
  | succ i ih =>
    show cw_ f i + (if f i = 0 then 0 else 1) = hw_ s v i + wi s v i
    have := wi_le s v i
    rw [ih (fun c hc => h c (by omega)), h i (by omega)]
    split <;> omega
theorem kst_0 {s v : Nat → Nat} {sg k sd : Nat} (h : k_start s v sg k sd = 0) : sg = 0 ∧ fit_ s v := by
  rcases Classical.em (sg = 0 ∧ fit_ s v ∧ (sd = 0 ∨ ¬ k = 0)) with q | q
  · exact ⟨q.1, q.2.1⟩
  · rw [ks_1 q] at h; exact absurd h (by decide)
theorem kst_b {s v : Nat → Nat} {sg k sd : Nat} : k_start s v sg k sd < 2 ^ 31 := by
  rcases Classical.em (sg = 0 ∧ fit_ s v ∧ (sd = 0 ∨ ¬ k = 0)) with q | q
  · rw [ks_0 q]; decide
  · rw [ks_1 q]; decide
set_option maxHeartbeats 4000000 in
set_option maxRecDepth 100000 in
theorem t_start (G : gG) (n : Nat) (h : gH) {cm1 sd1 : Nat} (hc1 : cm1 ≤ 1) (hd1 : sd1 ≤ 1) {kk : Nat} {ou : Nat → Int64} (z : Rel h kk ou) : StV G mL_start mX11_start [.ref 0, .int (nI cm1), .int (nI sd1)] [.ref 142, .int (nI cm1), .int (nI sd1)] n h := by
  obtain ⟨s, v, wn, en, rc, dg, c, bl, ti, df, w, l, fv, ft, bf, wM, tM, ct, O, Bx, S0, se, sw, rI, sI, V, k, m, sg, cm, sd, D, dr, bk, mm, lm, pn, pd, e, fm, fr, A, B, z⟩ := z
  have zz := z
  obtain ⟨⟨a0, hs, hS, hC, hl, hT, hK, hR, hP, hF, hO, hQ⟩, ⟨b3, b4, b5, hM, b7, b8, b9, b10, b11, b12, b13, b14, b15, hBv, b16, b17, b18⟩, ⟨p4, p5, p6, p65, p71, p7, p81, p8, p9, p10, p12, p11⟩, ⟨q1, q2, q3, q4, q5, q6⟩, ⟨pk, pdg, pc, psg, pcm, psd, pv, pwn, pwM, pww⟩, ⟨l1, l2, l3, l4, l5, l6, l7, l8, l9, l10⟩, ⟨f1, f2, f3, f4, f5, f6, f7⟩, ⟨r1, r2, r3, r4⟩, ⟨d1, d2, d3⟩, ⟨v0, v1, v6, v7, v8⟩, ⟨o1, o2, o3⟩, m0, hou⟩ := z
  refine ⟨_, _, w_start G 0 n h (c_start G 1 n h (cm1 := cm1) (sd1 := sd1) a0 (by omega) hs hS hT hR pk p4 p6 p7 pv pwn hc1 hd1) (fun v h' q => ⟨q.1, q.2.1⟩) a0, fun r h1 hf p => ?_⟩
  obtain ⟨hr, ⟨hk, P, hfr⟩ | ⟨hk, rfl⟩⟩ := p
  · have m1 := hf.at (by decide) m0
    obtain ⟨b3, b4, b5, hM, b7, b8, b9, b10, b11, b12, b13, b14, b15, hBv, b16, b17, b18⟩ := (zz.2.1).fr hf (by decide)
    refine ⟨_, _, _, hr, kst_b, c_mstart G 7 n false _ hc1 hd1 m1 b3 b8 b9 b10 b11 hBv pwM p4 p6 p7 p71 pv (by omega) pk, ⟨_, m1⟩, fun h2 hg q => ?_⟩
    obtain ⟨hk2, -⟩ | ⟨-, wn', W', L', S', hm, y8, gw2, yw, y9, y10, y11, yk, hBv2⟩ := q
    · exact absurd hk hk2
    · obtain ⟨rfl, k2, k7, k6, kv, khw⟩ := kst_0 hk
      obtain ⟨rfl, rfl, rfl⟩ := l10 rfl
      obtain ⟨b3, b4, b5, hM, b7, b8, b9, b10, b11, b12, b13, b14, b15, hBv, b16, b17, b18⟩ := zz.2.1
      obtain ⟨-, -, P1, P2, P3, P4, P5, P6⟩ := P
      have hA : g_fr [0, 3, 17, 18, 19, 20, 21, 22, 23, 24, 25, 26, 27, 28, 29, 30, 31, 32, 33, 34, 35, 36, 37, 38, 39, 40, 41, 42, 43, 44, 45, 46, 47, 48, 49, 50, 51, 52, 53, 54, 55, 56, 57, 58, 59, 60, 61, 62, 63, 64, 65, 66, 67, 68, 69, 70, 71, 72, 73, 74, 75, 76, 77, 78, 79, 80, 81, 82, 83, 84, 85, 86, 87, 88, 89, 90, 91, 92, 93, 94, 95, 96, 97, 98, 99, 100, 101, 102, 103, 104, 105, 106, 107, 108, 109, 110, 111, 112, 113, 114, 115, 116, 117, 118, 119, 142, 148, 149, 150, 151, 156, 157] h h2 := (hf.mono (by decide)).tr hg (by decide)
      have hdf : ∀ x, df x = 0 := fun x => by have h1 : df x + df (x + 1) ≤ 0 := d2 x (x + 1) (by omega); omega
      have ew : ∀ c, c < s 4 → wm s v wn (s 4) c = wn' c := fun c hc => (show wm s v wn (s 4) c = wi s v c from if_pos hc).trans (yw c hc).symm
      have ep : pu (wm s v wn (s 4)) (s 4) (s 4) = (pu wn' (s 4) (s 4)) := pu_cg ew (Nat.le_refl _)
      rw [ep] at P2 P3
      have hmle : (pu wn' (s 4) (s 4)).1 ≤ 16 := pu_le wn' p4
      have hok := pu_ok' wn' (s 4) (s 4) (Nat.le_refl _)
      have hcw := cw_hw yw
      have hcl := cw_cl wn' (s 4)
      have hm1 : 1 ≤ (pu wn' (s 4) (s 4)).1 := by
        rw [pu_n]
        exact Nat.mul_pos (by omega) (by omega)
      have hdm : ∀ k, k < (pu wn' (s 4) (s 4)).1 → W' k < s 4 ∧ L' k < s 4 ∧ v (L' k) < v (W' k) ∧ v (W' k) ≤ s 6 := fun k hk => by
        obtain ⟨e1, e2, -⟩ := yk k hk
        obtain ⟨x1, x2, x3, x4⟩ := hok k hk
        rw [← e1] at x1 x3
        rw [← e2] at x2 x4
        have b1 := wi_le s v (W' k)
        rw [yw _ x1] at x3
        rw [yw _ x2] at x4
        exact ⟨x1, x2, wi_v (by omega) x4, kv _ x1⟩
      have elm : lmn (s 6) v (pu wn' (s 4) (s 4)).2.1 (pu wn' (s 4) (s 4)).2.2 (pu wn' (s 4) (s 4)).1 = lmn 1000001 v W' L' (pu wn' (s 4) (s 4)).1 := by
        rw [lmn_congr (fun k hk => (yk k hk).1.symm) (fun k hk => (yk k hk).2.1.symm)]
        exact lmn_eq hm1 (fun k hk => by have := hdm k hk; omega) (fun k hk => by have := hdm k hk; omega)
      rw [elm] at P2
      have hlm6 : lmn 1000001 v W' L' (pu wn' (s 4) (s 4)).1 ≤ s 6 := by rw [← elm]; exact lmn_le
      have hlmE : lmn 1000001 v W' L' (pu wn' (s 4) (s 4)).1 = lmn 1000001 v W' L' (pu wn' (s 4) (s 4)).1 := rfl
      have hall : ∀ k, k < (pu wn' (s 4) (s 4)).1 → W' k < s 4 ∧ L' k < s 4 ∧ v (L' k) < v (W' k) ∧ v (W' k) ≤ 20000 ∧ lmn 1000001 v W' L' (pu wn' (s 4) (s 4)).1 ≤ md v W' L' k := fun k hk => by
        obtain ⟨x1, x2, x3, x4⟩ := hdm k hk
        exact ⟨x1, x2, x3, by omega, lmn_md hk⟩
      have hcs : cs_ S' (pu wn' (s 4) (s 4)).1 = 0 := cs_z (fun k hk => (yk k hk).2.2)
      rw [← hcs] at P2
      replace P3 := P3.cg (fun k hk => (yk k hk).1.symm) (fun k hk => (yk k hk).2.1.symm) (sw' := S') (ea' := eF cm1 df W') (eb' := eF cm1 df L') (fun k hk => (yk k hk).2.2.symm) (fun k hk => by unfold eF; rw [hdf]; split <;> rfl) (fun k hk => by unfold eF; rw [hdf]; split <;> rfl)
      have gw1 : ∀ x, wm s v wn (s 4) x ≤ 1 := fun x => by
        unfold wm
        split
        · exact wi_le s v x
        · exact pwn x
      have gw3 : ∀ x, x < s 4 → wn' x = wm s v wn (s 4) x := fun x hx => (ew x hx).symm
      exact ⟨_, ⟨_, _, _, _, _, _, _, _, _, _, _, _, _, _, _, _, _, _, _, _, _, _, _, _, _, _, _, _, _, _, _, _, _, _, _, _, _, _, _, _, _, _, _, ⟨hg.at (by decide) P1, P4.fr hg (by decide), hS.fr hA (by decide), hC.fr hA (by decide) (by decide), hl.fr hA (by decide), (P2.fr hg (by decide) (by decide)), (P3.fr hg (by decide) hmle), P5.fr hg (by decide), (fun _ => P6.fr hg (by decide)), hF.fr hA (by decide) (by decide) (by decide), hO.fr hA (by decide), hQ.fr hA (by decide) (by decide) (by decide) (by decide) (by decide)⟩, ⟨hA.at (by decide) b3, hA.at (by decide) b4, hA.at (by decide) b5, hM.fr hA (by decide), hA.at (by decide) b7, y8, y9, y10, y11, hA.at (by decide) b12, hA.at (by decide) b13, hA.at (by decide) b14, hA.at (by decide) b15, hBv2, hA.at (by decide) b16, hA.at (by decide) b17, hA.at (by decide) b18⟩, zz.2.2.1, zz.2.2.2.1, ⟨pk, pdg, pc, by decide, hc1, hd1, pv, gw1, gw2, fun _ => gw3⟩, ⟨Nat.le_refl _, Nat.zero_le _, fun _ => p81, fun q => absurd q (by decide), l5, l6, l7, l8, l9, fun q => absurd q (by decide)⟩, ⟨f1, f2, f3, f4, f5, f6, fun q => absurd q (by decide)⟩, ⟨hmle, fun q => absurd q (by decide), fun _ => ⟨hm1, k6, hlm6, hlmE⟩, hall⟩, ⟨d1, fun a b hab => Nat.le_trans (d2 a b hab) (Nat.zero_le _), fun _ k hk _ => by rw [hdf, hdf]; exact su_0 (by have := (hall k hk).2.2.1; omega) (Nat.le_of_lt (hall k hk).2.2.1) p9⟩, ⟨v0, v1, rfl, rfl, fun _ => ⟨Nat.one_le_two_pow, Nat.one_le_two_pow, Nat.zero_le _⟩⟩, zz.2.2.2.2.2.2.2.2.2.2.1, hm, hA.at (by decide) hou⟩⟩
  · refine ⟨_, _, _, hr, kst_b, c_mstart G 7 n false _ hc1 hd1 m0 b3 b8 b9 b10 b11 hBv pwM p4 p6 p7 p71 pv (by omega) pk, ⟨_, m0⟩, fun h2 hg q => ?_⟩
    obtain ⟨hk2, hm, wn', y8, y81, y82, hg2⟩ | ⟨hk2, -⟩ := q
    · exact ⟨_, ⟨_, _, _, _, _, _, _, _, _, _, _, _, _, _, _, _, _, _, _, _, _, _, _, _, _, _, _, _, _, _, _, _, _, _, _, _, _, _, _, _, _, _, _, (zz.1).fr r1 hg2 (by decide), ⟨hg2.at (by decide) b3, hg2.at (by decide) b4, hg2.at (by decide) b5, hM.fr hg2 (by decide), hg2.at (by decide) b7, y8, hg2.at (by decide) b9, hg2.at (by decide) b10, hg2.at (by decide) b11, hg2.at (by decide) b12, hg2.at (by decide) b13, hg2.at (by decide) b14, hg2.at (by decide) b15, hBv.fr hg2 (by decide) (by decide), hg2.at (by decide) b16, hg2.at (by decide) b17, hg2.at (by decide) b18⟩, zz.2.2.1, zz.2.2.2.1, ⟨pk, pdg, pc, psg, pcm, psd, pv, pwn, y81, fun q x hx => by rw [y82 q]; exact pww q x hx⟩, zz.2.2.2.2.2.1, zz.2.2.2.2.2.2.1, zz.2.2.2.2.2.2.2.1, zz.2.2.2.2.2.2.2.2.1, zz.2.2.2.2.2.2.2.2.2.1, zz.2.2.2.2.2.2.2.2.2.2.1, hm, hg2.at (by decide) hou⟩⟩
    · exact absurd hk2 hk
