theorem kc_0 {s : Nat → Nat} {sg : Nat} {x : Int32} (h : k_candidate s sg x = 0) : sg = 0 ∧ s 4 < 8 ∧ un x ≤ 1000000 := by
  unfold k_candidate at h
  have hu_x := un_b x; (repeat' split at h) <;> first | (exact absurd h (by decide)) | (simp only [i_lt, i_le, i_eq, it0, itm, Classical.not_not, not_or, not_and, nI_toInt (show 0 < 2147483648 by first | decide | omega), nI_toInt (show 1000000 < 2147483648 by first | decide | omega)] at *; omega)
theorem kb_0 {s : Nat → Nat} {sg : Nat} {x : Int32} (h : k_batch s sg x = 0) : sg = 0 ∧ 1 ≤ un x ∧ un x ≤ 4000 ∧ s 5 < 64 ∧ s 6 + un x ≤ 20000 := by
  unfold k_batch at h
  have hu_x := un_b x; (repeat' split at h) <;> first | (exact absurd h (by decide)) | (simp only [i_lt, i_le, i_eq, it0, itm, Classical.not_not, not_or, not_and, nI_toInt (show 1 < 2147483648 by first | decide | omega), nI_toInt (show 4000 < 2147483648 by first | decide | omega)] at *; omega)
theorem kset_0 {sg : Nat} {x y : Int32} (h : k_set sg x y = 0) : sg = 0 ∧ ((un x = 0 ∧ 1 ≤ un y ∧ un y ≤ 7) ∨ (¬ un x = 0 ∧ 1 ≤ un y ∧ un y ≤ 200)) := by
  rw [k_set_eq] at h
  have hu_x := un_b x
  have hu_y := un_b y
  by_cases q : un x = 0
  · (repeat' split at h) <;> first | (exact absurd h (by decide)) | (simp only [i_lt, i_le, i_eq, it0, Classical.not_not, nI_toInt (show 1 < 2147483648 by decide), nI_toInt (show 2 < 2147483648 by decide), nI_toInt (show 7 < 2147483648 by decide), nI_toInt (show 200 < 2147483648 by decide)] at *; omega)
  · (repeat' split at h) <;> first | (exact absurd h (by decide)) | (simp only [i_lt, i_le, i_eq, it0, Classical.not_not, nI_toInt (show 1 < 2147483648 by decide), nI_toInt (show 2 < 2147483648 by decide), nI_toInt (show 7 < 2147483648 by decide), nI_toInt (show 200 < 2147483648 by decide)] at *; omega)
theorem kf_0 {sg : Nat} {x y z : Int32} (h : k_fraction sg x y z = 0) : sg = 0 ∧ ((un x = 0 ∧ un y < un z ∧ un z ≤ 1000000) ∨ (¬ un x = 0 ∧ un z < un y ∧ un y ≤ 1000000)) := by
  unfold k_fraction at h
  have hu_x := un_b x
  have hu_y := un_b y
  have hu_z := un_b z
  by_cases q : un x = 0
  · simp only [ifp] at h
    (repeat' split at h) <;> first | (exact absurd h (by decide)) | (simp only [i_lt, i_le, i_eq, it0, Classical.not_not, nI_toInt (show 1 < 2147483648 by decide), nI_toInt (show 2 < 2147483648 by decide), nI_toInt (show 1000000 < 2147483648 by decide)] at *; omega)
  · simp only [ifp] at h
    (repeat' split at h) <;> first | (exact absurd h (by decide)) | (simp only [i_lt, i_le, i_eq, it0, Classical.not_not, nI_toInt (show 1 < 2147483648 by decide), nI_toInt (show 2 < 2147483648 by decide), nI_toInt (show 1000000 < 2147483648 by decide)] at *; omega)
theorem kr_0 {s : Nat → Nat} {sg : Nat} {x y z : Int32} (h6 : s 6 ≤ 20000) (h4 : s 4 ≤ 8) (h : k_record s sg x y z = 0) : sg = 0 ∧ un x + un y ≤ s 6 := by
  unfold k_record at h
  have hu_x := un_b x; have hu_y := un_b y; (repeat' split at h) <;> first | (exact absurd h (by decide)) | (simp only [i_lt, i_le, i_eq, it0, itm, Classical.not_not, not_or, not_and, nI_toInt (show 1 < 2147483648 by first | decide | omega), nI_toInt (show s 6 < 2147483648 by first | decide | omega), nI_toInt (show s 4 < 2147483648 by first | decide | omega)] at *; omega)
theorem kd_0 {sg k : Nat} {x : Int32} (h : k_digit sg k x = 0) : sg = 0 ∧ un x ≤ 9 ∧ k < 20 := by
  unfold k_digit at h
  have hu_x := un_b x; (repeat' split at h) <;> first | (exact absurd h (by decide)) | (simp only [i_lt, i_le, i_eq, it0, itm, Classical.not_not, not_or, not_and, nI_toInt (show 0 < 2147483648 by first | decide | omega), nI_toInt (show 9 < 2147483648 by first | decide | omega)] at *; omega)
theorem kco_0 {m : Nat} {y : Int32} (hm : m ≤ 4000) (h : k_coins m y = 0) : un y ≤ 32 ∧ m + un y ≤ 4000 := by
  unfold k_coins at h
  have hu_y := un_b y; (repeat' split at h) <;> first | (exact absurd h (by decide)) | (simp only [i_lt, i_le, i_eq, it0, itm, Classical.not_not, not_or, not_and, nI_toInt (show 0 < 2147483648 by first | decide | omega), nI_toInt (show 32 < 2147483648 by first | decide | omega)] at *; omega)
theorem cz_0 {ct : Nat → Nat} {i : Nat} (h : ∀ x, x < i → ct x = 0) : cz ct i = 0 := by
  induction i with
  | zero => rfl
  | succ i ih => show cz ct i + _ = 0; rw [ih (fun x hx => h x (by omega)), if_pos (h i (by omega))]
theorem Tk.z {h : gH} {w l v : Nat → Nat} {sw : Nat → Int32} {ea eb : Nat → Nat} : Tk h 0 w l v sw ea eb := fun k hk => absurd hk (by omega)
theorem Su.vy {h : gH} {s v wn en rc : Nat → Nat} {c y : Nat} {x : Int32} (e : x = nI y) (z : Su h s (va_up v c y) wn en rc) : Su h s (va_up v c (un x)) wn en rc := by
  obtain ⟨z1, z2, z3⟩ := z
  refine ⟨z1, ?_, z3⟩
  have e2 : (fun k => nI (va_up v c y k)) = fun k => nI (va_up v c (un x) k) := by
    funext k
    unfold va_up
    by_cases q : k = c
    · rw [if_pos q, if_pos q, nI_un, e]
    · rw [if_neg q, if_neg q]
  rw [z2, e2]
theorem Co.congr {h : gH} {c c' : Nat → Nat} {m : Nat} (z : Co h c m) (e : ∀ k, k < m → c k = c' k) : Co h c' m := by
  obtain ⟨f0, rg, z1, z2, z3, z4, z5, z6⟩ := z
  exact ⟨f0, rg, z1, z2, z3, z4, fun k hk => (z5 k hk).trans (e k hk), z6⟩
theorem va_e {v : Nat → Nat} {c x : Nat} : va_up v c x c = x := if_pos rfl
theorem va_o {v : Nat → Nat} {c x k : Nat} (h : ¬ k = c) : va_up v c x k = v k := if_neg h
theorem va_le {v : Nat → Nat} {c x b : Nat} (h : ∀ k, v k ≤ b) (hx : x ≤ b) (k : Nat) : va_up v c x k ≤ b := by
  by_cases q : k = c
  · rw [q, va_e]; exact hx
  · rw [va_o q]; exact h k
theorem va_lt {v : Nat → Nat} {c x b : Nat} (h : ∀ k, v k < b) (hx : x < b) (k : Nat) : va_up v c x k < b := by
  by_cases q : k = c
  · rw [q, va_e]; exact hx
  · rw [va_o q]; exact h k
theorem rsf_i {f : Nat → Int32} {a b k : Nat} {x : Int32} (h : a ≤ k ∧ k < b) : rsf f a b x k = x := if_pos h
theorem rsf_o {f : Nat → Int32} {a b k : Nat} {x : Int32} (h : ¬ (a ≤ k ∧ k < b)) : rsf f a b x k = f k := if_neg h
theorem rcs_i {f : Nat → Nat} {a b k x : Nat} (h : a ≤ k ∧ k < b) : rc_set f a b x k = x := if_pos h
theorem rcs_o {f : Nat → Nat} {a b k x : Nat} (h : ¬ (a ≤ k ∧ k < b)) : rc_set f a b x k = f k := if_neg h
set_option maxHeartbeats 4000000 in
set_option maxRecDepth 100000 in
theorem t_candidate (G : gG) (n : Nat) (h : gH) {x : Int32} {kk : Nat} {ou : Nat → Int64} (z : Rel h kk ou) : StI G mL_candidate mX11_candidate [.ref 0, .int x, .ref 167] [.ref 142, .int x] n h := by
  obtain ⟨s, v, wn, en, rc, dg, c, bl, ti, df, w, l, fv, ft, bf, wM, tM, ct, O, Bx, S0, se, sw, rI, sI, V, k, m, sg, cm, sd, D, dr, bk, mm, lm, pn, pd, e, fm, fr, A, B, z⟩ := z
  have zz := z
  obtain ⟨⟨a0, hs, hS, hC, hl, hT, hK, hR, hP, hF, hO, hQ⟩, ⟨b3, b4, b5, hM, b7, b8, b9, b10, b11, b12, b13, b14, b15, hBv, b16, b17, b18⟩, ⟨p4, p5, p6, p65, p71, p7, p81, p8, p9, p10, p12, p11⟩, ⟨q1, q2, q3, q4, q5, q6⟩, ⟨pk, pdg, pc, psg, pcm, psd, pv, pwn, pwM, pww⟩, ⟨l1, l2, l3, l4, l5, l6, l7, l8, l9, l10⟩, ⟨f1, f2, f3, f4, f5, f6, f7⟩, ⟨r1, r2, r3, r4⟩, ⟨d1, d2, d3⟩, ⟨v0, v1, v6, v7, v8⟩, ⟨o1, o2, o3⟩, m0, hou⟩ := z
  refine ⟨_, _, w_candidate G 0 n h (c_candidate G 1 n h (x := x) a0 hs (by omega) (by omega)) (fun v h' q => ⟨q.1, _, q.2.1⟩) a0 hou (by decide), fun r h1 hf p => ?_⟩
  obtain ⟨hr, ⟨hk, h1', w0, P, hfr, rfl⟩ | ⟨hk, rfl⟩⟩ := p
  · have kz := kc_0 hk
    obtain ⟨rfl, kz⟩ := kz
    have hmm : mm = 0 := r2 rfl
    subst hmm
    have m1 := hf.at (by decide) m0
    obtain ⟨b3, b4, b5, hM, b7, b8, b9, b10, b11, b12, b13, b14, b15, hBv, b16, b17, b18⟩ := (zz.2.1).fr hf (by decide)
    refine ⟨_, _, _, hr, (by unfold k_candidate; (repeat' split) <;> decide), c_mcandidate G 9 n false _ (x := x) m1 b3 p4 (by omega), ⟨_, m1⟩, fun b h2 hg q => ?_⟩
    obtain ⟨hk2, -⟩ | ⟨-, hb, hm, hv2⟩ := q
    · exact absurd hk hk2
    · obtain ⟨b3, b4, b5, hM, b7, b8, b9, b10, b11, b12, b13, b14, b15, hBv, b16, b17, b18⟩ := zz.2.1
      have hA : g_fr [1, 2, 142, 143, 167] h h2 := (hf.mono (by decide)).tr hg (by decide)
      have hB : g_fr [142, 143, 167] h1' h2 := (g_fr.rf.up (by decide)).tr hg (by decide)
      obtain ⟨-, -, y, hy, hsu⟩ := id P
      refine ⟨_, ⟨_, _, _, _, _, _, _, _, _, _, _, _, _, _, _, _, _, _, _, _, _, _, _, _, _, _, _, _, _, _, _, _, _, _, _, _, _, _, _, _, _, _, _, ⟨hA.at (by decide) a0, (Su.vy hy hsu).fr hB (by decide), hS.fr hA (by decide), hC.fr hA (by decide) (by decide), hl.fr hA (by decide), hT.fr hA (by decide) (by decide), Tk.z, hR.fr hA (by decide), (fun q => (hP q).fr hA (by decide)), hF.fr hA (by decide) (by decide) (by decide), hO.fr hA (by decide), hQ.fr hA (by decide) (by decide) (by decide) (by decide) (by decide)⟩, ⟨hv2, hA.at (by decide) b4, hA.at (by decide) b5, hM.fr hA (by decide), hA.at (by decide) b7, hA.at (by decide) b8, hA.at (by decide) b9, hA.at (by decide) b10, hA.at (by decide) b11, hA.at (by decide) b12, hA.at (by decide) b13, hA.at (by decide) b14, hA.at (by decide) b15, hBv.fr hA (by decide) (by decide), hA.at (by decide) b16, hA.at (by decide) b17, hA.at (by decide) b18⟩, ⟨(by show s 4 + 1 ≤ 8; omega), p5, p6, p65, p71, p7, p81, p8, p9, p10, p12, p11⟩, ⟨q1, q2, q3, q4, q5, q6⟩, ⟨pk, pdg, pc, psg, pcm, psd, va_lt pv (by omega), pwn, pwM, fun q => absurd rfl q⟩, ⟨l1, l2, l3, l4, l5, l6, l7, l8, l9, l10⟩, ⟨f1, f2, f3, f4, (by show fm = cz ct (s 4 + 1); rw [f5, cz_0 (fun x hx => f7 rfl x (by omega)), cz_0 (fun x hx => f7 rfl x (by omega))]), f6, f7⟩, ⟨r1, r2, fun q => absurd rfl q, fun k hk => absurd hk (by omega)⟩, ⟨d1, d2, fun _ k hk => absurd hk (by omega)⟩, zz.2.2.2.2.2.2.2.2.2.1, zz.2.2.2.2.2.2.2.2.2.2.1, hm, hg.at (by decide) g_eq⟩, fun _ => ?_⟩
      rw [vp_up0]
      have e2 : w0 = b := by
        exact (Value.int.inj (Option.some.inj P.2.1)).trans hb.symm
      rw [e2]
  · refine ⟨_, _, _, hr, (by unfold k_candidate; (repeat' split) <;> decide), c_mcandidate G 9 n false _ (x := x) m0 b3 p4 (by omega), ⟨_, m0⟩, fun b h2 hg q => ?_⟩
    obtain ⟨hk2, hm, hg2⟩ | ⟨hk2, -⟩ := q
    · exact ⟨_, zz.same hg2 hm, fun q => absurd q hk⟩
    · exact absurd hk2 hk
set_option maxHeartbeats 4000000 in
set_option maxRecDepth 100000 in
theorem t_batch (G : gG) (n : Nat) (h : gH) {x : Int32} {kk : Nat} {ou : Nat → Int64} (z : Rel h kk ou) : StI G mL_batch mX11_batch [.ref 0, .int x, .ref 167] [.ref 142, .int x] n h := by
  obtain ⟨s, v, wn, en, rc, dg, c, bl, ti, df, w, l, fv, ft, bf, wM, tM, ct, O, Bx, S0, se, sw, rI, sI, V, k, m, sg, cm, sd, D, dr, bk, mm, lm, pn, pd, e, fm, fr, A, B, z⟩ := z
  have zz := z
  obtain ⟨⟨a0, hs, hS, hC, hl, hT, hK, hR, hP, hF, hO, hQ⟩, ⟨b3, b4, b5, hM, b7, b8, b9, b10, b11, b12, b13, b14, b15, hBv, b16, b17, b18⟩, ⟨p4, p5, p6, p65, p71, p7, p81, p8, p9, p10, p12, p11⟩, ⟨q1, q2, q3, q4, q5, q6⟩, ⟨pk, pdg, pc, psg, pcm, psd, pv, pwn, pwM, pww⟩, ⟨l1, l2, l3, l4, l5, l6, l7, l8, l9, l10⟩, ⟨f1, f2, f3, f4, f5, f6, f7⟩, ⟨r1, r2, r3, r4⟩, ⟨d1, d2, d3⟩, ⟨v0, v1, v6, v7, v8⟩, ⟨o1, o2, o3⟩, m0, hou⟩ := z
  refine ⟨_, _, w_batch G 0 n h (c_batch G 1 n h (x := x) a0 (by omega) hs p5 p6) (fun v h' q => ⟨q.1, _, q.2.1⟩) a0 hou (by decide), fun r h1 hf p => ?_⟩
  obtain ⟨hr, ⟨hk, h1', w0, P, hfr, rfl⟩ | ⟨hk, rfl⟩⟩ := p
  · have kz := kb_0 hk
    obtain ⟨rfl, kz⟩ := kz
    have hmm : mm = 0 := r2 rfl
    subst hmm
    have m1 := hf.at (by decide) m0
    obtain ⟨b3, b4, b5, hM, b7, b8, b9, b10, b11, b12, b13, b14, b15, hBv, b16, b17, b18⟩ := (zz.2.1).fr hf (by decide)
    refine ⟨_, _, _, hr, (by unfold k_batch; (repeat' split) <;> decide), c_mbatch G 9 n false _ (x := x) m1 b4 b5 b13 b14 p5 p6 (by omega), ⟨_, m1⟩, fun b h2 hg q => ?_⟩
    obtain ⟨hk2, -⟩ | ⟨-, hb, hm, y4, y5, y13, y14⟩ := q
    · exact absurd hk hk2
    · obtain ⟨b3, b4, b5, hM, b7, b8, b9, b10, b11, b12, b13, b14, b15, hBv, b16, b17, b18⟩ := zz.2.1
      have hA : g_fr [1, 4, 142, 144, 145, 153, 154, 167] h h2 := (hf.mono (by decide)).tr hg (by decide)
      have hB : g_fr [142, 144, 145, 153, 154, 167] h1' h2 := (g_fr.rf.up (by decide)).tr hg (by decide)
      have hD0 : D = 0 := (l10 rfl).1
      have gB1 : ∀ i, i + 1 < s 5 + 1 → va_up bf (s 5) (s 6) (i + 1) = va_up en (s 5) (s 6 + un x) i := fun i hi => by
        rw [va_o (show ¬ i = s 5 by omega)]
        by_cases q : i + 1 = s 5
        · rw [q, va_e]
          have := q1 (by omega)
          rw [← q, Nat.add_sub_cancel] at this
          exact this.symm
        · rw [va_o q]; exact q2 i (by omega)
      have gB2 : ∀ b, b < s 6 + un x → rsf rI (s 6) (s 6 + un x) (-1) b = nI (rc b) - nI 1 := fun b hb => by
        by_cases q : s 6 ≤ b ∧ b < s 6 + un x
        · rw [rsf_i q, q6 b q.1]; decide
        · rw [rsf_o q]; exact q5 b (by omega)
      have gB3 : ∀ b, b < s 6 + un x → rsf sI (s 6) (s 6 + un x) (-2) b = seC bl se D b := fun b hb => by
        by_cases q : s 6 ≤ b ∧ b < s 6 + un x
        · rw [rsf_i q, hD0]; rfl
        · rw [rsf_o q]; exact l8 b (by omega)
      have gB4 : ∀ b, b < s 6 + un x → rc_set tM (s 6) (s 6 + un x) 0 b = tiC bl ti D b := fun b hb => by
        by_cases q : s 6 ≤ b ∧ b < s 6 + un x
        · rw [rcs_i q, hD0]; rfl
        · rw [rcs_o q]; exact l9 b (by omega)
      refine ⟨_, ⟨_, _, _, _, _, _, _, _, _, _, _, _, _, _, _, _, _, _, _, _, _, _, _, _, _, _, _, _, _, _, _, _, _, _, _, _, _, _, _, _, _, _, _, ⟨hA.at (by decide) a0, (P.2.2).fr hB (by decide), hS.fr hA (by decide), hC.fr hA (by decide) (by decide), hl.fr hA (by decide), hT.fr hA (by decide) (by decide), hK.fr hA (by decide) r1, hR.fr hA (by decide), (fun q => (hP q).fr hA (by decide)), hF.fr hA (by decide) (by decide) (by decide), hO.fr hA (by decide), hQ.fr hA (by decide) (by decide) (by decide) (by decide) (by decide)⟩, ⟨hA.at (by decide) b3, y4, y5, hM.fr hA (by decide), hA.at (by decide) b7, hA.at (by decide) b8, hA.at (by decide) b9, hA.at (by decide) b10, hA.at (by decide) b11, hA.at (by decide) b12, y13, y14, hA.at (by decide) b15, hBv.fr hA (by decide) (by decide), hA.at (by decide) b16, hA.at (by decide) b17, hA.at (by decide) b18⟩, ⟨p4, (by show s 5 + 1 ≤ 64; omega), (by show s 6 + un x ≤ 20000; omega), (fun _ => by show 1 ≤ s 5 + 1; omega), p71, p7, p81, p8, p9, p10, p12, p11⟩, ⟨fun _ => (by show va_up en (s 5) (s 6 + un x) (s 5 + 1 - 1) = s 6 + un x; rw [Nat.add_sub_cancel]; exact va_e), (fun i hi => gB1 i hi), va_lt q3 (by omega), va_lt q4 (by omega), (fun b hb => gB2 b hb), fun b hb => q6 b (by have : s 6 + un x ≤ b := hb; omega)⟩, ⟨pk, pdg, pc, psg, pcm, psd, pv, pwn, pwM, fun q => absurd rfl q⟩, ⟨l1, l2, l3, l4, fun k hk => absurd hk (by omega), l6, l7, (fun b hb => gB3 b hb), (fun b hb => gB4 b hb), l10⟩, ⟨f1, f2, f3, f4, f5, f6, f7⟩, ⟨r1, r2, fun q => absurd rfl q, fun k hk => absurd hk (by omega)⟩, ⟨d1, d2, fun _ k hk => absurd hk (by omega)⟩, zz.2.2.2.2.2.2.2.2.2.1, zz.2.2.2.2.2.2.2.2.2.2.1, hm, hg.at (by decide) g_eq⟩, fun _ => ?_⟩
      rw [vp_up0]
      have e2 : w0 = b := by
        exact (Value.int.inj (Option.some.inj P.2.1)).trans hb.symm
      rw [e2]
  · refine ⟨_, _, _, hr, (by unfold k_batch; (repeat' split) <;> decide), c_mbatch G 9 n false _ (x := x) m0 b4 b5 b13 b14 p5 p6 (by omega), ⟨_, m0⟩, fun b h2 hg q => ?_⟩
    obtain ⟨hk2, hm, hg2⟩ | ⟨hk2, -⟩ := q
    · exact ⟨_, zz.same hg2 hm, fun q => absurd q hk⟩
    · exact absurd hk2 hk
