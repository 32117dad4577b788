set_option maxHeartbeats 4000000 in
set_option maxRecDepth 100000 in
theorem t_setw (G : gG) (n : Nat) (h : gH) {x y : Int32} {kk : Nat} {ou : Nat → Int64} (z : Rel h kk ou) : StI G mL_set mX11_set [.ref 0, .int x, .int y, .ref 167] [.ref 142, .int x, .int y] n h := by
  obtain ⟨s, v, wn, en, rc, dg, c, bl, ti, df, w, l, fv, ft, bf, wM, tM, ct, O, Bx, S0, se, sw, rI, sI, V, k, m, sg, cm, sd, D, dr, bk, mm, lm, pn, pd, e, fm, fr, A, B, z⟩ := z
  have zz := z
  obtain ⟨⟨a0, hs, hS, hC, hl, hT, hK, hR, hP, hF, hO, hQ⟩, ⟨b3, b4, b5, hM, b7, b8, b9, b10, b11, b12, b13, b14, b15, hBv, b16, b17, b18⟩, ⟨p4, p5, p6, p65, p71, p7, p81, p8, p9, p10, p12, p11⟩, ⟨q1, q2, q3, q4, q5, q6⟩, ⟨pk, pdg, pc, psg, pcm, psd, pv, pwn, pwM, pww⟩, ⟨l1, l2, l3, l4, l5, l6, l7, l8, l9, l10⟩, ⟨f1, f2, f3, f4, f5, f6, f7⟩, ⟨r1, r2, r3, r4⟩, ⟨d1, d2, d3⟩, ⟨v0, v1, v6, v7, v8⟩, ⟨o1, o2, o3⟩, m0, hou⟩ := z
  refine ⟨_, _, w_set G 0 n h (c_set G 1 n h (x := x) (y := y) a0 (by omega) hs) (fun v h' q => ⟨q.1, _, q.2.1⟩) a0 hou (by decide), fun r h1 hf p => ?_⟩
  obtain ⟨hr, ⟨hk, h1', w0, P, hfr, rfl⟩ | ⟨hk, rfl⟩⟩ := p
  · have kz := kset_0 hk
    obtain ⟨rfl, kz⟩ := kz
    have hmm : mm = 0 := r2 rfl
    subst hmm
    have m1 := hf.at (by decide) m0
    obtain ⟨b3, b4, b5, hM, b7, b8, b9, b10, b11, b12, b13, b14, b15, hBv, b16, b17, b18⟩ := (zz.2.1).fr hf (by decide)
    refine ⟨_, _, _, hr, (by unfold k_set; (repeat' split) <;> decide), c_mset G 9 n false _ (x := x) (y := y) m1 (by omega), ⟨_, m1⟩, fun b h2 hg q => ?_⟩
    obtain ⟨hk2, -⟩ | ⟨-, hb, hm⟩ := q
    · exact absurd hk hk2
    · obtain ⟨b3, b4, b5, hM, b7, b8, b9, b10, b11, b12, b13, b14, b15, hBv, b16, b17, b18⟩ := zz.2.1
      have hA : g_fr [1, 142, 167] h h2 := (hf.mono (by decide)).tr hg (by decide)
      have hB : g_fr [142, 167] h1' h2 := (g_fr.rf.up (by decide)).tr hg (by decide)
      have e12 : ∀ j, ¬ j = 7 → ¬ j = 8 → va_up s (if un x = 0 then 7 else 8) (un y) j = s j := fun j h7 h8 => va_o (by split <;> omega)
      have gS : Ps (va_up s (if un x = 0 then 7 else 8) (un y)) := by
        by_cases q : un x = 0
        · rw [if_pos q]
          exact ⟨p4, p5, p6, p65, (by show 1 ≤ un y; omega), (by show un y ≤ 7; omega), p81, p8, p9, p10, p12, p11⟩
        · rw [if_neg q]
          exact ⟨p4, p5, p6, p65, p71, p7, (by show 1 ≤ un y; omega), (by show un y ≤ 200; omega), p9, p10, p12, p11⟩
      have gB : Pb (va_up s (if un x = 0 then 7 else 8) (un y)) en bf rc rI := by
        unfold Pb
        rw [e12 5 (by decide) (by decide), e12 6 (by decide) (by decide)]
        exact ⟨q1, q2, q3, q4, q5, q6⟩
      have hz := l10 rfl
      have gL : Pl (va_up s (if un x = 0 then 7 else 8) (un y)) 0 bl ti se sI tM D dr bk := by
        unfold Pl
        rw [e12 6 (by decide) (by decide)]
        exact ⟨l1, by omega, fun q => absurd q (by decide), l4, l5, l6, l7, l8, l9, l10⟩
      have gF : Pf (va_up s (if un x = 0 then 7 else 8) (un y)) 0 ft fv ct fm fr := by
        unfold Pf
        rw [e12 4 (by decide) (by decide)]
        exact ⟨f1, f2, f3, f4, f5, f6, f7⟩
      refine ⟨_, ⟨_, _, _, _, _, _, _, _, _, _, _, _, _, _, _, _, _, _, _, _, _, _, _, _, _, _, _, _, _, _, _, _, _, _, _, _, _, _, _, _, _, _, _, ⟨hA.at (by decide) a0, (P.2.2).fr hB (by decide), hS.fr hA (by decide), hC.fr hA (by decide) (by decide), hl.fr hA (by decide), hT.fr hA (by decide) (by decide), hK.fr hA (by decide) r1, hR.fr hA (by decide), (fun q => (hP q).fr hA (by decide)), hF.fr hA (by decide) (by decide) (by decide), hO.fr hA (by decide), hQ.fr hA (by decide) (by decide) (by decide) (by decide) (by decide)⟩, ⟨hA.at (by decide) b3, hA.at (by decide) b4, hA.at (by decide) b5, hM.fr hA (by decide), hA.at (by decide) b7, hA.at (by decide) b8, hA.at (by decide) b9, hA.at (by decide) b10, hA.at (by decide) b11, hA.at (by decide) b12, hA.at (by decide) b13, hA.at (by decide) b14, hA.at (by decide) b15, hBv.fr hA (by decide) (by decide), hA.at (by decide) b16, hA.at (by decide) b17, hA.at (by decide) b18⟩, gS, gB, ⟨pk, pdg, pc, psg, pcm, psd, pv, pwn, pwM, fun q => absurd rfl q⟩, gL, gF, ⟨r1, r2, fun q => absurd rfl q, fun k hk => absurd hk (by omega)⟩, ⟨d1, d2, fun _ k hk => absurd hk (by omega)⟩, zz.2.2.2.2.2.2.2.2.2.1, zz.2.2.2.2.2.2.2.2.2.2.1, hm, hg.at (by decide) g_eq⟩, fun _ => ?_⟩
      rw [vp_up0]
      have e2 : w0 = b := by
        exact (Value.int.inj (Option.some.inj P.2.1)).trans hb.symm
      rw [e2]
  · refine ⟨_, _, _, hr, (by unfold k_set; (repeat' split) <;> decide), c_mset G 9 n false _ (x := x) (y := y) m0 (by omega), ⟨_, m0⟩, fun b h2 hg q => ?_⟩
    obtain ⟨hk2, hm, hg2⟩ | ⟨hk2, -⟩ := q
    · exact ⟨_, zz.same hg2 hm, fun q => absurd q hk⟩
    · exact absurd hk2 hk
set_option maxHeartbeats 4000000 in
set_option maxRecDepth 100000 in
theorem t_fraction (G : gG) (n : Nat) (h : gH) {x y z_ : Int32} {kk : Nat} {ou : Nat → Int64} (z : Rel h kk ou) : StV G mL_fraction mX11_fraction [.ref 0, .int x, .int y, .int z_] [.ref 142, .int x, .int y, .int z_] n h := by
  obtain ⟨s, v, wn, en, rc, dg, c, bl, ti, df, w, l, fv, ft, bf, wM, tM, ct, O, Bx, S0, se, sw, rI, sI, V, k, m, sg, cm, sd, D, dr, bk, mm, lm, pn, pd, e, fm, fr, A, B, z⟩ := z
  have zz := z
  obtain ⟨⟨a0, hs, hS, hC, hl, hT, hK, hR, hP, hF, hO, hQ⟩, ⟨b3, b4, b5, hM, b7, b8, b9, b10, b11, b12, b13, b14, b15, hBv, b16, b17, b18⟩, ⟨p4, p5, p6, p65, p71, p7, p81, p8, p9, p10, p12, p11⟩, ⟨q1, q2, q3, q4, q5, q6⟩, ⟨pk, pdg, pc, psg, pcm, psd, pv, pwn, pwM, pww⟩, ⟨l1, l2, l3, l4, l5, l6, l7, l8, l9, l10⟩, ⟨f1, f2, f3, f4, f5, f6, f7⟩, ⟨r1, r2, r3, r4⟩, ⟨d1, d2, d3⟩, ⟨v0, v1, v6, v7, v8⟩, ⟨o1, o2, o3⟩, m0, hou⟩ := z
  refine ⟨_, _, w_fraction G 0 n h (c_fraction G 1 n h (x := x) (y := y) (z := z_) a0 (by omega) hs) (fun v h' q => ⟨q.1, q.2.1⟩) a0, fun r h1 hf p => ?_⟩
  obtain ⟨hr, ⟨hk, P, hfr⟩ | ⟨hk, rfl⟩⟩ := p
  · have h1' := h1
    have kz := kf_0 hk
    obtain ⟨rfl, kz⟩ := kz
    have hmm : mm = 0 := r2 rfl
    subst hmm
    have m1 := hf.at (by decide) m0
    obtain ⟨b3, b4, b5, hM, b7, b8, b9, b10, b11, b12, b13, b14, b15, hBv, b16, b17, b18⟩ := (zz.2.1).fr hf (by decide)
    refine ⟨_, _, _, hr, (by unfold k_fraction; (repeat' split) <;> decide), c_mfraction G 9 n false _ (x := x) (y := y) (z := z_) m1 (by omega), ⟨_, m1⟩, fun h2 hg q => ?_⟩
    obtain ⟨hk2, -⟩ | ⟨-, hm⟩ := q
    · exact absurd hk hk2
    · obtain ⟨b3, b4, b5, hM, b7, b8, b9, b10, b11, b12, b13, b14, b15, hBv, b16, b17, b18⟩ := zz.2.1
      have hA : g_fr [1, 142] h h2 := (hf.mono (by decide)).tr hg (by decide)
      have hB : g_fr [142] h1 h2 := (g_fr.rf).tr hg (by decide)
      have e12 : ∀ j, ¬ j = 9 → ¬ j = 10 → ¬ j = 11 → ¬ j = 12 → (if un x = 0 then va_up (va_up s 9 (un y)) 10 (un z_) else va_up (va_up s 11 (un y)) 12 (un z_)) j = s j := fun j h1 h2 h3 h4 => by
        split
        · rw [va_o h2, va_o h1]
        · rw [va_o h4, va_o h3]
      have gS : Ps (if un x = 0 then va_up (va_up s 9 (un y)) 10 (un z_) else va_up (va_up s 11 (un y)) 12 (un z_)) := by
        by_cases q : un x = 0
        · rw [if_pos q]
          exact ⟨p4, p5, p6, p65, p71, p7, p81, p8, (by show un y < un z_; omega), (by show un z_ ≤ 1000000; omega), p12, p11⟩
        · rw [if_neg q]
          exact ⟨p4, p5, p6, p65, p71, p7, p81, p8, p9, p10, (by show un z_ < un y; omega), (by show un y ≤ 1000000; omega)⟩
      have gB : Pb (if un x = 0 then va_up (va_up s 9 (un y)) 10 (un z_) else va_up (va_up s 11 (un y)) 12 (un z_)) en bf rc rI := by
        unfold Pb
        rw [e12 5 (by decide) (by decide) (by decide) (by decide), e12 6 (by decide) (by decide) (by decide) (by decide)]
        exact ⟨q1, q2, q3, q4, q5, q6⟩
      have gL : Pl (if un x = 0 then va_up (va_up s 9 (un y)) 10 (un z_) else va_up (va_up s 11 (un y)) 12 (un z_)) 0 bl ti se sI tM D dr bk := by
        unfold Pl
        rw [e12 6 (by decide) (by decide) (by decide) (by decide), e12 8 (by decide) (by decide) (by decide) (by decide)]
        exact ⟨l1, l2, l3, l4, l5, l6, l7, l8, l9, l10⟩
      have gF : Pf (if un x = 0 then va_up (va_up s 9 (un y)) 10 (un z_) else va_up (va_up s 11 (un y)) 12 (un z_)) 0 ft fv ct fm fr := by
        unfold Pf
        rw [e12 4 (by decide) (by decide) (by decide) (by decide)]
        exact ⟨f1, f2, f3, f4, f5, f6, f7⟩
      refine ⟨_, ⟨_, _, _, _, _, _, _, _, _, _, _, _, _, _, _, _, _, _, _, _, _, _, _, _, _, _, _, _, _, _, _, _, _, _, _, _, _, _, _, _, _, _, _, ⟨hA.at (by decide) a0, (P.2.2).fr hB (by decide), hS.fr hA (by decide), hC.fr hA (by decide) (by decide), hl.fr hA (by decide), hT.fr hA (by decide) (by decide), hK.fr hA (by decide) r1, hR.fr hA (by decide), (fun q => (hP q).fr hA (by decide)), hF.fr hA (by decide) (by decide) (by decide), hO.fr hA (by decide), hQ.fr hA (by decide) (by decide) (by decide) (by decide) (by decide)⟩, ⟨hA.at (by decide) b3, hA.at (by decide) b4, hA.at (by decide) b5, hM.fr hA (by decide), hA.at (by decide) b7, hA.at (by decide) b8, hA.at (by decide) b9, hA.at (by decide) b10, hA.at (by decide) b11, hA.at (by decide) b12, hA.at (by decide) b13, hA.at (by decide) b14, hA.at (by decide) b15, hBv.fr hA (by decide) (by decide), hA.at (by decide) b16, hA.at (by decide) b17, hA.at (by decide) b18⟩, gS, gB, ⟨pk, pdg, pc, psg, pcm, psd, pv, pwn, pwM, fun q => absurd rfl q⟩, gL, gF, ⟨r1, r2, fun q => absurd rfl q, fun k hk => absurd hk (by omega)⟩, ⟨d1, d2, fun _ k hk => absurd hk (by omega)⟩, zz.2.2.2.2.2.2.2.2.2.1, zz.2.2.2.2.2.2.2.2.2.2.1, hm, hA.at (by decide) hou⟩⟩

  · refine ⟨_, _, _, hr, (by unfold k_fraction; (repeat' split) <;> decide), c_mfraction G 9 n false _ (x := x) (y := y) (z := z_) m0 (by omega), ⟨_, m0⟩, fun h2 hg q => ?_⟩
    obtain ⟨hk2, hm, hg2⟩ | ⟨hk2, -⟩ := q
    · exact ⟨_, zz.same hg2 hm⟩
    · exact absurd hk2 hk
set_option maxHeartbeats 4000000 in
set_option maxRecDepth 100000 in
theorem t_record (G : gG) (n : Nat) (h : gH) {x y z_ : Int32} {kk : Nat} {ou : Nat → Int64} (z : Rel h kk ou) : StV G mL_record mX11_record [.ref 0, .int x, .int y, .int z_] [.ref 142, .int x, .int y, .int z_] n h := by
  obtain ⟨s, v, wn, en, rc, dg, c, bl, ti, df, w, l, fv, ft, bf, wM, tM, ct, O, Bx, S0, se, sw, rI, sI, V, k, m, sg, cm, sd, D, dr, bk, mm, lm, pn, pd, e, fm, fr, A, B, z⟩ := z
  have zz := z
  obtain ⟨⟨a0, hs, hS, hC, hl, hT, hK, hR, hP, hF, hO, hQ⟩, ⟨b3, b4, b5, hM, b7, b8, b9, b10, b11, b12, b13, b14, b15, hBv, b16, b17, b18⟩, ⟨p4, p5, p6, p65, p71, p7, p81, p8, p9, p10, p12, p11⟩, ⟨q1, q2, q3, q4, q5, q6⟩, ⟨pk, pdg, pc, psg, pcm, psd, pv, pwn, pwM, pww⟩, ⟨l1, l2, l3, l4, l5, l6, l7, l8, l9, l10⟩, ⟨f1, f2, f3, f4, f5, f6, f7⟩, ⟨r1, r2, r3, r4⟩, ⟨d1, d2, d3⟩, ⟨v0, v1, v6, v7, v8⟩, ⟨o1, o2, o3⟩, m0, hou⟩ := z
  refine ⟨_, _, w_record G 0 n h (c_record G 0 n h (x := x) (y := y) (z := z_) a0 (by omega) hs p6 p4) (fun v h' q => ⟨q.1, q.2.1⟩) a0, fun r h1 hf p => ?_⟩
  obtain ⟨hr, ⟨hk, P, hfr⟩ | ⟨hk, rfl⟩⟩ := p
  · have h1' := h1
    have kz := kr_0 p6 p4 hk
    obtain ⟨rfl, kz⟩ := kz
    have hmm : mm = 0 := r2 rfl
    subst hmm
    have m1 := hf.at (by decide) m0
    obtain ⟨b3, b4, b5, hM, b7, b8, b9, b10, b11, b12, b13, b14, b15, hBv, b16, b17, b18⟩ := (zz.2.1).fr hf (by decide)
    refine ⟨_, _, _, hr, (by unfold k_record; (repeat' split) <;> decide), c_mrecord G 8 n false _ (x := x) (y := y) (z := z_) m1 b5 p6 p4 (by omega), ⟨_, m1⟩, fun h2 hg q => ?_⟩
    obtain ⟨hk2, -⟩ | ⟨-, hm, y5⟩ := q
    · exact absurd hk hk2
    · obtain ⟨b3, b4, b5, hM, b7, b8, b9, b10, b11, b12, b13, b14, b15, hBv, b16, b17, b18⟩ := zz.2.1
      have hA : g_fr [5, 142, 145] h h2 := (hf.mono (by decide)).tr hg (by decide)
      have hB : g_fr [142, 145] h1 h2 := (g_fr.rf).tr hg (by decide)
      have gB1 : ∀ b, b < s 6 → rsf rI (un x) (un x + un y) z_ b = nI (rc_set rc (un x) (un x + un y) (un (z_ + nI 1)) b) - nI 1 := fun b hb => by
        by_cases q : un x ≤ b ∧ b < un x + un y
        · rw [rsf_i q, rcs_i q, nI_un]
          exact (Int32.add_sub_cancel _ _).symm
        · rw [rsf_o q, rcs_o q]; exact q5 b hb
      have gB2 : ∀ b, s 6 ≤ b → rc_set rc (un x) (un x + un y) (un (z_ + nI 1)) b = 0 := fun b hb => by
        rw [rcs_o (by omega)]; exact q6 b hb
      refine ⟨_, ⟨_, _, _, _, _, _, _, _, _, _, _, _, _, _, _, _, _, _, _, _, _, _, _, _, _, _, _, _, _, _, _, _, _, _, _, _, _, _, _, _, _, _, _, ⟨hA.at (by decide) a0, (P.2.2).fr hB (by decide), hS.fr hA (by decide), hC.fr hA (by decide) (by decide), hl.fr hA (by decide), hT.fr hA (by decide) (by decide), hK.fr hA (by decide) r1, hR.fr hA (by decide), (fun q => (hP q).fr hA (by decide)), hF.fr hA (by decide) (by decide) (by decide), hO.fr hA (by decide), hQ.fr hA (by decide) (by decide) (by decide) (by decide) (by decide)⟩, ⟨hA.at (by decide) b3, hA.at (by decide) b4, y5, hM.fr hA (by decide), hA.at (by decide) b7, hA.at (by decide) b8, hA.at (by decide) b9, hA.at (by decide) b10, hA.at (by decide) b11, hA.at (by decide) b12, hA.at (by decide) b13, hA.at (by decide) b14, hA.at (by decide) b15, hBv.fr hA (by decide) (by decide), hA.at (by decide) b16, hA.at (by decide) b17, hA.at (by decide) b18⟩, zz.2.2.1, ⟨q1, q2, q3, q4, gB1, gB2⟩, zz.2.2.2.2.1, zz.2.2.2.2.2.1, zz.2.2.2.2.2.2.1, zz.2.2.2.2.2.2.2.1, zz.2.2.2.2.2.2.2.2.1, zz.2.2.2.2.2.2.2.2.2.1, zz.2.2.2.2.2.2.2.2.2.2.1, hm, hA.at (by decide) hou⟩⟩

  · refine ⟨_, _, _, hr, (by unfold k_record; (repeat' split) <;> decide), c_mrecord G 8 n false _ (x := x) (y := y) (z := z_) m0 b5 p6 p4 (by omega), ⟨_, m0⟩, fun h2 hg q => ?_⟩
    obtain ⟨hk2, hm, hg2⟩ | ⟨hk2, -⟩ := q
    · exact ⟨_, zz.same hg2 hm⟩
    · exact absurd hk2 hk
set_option maxHeartbeats 4000000 in
set_option maxRecDepth 100000 in
theorem t_digit (G : gG) (n : Nat) (h : gH) {x : Int32} {kk : Nat} {ou : Nat → Int64} (z : Rel h kk ou) : StI G mL_digit mX11_digit [.ref 0, .int x, .ref 167] [.ref 142, .int x] n h := by
  obtain ⟨s, v, wn, en, rc, dg, c, bl, ti, df, w, l, fv, ft, bf, wM, tM, ct, O, Bx, S0, se, sw, rI, sI, V, k, m, sg, cm, sd, D, dr, bk, mm, lm, pn, pd, e, fm, fr, A, B, z⟩ := z
  have zz := z
  obtain ⟨⟨a0, hs, hS, hC, hl, hT, hK, hR, hP, hF, hO, hQ⟩, ⟨b3, b4, b5, hM, b7, b8, b9, b10, b11, b12, b13, b14, b15, hBv, b16, b17, b18⟩, ⟨p4, p5, p6, p65, p71, p7, p81, p8, p9, p10, p12, p11⟩, ⟨q1, q2, q3, q4, q5, q6⟩, ⟨pk, pdg, pc, psg, pcm, psd, pv, pwn, pwM, pww⟩, ⟨l1, l2, l3, l4, l5, l6, l7, l8, l9, l10⟩, ⟨f1, f2, f3, f4, f5, f6, f7⟩, ⟨r1, r2, r3, r4⟩, ⟨d1, d2, d3⟩, ⟨v0, v1, v6, v7, v8⟩, ⟨o1, o2, o3⟩, m0, hou⟩ := z
  refine ⟨_, _, w_digit G 0 n h (c_digit G 1 n h (x := x) a0 (by omega) hS pk) (fun v h' q => ⟨q.1, _, q.2.1⟩) a0 hou (by decide), fun r h1 hf p => ?_⟩
  obtain ⟨hr, ⟨hk, h1', w0, P, hfr, rfl⟩ | ⟨hk, rfl⟩⟩ := p
  · have kz := kd_0 hk
    obtain ⟨rfl, kz⟩ := kz
    have hmm : mm = 0 := r2 rfl
    subst hmm
    have m1 := hf.at (by decide) m0
    obtain ⟨b3, b4, b5, hM, b7, b8, b9, b10, b11, b12, b13, b14, b15, hBv, b16, b17, b18⟩ := (zz.2.1).fr hf (by decide)
    refine ⟨_, _, _, hr, (by unfold k_digit; (repeat' split) <;> decide), c_mdigit G 9 n false _ (x := x) m1 hM.1 pk (by omega), ⟨_, m1⟩, fun b h2 hg q => ?_⟩
    obtain ⟨hk2, -⟩ | ⟨-, hb, hm, y6⟩ := q
    · exact absurd hk hk2
    · obtain ⟨b3, b4, b5, hM, b7, b8, b9, b10, b11, b12, b13, b14, b15, hBv, b16, b17, b18⟩ := zz.2.1
      have hA : g_fr [8, 9, 142, 146, 167] h h2 := (hf.mono (by decide)).tr hg (by decide)
      have hB : g_fr [142, 146, 167] h1' h2 := (g_fr.rf.up (by decide)).tr hg (by decide)
      refine ⟨_, ⟨_, _, _, _, _, _, _, _, _, _, _, _, _, _, _, _, _, _, _, _, _, _, _, _, _, _, _, _, _, _, _, _, _, _, _, _, _, _, _, _, _, _, _, ⟨hA.at (by decide) a0, hs.fr hA (by decide), (P.2.2).fr hB (by decide), hC.fr hA (by decide) (by decide), hl.fr hA (by decide), hT.fr hA (by decide) (by decide), hK.fr hA (by decide) r1, hR.fr hA (by decide), (fun q => (hP q).fr hA (by decide)), hF.fr hA (by decide) (by decide) (by decide), hO.fr hA (by decide), hQ.fr hA (by decide) (by decide) (by decide) (by decide) (by decide)⟩, ⟨hA.at (by decide) b3, hA.at (by decide) b4, hA.at (by decide) b5, ⟨y6, hA.at (by decide) hM.2.1.choose_spec.1 |> fun q => ⟨_, q, hM.2.1.choose_spec.2⟩, hA.at (by decide) hM.2.2.1.choose_spec.1 |> fun q => ⟨_, q, hM.2.2.1.choose_spec.2⟩, ⟨_, hA.at (by decide) hM.2.2.2.1.choose_spec⟩, ⟨_, hA.at (by decide) hM.2.2.2.2.1.choose_spec⟩, ⟨_, hA.at (by decide) hM.2.2.2.2.2.1.choose_spec⟩, ⟨_, hA.at (by decide) hM.2.2.2.2.2.2.choose_spec⟩⟩, hA.at (by decide) b7, hA.at (by decide) b8, hA.at (by decide) b9, hA.at (by decide) b10, hA.at (by decide) b11, hA.at (by decide) b12, hA.at (by decide) b13, hA.at (by decide) b14, hA.at (by decide) b15, hBv.fr hA (by decide) (by decide), hA.at (by decide) b16, hA.at (by decide) b17, hA.at (by decide) b18⟩, zz.2.2.1, zz.2.2.2.1, ⟨by omega, va_le pdg kz.1, pc, psg, pcm, psd, pv, pwn, pwM, fun q => absurd rfl q⟩, zz.2.2.2.2.2.1, zz.2.2.2.2.2.2.1, zz.2.2.2.2.2.2.2.1, zz.2.2.2.2.2.2.2.2.1, zz.2.2.2.2.2.2.2.2.2.1, zz.2.2.2.2.2.2.2.2.2.2.1, hm, hg.at (by decide) g_eq⟩, fun _ => ?_⟩
      rw [vp_up0]
      have e2 : w0 = b := by
        exact (Value.int.inj (Option.some.inj P.2.1)).trans hb.symm
      rw [e2]
  · refine ⟨_, _, _, hr, (by unfold k_digit; (repeat' split) <;> decide), c_mdigit G 9 n false _ (x := x) m0 hM.1 pk (by omega), ⟨_, m0⟩, fun b h2 hg q => ?_⟩
    obtain ⟨hk2, hm, hg2⟩ | ⟨hk2, -⟩ := q
    · exact ⟨_, zz.same hg2 hm, fun q => absurd q hk⟩
    · exact absurd hk2 hk
set_option maxHeartbeats 4000000 in
set_option maxRecDepth 100000 in
theorem t_coins (G : gG) (n : Nat) (h : gH) {x y : Int32} {kk : Nat} {ou : Nat → Int64} (z : Rel h kk ou) : StI G mL_coins mX11_coins [.ref 0, .int x, .int y, .ref 167] [.ref 142, .int x, .int y] n h := by
  obtain ⟨s, v, wn, en, rc, dg, c, bl, ti, df, w, l, fv, ft, bf, wM, tM, ct, O, Bx, S0, se, sw, rI, sI, V, k, m, sg, cm, sd, D, dr, bk, mm, lm, pn, pd, e, fm, fr, A, B, z⟩ := z
  have zz := z
  have hm4 : m ≤ 4000 := (by obtain ⟨_, _, _, _, _, q, _⟩ := z.1.2.2.2.1; exact q)
  obtain ⟨⟨a0, hs, hS, hC, hl, hT, hK, hR, hP, hF, hO, hQ⟩, ⟨b3, b4, b5, hM, b7, b8, b9, b10, b11, b12, b13, b14, b15, hBv, b16, b17, b18⟩, ⟨p4, p5, p6, p65, p71, p7, p81, p8, p9, p10, p12, p11⟩, ⟨q1, q2, q3, q4, q5, q6⟩, ⟨pk, pdg, pc, psg, pcm, psd, pv, pwn, pwM, pww⟩, ⟨l1, l2, l3, l4, l5, l6, l7, l8, l9, l10⟩, ⟨f1, f2, f3, f4, f5, f6, f7⟩, ⟨r1, r2, r3, r4⟩, ⟨d1, d2, d3⟩, ⟨v0, v1, v6, v7, v8⟩, ⟨o1, o2, o3⟩, m0, hou⟩ := z
  refine ⟨_, _, w_coins G 0 n h (c_coins G 1 n h (x := x) (y := y) a0 hC) (fun v h' q => ⟨q.1, _, q.2.1⟩) a0 hou (by decide), fun r h1 hf p => ?_⟩
  obtain ⟨hr, ⟨hk, h1', w0, P, hfr, rfl⟩ | ⟨hk, rfl⟩⟩ := p
  · have kz := kco_0 hm4 hk
    have hx0 := kz.1
    have m1 := hf.at (by decide) m0
    obtain ⟨b3, b4, b5, hM, b7, b8, b9, b10, b11, b12, b13, b14, b15, hBv, b16, b17, b18⟩ := (zz.2.1).fr hf (by decide)
    refine ⟨_, _, _, hr, (by unfold k_coins; (repeat' split) <;> decide), c_mcoins G 9 n false _ (x := x) (y := y) m1 b7 pc hm4, ⟨_, m1⟩, fun b h2 hg q => ?_⟩
    obtain ⟨hk2, -⟩ | ⟨-, hb, c2, hm, y7, yc, yc1⟩ := q
    · exact absurd hk hk2
    · obtain ⟨b3, b4, b5, hM, b7, b8, b9, b10, b11, b12, b13, b14, b15, hBv, b16, b17, b18⟩ := zz.2.1
      have hA : g_fr [6, 7, 142, 147, 167] h h2 := (hf.mono (by decide)).tr hg (by decide)
      have hB : g_fr [142, 147, 167] h1' h2 := (g_fr.rf.up (by decide)).tr hg (by decide)
      refine ⟨_, ⟨_, _, _, _, _, _, _, _, _, _, _, _, _, _, _, _, _, _, _, _, _, _, _, _, _, _, _, _, _, _, _, _, _, _, _, _, _, _, _, _, _, _, _, ⟨hA.at (by decide) a0, hs.fr hA (by decide), hS.fr hA (by decide), ((P.2.2).fr hB (by decide) (by decide)).congr (fun k hk => (yc k hk).symm), hl.fr hA (by decide), hT.fr hA (by decide) (by decide), hK.fr hA (by decide) r1, hR.fr hA (by decide), (fun q => (hP q).fr hA (by decide)), hF.fr hA (by decide) (by decide) (by decide), hO.fr hA (by decide), hQ.fr hA (by decide) (by decide) (by decide) (by decide) (by decide)⟩, ⟨hA.at (by decide) b3, hA.at (by decide) b4, hA.at (by decide) b5, hM.fr hA (by decide), y7, hA.at (by decide) b8, hA.at (by decide) b9, hA.at (by decide) b10, hA.at (by decide) b11, hA.at (by decide) b12, hA.at (by decide) b13, hA.at (by decide) b14, hA.at (by decide) b15, hBv.fr hA (by decide) (by decide), hA.at (by decide) b16, hA.at (by decide) b17, hA.at (by decide) b18⟩, zz.2.2.1, zz.2.2.2.1, ⟨pk, pdg, yc1, psg, pcm, psd, pv, pwn, pwM, pww⟩, zz.2.2.2.2.2.1, zz.2.2.2.2.2.2.1, zz.2.2.2.2.2.2.2.1, zz.2.2.2.2.2.2.2.2.1, zz.2.2.2.2.2.2.2.2.2.1, zz.2.2.2.2.2.2.2.2.2.2.1, hm, hg.at (by decide) g_eq⟩, fun _ => ?_⟩
      rw [vp_up0]
      have e2 : w0 = b := by
        exact (Value.int.inj (Option.some.inj P.2.1)).trans hb.symm
      rw [e2]
  · refine ⟨_, _, _, hr, (by unfold k_coins; (repeat' split) <;> decide), c_mcoins G 9 n false _ (x := x) (y := y) m0 b7 pc hm4, ⟨_, m0⟩, fun b h2 hg q => ?_⟩
    obtain ⟨hk2, hm, hg2⟩ | ⟨hk2, -⟩ := q
    · exact ⟨_, zz.same hg2 hm, fun q => absurd q hk⟩
    · exact absurd hk2 hk
