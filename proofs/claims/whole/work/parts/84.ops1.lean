theorem kt_u {x : Int32} (h : k_told x = 0) : un x < 13 := by
  unfold k_told at h
  split at h
  · exact absurd h (by decide)
  · rename_i q
    have hu := un_b x
    simp only [i_lt, i_le, it0, nI_toInt (show 13 < 2147483648 by decide), Classical.not_not] at q
    omega
theorem k2_u {a b : Nat} {x y : Int32} (ha : a < 2147483648) (hb : b < 2147483648) (h : k_two a b x y = 0) : un x < a ∧ un y < b := by
  unfold k_two at h
  split at h
  · exact absurd h (by decide)
  · split at h
    · exact absurd h (by decide)
    · rename_i q q2
      have hu := un_b x
      have hu2 := un_b y
      simp only [i_lt, i_le, it0, nI_toInt ha, nI_toInt hb, Classical.not_not] at q q2
      omega
theorem oAns_e {i : Nat} {r r' : Int32} {c : Nat} {v wn wM df : Nat → Nat} {sg : Nat} {f f' : Int32} (h : oAns i r c v wn df sg f) (h' : oAns i r' c v wM df sg f') (hw : ¬ sg = 0 → wM c = wn c) (hf : f = f') : r = r' := by
  match i, h, h' with
  | 0, h, h' => exact Eq.trans (show r = nI (v c) from h) (show r' = nI (v c) from h').symm
  | 1, h, h' =>
    have e : (if sg = 0 ∨ wn c = 0 then 0 else 1) = (if sg = 0 ∨ wM c = 0 then 0 else 1 : Nat) := by
      by_cases q : sg = 0
      · rw [if_pos (Or.inl q), if_pos (Or.inl q)]
      · rw [hw q]
    have h1 : r = nI (if sg = 0 ∨ wn c = 0 then 0 else 1) := h
    have h2 : r' = nI (if sg = 0 ∨ wM c = 0 then 0 else 1) := h'
    rw [h1, h2, e]
  | 2, h, h' => exact Eq.trans (show r = nI (df c) from h) (show r' = nI (df c) from h').symm
  | i + 3, h, h' => exact (Eq.trans (show r = f from h) hf).trans (show r' = f' from h').symm
theorem pAns_e {i : Nat} {r r' : Int32} {k : Nat} {w l : Nat → Nat} {sw : Nat → Int32} (h : pAns i r k w l sw) (h' : pAns i r' k w l sw) : r = r' := by
  match i, h, h' with
  | 0, h, h' => exact Eq.trans (show r = nI (w k) from h) (show r' = nI (w k) from h').symm
  | 1, h, h' => exact Eq.trans (show r = nI (l k) from h) (show r' = nI (l k) from h').symm
  | i + 2, h, h' => exact Eq.trans (show r = sw k from h) (show r' = sw k from h').symm
theorem bo_e {en bf : Nat → Nat} {B x q q' : Nat} (h : bo_P en B x q) (h' : bo_P bf B x q') (he : ∀ i, i + 1 < B → bf i = en i) : q = q' := by
  obtain ⟨a1, a2⟩ := h
  obtain ⟨b1, b2⟩ := h'
  by_cases l1 : q < q'
  · have := b1 q l1
    rw [he q this.1] at this
    exact absurd this a2
  · by_cases l2 : q' < q
    · have := a1 q' l2
      rw [← he q' this.1] at this
      exact absurd this b2
    · omega
theorem bAns_e {i : Nat} {r r' : Int32} {b B : Nat} {en bf : Nat → Nat} {r1 r2 r1' r2' : Int32} {r3 r3' : Nat} (h : bAns i r b B en r1 r2 r3) (h' : bAns i r' b B bf r1' r2' r3') (he : ∀ i, i + 1 < B → bf i = en i) (e1 : r1 = r1') (e2 : r2 = r2') (e3 : r3 = r3') : r = r' := by
  match i, h, h' with
  | 0, h, h' =>
    obtain ⟨q, hq, h1⟩ := (show ∃ q, bo_P en B b q ∧ r = nI q from h)
    obtain ⟨q', hq', h1'⟩ := (show ∃ q, bo_P bf B b q ∧ r' = nI q from h')
    rw [h1, h1', bo_e hq hq' he]
  | 1, h, h' => exact (Eq.trans (show r = r1 from h) e1).trans (show r' = r1' from h').symm
  | 2, h, h' => exact (Eq.trans (show r = r2 from h) e2).trans (show r' = r2' from h').symm
  | i + 3, h, h' => exact Eq.trans (show r = nI r3 from h) (by rw [e3]; exact (show r' = nI r3' from h').symm)
set_option maxHeartbeats 4000000 in
set_option maxRecDepth 100000 in
theorem t_told (G : gG) (n : Nat) (h : gH) {x : Int32} {kk : Nat} {ou : Nat → Int64} (z : Rel h kk ou) : StI G mL_told mX11_told [.ref 0, .int x, .ref 167] [.ref 142, .int x] n h := by
  obtain ⟨s, v, wn, en, rc, dg, c, bl, ti, df, w, l, fv, ft, bf, wM, tM, ct, O, Bx, S0, se, sw, rI, sI, V, k, m, sg, cm, sd, D, dr, bk, mm, lm, pn, pd, e, fm, fr, A, B, z⟩ := z
  have zz := z
  obtain ⟨⟨a0, hs, hS, hC, hl, hT, hK, hR, hP, hF, hO, hQ⟩, ⟨b3, b4, b5, hM, b7, b8, b9, b10, b11, b12, b13, b14, b15, hBv, b16, b17, b18⟩, ⟨p4, p5, p6, p65, p71, p7, p81, p8, p9, p10, p12, p11⟩, ⟨q1, q2, q3, q4, q5, q6⟩, ⟨pk, pdg, pc, psg, pcm, psd, pv, pwn, pwM, pww⟩, ⟨l1, l2, l3, l4, l5, l6, l7, l8, l9, l10⟩, ⟨f1, f2, f3, f4, f5, f6, f7⟩, ⟨r1, r2, r3, r4⟩, ⟨d1, d2, d3⟩, ⟨v0, v1, v6, v7, v8⟩, ⟨o1, o2, o3⟩, m0, hou⟩ := z
  refine ⟨_, _, w_told G 0 n h (c_told G 1 n h a0 (by omega) hs hC hl hF hT (fun q => (l4 q).1) (by omega) p6 f6) (fun v h' q => ⟨q.1, q.2.choose, q.2.choose_spec.1⟩) a0 hou (by decide), fun r h1 hf p => ?_⟩
  obtain ⟨hr, ⟨hk, h1', v0, P, hfr, rfl⟩ | ⟨hk, rfl⟩⟩ := p
  · have e1 : h1' = h := g_fr0 hfr
    subst e1
    have m1 := (g_fr.rf.up (by decide) : g_fr [167] h1' (g_up h1' 167 (.inl (3, 1, .inr (.inl (vp_updL ou 0 v0.toInt64)))))).at (by decide) m0
    obtain ⟨b3, b4, b5, hM, b7, b8, b9, b10, b11, b12, b13, b14, b15, hBv, b16, b17, b18⟩ := (zz.2.1).fr (g_fr.rf.up (by decide) : g_fr [167] h1' (g_up h1' 167 (.inl (3, 1, .inr (.inl (vp_updL ou 0 v0.toInt64)))))) (by decide)
    refine ⟨k_told x, _, _, hr, (by show k_told x < _; unfold k_told; (repeat' split) <;> decide), c_mtold G 8 n false _ (x := x) m1 b11 r1 p6 f6, ⟨_, m1⟩, fun b h2 hg q => ?_⟩
    obtain ⟨hk2, -⟩ | ⟨-, hb, hm⟩ := q
    · exact absurd hk hk2
    · refine ⟨_, zz.keep (g_fr.rf.up (by decide)) g_eq hg hm, fun _ => ?_⟩
      rw [vp_up0]
      have e2 : v0 = b := by
        obtain ⟨hk', r', hr', ha⟩ := P
        have e3 : v0 = r' := Value.int.inj (Option.some.inj hr')
        rw [e3]
        exact tAns_u (kt_u hk) p6 ha hb
      rw [e2]
  · refine ⟨k_told x, _, _, hr, (by show k_told x < _; unfold k_told; (repeat' split) <;> decide), c_mtold G 8 n false _ (x := x) m0 b11 r1 p6 f6, ⟨_, m0⟩, fun b h2 hg q => ?_⟩
    obtain ⟨hk2, hm, hg2⟩ | ⟨hk2, -⟩ := q
    · exact ⟨_, zz.same hg2 hm, fun q => absurd q hk⟩
    · exact absurd hk2 hk
set_option maxHeartbeats 4000000 in
set_option maxRecDepth 100000 in
theorem t_of (G : gG) (n : Nat) (h : gH) {x y : Int32} {kk : Nat} {ou : Nat → Int64} (z : Rel h kk ou) : StI G mL_of mX11_of [.ref 0, .int x, .int y, .ref 167] [.ref 142, .int x, .int y] n h := by
  obtain ⟨s, v, wn, en, rc, dg, c, bl, ti, df, w, l, fv, ft, bf, wM, tM, ct, O, Bx, S0, se, sw, rI, sI, V, k, m, sg, cm, sd, D, dr, bk, mm, lm, pn, pd, e, fm, fr, A, B, z⟩ := z
  have zz := z
  obtain ⟨⟨a0, hs, hS, hC, hl, hT, hK, hR, hP, hF, hO, hQ⟩, ⟨b3, b4, b5, hM, b7, b8, b9, b10, b11, b12, b13, b14, b15, hBv, b16, b17, b18⟩, ⟨p4, p5, p6, p65, p71, p7, p81, p8, p9, p10, p12, p11⟩, ⟨q1, q2, q3, q4, q5, q6⟩, ⟨pk, pdg, pc, psg, pcm, psd, pv, pwn, pwM, pww⟩, ⟨l1, l2, l3, l4, l5, l6, l7, l8, l9, l10⟩, ⟨f1, f2, f3, f4, f5, f6, f7⟩, ⟨r1, r2, r3, r4⟩, ⟨d1, d2, d3⟩, ⟨v0, v1, v6, v7, v8⟩, ⟨o1, o2, o3⟩, m0, hou⟩ := z
  refine ⟨_, _, w_of G 0 n h (c_of G 1 n h a0 (by omega) hs hl hF p4 pwn (fun k => by have := f1 k; omega)) (fun v h' q => ⟨q.1, q.2.choose, q.2.choose_spec.1⟩) a0 hou (by decide), fun r h1 hf p => ?_⟩
  obtain ⟨hr, ⟨hk, h1', v0, P, hfr, rfl⟩ | ⟨hk, rfl⟩⟩ := p
  · have e1 : h1' = h := g_fr0 hfr
    subst e1
    have m1 := (g_fr.rf.up (by decide) : g_fr [167] h1' (g_up h1' 167 (.inl (3, 1, .inr (.inl (vp_updL ou 0 v0.toInt64)))))).at (by decide) m0
    obtain ⟨b3, b4, b5, hM, b7, b8, b9, b10, b11, b12, b13, b14, b15, hBv, b16, b17, b18⟩ := (zz.2.1).fr (g_fr.rf.up (by decide) : g_fr [167] h1' (g_up h1' 167 (.inl (3, 1, .inr (.inl (vp_updL ou 0 v0.toInt64)))))) (by decide)
    refine ⟨k_two (s 4) 4 x y, _, _, hr, (by show k_two (s 4) 4 x y < _; unfold k_two; (repeat' split) <;> decide), c_mof G 9 n false _ (x := x) (y := y) m1 b3 b8 b12 b15 p4 pwM (by omega), ⟨_, m1⟩, fun b h2 hg q => ?_⟩
    obtain ⟨hk2, -⟩ | ⟨-, hb, hm⟩ := q
    · exact absurd hk hk2
    · refine ⟨_, zz.keep (g_fr.rf.up (by decide)) g_eq hg hm, fun _ => ?_⟩
      rw [vp_up0]
      have e2 : v0 = b := by
        obtain ⟨hk', r', hr', ha⟩ := P
        have e3 : v0 = r' := Value.int.inj (Option.some.inj hr')
        rw [e3]
        have hx := k2_u (by omega) (by decide) hk
        refine oAns_e ha hb (fun q => pww q _ hx.1) ?_
        rw [f3 _ (by omega)]
        by_cases q : ft (un x) = 0
        · rw [if_pos q, if_pos q]; decide
        · rw [if_neg q, if_neg q]; exact (nI_pr _).symm
      rw [e2]
  · refine ⟨k_two (s 4) 4 x y, _, _, hr, (by show k_two (s 4) 4 x y < _; unfold k_two; (repeat' split) <;> decide), c_mof G 9 n false _ (x := x) (y := y) m0 b3 b8 b12 b15 p4 pwM (by omega), ⟨_, m0⟩, fun b h2 hg q => ?_⟩
    obtain ⟨hk2, hm, hg2⟩ | ⟨hk2, -⟩ := q
    · exact ⟨_, zz.same hg2 hm, fun q => absurd q hk⟩
    · exact absurd hk2 hk
set_option maxHeartbeats 4000000 in
set_option maxRecDepth 100000 in
theorem t_pair (G : gG) (n : Nat) (h : gH) {x y : Int32} {kk : Nat} {ou : Nat → Int64} (z : Rel h kk ou) : StI G mL_pair mX11_pair [.ref 0, .int x, .int y, .ref 167] [.ref 142, .int x, .int y] n h := by
  obtain ⟨s, v, wn, en, rc, dg, c, bl, ti, df, w, l, fv, ft, bf, wM, tM, ct, O, Bx, S0, se, sw, rI, sI, V, k, m, sg, cm, sd, D, dr, bk, mm, lm, pn, pd, e, fm, fr, A, B, z⟩ := z
  have zz := z
  obtain ⟨⟨a0, hs, hS, hC, hl, hT, hK, hR, hP, hF, hO, hQ⟩, ⟨b3, b4, b5, hM, b7, b8, b9, b10, b11, b12, b13, b14, b15, hBv, b16, b17, b18⟩, ⟨p4, p5, p6, p65, p71, p7, p81, p8, p9, p10, p12, p11⟩, ⟨q1, q2, q3, q4, q5, q6⟩, ⟨pk, pdg, pc, psg, pcm, psd, pv, pwn, pwM, pww⟩, ⟨l1, l2, l3, l4, l5, l6, l7, l8, l9, l10⟩, ⟨f1, f2, f3, f4, f5, f6, f7⟩, ⟨r1, r2, r3, r4⟩, ⟨d1, d2, d3⟩, ⟨v0, v1, v6, v7, v8⟩, ⟨o1, o2, o3⟩, m0, hou⟩ := z
  refine ⟨_, _, w_pair G 0 n h (c_pair G 1 n h a0 (by omega) hT hK r1) (fun v h' q => ⟨q.1, q.2.choose, q.2.choose_spec.1⟩) a0 hou (by decide), fun r h1 hf p => ?_⟩
  obtain ⟨hr, ⟨hk, h1', v0, P, hfr, rfl⟩ | ⟨hk, rfl⟩⟩ := p
  · have e1 : h1' = h := g_fr0 hfr
    subst e1
    have m1 := (g_fr.rf.up (by decide) : g_fr [167] h1' (g_up h1' 167 (.inl (3, 1, .inr (.inl (vp_updL ou 0 v0.toInt64)))))).at (by decide) m0
    obtain ⟨b3, b4, b5, hM, b7, b8, b9, b10, b11, b12, b13, b14, b15, hBv, b16, b17, b18⟩ := (zz.2.1).fr (g_fr.rf.up (by decide) : g_fr [167] h1' (g_up h1' 167 (.inl (3, 1, .inr (.inl (vp_updL ou 0 v0.toInt64)))))) (by decide)
    refine ⟨k_two mm 3 x y, _, _, hr, (by show k_two mm 3 x y < _; unfold k_two; (repeat' split) <;> decide), c_mpair G 9 n false _ (x := x) (y := y) m1 b9 b10 b11 r1, ⟨_, m1⟩, fun b h2 hg q => ?_⟩
    obtain ⟨hk2, -⟩ | ⟨-, hb, hm⟩ := q
    · exact absurd hk hk2
    · refine ⟨_, zz.keep (g_fr.rf.up (by decide)) g_eq hg hm, fun _ => ?_⟩
      rw [vp_up0]
      have e2 : v0 = b := by
        obtain ⟨hk', r', hr', ha⟩ := P
        have e3 : v0 = r' := Value.int.inj (Option.some.inj hr')
        rw [e3]
        exact pAns_e ha hb
      rw [e2]
  · refine ⟨k_two mm 3 x y, _, _, hr, (by show k_two mm 3 x y < _; unfold k_two; (repeat' split) <;> decide), c_mpair G 9 n false _ (x := x) (y := y) m0 b9 b10 b11 r1, ⟨_, m0⟩, fun b h2 hg q => ?_⟩
    obtain ⟨hk2, hm, hg2⟩ | ⟨hk2, -⟩ := q
    · exact ⟨_, zz.same hg2 hm, fun q => absurd q hk⟩
    · exact absurd hk2 hk
set_option maxHeartbeats 4000000 in
set_option maxRecDepth 100000 in
theorem t_ballot (G : gG) (n : Nat) (h : gH) {x y : Int32} {kk : Nat} {ou : Nat → Int64} (z : Rel h kk ou) : StI G mL_ballot mX11_ballot [.ref 0, .int x, .int y, .ref 167] [.ref 142, .int x, .int y] n h := by
  obtain ⟨s, v, wn, en, rc, dg, c, bl, ti, df, w, l, fv, ft, bf, wM, tM, ct, O, Bx, S0, se, sw, rI, sI, V, k, m, sg, cm, sd, D, dr, bk, mm, lm, pn, pd, e, fm, fr, A, B, z⟩ := z
  have zz := z
  obtain ⟨⟨a0, hs, hS, hC, hl, hT, hK, hR, hP, hF, hO, hQ⟩, ⟨b3, b4, b5, hM, b7, b8, b9, b10, b11, b12, b13, b14, b15, hBv, b16, b17, b18⟩, ⟨p4, p5, p6, p65, p71, p7, p81, p8, p9, p10, p12, p11⟩, ⟨q1, q2, q3, q4, q5, q6⟩, ⟨pk, pdg, pc, psg, pcm, psd, pv, pwn, pwM, pww⟩, ⟨l1, l2, l3, l4, l5, l6, l7, l8, l9, l10⟩, ⟨f1, f2, f3, f4, f5, f6, f7⟩, ⟨r1, r2, r3, r4⟩, ⟨d1, d2, d3⟩, ⟨v0, v1, v6, v7, v8⟩, ⟨o1, o2, o3⟩, m0, hou⟩ := z
  refine ⟨_, _, w_ballot G 0 n h (c_ballot G 1 n h a0 (by omega) hs hl (by omega) l6 p6 p65 p5 q3) (fun v h' q => ⟨q.1, q.2.choose, q.2.choose_spec.1⟩) a0 hou (by decide), fun r h1 hf p => ?_⟩
  obtain ⟨hr, ⟨hk, h1', v0, P, hfr, rfl⟩ | ⟨hk, rfl⟩⟩ := p
  · have e1 : h1' = h := g_fr0 hfr
    subst e1
    have m1 := (g_fr.rf.up (by decide) : g_fr [167] h1' (g_up h1' 167 (.inl (3, 1, .inr (.inl (vp_updL ou 0 v0.toInt64)))))).at (by decide) m0
    obtain ⟨b3, b4, b5, hM, b7, b8, b9, b10, b11, b12, b13, b14, b15, hBv, b16, b17, b18⟩ := (zz.2.1).fr (g_fr.rf.up (by decide) : g_fr [167] h1' (g_up h1' 167 (.inl (3, 1, .inr (.inl (vp_updL ou 0 v0.toInt64)))))) (by decide)
    refine ⟨k_two (s 6) 4 x y, _, _, hr, (by show k_two (s 6) 4 x y < _; unfold k_two; (repeat' split) <;> decide), c_mballot G 9 n false _ (x := x) (y := y) m1 b4 b5 b13 b14 q4 p5 p6, ⟨_, m1⟩, fun b h2 hg q => ?_⟩
    obtain ⟨hk2, -⟩ | ⟨-, hb, hm⟩ := q
    · exact absurd hk hk2
    · refine ⟨_, zz.keep (g_fr.rf.up (by decide)) g_eq hg hm, fun _ => ?_⟩
      rw [vp_up0]
      have e2 : v0 = b := by
        obtain ⟨hk', r', hr', ha⟩ := P
        have e3 : v0 = r' := Value.int.inj (Option.some.inj hr')
        rw [e3]
        have hx := (k2_u (by omega) (by decide) hk).1
        exact bAns_e ha hb q2 (q5 _ hx).symm (l8 _ hx).symm (l9 _ hx).symm
      rw [e2]
  · refine ⟨k_two (s 6) 4 x y, _, _, hr, (by show k_two (s 6) 4 x y < _; unfold k_two; (repeat' split) <;> decide), c_mballot G 9 n false _ (x := x) (y := y) m0 b4 b5 b13 b14 q4 p5 p6, ⟨_, m0⟩, fun b h2 hg q => ?_⟩
    obtain ⟨hk2, hm, hg2⟩ | ⟨hk2, -⟩ := q
    · exact ⟨_, zz.same hg2 hm, fun q => absurd q hk⟩
    · exact absurd hk2 hk
set_option maxHeartbeats 4000000 in
set_option maxRecDepth 100000 in
theorem t_size (G : gG) (n : Nat) (h : gH) {x : Int32} {kk : Nat} {ou : Nat → Int64} (z : Rel h kk ou) : StI G mL_size mX11_size [.ref 0, .int x, .ref 167] [.ref 142, .int x] n h := by
  obtain ⟨s, v, wn, en, rc, dg, c, bl, ti, df, w, l, fv, ft, bf, wM, tM, ct, O, Bx, S0, se, sw, rI, sI, V, k, m, sg, cm, sd, D, dr, bk, mm, lm, pn, pd, e, fm, fr, A, B, z⟩ := z
  have zz := z
  obtain ⟨⟨a0, hs, hS, hC, hl, hT, hK, hR, hP, hF, hO, hQ⟩, ⟨b3, b4, b5, hM, b7, b8, b9, b10, b11, b12, b13, b14, b15, hBv, b16, b17, b18⟩, ⟨p4, p5, p6, p65, p71, p7, p81, p8, p9, p10, p12, p11⟩, ⟨q1, q2, q3, q4, q5, q6⟩, ⟨pk, pdg, pc, psg, pcm, psd, pv, pwn, pwM, pww⟩, ⟨l1, l2, l3, l4, l5, l6, l7, l8, l9, l10⟩, ⟨f1, f2, f3, f4, f5, f6, f7⟩, ⟨r1, r2, r3, r4⟩, ⟨d1, d2, d3⟩, ⟨v0, v1, v6, v7, v8⟩, ⟨o1, o2, o3⟩, m0, hou⟩ := z
  refine ⟨_, _, w_size G 0 n h (c_size G 1 n h a0 (by omega) hQ) (fun v h' q => ⟨q.1, _, q.2⟩) a0 hou (by decide), fun r h1 hf p => ?_⟩
  obtain ⟨hr, ⟨hk, h1', w0, P, hfr, rfl⟩ | ⟨hk, rfl⟩⟩ := p
  · have e1 : h1' = h := g_fr0 hfr
    subst e1
    have m1 := (g_fr.rf.up (by decide) : g_fr [167] h1' (g_up h1' 167 (.inl (3, 1, .inr (.inl (vp_updL ou 0 w0.toInt64)))))).at (by decide) m0
    obtain ⟨b3, b4, b5, hM, b7, b8, b9, b10, b11, b12, b13, b14, b15, hBv, b16, b17, b18⟩ := (zz.2.1).fr (g_fr.rf.up (by decide) : g_fr [167] h1' (g_up h1' 167 (.inl (3, 1, .inr (.inl (vp_updL ou 0 w0.toInt64)))))) (by decide)
    refine ⟨k_size x, _, _, hr, (by show k_size x < _; unfold k_size; (repeat' split) <;> decide), c_msize G 8 n false _ hBv v0 v1 (x := x) m1, ⟨_, m1⟩, fun b h2 hg q => ?_⟩
    obtain ⟨hk2, -⟩ | ⟨-, hb, hm⟩ := q
    · exact absurd hk hk2
    · refine ⟨_, zz.keep (g_fr.rf.up (by decide)) g_eq hg hm, fun _ => ?_⟩
      rw [vp_up0]
      have e2 : w0 = b := by
        exact (Value.int.inj (Option.some.inj P.2)).trans hb.symm
      rw [e2]
  · refine ⟨k_size x, _, _, hr, (by show k_size x < _; unfold k_size; (repeat' split) <;> decide), c_msize G 8 n false _ hBv v0 v1 (x := x) m0, ⟨_, m0⟩, fun b h2 hg q => ?_⟩
    obtain ⟨hk2, hm, hg2⟩ | ⟨hk2, -⟩ := q
    · exact ⟨_, zz.same hg2 hm, fun q => absurd q hk⟩
    · exact absurd hk2 hk
set_option maxHeartbeats 4000000 in
set_option maxRecDepth 100000 in
theorem t_limb (G : gG) (n : Nat) (h : gH) {x y : Int32} {kk : Nat} {ou : Nat → Int64} (z : Rel h kk ou) : StI G mL_limb mX11_limb [.ref 0, .int x, .int y, .ref 167] [.ref 142, .int x, .int y] n h := by
  obtain ⟨s, v, wn, en, rc, dg, c, bl, ti, df, w, l, fv, ft, bf, wM, tM, ct, O, Bx, S0, se, sw, rI, sI, V, k, m, sg, cm, sd, D, dr, bk, mm, lm, pn, pd, e, fm, fr, A, B, z⟩ := z
  have zz := z
  obtain ⟨⟨a0, hs, hS, hC, hl, hT, hK, hR, hP, hF, hO, hQ⟩, ⟨b3, b4, b5, hM, b7, b8, b9, b10, b11, b12, b13, b14, b15, hBv, b16, b17, b18⟩, ⟨p4, p5, p6, p65, p71, p7, p81, p8, p9, p10, p12, p11⟩, ⟨q1, q2, q3, q4, q5, q6⟩, ⟨pk, pdg, pc, psg, pcm, psd, pv, pwn, pwM, pww⟩, ⟨l1, l2, l3, l4, l5, l6, l7, l8, l9, l10⟩, ⟨f1, f2, f3, f4, f5, f6, f7⟩, ⟨r1, r2, r3, r4⟩, ⟨d1, d2, d3⟩, ⟨v0, v1, v6, v7, v8⟩, ⟨o1, o2, o3⟩, m0, hou⟩ := z
  refine ⟨_, _, w_limb G 0 n h (c_limb G 1 n h a0 (by omega) hQ) (fun v h' q => ⟨q.1, _, q.2⟩) a0 hou (by decide), fun r h1 hf p => ?_⟩
  obtain ⟨hr, ⟨hk, h1', w0, P, hfr, rfl⟩ | ⟨hk, rfl⟩⟩ := p
  · have e1 : h1' = h := g_fr0 hfr
    subst e1
    have m1 := (g_fr.rf.up (by decide) : g_fr [167] h1' (g_up h1' 167 (.inl (3, 1, .inr (.inl (vp_updL ou 0 w0.toInt64)))))).at (by decide) m0
    obtain ⟨b3, b4, b5, hM, b7, b8, b9, b10, b11, b12, b13, b14, b15, hBv, b16, b17, b18⟩ := (zz.2.1).fr (g_fr.rf.up (by decide) : g_fr [167] h1' (g_up h1' 167 (.inl (3, 1, .inr (.inl (vp_updL ou 0 w0.toInt64)))))) (by decide)
    refine ⟨k_limb (nl (if un x = 0 then A else B)) x y, _, _, hr, (by show k_limb (nl (if un x = 0 then A else B)) x y < _; unfold k_limb; (repeat' split) <;> decide), c_mlimb G 8 n false _ hBv v0 v1 (x := x) (y := y) m1, ⟨_, m1⟩, fun b h2 hg q => ?_⟩
    obtain ⟨hk2, -⟩ | ⟨-, hb, hm⟩ := q
    · exact absurd hk hk2
    · refine ⟨_, zz.keep (g_fr.rf.up (by decide)) g_eq hg hm, fun _ => ?_⟩
      rw [vp_up0]
      have e2 : w0 = b := by
        exact (Value.int.inj (Option.some.inj P.2)).trans hb.symm
      rw [e2]
  · refine ⟨k_limb (nl (if un x = 0 then A else B)) x y, _, _, hr, (by show k_limb (nl (if un x = 0 then A else B)) x y < _; unfold k_limb; (repeat' split) <;> decide), c_mlimb G 8 n false _ hBv v0 v1 (x := x) (y := y) m0, ⟨_, m0⟩, fun b h2 hg q => ?_⟩
    obtain ⟨hk2, hm, hg2⟩ | ⟨hk2, -⟩ := q
    · exact ⟨_, zz.same hg2 hm, fun q => absurd q hk⟩
    · exact absurd hk2 hk
