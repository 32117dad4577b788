def SW_ : List Nat := 0 :: 6 :: 10 :: 11 :: 12 :: 13 :: 14 :: 15 :: 16 :: SP
def SE_ : List Nat := 14 :: ST
theorem mSW {i : Nat} (h : i = 0 ∨ i = 6 ∨ (10 ≤ i ∧ i < 120)) : i ∈ SW_ := by
  unfold SW_
  simp only [List.mem_cons]
  by_cases q : i < 17
  · have : i = 0 ∨ i = 6 ∨ i = 10 ∨ i = 11 ∨ i = 12 ∨ i = 13 ∨ i = 14 ∨ i = 15 ∨ i = 16 := by omega
    rcases this with z | z | z | z | z | z | z | z | z <;> simp [z]
  · simp only [mSP (show 17 ≤ i by omega) (show i < 120 by omega), or_true]
theorem mSW' {i : Nat} (h : i ∈ SW_) : i = 0 ∨ i = 6 ∨ (10 ≤ i ∧ i < 120) := by
  unfold SW_ at h
  simp only [List.mem_cons] at h
  rcases h with z | z | z | z | z | z | z | z | z | z
  all_goals first | omega | (have := mSP' z; omega)
set_option maxHeartbeats 4000000 in
set_option maxRecDepth 100000 in
theorem c_draw0 (G : gG) (d n : Nat) (h : gH) {sg cm sd : Nat} (a0 : Au h sg cm sd) (hsg : sg < 2 ^ 31) (hs1 : ¬ sg = 1) : g_M G mX10_draw (d + 7) 8 48 [.ref 0] n false h (q_t n [] h (fun r h' => False) (x_of [xIS] (k_draw sg))) := by
  refine g_enter (by decide) (Nat.le_of_ble_eq_true rfl) ?_
  show g_W G _ _ _ n false h 0 0 0 [(0, .ref 0)] []
  refine g_aload_n dX10_draw_0 rfl rfl ?_
  refine g_iconst (v := nI 1) dX10_draw_1 (by decide) ?_
  refine cVn (st := []) dX10_draw_2 (c_needStage G d n h (x := 1) (a0) hsg (by decide)) sX10_76 a0 rfl rfl (by simp only [g_rm]; omega) (by simp only [g_rm]; omega) (Nat.le_of_ble_eq_true rfl) ⟨Nat.le_of_ble_eq_true rfl, Nat.le_of_ble_eq_true rfl⟩ (fun p1 => ?_) (fun p1 => g_out rfl (Nat.le_of_ble_eq_true rfl) (Nat.le_of_ble_eq_true rfl) (x_t (by unfold x_of k_draw; rw [if_neg hs1]; exact ⟨by decide, rfl⟩)))
  exact absurd p1 hs1
theorem nr_c {h h' : gH} {N sd m k dr : Nat} {dg c : Nat → Nat} {r : Int32} (q : ∃ K, ck_P N K ∧ ((m < K ∧ r = -1 ∧ h' = h) ∨ (K ≤ m ∧ r = (if tk c K < N then nI (tk c K) else -2) ∧ Co h' (fun j => c (j + K)) (m - K)))) (hs : sd = 0) (hC : Co h c m) : ∃ (m' : Nat) (c' : Nat → Nat), NRel sd dg k dr N c m r m' c' ∧ Co h' c' m' := by
  obtain ⟨K, hK, ⟨q1, q2, q3⟩ | ⟨q1, q2, q3⟩⟩ := q
  · subst q3; exact ⟨m, c, Or.inr ⟨hs, K, hK, Or.inl ⟨q1, q2, rfl, fun _ _ => rfl⟩⟩, hC⟩
  · exact ⟨m - K, _, Or.inr ⟨hs, K, hK, Or.inr ⟨q1, q2, rfl, fun _ _ => rfl⟩⟩, q3⟩
theorem ok_m2 {x : Int32} (h : s_ok x) : ¬ x = -2 := by
  rcases h with q | ⟨c, hc, q⟩
  · rw [q]; decide
  · rw [q]; exact ne_m2 (by omega)
set_option maxHeartbeats 4000000 in
set_option maxRecDepth 100000 in
theorem c_draw (G : gG) (d n : Nat) (h : gH) {sg cm sd : Nat} {s v wn en rc bl ti df w l ea eb : Nat → Nat} {se sw : Nat → Int32} {D dr bk m lm pn pd e : Nat} {dg c : Nat → Nat} {k m0 : Nat} (a0 : Au h sg cm sd) (hsg1 : sg = 1) (hs : Su h s v wn en rc) (hl : Dl h bl ti df se D dr bk) (hC : Co h c m0) (hS : Sd h dg k) (hk : k ≤ 20) (hdg : ∀ i, dg i < 2 ^ 30) (hsd : sd ≤ 1) (hdrc : dr < s 8) (hDdr : D ≤ dr) (hok : ∀ k, k < D → s_ok (se k)) (hblN : ∀ k, k < D → bl k < s 6) (hbl : ∀ k, bl k < 2 ^ 31) (hD : D ≤ 200) (hcap : s 8 ≤ 200) (hm : m ≤ 16) (hV : ∀ k, k < m → v (l k) < v (w k) ∧ v (w k) ≤ 20000) (hl1 : s 9 ≤ 1000000) (hl2 : s 10 ≤ 1000000) (hT : Te h m (cs_ sw m) lm) (hK : Tk h m w l v sw ea eb) (hwl : ∀ k, k < m → w k < 8 ∧ l k < 8) (hE : ∀ k, k < m → ea k + eb k ≤ 199) (hm1 : 1 ≤ m) (hP : Pq h pn pd e) (he2 : e ≤ 199) (g1 : s 12 < s 11) (g2 : s 11 ≤ 1000000) (hN1 : 1 ≤ s 6) (hN2 : s 6 ≤ 20000) (hlm : ∀ k, k < m → lm ≤ md v w l k) (hlm2 : lm ≤ s 6) (hR : TeR h) (hcm : cm ≤ 1) : g_M G mX10_draw (d + 7) 8 48 [.ref 0] n false h (q_t n SW_ h (fun r h' => ∃ r' m' c', r = some (.int r') ∧ NRel sd dg k dr (s 6) c m0 r' m' c' ∧ Co h' c' m' ∧ Sd h' dg k ∧ ((r' = -1 ∧ g_fr [6, 10, 11] h h') ∨ (r' = -2 ∧ ∃ (sg' : Nat) (sw' : Nat → Int32) (ea' eb' : Nat → Nat) (pn' pd' e' : Nat), Au h' sg' cm sd ∧ Dl h' bl ti (cdf df (-2)) se D (dr + 1) (bk + 1) ∧ Te h' m (cs_ sw' m) lm ∧ Tk h' m w l v sw' ea' eb' ∧ Pq h' pn' pd' e' ∧ TeR h' ∧ e' ≤ e + 1 ∧ ((cm = 0 ∧ sw' = (pw_sw (-2) w l v (s 9) (s 10) (dr + 1) sw ea eb) ∧ ea' = pw_ea (-2) w ea ∧ eb' = pw_eb (-2) w l eb ∧ pn' = pn ∧ pd' = pd ∧ sg' = stP (cs_ (pw_sw (-2) w l v (s 9) (s 10) (dr + 1) sw ea eb) m = m) (s 8) (dr + 1)) ∨ (cm = 1 ∧ sw' = sw ∧ ea' = ea ∧ eb' = eb ∧ pn' = (pn * ((2 * s 11 * s 6 - s 12 * lm) * md v w l (mo (oe w l (-1) (-2)) (md v w l) m))) ∧ pd' = (pd * (s 6 * cF2 (s 11) (s 12) lm (md v w l (mo (oe w l (-1) (-2)) (md v w l) m)) (oe w l (-1) (-2) (mo (oe w l (-1) (-2)) (md v w l) m)))) ∧ sg' = stP ((pn * ((2 * s 11 * s 6 - s 12 * lm) * md v w l (mo (oe w l (-1) (-2)) (md v w l) m))) * s 10 ≤ (pd * (s 6 * cF2 (s 11) (s 12) lm (md v w l (mo (oe w l (-1) (-2)) (md v w l) m)) (oe w l (-1) (-2) (mo (oe w l (-1) (-2)) (md v w l) m)))) * s 9) (s 8) (dr + 1)))) ∨ (∃ b, b < s 6 ∧ r' = nI b ∧ ((∃ kp, plc bl b D = some kp ∧ ∃ (sg' : Nat) (sw' : Nat → Int32) (ea' eb' : Nat → Nat) (pn' pd' e' : Nat), Au h' sg' cm sd ∧ Dl h' bl (va_up ti kp (ti kp + 1)) (cdf df (se kp)) se D (dr + 1) bk ∧ Te h' m (cs_ sw' m) lm ∧ Tk h' m w l v sw' ea' eb' ∧ Pq h' pn' pd' e' ∧ TeR h' ∧ e' ≤ e + 1 ∧ ((cm = 0 ∧ sw' = (pw_sw (se kp) w l v (s 9) (s 10) (dr + 1) sw ea eb) ∧ ea' = pw_ea (se kp) w ea ∧ eb' = pw_eb (se kp) w l eb ∧ pn' = pn ∧ pd' = pd ∧ sg' = stP (cs_ (pw_sw (se kp) w l v (s 9) (s 10) (dr + 1) sw ea eb) m = m) (s 8) (dr + 1)) ∨ (cm = 1 ∧ sw' = sw ∧ ea' = ea ∧ eb' = eb ∧ pn' = (pn * ((2 * s 11 * s 6 - s 12 * lm) * md v w l (mo (oe w l (nI (rc (bl kp)) - nI 1) (se kp)) (md v w l) m))) ∧ pd' = (pd * (s 6 * cF2 (s 11) (s 12) lm (md v w l (mo (oe w l (nI (rc (bl kp)) - nI 1) (se kp)) (md v w l) m)) (oe w l (nI (rc (bl kp)) - nI 1) (se kp) (mo (oe w l (nI (rc (bl kp)) - nI 1) (se kp)) (md v w l) m)))) ∧ sg' = stP ((pn * ((2 * s 11 * s 6 - s 12 * lm) * md v w l (mo (oe w l (nI (rc (bl kp)) - nI 1) (se kp)) (md v w l) m))) * s 10 ≤ (pd * (s 6 * cF2 (s 11) (s 12) lm (md v w l (mo (oe w l (nI (rc (bl kp)) - nI 1) (se kp)) (md v w l) m)) (oe w l (nI (rc (bl kp)) - nI 1) (se kp) (mo (oe w l (nI (rc (bl kp)) - nI 1) (se kp)) (md v w l) m)))) * s 9) (s 8) (dr + 1)))) ∨ (plc bl b D = none ∧ Au h' 2 cm sd ∧ Dl h' (va_up bl D b) (va_up ti D 1) df (upd se D (-2)) (D + 1) (dr + 1) bk ∧ g_fr [0, 6, 10, 11, 12, 13, 14, 15] h h'))))) (x_of [xIS] (k_draw sg))) := by
  have hs' := hs
  obtain ⟨z1, z2, z3, z4, z5⟩ := hs'
  have l1 := hl.1
  have s1 := hS.1
  have hsg : sg < 2 ^ 31 := by omega
  refine g_enter (by decide) (Nat.le_of_ble_eq_true rfl) ?_
  show g_W G _ _ _ n false h 0 0 0 [(0, .ref 0)] []
  refine g_aload_n dX10_draw_0 rfl rfl ?_
  refine g_iconst (v := nI 1) dX10_draw_1 (by decide) ?_
  refine cVn (st := []) dX10_draw_2 (c_needStage G d n h (x := 1) (a0) hsg (by decide)) sX10_76 a0 rfl rfl (by simp only [g_rm]; omega) (by simp only [g_rm]; omega) (Nat.le_of_ble_eq_true rfl) ⟨Nat.le_of_ble_eq_true rfl, Nat.le_of_ble_eq_true rfl⟩ (fun p1 => ?_) (fun p1 => g_out rfl (Nat.le_of_ble_eq_true rfl) (Nat.le_of_ble_eq_true rfl) (absurd hsg1 p1))
  refine g_aload_n dX10_draw_5 rfl rfl ?_
  refine g_getf dX10_draw_6 fX10_177 a0 rfl ?_
  refine g_if_eqN (tgt := 38) dX10_draw_9 (by decide) (by omega) (fun c9 => ?_) (fun c9 => ?_)
  · refine g_aload_n dX10_draw_38 rfl rfl ?_
    refine cVi (st := []) dX10_draw_39 (c_coinDraw G (d + 4) n false h a0 hs hC hN2) sX10_186 a0 rfl rfl (by simp only [g_rm]; omega) (by simp only [g_rm]; omega) (Nat.le_of_ble_eq_true rfl) ⟨Nat.le_of_ble_eq_true rfl, Nat.le_of_ble_eq_true rfl⟩ (fun r9 h2 fr3 p4 => ?_)
    obtain ⟨m1, c1, y0, hC1⟩ := nr_c p4 c9 hC (dg := dg) (k := k) (dr := dr)
    have hf0 : g_fr [6, 10, 11] h h2 := fr3.mono (by simp)
    have hS1 : Sd h2 dg k := hS.fr fr3 (by simp)
    rcases y0.r hN1 with hr | hr | ⟨b, hb, hr⟩
    · subst hr
      refine g_istore_n (ls' := [(1, .int (-1)), (0, .ref 0)]) dX10_draw_42 rfl (by decide) rfl ?_
      refine g_iload_n dX10_draw_43 rfl rfl ?_
      refine g_iconst (v := -1) dX10_draw_44 (by decide) ?_
      refine g_icmp_ne (tgt := 50) dX10_draw_45 (by decide) (fun c45 => ?_) (fun c45 => ?_)
      · exact absurd rfl c45
      · refine g_iconst (v := -1) dX10_draw_48 (by decide) ?_
        exact e_ti dX10_draw_49 rfl rfl (hf0.mono (fun i hi => mSW (by simp at hi; omega))) ⟨_, m1, c1, rfl, y0, hC1, hS1, Or.inl ⟨rfl, hf0⟩⟩ (Nat.le_of_ble_eq_true rfl) (Nat.le_of_ble_eq_true rfl)
    · subst hr
      refine g_istore_n (ls' := [(1, .int (-2)), (0, .ref 0)]) dX10_draw_42 rfl (by decide) rfl ?_
      refine g_iload_n dX10_draw_43 rfl rfl ?_
      refine g_iconst (v := -1) dX10_draw_44 (by decide) ?_
      refine g_icmp_ne (tgt := 50) dX10_draw_45 (by decide) (fun c45 => ?_) (fun c45 => ?_)
      · refine g_iload_n dX10_draw_50 rfl rfl ?_
        refine g_bipush (v := -2) dX10_draw_51 (by decide) ?_
        refine g_icmp_ne (tgt := 71) dX10_draw_53 (by decide) (fun c53 => ?_) (fun c53 => ?_)
        · exact absurd rfl c53
        · refine g_aload_n dX10_draw_56 rfl rfl ?_
          refine g_getf dX10_draw_57 fX10_33 (fr3.at (by intro q; simp only [List.mem_cons, List.not_mem_nil, or_false] at q; omega) a0) rfl ?_
          refine cVv (st := []) dX10_draw_60 (c_addBlank G (d + 6) n false h2 (hl.fr hf0 (by simp))) sX10_190 (fr3.at (by intro q; simp only [List.mem_cons, List.not_mem_nil, or_false] at q; omega) l1) rfl rfl (by simp only [g_rm]; omega) (by simp only [g_rm]; omega) (Nat.le_of_ble_eq_true rfl) ⟨Nat.le_of_ble_eq_true rfl, Nat.le_of_ble_eq_true rfl⟩ (fun h5 fr6 p7 => ?_)
          have hl1' := p7
          have hf1 : g_fr [6, 10, 11, 12, 13, 14, 15] h h5 := g_fr.tr (hf0.mono (by simp)) fr6 (by simp)
          have hf2 : g_fr [12, 13, 14, 15] h2 h5 := fr6.mono (by simp)
          refine g_aload_n dX10_draw_63 rfl rfl ?_
          refine g_iconst (v := -1) dX10_draw_64 (by decide) ?_
          refine cVv (st := []) dX10_draw_65 (c_countDraw G (d + 1) n false h5 (rd := -1) (sv := -2) (fr6.at (by intro q; simp only [List.mem_cons, List.not_mem_nil, or_false] at q; omega) (fr3.at (by intro q; simp only [List.mem_cons, List.not_mem_nil, or_false] at q; omega) a0)) (hs.fr hf1 (by simp)) hl1' (Or.inl ⟨rfl, rfl, rfl⟩) (by omega) hD hcap hm hV hl1 hl2 (hT.fr hf1 (by simp) (by simp)) (hK.fr hf1 (by simp) hm) hwl hE hm1 (hP.fr hf1 (by simp)) he2 g1 g2 hN1 hN2 hlm hlm2 (hR.fr hf1 (by simp)) hcm) sX10_193 (fr6.at (by intro q; simp only [List.mem_cons, List.not_mem_nil, or_false] at q; omega) (fr3.at (by intro q; simp only [List.mem_cons, List.not_mem_nil, or_false] at q; omega) a0)) rfl rfl (by simp only [g_rm]; omega) (by simp only [g_rm]; omega) (Nat.le_of_ble_eq_true rfl) ⟨Nat.le_of_ble_eq_true rfl, Nat.le_of_ble_eq_true rfl⟩ (fun h9 fr10 p11 => ?_)
          have hfE : g_fr SW_ h h9 := g_fr.tr (hf1.mono (fun i hi => mSW (by simp at hi; omega))) fr10 (fun i hi => mSW (by have := mST hi; omega))
          have hCE := (hC1.fr hf2 (by simp) (by simp)).fr fr10 (fun q => by have := mST q; omega) (fun q => by have := mST q; omega)
          have hSE := (hS1.fr hf2 (by simp)).fr fr10 (fun i hi => by have := mST hi; omega)
          refine g_bipush (v := -2) dX10_draw_68 (by decide) ?_
          exact e_ti dX10_draw_70 rfl rfl hfE ⟨_, m1, c1, rfl, y0, hCE, hSE, Or.inr (Or.inl ⟨rfl, p11⟩)⟩ (Nat.le_of_ble_eq_true rfl) (Nat.le_of_ble_eq_true rfl)
      · exact absurd c45 (by decide)
    · subst hr
      refine g_istore_n (ls' := [(1, .int (nI b)), (0, .ref 0)]) dX10_draw_42 rfl (by decide) rfl ?_
      refine g_iload_n dX10_draw_43 rfl rfl ?_
      refine g_iconst (v := -1) dX10_draw_44 (by decide) ?_
      refine g_icmp_ne (tgt := 50) dX10_draw_45 (by decide) (fun c45 => ?_) (fun c45 => ?_)
      · refine g_iload_n dX10_draw_50 rfl rfl ?_
        refine g_bipush (v := -2) dX10_draw_51 (by decide) ?_
        refine g_icmp_ne (tgt := 71) dX10_draw_53 (by decide) (fun c53 => ?_) (fun c53 => ?_)
        · refine g_aload_n dX10_draw_71 rfl rfl ?_
          refine g_getf dX10_draw_72 fX10_33 (fr3.at (by intro q; simp only [List.mem_cons, List.not_mem_nil, or_false] at q; omega) a0) rfl ?_
          refine g_iload_n dX10_draw_75 rfl rfl ?_
          refine cVi (st := []) dX10_draw_76 (c_addDraw G (d + 4) n false h2 (hl.fr hf0 (by simp)) (b := b) hD (by omega) hbl (fun _ => by omega)) sX10_196 (fr3.at (by intro q; simp only [List.mem_cons, List.not_mem_nil, or_false] at q; omega) l1) rfl rfl (by simp only [g_rm]; omega) (by simp only [g_rm]; omega) (Nat.le_of_ble_eq_true rfl) ⟨Nat.le_of_ble_eq_true rfl, Nat.le_of_ble_eq_true rfl⟩ (fun r16 h13 fr14 p15 => ?_)
          have hf1 : g_fr [6, 10, 11, 12, 13, 14, 15] h h13 := g_fr.tr (hf0.mono (by simp)) fr14 (by simp)
          have hf2 : g_fr [12, 13, 14, 15] h2 h13 := fr14
          rcases p15 with ⟨kp, hkp, ebl, hfirst, rfl, hl1'⟩ | ⟨hnone, rfl, hl1'⟩
          · subst ebl
            refine g_istore_n (ls' := [(2, .int (nI kp)), (1, .int (nI (bl kp))), (0, .ref 0)]) dX10_draw_79 rfl (by decide) rfl ?_
            refine g_aload_n dX10_draw_80 rfl rfl ?_
            refine g_getf dX10_draw_81 fX10_33 (fr14.at (by intro q; simp only [List.mem_cons, List.not_mem_nil, or_false] at q; omega) (fr3.at (by intro q; simp only [List.mem_cons, List.not_mem_nil, or_false] at q; omega) a0)) rfl ?_
            refine g_iload_n dX10_draw_84 rfl rfl ?_
            refine cVi (st := []) dX10_draw_85 (c_seenAt G (d + 5) n false h13 hl1' hkp hD) sX10_199 hl1'.1 rfl rfl (by simp only [g_rm]; omega) (by simp only [g_rm]; omega) (Nat.le_of_ble_eq_true rfl) ⟨Nat.le_of_ble_eq_true rfl, Nat.le_of_ble_eq_true rfl⟩ (fun r20 h17 fr18 p19 => ?_)
            cases g_fr0 fr18
            subst p19
            refine g_bipush (v := -2) dX10_draw_88 (by decide) ?_
            refine g_icmp_ne (tgt := 101) dX10_draw_90 (by decide) (fun c90 => ?_) (fun c90 => ?_)
            · refine g_aload_n dX10_draw_101 rfl rfl ?_
              refine g_iload_n dX10_draw_102 rfl rfl ?_
              refine cVv (st := []) dX10_draw_103 (c_countDraw G (d + 1) n false h13 (rd := nI (rc (bl kp)) - nI 1) (sv := se kp) (fr14.at (by intro q; simp only [List.mem_cons, List.not_mem_nil, or_false] at q; omega) (fr3.at (by intro q; simp only [List.mem_cons, List.not_mem_nil, or_false] at q; omega) a0)) (hs.fr hf1 (by simp)) hl1' (Or.inr ⟨kp, rfl, hkp, rfl, hok kp hkp, by have := hblN kp hkp; omega, rfl⟩) (by omega) hD hcap hm hV hl1 hl2 (hT.fr hf1 (by simp) (by simp)) (hK.fr hf1 (by simp) hm) hwl hE hm1 (hP.fr hf1 (by simp)) he2 g1 g2 hN1 hN2 hlm hlm2 (hR.fr hf1 (by simp)) hcm) sX10_193 (fr14.at (by intro q; simp only [List.mem_cons, List.not_mem_nil, or_false] at q; omega) (fr3.at (by intro q; simp only [List.mem_cons, List.not_mem_nil, or_false] at q; omega) a0)) rfl rfl (by simp only [g_rm]; omega) (by simp only [g_rm]; omega) (Nat.le_of_ble_eq_true rfl) ⟨Nat.le_of_ble_eq_true rfl, Nat.le_of_ble_eq_true rfl⟩ (fun h21 fr22 p23 => ?_)
              have hfE : g_fr SW_ h h21 := g_fr.tr (hf1.mono (fun i hi => mSW (by simp at hi; omega))) fr22 (fun i hi => mSW (by have := mST hi; omega))
              have hCE := (hC1.fr hf2 (by simp) (by simp)).fr fr22 (fun q => by have := mST q; omega) (fun q => by have := mST q; omega)
              have hSE := (hS1.fr hf2 (by simp)).fr fr22 (fun i hi => by have := mST hi; omega)
              refine g_iload_n dX10_draw_106 rfl rfl ?_
              exact e_ti dX10_draw_107 rfl rfl hfE ⟨_, m1, c1, rfl, y0, hCE, hSE, Or.inr (Or.inr ⟨bl kp, hb, rfl, Or.inl ⟨kp, plc_of hkp rfl hfirst, p23⟩⟩)⟩ (Nat.le_of_ble_eq_true rfl) (Nat.le_of_ble_eq_true rfl)
            · exact absurd c90 (ok_m2 (hok kp hkp))
          · refine g_istore_n (ls' := [(2, .int (nI D)), (1, .int (nI b)), (0, .ref 0)]) dX10_draw_79 rfl (by decide) rfl ?_
            refine g_aload_n dX10_draw_80 rfl rfl ?_
            refine g_getf dX10_draw_81 fX10_33 (fr14.at (by intro q; simp only [List.mem_cons, List.not_mem_nil, or_false] at q; omega) (fr3.at (by intro q; simp only [List.mem_cons, List.not_mem_nil, or_false] at q; omega) a0)) rfl ?_
            refine g_iload_n dX10_draw_84 rfl rfl ?_
            refine cVi (st := []) dX10_draw_85 (c_seenAt G (d + 5) n false h13 hl1' (Nat.lt_succ_self D) (by omega)) sX10_199 hl1'.1 rfl rfl (by simp only [g_rm]; omega) (by simp only [g_rm]; omega) (Nat.le_of_ble_eq_true rfl) ⟨Nat.le_of_ble_eq_true rfl, Nat.le_of_ble_eq_true rfl⟩ (fun r28 h25 fr26 p27 => ?_)
            cases g_fr0 fr26
            subst p27
            refine g_bipush (v := -2) dX10_draw_88 (by decide) ?_
            refine g_icmp_ne (tgt := 101) dX10_draw_90 (by decide) (fun c90 => ?_) (fun c90 => ?_)
            · exact absurd pk_us c90
            · refine g_aload_n dX10_draw_93 rfl rfl ?_
              refine g_iconst (v := nI 2) dX10_draw_94 (by decide) ?_
              refine g_put (fs' := [.ref 1, .ref 6, .ref 8, .ref 12, .ref 17, .ref 120, .ref 123, .ref 137, .int (nI 2), .int (nI cm), .int (nI sd)]) dX10_draw_95 fX10_67 (fr14.at (by intro q; simp only [List.mem_cons, List.not_mem_nil, or_false] at q; omega) (fr3.at (by intro q; simp only [List.mem_cons, List.not_mem_nil, or_false] at q; omega) a0)) (Nat.le_of_ble_eq_true rfl) rfl rfl rfl ?_
              refine g_goto (tgt := 106) dX10_draw_98 (by decide) ?_
              refine g_iload_n dX10_draw_106 rfl rfl ?_
              exact e_ti dX10_draw_107 rfl rfl ((hf1.mono (fun i hi => mSW (by simp at hi; omega))).up (mSW (Or.inl rfl))) ⟨_, m1, c1, rfl, y0, ((hC1.fr hf2 (by simp) (by simp)).fr (g_fr.up (S := [0]) g_fr.rf (by simp)) (by simp) (by simp)), ((hS1.fr hf2 (by simp)).fr (g_fr.up (S := [0]) g_fr.rf (by simp)) (by simp)), Or.inr (Or.inr ⟨b, hb, rfl, Or.inr ⟨plc_no hnone, g_eq, hl1'.fr (g_fr.up (S := [0]) g_fr.rf (by simp)) (by simp), (hf1.mono (by simp)).up (by simp)⟩⟩)⟩ (Nat.le_of_ble_eq_true rfl) (Nat.le_of_ble_eq_true rfl)
        · exact absurd c53 (ne_m2 (by omega))
      · exact absurd c45 (ne_m1 (by omega))
  · refine g_aload_n dX10_draw_12 rfl rfl ?_
    refine g_getf dX10_draw_13 fX10_26 a0 rfl ?_
    refine g_aload_n dX10_draw_16 rfl rfl ?_
    refine g_getf dX10_draw_17 fX10_33 a0 rfl ?_
    refine g_getf dX10_draw_20 fX10_180 l1 rfl ?_
    refine g_iconst (v := nI 1) dX10_draw_23 (by decide) ?_
    refine g_iaddN dX10_draw_24 ?_
    refine g_aload_n dX10_draw_25 rfl rfl ?_
    refine g_getf dX10_draw_26 fX10_12 a0 rfl ?_
    refine g_getf dX10_draw_29 fX10_96 z1 rfl ?_
    refine cVi (st := []) dX10_draw_32 (c_ballotOfDraw G (d + 3) n false h hk hdg (num := dr + 1) (by omega) hN1 hN2 hS) sX10_183 s1 rfl rfl (by simp only [g_rm]; omega) (by simp only [g_rm]; omega) (Nat.le_of_ble_eq_true rfl) ⟨Nat.le_of_ble_eq_true rfl, Nat.le_of_ble_eq_true rfl⟩ (fun r9 h29 fr30 p31 => ?_)
    obtain ⟨er, hS1⟩ := p31
    have y0 : NRel sd dg k dr (s 6) c m0 r9 m0 c := Or.inl ⟨c9, er, rfl, fun _ _ => rfl⟩
    have hf0 : g_fr [6, 10, 11] h h29 := fr30.mono (by simp)
    have hC1 : Co h29 c m0 := hC.fr fr30 (by simp) (by simp)
    rcases y0.r hN1 with hr | hr | ⟨b, hb, hr⟩
    · subst hr
      refine g_goto (tgt := 42) dX10_draw_35 (by decide) ?_
      refine g_istore_n (ls' := [(1, .int (-1)), (0, .ref 0)]) dX10_draw_42 rfl (by decide) rfl ?_
      refine g_iload_n dX10_draw_43 rfl rfl ?_
      refine g_iconst (v := -1) dX10_draw_44 (by decide) ?_
      refine g_icmp_ne (tgt := 50) dX10_draw_45 (by decide) (fun c45 => ?_) (fun c45 => ?_)
      · exact absurd rfl c45
      · refine g_iconst (v := -1) dX10_draw_48 (by decide) ?_
        exact e_ti dX10_draw_49 rfl rfl (hf0.mono (fun i hi => mSW (by simp at hi; omega))) ⟨_, m0, c, rfl, y0, hC1, hS1, Or.inl ⟨rfl, hf0⟩⟩ (Nat.le_of_ble_eq_true rfl) (Nat.le_of_ble_eq_true rfl)
    · subst hr
      refine g_goto (tgt := 42) dX10_draw_35 (by decide) ?_
      refine g_istore_n (ls' := [(1, .int (-2)), (0, .ref 0)]) dX10_draw_42 rfl (by decide) rfl ?_
      refine g_iload_n dX10_draw_43 rfl rfl ?_
      refine g_iconst (v := -1) dX10_draw_44 (by decide) ?_
      refine g_icmp_ne (tgt := 50) dX10_draw_45 (by decide) (fun c45 => ?_) (fun c45 => ?_)
      · refine g_iload_n dX10_draw_50 rfl rfl ?_
        refine g_bipush (v := -2) dX10_draw_51 (by decide) ?_
        refine g_icmp_ne (tgt := 71) dX10_draw_53 (by decide) (fun c53 => ?_) (fun c53 => ?_)
        · exact absurd rfl c53
        · refine g_aload_n dX10_draw_56 rfl rfl ?_
          refine g_getf dX10_draw_57 fX10_33 (fr30.at (by intro q; simp only [List.mem_cons, List.not_mem_nil, or_false] at q; omega) a0) rfl ?_
          refine cVv (st := []) dX10_draw_60 (c_addBlank G (d + 6) n false h29 (hl.fr hf0 (by simp))) sX10_190 (fr30.at (by intro q; simp only [List.mem_cons, List.not_mem_nil, or_false] at q; omega) l1) rfl rfl (by simp only [g_rm]; omega) (by simp only [g_rm]; omega) (Nat.le_of_ble_eq_true rfl) ⟨Nat.le_of_ble_eq_true rfl, Nat.le_of_ble_eq_true rfl⟩ (fun h32 fr33 p34 => ?_)
          have hl1' := p34
          have hf1 : g_fr [6, 10, 11, 12, 13, 14, 15] h h32 := g_fr.tr (hf0.mono (by simp)) fr33 (by simp)
          have hf2 : g_fr [12, 13, 14, 15] h29 h32 := fr33.mono (by simp)
          refine g_aload_n dX10_draw_63 rfl rfl ?_
          refine g_iconst (v := -1) dX10_draw_64 (by decide) ?_
          refine cVv (st := []) dX10_draw_65 (c_countDraw G (d + 1) n false h32 (rd := -1) (sv := -2) (fr33.at (by intro q; simp only [List.mem_cons, List.not_mem_nil, or_false] at q; omega) (fr30.at (by intro q; simp only [List.mem_cons, List.not_mem_nil, or_false] at q; omega) a0)) (hs.fr hf1 (by simp)) hl1' (Or.inl ⟨rfl, rfl, rfl⟩) (by omega) hD hcap hm hV hl1 hl2 (hT.fr hf1 (by simp) (by simp)) (hK.fr hf1 (by simp) hm) hwl hE hm1 (hP.fr hf1 (by simp)) he2 g1 g2 hN1 hN2 hlm hlm2 (hR.fr hf1 (by simp)) hcm) sX10_193 (fr33.at (by intro q; simp only [List.mem_cons, List.not_mem_nil, or_false] at q; omega) (fr30.at (by intro q; simp only [List.mem_cons, List.not_mem_nil, or_false] at q; omega) a0)) rfl rfl (by simp only [g_rm]; omega) (by simp only [g_rm]; omega) (Nat.le_of_ble_eq_true rfl) ⟨Nat.le_of_ble_eq_true rfl, Nat.le_of_ble_eq_true rfl⟩ (fun h36 fr37 p38 => ?_)
          have hfE : g_fr SW_ h h36 := g_fr.tr (hf1.mono (fun i hi => mSW (by simp at hi; omega))) fr37 (fun i hi => mSW (by have := mST hi; omega))
          have hCE := (hC1.fr hf2 (by simp) (by simp)).fr fr37 (fun q => by have := mST q; omega) (fun q => by have := mST q; omega)
          have hSE := (hS1.fr hf2 (by simp)).fr fr37 (fun i hi => by have := mST hi; omega)
          refine g_bipush (v := -2) dX10_draw_68 (by decide) ?_
          exact e_ti dX10_draw_70 rfl rfl hfE ⟨_, m0, c, rfl, y0, hCE, hSE, Or.inr (Or.inl ⟨rfl, p38⟩)⟩ (Nat.le_of_ble_eq_true rfl) (Nat.le_of_ble_eq_true rfl)
      · exact absurd c45 (by decide)
    · subst hr
      refine g_goto (tgt := 42) dX10_draw_35 (by decide) ?_
      refine g_istore_n (ls' := [(1, .int (nI b)), (0, .ref 0)]) dX10_draw_42 rfl (by decide) rfl ?_
      refine g_iload_n dX10_draw_43 rfl rfl ?_
      refine g_iconst (v := -1) dX10_draw_44 (by decide) ?_
      refine g_icmp_ne (tgt := 50) dX10_draw_45 (by decide) (fun c45 => ?_) (fun c45 => ?_)
      · refine g_iload_n dX10_draw_50 rfl rfl ?_
        refine g_bipush (v := -2) dX10_draw_51 (by decide) ?_
        refine g_icmp_ne (tgt := 71) dX10_draw_53 (by decide) (fun c53 => ?_) (fun c53 => ?_)
        · refine g_aload_n dX10_draw_71 rfl rfl ?_
          refine g_getf dX10_draw_72 fX10_33 (fr30.at (by intro q; simp only [List.mem_cons, List.not_mem_nil, or_false] at q; omega) a0) rfl ?_
          refine g_iload_n dX10_draw_75 rfl rfl ?_
          refine cVi (st := []) dX10_draw_76 (c_addDraw G (d + 4) n false h29 (hl.fr hf0 (by simp)) (b := b) hD (by omega) hbl (fun _ => by omega)) sX10_196 (fr30.at (by intro q; simp only [List.mem_cons, List.not_mem_nil, or_false] at q; omega) l1) rfl rfl (by simp only [g_rm]; omega) (by simp only [g_rm]; omega) (Nat.le_of_ble_eq_true rfl) ⟨Nat.le_of_ble_eq_true rfl, Nat.le_of_ble_eq_true rfl⟩ (fun r43 h40 fr41 p42 => ?_)
          have hf1 : g_fr [6, 10, 11, 12, 13, 14, 15] h h40 := g_fr.tr (hf0.mono (by simp)) fr41 (by simp)
          have hf2 : g_fr [12, 13, 14, 15] h29 h40 := fr41
          rcases p42 with ⟨kp, hkp, ebl, hfirst, rfl, hl1'⟩ | ⟨hnone, rfl, hl1'⟩
          · subst ebl
            refine g_istore_n (ls' := [(2, .int (nI kp)), (1, .int (nI (bl kp))), (0, .ref 0)]) dX10_draw_79 rfl (by decide) rfl ?_
            refine g_aload_n dX10_draw_80 rfl rfl ?_
            refine g_getf dX10_draw_81 fX10_33 (fr41.at (by intro q; simp only [List.mem_cons, List.not_mem_nil, or_false] at q; omega) (fr30.at (by intro q; simp only [List.mem_cons, List.not_mem_nil, or_false] at q; omega) a0)) rfl ?_
            refine g_iload_n dX10_draw_84 rfl rfl ?_
            refine cVi (st := []) dX10_draw_85 (c_seenAt G (d + 5) n false h40 hl1' hkp hD) sX10_199 hl1'.1 rfl rfl (by simp only [g_rm]; omega) (by simp only [g_rm]; omega) (Nat.le_of_ble_eq_true rfl) ⟨Nat.le_of_ble_eq_true rfl, Nat.le_of_ble_eq_true rfl⟩ (fun r47 h44 fr45 p46 => ?_)
            cases g_fr0 fr45
            subst p46
            refine g_bipush (v := -2) dX10_draw_88 (by decide) ?_
            refine g_icmp_ne (tgt := 101) dX10_draw_90 (by decide) (fun c90 => ?_) (fun c90 => ?_)
            · refine g_aload_n dX10_draw_101 rfl rfl ?_
              refine g_iload_n dX10_draw_102 rfl rfl ?_
              refine cVv (st := []) dX10_draw_103 (c_countDraw G (d + 1) n false h40 (rd := nI (rc (bl kp)) - nI 1) (sv := se kp) (fr41.at (by intro q; simp only [List.mem_cons, List.not_mem_nil, or_false] at q; omega) (fr30.at (by intro q; simp only [List.mem_cons, List.not_mem_nil, or_false] at q; omega) a0)) (hs.fr hf1 (by simp)) hl1' (Or.inr ⟨kp, rfl, hkp, rfl, hok kp hkp, by have := hblN kp hkp; omega, rfl⟩) (by omega) hD hcap hm hV hl1 hl2 (hT.fr hf1 (by simp) (by simp)) (hK.fr hf1 (by simp) hm) hwl hE hm1 (hP.fr hf1 (by simp)) he2 g1 g2 hN1 hN2 hlm hlm2 (hR.fr hf1 (by simp)) hcm) sX10_193 (fr41.at (by intro q; simp only [List.mem_cons, List.not_mem_nil, or_false] at q; omega) (fr30.at (by intro q; simp only [List.mem_cons, List.not_mem_nil, or_false] at q; omega) a0)) rfl rfl (by simp only [g_rm]; omega) (by simp only [g_rm]; omega) (Nat.le_of_ble_eq_true rfl) ⟨Nat.le_of_ble_eq_true rfl, Nat.le_of_ble_eq_true rfl⟩ (fun h48 fr49 p50 => ?_)
              have hfE : g_fr SW_ h h48 := g_fr.tr (hf1.mono (fun i hi => mSW (by simp at hi; omega))) fr49 (fun i hi => mSW (by have := mST hi; omega))
              have hCE := (hC1.fr hf2 (by simp) (by simp)).fr fr49 (fun q => by have := mST q; omega) (fun q => by have := mST q; omega)
              have hSE := (hS1.fr hf2 (by simp)).fr fr49 (fun i hi => by have := mST hi; omega)
              refine g_iload_n dX10_draw_106 rfl rfl ?_
              exact e_ti dX10_draw_107 rfl rfl hfE ⟨_, m0, c, rfl, y0, hCE, hSE, Or.inr (Or.inr ⟨bl kp, hb, rfl, Or.inl ⟨kp, plc_of hkp rfl hfirst, p50⟩⟩)⟩ (Nat.le_of_ble_eq_true rfl) (Nat.le_of_ble_eq_true rfl)
            · exact absurd c90 (ok_m2 (hok kp hkp))
          · refine g_istore_n (ls' := [(2, .int (nI D)), (1, .int (nI b)), (0, .ref 0)]) dX10_draw_79 rfl (by decide) rfl ?_
            refine g_aload_n dX10_draw_80 rfl rfl ?_
            refine g_getf dX10_draw_81 fX10_33 (fr41.at (by intro q; simp only [List.mem_cons, List.not_mem_nil, or_false] at q; omega) (fr30.at (by intro q; simp only [List.mem_cons, List.not_mem_nil, or_false] at q; omega) a0)) rfl ?_
            refine g_iload_n dX10_draw_84 rfl rfl ?_
            refine cVi (st := []) dX10_draw_85 (c_seenAt G (d + 5) n false h40 hl1' (Nat.lt_succ_self D) (by omega)) sX10_199 hl1'.1 rfl rfl (by simp only [g_rm]; omega) (by simp only [g_rm]; omega) (Nat.le_of_ble_eq_true rfl) ⟨Nat.le_of_ble_eq_true rfl, Nat.le_of_ble_eq_true rfl⟩ (fun r55 h52 fr53 p54 => ?_)
            cases g_fr0 fr53
            subst p54
            refine g_bipush (v := -2) dX10_draw_88 (by decide) ?_
            refine g_icmp_ne (tgt := 101) dX10_draw_90 (by decide) (fun c90 => ?_) (fun c90 => ?_)
            · exact absurd pk_us c90
            · refine g_aload_n dX10_draw_93 rfl rfl ?_
              refine g_iconst (v := nI 2) dX10_draw_94 (by decide) ?_
              refine g_put (fs' := [.ref 1, .ref 6, .ref 8, .ref 12, .ref 17, .ref 120, .ref 123, .ref 137, .int (nI 2), .int (nI cm), .int (nI sd)]) dX10_draw_95 fX10_67 (fr41.at (by intro q; simp only [List.mem_cons, List.not_mem_nil, or_false] at q; omega) (fr30.at (by intro q; simp only [List.mem_cons, List.not_mem_nil, or_false] at q; omega) a0)) (Nat.le_of_ble_eq_true rfl) rfl rfl rfl ?_
              refine g_goto (tgt := 106) dX10_draw_98 (by decide) ?_
              refine g_iload_n dX10_draw_106 rfl rfl ?_
              exact e_ti dX10_draw_107 rfl rfl ((hf1.mono (fun i hi => mSW (by simp at hi; omega))).up (mSW (Or.inl rfl))) ⟨_, m0, c, rfl, y0, ((hC1.fr hf2 (by simp) (by simp)).fr (g_fr.up (S := [0]) g_fr.rf (by simp)) (by simp) (by simp)), ((hS1.fr hf2 (by simp)).fr (g_fr.up (S := [0]) g_fr.rf (by simp)) (by simp)), Or.inr (Or.inr ⟨b, hb, rfl, Or.inr ⟨plc_no hnone, g_eq, hl1'.fr (g_fr.up (S := [0]) g_fr.rf (by simp)) (by simp), (hf1.mono (by simp)).up (by simp)⟩⟩)⟩ (Nat.le_of_ble_eq_true rfl) (Nat.le_of_ble_eq_true rfl)
        · exact absurd c53 (ne_m2 (by omega))
      · exact absurd c45 (ne_m1 (by omega))
set_option maxHeartbeats 4000000 in
set_option maxRecDepth 100000 in
theorem c_see (G : gG) (d n : Nat) (h : gH) {sg cm sd : Nat} {s v wn en rc bl ti df w l ea eb : Nat → Nat} {se sw : Nat → Int32} {D dr bk m lm pn pd e : Nat} {x : Int32} (a0 : Au h sg cm sd) (hsg : sg < 2 ^ 31) (hs : Su h s v wn en rc) (hl : Dl h bl ti df se D dr bk) (h4 : s 4 ≤ 8) (hdr : dr ≤ 200) (hD1 : sg = 2 → 1 ≤ D) (hblN : ∀ k, k < D → bl k < s 6) (hD : D ≤ 200) (hcap : s 8 ≤ 200) (hm : m ≤ 16) (hV : ∀ k, k < m → v (l k) < v (w k) ∧ v (w k) ≤ 20000) (hl1 : s 9 ≤ 1000000) (hl2 : s 10 ≤ 1000000) (hT : Te h m (cs_ sw m) lm) (hK : Tk h m w l v sw ea eb) (hwl : ∀ k, k < m → w k < 8 ∧ l k < 8) (hE : ∀ k, k < m → ea k + eb k ≤ 199) (hm1 : 1 ≤ m) (hP : Pq h pn pd e) (he2 : e ≤ 199) (g1 : s 12 < s 11) (g2 : s 11 ≤ 1000000) (hN1 : 1 ≤ s 6) (hN2 : s 6 ≤ 20000) (hlm : ∀ k, k < m → lm ≤ md v w l k) (hlm2 : lm ≤ s 6) (hR : TeR h) (hcm : cm ≤ 1) : g_M G mX10_see (d + 8) 8 48 [.ref 0, .int x] n false h (q_t n SE_ h (fun r h' => k_see s sg x = 0 ∧ ∃ (sg' : Nat) (sw' : Nat → Int32) (ea' eb' : Nat → Nat) (pn' pd' e' : Nat), r = some (.int (nI sg')) ∧ Au h' sg' cm sd ∧ Dl h' bl ti (cdf df x) (upd se (D - 1) x) D dr bk ∧ Te h' m (cs_ sw' m) lm ∧ Tk h' m w l v sw' ea' eb' ∧ Pq h' pn' pd' e' ∧ TeR h' ∧ e' ≤ e + 1 ∧ ((cm = 0 ∧ sw' = (pw_sw x w l v (s 9) (s 10) dr sw ea eb) ∧ ea' = pw_ea x w ea ∧ eb' = pw_eb x w l eb ∧ pn' = pn ∧ pd' = pd ∧ sg' = stP (cs_ (pw_sw x w l v (s 9) (s 10) dr sw ea eb) m = m) (s 8) dr) ∨ (cm = 1 ∧ sw' = sw ∧ ea' = ea ∧ eb' = eb ∧ pn' = (pn * ((2 * s 11 * s 6 - s 12 * lm) * md v w l (mo (oe w l (nI (rc (bl (D - 1))) - nI 1) x) (md v w l) m))) ∧ pd' = (pd * (s 6 * cF2 (s 11) (s 12) lm (md v w l (mo (oe w l (nI (rc (bl (D - 1))) - nI 1) x) (md v w l) m)) (oe w l (nI (rc (bl (D - 1))) - nI 1) x (mo (oe w l (nI (rc (bl (D - 1))) - nI 1) x) (md v w l) m)))) ∧ sg' = stP ((pn * ((2 * s 11 * s 6 - s 12 * lm) * md v w l (mo (oe w l (nI (rc (bl (D - 1))) - nI 1) x) (md v w l) m))) * s 10 ≤ (pd * (s 6 * cF2 (s 11) (s 12) lm (md v w l (mo (oe w l (nI (rc (bl (D - 1))) - nI 1) x) (md v w l) m)) (oe w l (nI (rc (bl (D - 1))) - nI 1) x (mo (oe w l (nI (rc (bl (D - 1))) - nI 1) x) (md v w l) m)))) * s 9) (s 8) dr))) (x_of [xIB, xIS] (k_see s sg x))) := by
  have hs' := hs
  obtain ⟨z1, z2, z3, z4, z5⟩ := hs'
  have l1 := hl.1
  refine g_enter (by decide) (Nat.le_of_ble_eq_true rfl) ?_
  show g_W G _ _ _ n false h 0 0 0 [(0, .ref 0), (1, .int x)] []
  refine g_aload_n dX10_see_0 rfl rfl ?_
  refine g_iload_n dX10_see_1 rfl rfl ?_
  refine cVn (st := []) dX10_see_2 (c_needCand G d n h (x := x) a0 hs) sX10_136 a0 rfl rfl (by simp only [g_rm]; omega) (by simp only [g_rm]; omega) (Nat.le_of_ble_eq_true rfl) ⟨Nat.le_of_ble_eq_true rfl, Nat.le_of_ble_eq_true rfl⟩ (fun p1 => ?_) (fun p1 => g_out rfl (Nat.le_of_ble_eq_true rfl) (Nat.le_of_ble_eq_true rfl) (x_t (by unfold x_of k_see; rw [if_pos p1]; exact ⟨by decide, rfl⟩)))
  have hxc := p1
  refine g_aload_n dX10_see_5 rfl rfl ?_
  refine g_iconst (v := nI 2) dX10_see_6 (by decide) ?_
  refine cVn (st := []) dX10_see_7 (c_needStage G d n h (x := 2) (a0) hsg (by decide)) sX10_76 a0 rfl rfl (by simp only [g_rm]; omega) (by simp only [g_rm]; omega) (Nat.le_of_ble_eq_true rfl) ⟨Nat.le_of_ble_eq_true rfl, Nat.le_of_ble_eq_true rfl⟩ (fun p2 => ?_) (fun p2 => g_out rfl (Nat.le_of_ble_eq_true rfl) (Nat.le_of_ble_eq_true rfl) (x_t (by unfold x_of k_see; rw [if_neg (nn_ p1), if_pos p2]; exact ⟨by decide, rfl⟩)))
  refine g_aload_n dX10_see_10 rfl rfl ?_
  refine g_aload_n dX10_see_11 rfl rfl ?_
  refine g_getf dX10_see_12 fX10_33 a0 rfl ?_
  refine g_iload_n dX10_see_15 rfl rfl ?_
  refine cVi (st := [.ref 0]) dX10_see_16 (c_seeLast G (d + 5) n false h hl (x := x) (hD1 p2) hD) sX10_202 l1 rfl rfl (by simp only [g_rm]; omega) (by simp only [g_rm]; omega) (Nat.le_of_ble_eq_true rfl) ⟨Nat.le_of_ble_eq_true rfl, Nat.le_of_ble_eq_true rfl⟩ (fun r6 h3 fr4 p5 => ?_)
  obtain ⟨er, hl1'⟩ := p5
  subst er
  have hf1 : g_fr [14] h h3 := fr4
  have hxs : s_ok x := by
    rcases hxc with q | q
    · exact Or.inl q
    · obtain ⟨c9, hc9, e9⟩ := nat_ix q (by omega)
      exact Or.inr ⟨c9, by omega, e9⟩
  refine cVv (st := []) dX10_see_19 (c_countDraw G (d + 1) n false h3 (rd := nI (rc (bl (D - 1))) - nI 1) (sv := x) (fr4.at (by intro q; simp only [List.mem_cons, List.not_mem_nil, or_false] at q; omega) a0) (hs.fr hf1 (by simp)) hl1' (Or.inr ⟨D - 1, rfl, by have := hD1 p2; omega, by rw [pk_us], by rw [pk_us]; exact hxs, by have := hblN (D - 1) (by have := hD1 p2; omega); omega, rfl⟩) (by omega) hD hcap hm hV hl1 hl2 (hT.fr hf1 (by simp) (by simp)) (hK.fr hf1 (by simp) hm) hwl hE hm1 (hP.fr hf1 (by simp)) he2 g1 g2 hN1 hN2 hlm hlm2 (hR.fr hf1 (by simp)) hcm) sX10_193 (fr4.at (by intro q; simp only [List.mem_cons, List.not_mem_nil, or_false] at q; omega) a0) rfl rfl (by simp only [g_rm]; omega) (by simp only [g_rm]; omega) (Nat.le_of_ble_eq_true rfl) ⟨Nat.le_of_ble_eq_true rfl, Nat.le_of_ble_eq_true rfl⟩ (fun h7 fr8 p9 => ?_)
  have hfE : g_fr SE_ h h7 := g_fr.tr (hf1.mono (fun i hi => by rw [List.mem_singleton.mp hi]; exact List.mem_cons_self)) fr8 (fun i hi => List.mem_cons_of_mem _ hi)
  obtain ⟨sg', sw', ea', eb', pn', pd', e', x1, x2⟩ := p9
  refine g_aload_n dX10_see_22 rfl rfl ?_
  refine g_getf dX10_see_23 fX10_67 x1 rfl ?_
  exact e_ti dX10_see_26 rfl rfl hfE ⟨(by unfold k_see; rw [if_neg (nn_ p1), if_neg (nn_ p2)]), sg', sw', ea', eb', pn', pd', e', rfl, x1, x2⟩ (Nat.le_of_ble_eq_true rfl) (Nat.le_of_ble_eq_true rfl)
set_option maxHeartbeats 4000000 in
set_option maxRecDepth 100000 in
theorem c_see0 (G : gG) (d n : Nat) (h : gH) {sg cm sd : Nat} (a0 : Au h sg cm sd) (hsg : sg < 2 ^ 31) {s v wn en rc : Nat → Nat} (hs : Su h s v wn en rc) {bl ti df : Nat → Nat} {se : Nat → Int32} {D dr bk : Nat} {x : Int32} (hl : Dl h bl ti df se D dr bk) (hs2 : ¬ sg = 2) : g_M G mX10_see (d + 8) 8 48 [.ref 0, .int x] n false h (q_t n [] h (fun r h' => False) (x_of [xIB, xIS] (k_see s sg x))) := by
  have hs' := hs
  obtain ⟨z1, z2, z3, z4, z5⟩ := hs'
  have l1 := hl.1
  refine g_enter (by decide) (Nat.le_of_ble_eq_true rfl) ?_
  show g_W G _ _ _ n false h 0 0 0 [(0, .ref 0), (1, .int x)] []
  refine g_aload_n dX10_see_0 rfl rfl ?_
  refine g_iload_n dX10_see_1 rfl rfl ?_
  refine cVn (st := []) dX10_see_2 (c_needCand G d n h (x := x) a0 hs) sX10_136 a0 rfl rfl (by simp only [g_rm]; omega) (by simp only [g_rm]; omega) (Nat.le_of_ble_eq_true rfl) ⟨Nat.le_of_ble_eq_true rfl, Nat.le_of_ble_eq_true rfl⟩ (fun p1 => ?_) (fun p1 => g_out rfl (Nat.le_of_ble_eq_true rfl) (Nat.le_of_ble_eq_true rfl) (x_t (by unfold x_of k_see; rw [if_pos p1]; exact ⟨by decide, rfl⟩)))
  have hxc := p1
  refine g_aload_n dX10_see_5 rfl rfl ?_
  refine g_iconst (v := nI 2) dX10_see_6 (by decide) ?_
  refine cVn (st := []) dX10_see_7 (c_needStage G d n h (x := 2) (a0) hsg (by decide)) sX10_76 a0 rfl rfl (by simp only [g_rm]; omega) (by simp only [g_rm]; omega) (Nat.le_of_ble_eq_true rfl) ⟨Nat.le_of_ble_eq_true rfl, Nat.le_of_ble_eq_true rfl⟩ (fun p2 => ?_) (fun p2 => g_out rfl (Nat.le_of_ble_eq_true rfl) (Nat.le_of_ble_eq_true rfl) (x_t (by unfold x_of k_see; rw [if_neg (nn_ p1), if_pos p2]; exact ⟨by decide, rfl⟩)))
  refine g_aload_n dX10_see_10 rfl rfl ?_
  refine g_aload_n dX10_see_11 rfl rfl ?_
  refine g_getf dX10_see_12 fX10_33 a0 rfl ?_
  refine g_iload_n dX10_see_15 rfl rfl ?_
  exact absurd p2 hs2
