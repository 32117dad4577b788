def ST : List Nat := 0 :: 16 :: SP
theorem mST {i : Nat} (h : i ∈ ST) : i = 0 ∨ i = 16 ∨ (17 ≤ i ∧ i < 120) := by
  rcases List.mem_cons.mp h with q | q
  · exact Or.inl q
  · rcases List.mem_cons.mp q with q | q
    · exact Or.inr (Or.inl q)
    · exact Or.inr (Or.inr (mSP' q))
theorem mST' {i : Nat} (h : i = 0 ∨ i = 16 ∨ (17 ≤ i ∧ i < 120)) : i ∈ ST := by
  rcases h with q | q | q
  · rw [q]; exact List.mem_cons_self
  · rw [q]; exact List.mem_cons_of_mem _ List.mem_cons_self
  · exact List.mem_cons_of_mem _ (List.mem_cons_of_mem _ (mSP q.1 q.2))
theorem TeR.poll2 {h h' : gH} {m : Nat} {w l v : Nat → Nat} {sw : Nat → Int32} {ea eb : Nat → Nat} (z : TeR h) (hm : m ≤ 16) (hK : Tk h' m w l v sw ea eb) (hj : ∀ j, (j < 24 ∨ 24 + 6 * m ≤ j) → ¬ j = 0 → ¬ j = 16 → ¬ j = 17 → h' j = h j) : TeR h' := by
  have f1 : g_fr [0, 16] h' (fun j => if j = 0 ∨ j = 16 then h j else h' j) := fun j hj => if_neg (fun q => hj (by simp; omega))
  have f2 : g_fr [0, 16] (fun j => if j = 0 ∨ j = 16 then h j else h' j) h' := fun j hj => (if_neg (fun q => hj (by simp; omega))).symm
  refine TeR.fr (TeR.poll z (hK.fr f1 (by simp) hm) (fun j h1 h2 => ?_)) f2 (by simp)
  show (if j = 0 ∨ j = 16 then h j else h' j) = h j
  by_cases q : j = 0 ∨ j = 16
  · exact if_pos q
  · rw [if_neg q]; exact hj j h1 (fun z => q (Or.inl z)) (fun z => q (Or.inr z)) h2
theorem TeR.p {h h' : gH} {S : List Nat} (z : TeR h) (hp : FrR h' 19 328) (hf : g_fr S h h') (hS : ∀ i ∈ S, i < 24 ∨ 120 ≤ i) : TeR h' := by
  refine ⟨fun k hk => ?_, hp⟩
  obtain ⟨z1, x1, x2, x3, x4, x5, z2⟩ := z.1 k hk
  exact ⟨z1.fr hf (fun x => by have := hS _ x; omega) (fun x => by have := hS _ x; omega) (fun x => by have := hS _ x; omega) (fun x => by have := hS _ x; omega) (fun x => by have := hS _ x; omega), x1, x2, x3, x4, x5, hf.at (fun x => by have := hS _ x; omega) z2⟩
set_option maxHeartbeats 4000000 in
set_option maxRecDepth 100000 in
theorem c_countDraw (G : gG) (d n : Nat) (ex : Bool) (h : gH) {sg cm sd : Nat} {s v wn en rc bl ti df w l ea eb : Nat → Nat} {se sw : Nat → Int32} {D dr bk m lm pn pd e : Nat} {pl sv rd : Int32} (a0 : Au h sg cm sd) (hs : Su h s v wn en rc) (hl : Dl h bl ti df se D dr bk) (hpl : pl_ok se bl rc D pl sv rd) (hdr : dr ≤ 200) (hD : D ≤ 200) (hcap : s 8 ≤ 200) (hm : m ≤ 16) (hV : ∀ k, k < m → v (l k) < v (w k) ∧ v (w k) ≤ 20000) (hl1 : s 9 ≤ 1000000) (hl2 : s 10 ≤ 1000000) (hT : Te h m (cs_ sw m) lm) (hK : Tk h m w l v sw ea eb) (hwl : ∀ k, k < m → w k < 8 ∧ l k < 8) (hE : ∀ k, k < m → ea k + eb k ≤ 199) (hm1 : 1 ≤ m) (hP : Pq h pn pd e) (he2 : e ≤ 199) (g1 : s 12 < s 11) (g2 : s 11 ≤ 1000000) (hN1 : 1 ≤ s 6) (hN2 : s 6 ≤ 20000) (hlm : ∀ k, k < m → lm ≤ md v w l k) (hlm2 : lm ≤ s 6) (hR : TeR h) (hcm : cm ≤ 1) : g_M G mX10_countDraw (d + 5) 0 0 [.ref 0, .int pl] n ex h (q_v n ex ST h (fun h' => ∃ (sg' : Nat) (sw' : Nat → Int32) (ea' eb' : Nat → Nat) (pn' pd' e' : Nat), Au h' sg' cm sd ∧ Dl h' bl ti (cdf df sv) se D dr bk ∧ Te h' m (cs_ sw' m) lm ∧ Tk h' m w l v sw' ea' eb' ∧ Pq h' pn' pd' e' ∧ TeR h' ∧ e' ≤ e + 1 ∧ ((cm = 0 ∧ sw' = (pw_sw sv w l v (s 9) (s 10) dr sw ea eb) ∧ ea' = pw_ea sv w ea ∧ eb' = pw_eb sv w l eb ∧ pn' = pn ∧ pd' = pd ∧ sg' = stP (cs_ (pw_sw sv w l v (s 9) (s 10) dr sw ea eb) m = m) (s 8) dr) ∨ (cm = 1 ∧ sw' = sw ∧ ea' = ea ∧ eb' = eb ∧ pn' = (pn * ((2 * s 11 * s 6 - s 12 * lm) * md v w l (mo (oe w l rd sv) (md v w l) m))) ∧ pd' = (pd * (s 6 * cF2 (s 11) (s 12) lm (md v w l (mo (oe w l rd sv) (md v w l) m)) (oe w l rd sv (mo (oe w l rd sv) (md v w l) m)))) ∧ sg' = stP ((pn * ((2 * s 11 * s 6 - s 12 * lm) * md v w l (mo (oe w l rd sv) (md v w l) m))) * s 10 ≤ (pd * (s 6 * cF2 (s 11) (s 12) lm (md v w l (mo (oe w l rd sv) (md v w l) m)) (oe w l rd sv (mo (oe w l rd sv) (md v w l) m)))) * s 9) (s 8) dr)))) := by
  rcases (show cm = 0 ∨ cm = 1 by omega) with hc | hc
  · refine g_M.wk (c_countDrawP G d n ex h (pn := pn) (pd := pd) (e := e) a0 hs hl hpl hD hdr hcap hm hV hl1 hl2 hT hK hwl hE hc) (fun o n' ex' h' q => ?_)
    obtain ⟨q1, q2, q3, -, x1, x2, x3, x4, x5⟩ := q
    have hf : g_fr ST h h' := fun j hj => x5 j (by rcases Nat.lt_or_ge j 24 with z | z; (exact Or.inl z); (exact Or.inr (Nat.not_lt.mp (fun y => hj (mST' (by omega)))))) (fun z => hj (mST' (by omega))) (fun z => hj (mST' (by omega))) (fun z => hj (mST' (by omega)))
    have hp2 : g_fr (0 :: 16 :: 17 :: List.range' 24 (6 * m)) h h' := fun j hj => by
      have h0 : ¬ j = 0 := fun z => hj (by rw [z]; exact List.mem_cons_self)
      have h16 : ¬ j = 16 := fun z => hj (by rw [z]; exact List.mem_cons_of_mem _ List.mem_cons_self)
      have h17 : ¬ j = 17 := fun z => hj (by rw [z]; exact List.mem_cons_of_mem _ (List.mem_cons_of_mem _ List.mem_cons_self))
      refine x5 j ?_ h0 h16 h17
      rcases Nat.lt_or_ge j 24 with z | z
      · exact Or.inl z
      · exact Or.inr (Nat.not_lt.mp (fun y => hj (List.mem_cons_of_mem _ (List.mem_cons_of_mem _ (List.mem_cons_of_mem _ (List.mem_range'.mpr ⟨j - 24, by omega, by omega⟩))))))
    refine ⟨q1, q2, q3, hf, _, _, _, _, pn, pd, e, x1, x2, x3, x4, hP.fr hp2 (fun i hi => ?_), TeR.poll2 hR hm x4 x5, by omega, Or.inl ⟨hc, rfl, rfl, rfl, rfl, rfl, rfl⟩⟩
    rcases List.mem_cons.mp hi with z | z
    · omega
    · rcases List.mem_cons.mp z with z | z
      · omega
      · rcases List.mem_cons.mp z with z | z
        · omega
        · obtain ⟨y, y1, y2⟩ := List.mem_range'.mp z; omega
  · refine g_M.wk (c_countDrawC G d n ex h a0 hs hl hpl hD hdr hcap hm hV hl1 hl2 hT hK hm1 hP he2 g1 g2 hN1 hN2 hlm hlm2 hc) (fun o n' ex' h' q => ?_)
    obtain ⟨q1, q2, q3, -, x1, x2, x3, x5⟩ := q
    have hf6 : g_fr [0, 16, 20, 21, 22, 23] h h' := fun j hj => x5 j (by simp at hj; omega) (by simp at hj; omega) (by simp at hj; omega)
    have hf : g_fr ST h h' := hf6.mono (fun i hi => mST' (by simp at hi; omega))
    exact ⟨q1, q2, q3, hf, _, sw, ea, eb, _, _, e + 1, x1, x2, hT.fr hf6 (by simp) (by simp), hK.fr hf6 (by simp) hm, x3, TeR.p hR (by obtain ⟨A, B, z1, -⟩ := x3; exact z1.r) hf6 (by simp), Nat.le_refl _, Or.inr ⟨hc, rfl, rfl, rfl, rfl, rfl, rfl⟩⟩
theorem wi_v {s v : Nat → Nat} {a b : Nat} (ha : wi s v a = 1) (hb : wi s v b = 0) : v b < v a := by
  rcases Nat.lt_or_ge (v b) (v a) with q | q
  · exact q
  · exact absurd (Nat.lt_of_le_of_lt (ab_anti v q (s 4)) (wi_1.mp ha)) (wi_0.mp hb)
def S0s : List Nat := 0 :: 3 :: SP
theorem mS0 {i : Nat} (h : i = 0 ∨ i = 3 ∨ (17 ≤ i ∧ i < 120)) : i ∈ S0s := by
  rcases h with q | q | q
  · rw [q]; exact List.mem_cons_self
  · rw [q]; exact List.mem_cons_of_mem _ List.mem_cons_self
  · exact List.mem_cons_of_mem _ (List.mem_cons_of_mem _ (mSP q.1 q.2))
set_option maxHeartbeats 4000000 in
set_option maxRecDepth 100000 in
theorem c_start (G : gG) (d n : Nat) (h : gH) {sg cm sd : Nat} (a0 : Au h sg cm sd) (hsg : sg < 2 ^ 31) {s v wn en rc : Nat → Nat} (hs : Su h s v wn en rc) {dg : Nat → Nat} {k mm sr lm cm1 sd1 : Nat} (hS : Sd h dg k) (hT : Te h mm sr lm) (hR : TeR h) (hk : k ≤ 20) (h4 : s 4 ≤ 8) (h6 : s 6 ≤ 20000) (h7 : s 7 ≤ 7) (hv : ∀ k, v k < 2 ^ 31) (hwn : ∀ k, wn k ≤ 1) (hcm1 : cm1 ≤ 1) (hsd1 : sd1 ≤ 1) : g_M G mX10_start (d + 7) 8 48 [.ref 0, .int (nI cm1), .int (nI sd1)] n false h (q_t n S0s h (fun r h' => k_start s v sg k sd1 = 0 ∧ r = none ∧ Au h' 1 cm1 sd1 ∧ Te h' (pu (wm s v wn (s 4)) (s 4) (s 4)).1 0 (lmn (s 6) v (pu (wm s v wn (s 4)) (s 4) (s 4)).2.1 (pu (wm s v wn (s 4)) (s 4) (s 4)).2.2 (pu (wm s v wn (s 4)) (s 4) (s 4)).1) ∧ Tk h' (pu (wm s v wn (s 4)) (s 4) (s 4)).1 (pu (wm s v wn (s 4)) (s 4) (s 4)).2.1 (pu (wm s v wn (s 4)) (s 4) (s 4)).2.2 v (fun _ => -1) (fun _ => 0) (fun _ => 0) ∧ Su h' s v (wm s v wn (s 4)) en rc ∧ TeR h' ∧ Pq h' 1 1 0) (x_of [xIS] (k_start s v sg k sd1))) := by
  have hs' := hs
  obtain ⟨z1, z2, z3, z4, z5⟩ := hs'
  have s1 := hS.1
  have t1 := hT.1
  refine g_enter (by decide) (Nat.le_of_ble_eq_true rfl) ?_
  show g_W G _ _ _ n false h 0 0 0 [(0, .ref 0), (1, .int (nI cm1)), (2, .int (nI sd1))] []
  refine g_aload_n dX10_start_0 rfl rfl ?_
  refine g_iconst (v := nI 0) dX10_start_1 (by decide) ?_
  refine cVn (st := []) dX10_start_2 (c_needStage G d n h (x := 0) (a0) hsg (by decide)) sX10_76 a0 rfl rfl (by simp only [g_rm]; omega) (by simp only [g_rm]; omega) (Nat.le_of_ble_eq_true rfl) ⟨Nat.le_of_ble_eq_true rfl, Nat.le_of_ble_eq_true rfl⟩ (fun p1 => ?_) (fun p1 => g_out rfl (Nat.le_of_ble_eq_true rfl) (Nat.le_of_ble_eq_true rfl) (x_t (by unfold x_of; rw [ks_1 (fun q => p1 q.1)]; exact ⟨by decide, rfl⟩)))
  refine g_aload_n dX10_start_5 rfl rfl ?_
  refine g_getf dX10_start_6 fX10_12 a0 rfl ?_
  refine cVi (st := []) dX10_start_9 (c_isFit G (d + 5) n false h hs h4 hv (by omega) (by omega)) sX10_157 z1 rfl rfl (by simp only [g_rm]; omega) (by simp only [g_rm]; omega) (Nat.le_of_ble_eq_true rfl) ⟨Nat.le_of_ble_eq_true rfl, Nat.le_of_ble_eq_true rfl⟩ (fun r5 h2 fr3 p4 => ?_)
  cases g_fr0 fr3
  obtain ⟨b, rfl, hb1, hb2⟩ := p4
  refine g_if_eqN (tgt := 29) dX10_start_12 (by decide) (by omega) (fun c12 => ?_) (fun c12 => ?_)
  · exact g_throw (text := "what is set does not do for an audit") (names := xUp) dX10_start_29 dX10_start_32 dX10_start_33 dX10_start_35 dX10_start_38 rfl rfl (by decide) (by decide) tw_161_165 (by decide) (by show 2 + 3 < _; simp only [g_rm]; omega) (by show 0 + 82 ≤ _; simp only [g_rm]; omega) (Nat.le_of_ble_eq_true rfl) (Nat.le_of_ble_eq_true rfl) (Nat.le_of_ble_eq_true rfl) (Nat.le_of_ble_eq_true rfl) (x_t (by unfold x_of; rw [ks_1 (fun q => absurd (hb2.mpr q.2.1) (by omega))]; exact ⟨by decide, rfl⟩))
  · refine g_iload_n dX10_start_15 rfl rfl ?_
    refine g_if_eqN (tgt := 39) dX10_start_16 (by decide) (by omega) (fun c16 => ?_) (fun c16 => ?_)
    · have hfit : fit_ s v := hb2.mp (by omega)
      have hwm : ∀ k, wm s v wn (s 4) k ≤ 1 := fun k => by unfold wm; split; exact wi_le s v k; exact hwn k
      have hvl : ∀ a, a < s 4 → ∀ b, b < s 4 → ¬ wm s v wn (s 4) a = 0 → wm s v wn (s 4) b = 0 → v b < v a := by
        intro a ha b hb h1 h2
        unfold wm at h1 h2
        rw [if_pos ha] at h1
        rw [if_pos hb] at h2
        exact wi_v (by have := wi_le s v a; omega) h2
      refine g_aload_n dX10_start_39 rfl rfl ?_
      refine g_getf dX10_start_40 fX10_12 a0 rfl ?_
      refine cVv (st := []) dX10_start_43 (c_mark G (d + 5) n false h hs h4 hv (by omega)) sX10_166 z1 rfl rfl (by simp only [g_rm]; omega) (by simp only [g_rm]; omega) (Nat.le_of_ble_eq_true rfl) ⟨Nat.le_of_ble_eq_true rfl, Nat.le_of_ble_eq_true rfl⟩ (fun h6 fr7 p8 => ?_)
      have hs2 := p8
      refine g_aload_n dX10_start_46 rfl rfl ?_
      refine g_getf dX10_start_47 fX10_40 (fr7.at (by intro q; simp only [List.mem_cons, List.not_mem_nil, or_false] at q; omega) a0) rfl ?_
      refine g_aload_n dX10_start_50 rfl rfl ?_
      refine g_getf dX10_start_51 fX10_12 (fr7.at (by intro q; simp only [List.mem_cons, List.not_mem_nil, or_false] at q; omega) a0) rfl ?_
      refine cVv (st := []) dX10_start_54 (c_teBegin G (d + 1) n false h6 h4 (fun k => by have := hwm k; omega) hv (by omega) (fun a ha b hb h1 h2 => Nat.le_of_lt (hvl a ha b hb h1 h2)) (hT.fr fr7 (by simp) (by simp)) hs2 (hR.fr fr7 (by simp))) sX10_169 (fr7.at (by intro q; simp only [List.mem_cons, List.not_mem_nil, or_false] at q; omega) t1) rfl rfl (by simp only [g_rm]; omega) (by simp only [g_rm]; omega) (Nat.le_of_ble_eq_true rfl) ⟨Nat.le_of_ble_eq_true rfl, Nat.le_of_ble_eq_true rfl⟩ (fun h10 fr11 p12 => ?_)
      have hTB := p12
      refine g_aload_n dX10_start_57 rfl rfl ?_
      refine g_iload_n dX10_start_58 rfl rfl ?_
      refine g_put (fs' := [.ref 1, .ref 6, .ref 8, .ref 12, .ref 17, .ref 120, .ref 123, .ref 137, .int (nI sg), .int (nI cm1), .int (nI sd)]) dX10_start_59 fX10_173 (fr11.at (fun q => by have := mSP' q; omega) (fr7.at (by intro q; simp only [List.mem_cons, List.not_mem_nil, or_false] at q; omega) a0)) (Nat.le_of_ble_eq_true rfl) (nz cm1 hcm1) (nf cm1 hcm1) rfl ?_
      refine g_aload_n dX10_start_62 rfl rfl ?_
      refine g_iload_n dX10_start_63 rfl rfl ?_
      refine g_put (fs' := [.ref 1, .ref 6, .ref 8, .ref 12, .ref 17, .ref 120, .ref 123, .ref 137, .int (nI sg), .int (nI cm1), .int (nI sd1)]) dX10_start_64 fX10_177 g_eq (Nat.le_of_ble_eq_true rfl) (nz sd1 hsd1) (nf sd1 hsd1) rfl ?_
      refine g_aload_n dX10_start_67 rfl rfl ?_
      refine g_iconst (v := nI 1) dX10_start_68 (by decide) ?_
      refine g_put (fs' := [.ref 1, .ref 6, .ref 8, .ref 12, .ref 17, .ref 120, .ref 123, .ref 137, .int (nI 1), .int (nI cm1), .int (nI sd1)]) dX10_start_69 fX10_67 g_eq (Nat.le_of_ble_eq_true rfl) rfl rfl rfl ?_
      exact e_tv dX10_start_72 rfl ((((((g_fr.rf).tr fr7 (fun i hi => mS0 (by simp at hi; omega))).tr (fr11) (fun i hi => mS0 (by have := mSP' hi; omega))).up (mS0 (Or.inl rfl))).up (mS0 (Or.inl rfl))).up (mS0 (Or.inl rfl))) ⟨ks_0 ⟨p1, hfit, by omega⟩, rfl, g_eq, hTB.1.fr (g_fr.up (S := [0]) (g_fr.up (g_fr.up g_fr.rf (by simp)) (by simp)) (by simp)) (by simp) (by simp), hTB.2.1.fr (g_fr.up (S := [0]) (g_fr.up (g_fr.up g_fr.rf (by simp)) (by simp)) (by simp)) (by simp) (pu_le _ h4), hTB.2.2.1.fr (g_fr.up (S := [0]) (g_fr.up (g_fr.up g_fr.rf (by simp)) (by simp)) (by simp)) (by simp), hTB.2.2.2.1.fr (g_fr.up (S := [0]) (g_fr.up (g_fr.up g_fr.rf (by simp)) (by simp)) (by simp)) (by simp), hTB.2.2.2.2.1.fr (g_fr.up (S := [0]) (g_fr.up (g_fr.up g_fr.rf (by simp)) (by simp)) (by simp)) (by simp)⟩ (Nat.le_of_ble_eq_true rfl) (Nat.le_of_ble_eq_true rfl)
    · refine g_aload_n dX10_start_19 rfl rfl ?_
      refine g_getf dX10_start_20 fX10_26 a0 rfl ?_
      refine g_getf dX10_start_23 fX10_142 s1 rfl ?_
      refine g_if_neN (tgt := 39) dX10_start_26 (by decide) (by omega) (fun c26 => ?_) (fun c26 => ?_)
      · have hfit : fit_ s v := hb2.mp (by omega)
        have hwm : ∀ k, wm s v wn (s 4) k ≤ 1 := fun k => by unfold wm; split; exact wi_le s v k; exact hwn k
        have hvl : ∀ a, a < s 4 → ∀ b, b < s 4 → ¬ wm s v wn (s 4) a = 0 → wm s v wn (s 4) b = 0 → v b < v a := by
          intro a ha b hb h1 h2
          unfold wm at h1 h2
          rw [if_pos ha] at h1
          rw [if_pos hb] at h2
          exact wi_v (by have := wi_le s v a; omega) h2
        refine g_aload_n dX10_start_39 rfl rfl ?_
        refine g_getf dX10_start_40 fX10_12 a0 rfl ?_
        refine cVv (st := []) dX10_start_43 (c_mark G (d + 5) n false h hs h4 hv (by omega)) sX10_166 z1 rfl rfl (by simp only [g_rm]; omega) (by simp only [g_rm]; omega) (Nat.le_of_ble_eq_true rfl) ⟨Nat.le_of_ble_eq_true rfl, Nat.le_of_ble_eq_true rfl⟩ (fun h14 fr15 p16 => ?_)
        have hs2 := p16
        refine g_aload_n dX10_start_46 rfl rfl ?_
        refine g_getf dX10_start_47 fX10_40 (fr15.at (by intro q; simp only [List.mem_cons, List.not_mem_nil, or_false] at q; omega) a0) rfl ?_
        refine g_aload_n dX10_start_50 rfl rfl ?_
        refine g_getf dX10_start_51 fX10_12 (fr15.at (by intro q; simp only [List.mem_cons, List.not_mem_nil, or_false] at q; omega) a0) rfl ?_
        refine cVv (st := []) dX10_start_54 (c_teBegin G (d + 1) n false h14 h4 (fun k => by have := hwm k; omega) hv (by omega) (fun a ha b hb h1 h2 => Nat.le_of_lt (hvl a ha b hb h1 h2)) (hT.fr fr15 (by simp) (by simp)) hs2 (hR.fr fr15 (by simp))) sX10_169 (fr15.at (by intro q; simp only [List.mem_cons, List.not_mem_nil, or_false] at q; omega) t1) rfl rfl (by simp only [g_rm]; omega) (by simp only [g_rm]; omega) (Nat.le_of_ble_eq_true rfl) ⟨Nat.le_of_ble_eq_true rfl, Nat.le_of_ble_eq_true rfl⟩ (fun h18 fr19 p20 => ?_)
        have hTB := p20
        refine g_aload_n dX10_start_57 rfl rfl ?_
        refine g_iload_n dX10_start_58 rfl rfl ?_
        refine g_put (fs' := [.ref 1, .ref 6, .ref 8, .ref 12, .ref 17, .ref 120, .ref 123, .ref 137, .int (nI sg), .int (nI cm1), .int (nI sd)]) dX10_start_59 fX10_173 (fr19.at (fun q => by have := mSP' q; omega) (fr15.at (by intro q; simp only [List.mem_cons, List.not_mem_nil, or_false] at q; omega) a0)) (Nat.le_of_ble_eq_true rfl) (nz cm1 hcm1) (nf cm1 hcm1) rfl ?_
        refine g_aload_n dX10_start_62 rfl rfl ?_
        refine g_iload_n dX10_start_63 rfl rfl ?_
        refine g_put (fs' := [.ref 1, .ref 6, .ref 8, .ref 12, .ref 17, .ref 120, .ref 123, .ref 137, .int (nI sg), .int (nI cm1), .int (nI sd1)]) dX10_start_64 fX10_177 g_eq (Nat.le_of_ble_eq_true rfl) (nz sd1 hsd1) (nf sd1 hsd1) rfl ?_
        refine g_aload_n dX10_start_67 rfl rfl ?_
        refine g_iconst (v := nI 1) dX10_start_68 (by decide) ?_
        refine g_put (fs' := [.ref 1, .ref 6, .ref 8, .ref 12, .ref 17, .ref 120, .ref 123, .ref 137, .int (nI 1), .int (nI cm1), .int (nI sd1)]) dX10_start_69 fX10_67 g_eq (Nat.le_of_ble_eq_true rfl) rfl rfl rfl ?_
        exact e_tv dX10_start_72 rfl ((((((g_fr.rf).tr fr15 (fun i hi => mS0 (by simp at hi; omega))).tr (fr19) (fun i hi => mS0 (by have := mSP' hi; omega))).up (mS0 (Or.inl rfl))).up (mS0 (Or.inl rfl))).up (mS0 (Or.inl rfl))) ⟨ks_0 ⟨p1, hfit, by omega⟩, rfl, g_eq, hTB.1.fr (g_fr.up (S := [0]) (g_fr.up (g_fr.up g_fr.rf (by simp)) (by simp)) (by simp)) (by simp) (by simp), hTB.2.1.fr (g_fr.up (S := [0]) (g_fr.up (g_fr.up g_fr.rf (by simp)) (by simp)) (by simp)) (by simp) (pu_le _ h4), hTB.2.2.1.fr (g_fr.up (S := [0]) (g_fr.up (g_fr.up g_fr.rf (by simp)) (by simp)) (by simp)) (by simp), hTB.2.2.2.1.fr (g_fr.up (S := [0]) (g_fr.up (g_fr.up g_fr.rf (by simp)) (by simp)) (by simp)) (by simp), hTB.2.2.2.2.1.fr (g_fr.up (S := [0]) (g_fr.up (g_fr.up g_fr.rf (by simp)) (by simp)) (by simp)) (by simp)⟩ (Nat.le_of_ble_eq_true rfl) (Nat.le_of_ble_eq_true rfl)
      · exact g_throw (text := "what is set does not do for an audit") (names := xUp) dX10_start_29 dX10_start_32 dX10_start_33 dX10_start_35 dX10_start_38 rfl rfl (by decide) (by decide) tw_161_165 (by decide) (by show 2 + 3 < _; simp only [g_rm]; omega) (by show 0 + 82 ≤ _; simp only [g_rm]; omega) (Nat.le_of_ble_eq_true rfl) (Nat.le_of_ble_eq_true rfl) (Nat.le_of_ble_eq_true rfl) (Nat.le_of_ble_eq_true rfl) (x_t (by unfold x_of; rw [ks_1 (fun q => absurd q.2.2 (by omega))]; exact ⟨by decide, rfl⟩))
