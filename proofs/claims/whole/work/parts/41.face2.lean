theorem SP_r : ∀ i ∈ SP, i ∈ List.range 120 := fun i hi => List.mem_range.mpr (by have := mSP' hi; omega)
theorem TeR.poll {h h' : gH} {m : Nat} {w l v : Nat → Nat} {sw : Nat → Int32} {ea eb : Nat → Nat} (z : TeR h) (hK : Tk h' m w l v sw ea eb) (hj : ∀ j, (j < 24 ∨ 24 + 6 * m ≤ j) → ¬ j = 17 → h' j = h j) : TeR h' := by
  have hfr : g_fr (List.range' 24 (6 * m)) h h' ∨ True := Or.inr trivial
  have hf : ∀ S : List Nat, (∀ j, j ∉ S → (j < 24 ∨ 24 + 6 * m ≤ j) ∧ ¬ j = 17) → g_fr S h h' := fun S hS j hjS => hj j (hS j hjS).1 (hS j hjS).2
  have hf1 := hf (17 :: List.range' 24 (6 * m)) (fun j hjS => by
    constructor
    · by_cases q : j < 24
      · exact Or.inl q
      · by_cases q2 : 24 + 6 * m ≤ j
        · exact Or.inr q2
        · exact absurd (List.mem_cons_of_mem _ (List.mem_range'.mpr ⟨j - 24, by omega, by omega⟩)) hjS
    · intro e; exact hjS (by rw [e]; exact List.mem_cons_self))
  have hin : ∀ j, j ∈ (17 :: List.range' 24 (6 * m)) → j = 17 ∨ (24 ≤ j ∧ j < 24 + 6 * m) := fun j hj => by
    rcases List.mem_cons.mp hj with q | q
    · exact Or.inl q
    · obtain ⟨i, h1, h2⟩ := List.mem_range'.mp q
      exact Or.inr (by omega)
  refine ⟨fun k hk => ?_, z.2.fr hf1 (fun x => by have := hin _ x; omega) (fun x => by have := hin _ x; omega) (fun x => by have := hin _ x; omega) (fun x => by have := hin _ x; omega) (fun x => by have := hin _ x; omega)⟩
  by_cases q : k < m
  · exact ⟨(hK k q).2.r, _, _, _, _, _, (hK k q).1⟩
  · obtain ⟨z1, x1, x2, x3, x4, x5, z2⟩ := z.1 k hk
    exact ⟨z1.fr hf1 (fun x => by have := hin _ x; omega) (fun x => by have := hin _ x; omega) (fun x => by have := hin _ x; omega) (fun x => by have := hin _ x; omega) (fun x => by have := hin _ x; omega), x1, x2, x3, x4, x5, hf1.at (fun x => by have := hin _ x; omega) z2⟩
/-- draws by the candidate that was seen -/
def cdf (df : Nat → Nat) (sv : Int32) : Nat → Nat := fun j => if j < 8 ∧ sv = nI j then df j + 1 else df j
theorem cdf_c (df : Nat → Nat) {c : Nat} (hc : c < 8) : va_up df c (df c + 1) = cdf df (nI c) := by
  funext j
  unfold va_up cdf
  by_cases q : j = c
  · subst q; rw [if_pos rfl, if_pos ⟨hc, rfl⟩]
  · rw [if_neg q, if_neg (fun z => q ((nI_eq (by omega) (by omega)).mp z.2).symm)]
theorem cdf_1 (df : Nat → Nat) : cdf df (-1) = df := by
  funext j
  exact if_neg (fun z => ne_m1 (show j < 2 ^ 31 by omega) z.2.symm)
theorem cdf_2 (df : Nat → Nat) : cdf df (-2) = df := by
  funext j
  exact if_neg (fun z => ne_m2 (show j < 2 ^ 31 by omega) z.2.symm)
/-- what was seen: nobody, or a candidate -/
def s_ok (x : Int32) : Prop := x = -1 ∨ ∃ c, c < 8 ∧ x = nI c
/-- the place that is counted, what is seen there and what the record reads -/
def pl_ok (se : Nat → Int32) (bl rc : Nat → Nat) (D : Nat) (pl sv rd : Int32) : Prop := (pl = -1 ∧ sv = -2 ∧ rd = -1) ∨ ∃ x, pl = nI x ∧ x < D ∧ sv = se x ∧ s_ok (se x) ∧ bl x < 20000 ∧ rd = nI (rc (bl x)) - nI 1
/-- the stage behind a draw -/
def stP (ok : Prop) [Decidable ok] (cap dr : Nat) : Nat := if ok then 3 else if cap ≤ dr then 4 else 1
set_option maxHeartbeats 4000000 in
set_option maxRecDepth 100000 in
theorem c_coinDraw (G : gG) (d n : Nat) (ex : Bool) (h : gH) {sg cm sd : Nat} {s v wn en rc c : Nat → Nat} {m : Nat} (a0 : Au h sg cm sd) (hs : Su h s v wn en rc) (hC : Co h c m) (hN : s 6 ≤ 20000) : g_M G mX10_coinDraw (d + 2) 0 0 [.ref 0] n ex h (q_i n ex [6] h (fun r h' => ∃ K, ck_P (s 6) K ∧ ((m < K ∧ r = -1 ∧ h' = h) ∨ (K ≤ m ∧ r = (if tk c K < s 6 then nI (tk c K) else -2) ∧ Co h' (fun j => c (j + K)) (m - K))))) := by
  obtain ⟨z1, z2, z3, z4, z5⟩ := id hs
  obtain ⟨f0, rg, c6, c7, hf0, hm, hC5, hC6⟩ := id hC
  refine g_enter (by decide) (Nat.le_of_ble_eq_true rfl) ?_
  show g_W G _ _ _ n ex h 0 0 0 [(0, .ref 0)] []
  refine g_aload_n dX10_coinDraw_0 rfl rfl ?_
  refine g_getf dX10_coinDraw_1 fX10_12 a0 rfl ?_
  refine cVi (st := []) dX10_coinDraw_4 (c_coinsADraw G (d + 1) n ex h hs (by omega)) sX10_237 z1 rfl rfl (by simp only [g_rm]; omega) (by simp only [g_rm]; omega) (Nat.le_of_ble_eq_true rfl) ⟨Nat.le_of_ble_eq_true rfl, Nat.le_of_ble_eq_true rfl⟩ (fun r4 h1 fr2 p3 => ?_)
  cases g_fr0 fr2
  obtain ⟨K, rfl, hK⟩ := p3
  have hK15 := hK.1
  refine g_istore_n (ls' := [(1, .int (nI K)), (0, .ref 0)]) dX10_coinDraw_7 rfl (by decide) rfl ?_
  refine g_aload_n dX10_coinDraw_8 rfl rfl ?_
  refine g_getf dX10_coinDraw_9 fX10_19 a0 rfl ?_
  refine g_getf dX10_coinDraw_12 fX10_150 c6 rfl ?_
  refine g_iload_n dX10_coinDraw_15 rfl rfl ?_
  refine g_icmp_geN (tgt := 21) dX10_coinDraw_16 (by decide) (by omega) (by omega) (fun c16 => ?_) (fun c16 => ?_)
  · refine g_aload_n dX10_coinDraw_21 rfl rfl ?_
    refine g_getf dX10_coinDraw_22 fX10_19 a0 rfl ?_
    refine g_iload_n dX10_coinDraw_25 rfl rfl ?_
    refine cVi (st := []) dX10_coinDraw_26 (c_take G (d + 1) n ex h hC c16) sX10_362 c6 rfl rfl (by simp only [g_rm]; omega) (by simp only [g_rm]; omega) (Nat.le_of_ble_eq_true rfl) ⟨Nat.le_of_ble_eq_true rfl, Nat.le_of_ble_eq_true rfl⟩ (fun r8 h5 fr6 p7 => ?_)
    obtain ⟨e9, hC2⟩ := p7
    subst e9
    have htk := tk_lt (fun k hk => (hC.le).2 k (Nat.lt_of_lt_of_le hk c16))
    have htk2 : tk c K < 2 ^ 15 := Nat.lt_of_lt_of_le htk (Nat.pow_le_pow_right (by decide) hK15)
    refine g_istore_n (ls' := [(2, .int (nI (tk c K))), (1, .int (nI K)), (0, .ref 0)]) dX10_coinDraw_29 rfl (by decide) rfl ?_
    refine g_iload_n dX10_coinDraw_30 rfl rfl ?_
    refine g_aload_n dX10_coinDraw_31 rfl rfl ?_
    refine g_getf dX10_coinDraw_32 fX10_12 (fr6.at (by intro q; simp only [List.mem_cons, List.not_mem_nil, or_false] at q; omega) a0) rfl ?_
    refine g_getf dX10_coinDraw_35 fX10_96 (fr6.at (by intro q; simp only [List.mem_cons, List.not_mem_nil, or_false] at q; omega) z1) rfl ?_
    refine g_icmp_geN (tgt := 45) dX10_coinDraw_38 (by decide) (by omega) (by omega) (fun c38 => ?_) (fun c38 => ?_)
    · refine g_bipush (v := -2) dX10_coinDraw_45 (by decide) ?_
      exact e_i dX10_coinDraw_47 rfl rfl ((g_fr.rf).tr fr6 (by simp)) ⟨K, hK, Or.inr ⟨c16, by first | (rw [if_pos (by omega)]) | (rw [if_neg (by omega)]), hC2⟩⟩ (by decide) (by decide)
    · refine g_iload_n dX10_coinDraw_41 rfl rfl ?_
      refine g_goto (tgt := 47) dX10_coinDraw_42 (by decide) ?_
      exact e_i dX10_coinDraw_47 rfl rfl ((g_fr.rf).tr fr6 (by simp)) ⟨K, hK, Or.inr ⟨c16, by first | (rw [if_pos (by omega)]) | (rw [if_neg (by omega)]), hC2⟩⟩ (by decide) (by decide)
  · refine g_iconst (v := -1) dX10_coinDraw_19 (by decide) ?_
    exact e_i dX10_coinDraw_20 rfl rfl g_fr.rf ⟨K, hK, Or.inl ⟨by omega, rfl, rfl⟩⟩ (by decide) (by decide)
set_option maxHeartbeats 4000000 in
set_option maxRecDepth 100000 in
theorem c_countDrawP (G : gG) (d n : Nat) (ex : Bool) (h : gH) {sg cm sd : Nat} {s v wn en rc bl ti df w l ea eb : Nat → Nat} {se sw : Nat → Int32} {D dr bk m lm pn pd e : Nat} {pl sv rd : Int32} (a0 : Au h sg cm sd) (hs : Su h s v wn en rc) (hl : Dl h bl ti df se D dr bk) (hpl : pl_ok se bl rc D pl sv rd) (hD : D ≤ 200) (hdr : dr ≤ 200) (hcap : s 8 ≤ 200) (hm : m ≤ 16) (hV : ∀ k, k < m → v (l k) < v (w k) ∧ v (w k) ≤ 20000) (hl1 : s 9 ≤ 1000000) (hl2 : s 10 ≤ 1000000) (hT : Te h m (cs_ sw m) lm) (hK : Tk h m w l v sw ea eb) (hwl : ∀ k, k < m → w k < 8 ∧ l k < 8) (hE : ∀ k, k < m → ea k + eb k ≤ 199) (hcm : cm = 0) : g_M G mX10_countDraw (d + 5) 0 0 [.ref 0, .int pl] n ex h (q_v n ex (List.range 120) h (fun h' => Au h' (stP (cs_ (pw_sw sv w l v (s 9) (s 10) dr sw ea eb) m = m) (s 8) dr) cm sd ∧ Dl h' bl ti (cdf df sv) se D dr bk ∧ Te h' m (cs_ (pw_sw sv w l v (s 9) (s 10) dr sw ea eb) m) lm ∧ Tk h' m w l v (pw_sw sv w l v (s 9) (s 10) dr sw ea eb) (pw_ea sv w ea) (pw_eb sv w l eb) ∧ ∀ j, (j < 24 ∨ 24 + 6 * m ≤ j) → ¬ j = 0 → ¬ j = 16 → ¬ j = 17 → h' j = h j)) := by
  obtain ⟨z1, z2, z3, z4, z5⟩ := id hs
  have l1 := hl.1
  have t1 := hT.1
  refine g_enter (by decide) (Nat.le_of_ble_eq_true rfl) ?_
  show g_W G _ _ _ n ex h 0 0 0 [(0, .ref 0), (1, .int pl)] []
  rcases hpl with ⟨rfl, rfl, rfl⟩ | ⟨x, rfl, hxD, rfl, hok, hblx, rfl⟩
  · skip
    refine g_aload_n dX10_countDraw_0 rfl rfl ?_
    refine g_getf dX10_countDraw_1 fX10_33 a0 rfl ?_
    refine g_iload_n dX10_countDraw_4 rfl rfl ?_
    refine cVi (st := []) dX10_countDraw_5 (c_countNo G (d + 2) n ex h hl) sX10_365 l1 rfl rfl (by simp only [g_rm]; omega) (by simp only [g_rm]; omega) (Nat.le_of_ble_eq_true rfl) ⟨Nat.le_of_ble_eq_true rfl, Nat.le_of_ble_eq_true rfl⟩ (fun r4 h1 fr2 p3 => ?_)
    cases g_fr0 fr2
    subst p3
    have hl2' : Dl h bl ti (cdf df (-2)) se D dr bk := by rw [cdf_2]; exact hl
    have hT2 := hT
    have hK2 := hK
    have hs2 := hs
    refine g_istore_n (ls' := [(2, .int (-2)), (0, .ref 0), (1, .int (-1))]) dX10_countDraw_8 rfl (by decide) rfl ?_
    refine g_iload_n dX10_countDraw_9 rfl rfl ?_
    refine g_iconst (v := -1) dX10_countDraw_10 (by decide) ?_
    refine g_icmp_ne (tgt := 18) dX10_countDraw_11 (by decide) (fun c11 => ?_) (fun c11 => ?_)
    · exact absurd rfl c11
    · refine g_iconst (v := -1) dX10_countDraw_14 (by decide) ?_
      refine g_goto (tgt := 33) dX10_countDraw_15 (by decide) ?_
      refine g_istore_n (ls' := [(3, .int (-1)), (2, .int (-2)), (0, .ref 0), (1, .int (-1))]) dX10_countDraw_33 rfl (by decide) rfl ?_
      refine g_aload_n dX10_countDraw_34 rfl rfl ?_
      refine g_getf dX10_countDraw_35 fX10_173 a0 rfl ?_
      refine g_if_eqN (tgt := 57) dX10_countDraw_38 (by decide) (by omega) (fun c38 => ?_) (fun c38 => ?_)
      · refine g_aload_n dX10_countDraw_57 rfl rfl ?_
        refine g_getf dX10_countDraw_58 fX10_40 a0 rfl ?_
        refine g_aload_n dX10_countDraw_61 rfl rfl ?_
        refine g_getf dX10_countDraw_62 fX10_12 a0 rfl ?_
        refine g_iload_n dX10_countDraw_65 rfl rfl ?_
        refine g_aload_n dX10_countDraw_66 rfl rfl ?_
        refine g_getf dX10_countDraw_67 fX10_33 a0 rfl ?_
        refine g_getf dX10_countDraw_70 fX10_180 l1 rfl ?_
        refine cVi (st := []) dX10_countDraw_73 (c_poll G d n ex h (seen := (-2)) hm (fun k hk => ⟨by have := hV k hk; omega, (hV k hk).2, by have := hV k hk; omega⟩) hwl hE hl1 hl2 (by omega) hT2 hs2 hK2) sX10_375 t1 rfl rfl (by simp only [g_rm]; omega) (by simp only [g_rm]; omega) (Nat.le_of_ble_eq_true rfl) ⟨Nat.le_of_ble_eq_true rfl, Nat.le_of_ble_eq_true rfl⟩ (fun r8 h5 fr6 p7 => ?_)
        obtain ⟨e8, hT3, hK3, hj3⟩ := p7
        have p7 := And.intro True.intro (And.intro True.intro (And.intro True.intro hj3))
        subst e8
        refine g_istore (ls' := [(4, .int (nI (if cs_ (pw_sw (-2) w l v (s 9) (s 10) dr sw ea eb) m = m then 1 else 0))), (3, .int (-1)), (2, .int (-2)), (0, .ref 0), (1, .int (-1))]) dX10_countDraw_76 (by decide) rfl ?_
        refine g_iload dX10_countDraw_78 rfl ?_
        refine g_if_eqN (tgt := 91) dX10_countDraw_80 (by decide) (by split <;> decide) (fun c80 => ?_) (fun c80 => ?_)
        · have hno : ¬ (cs_ (pw_sw (-2) w l v (s 9) (s 10) dr sw ea eb) m = m) := fun q => absurd ((if_pos q).symm.trans c80 : (1 : Nat) = 0) (by decide)
          refine g_aload_n dX10_countDraw_91 rfl rfl ?_
          refine g_aload_n dX10_countDraw_92 rfl rfl ?_
          refine g_getf dX10_countDraw_93 fX10_33 ((p7.2.2.2 0 (by omega) (by decide)).trans a0) rfl ?_
          refine g_getf dX10_countDraw_96 fX10_180 ((p7.2.2.2 12 (by omega) (by decide)).trans l1) rfl ?_
          refine g_aload_n dX10_countDraw_99 rfl rfl ?_
          refine g_getf dX10_countDraw_100 fX10_12 ((p7.2.2.2 0 (by omega) (by decide)).trans a0) rfl ?_
          refine g_getf dX10_countDraw_103 fX10_111 ((p7.2.2.2 1 (by omega) (by decide)).trans z1) rfl ?_
          refine g_icmp_ltN (tgt := 113) dX10_countDraw_106 (by decide) (by omega) (by omega) (fun c106 => ?_) (fun c106 => ?_)
          · refine g_iconst (v := nI 1) dX10_countDraw_113 (by decide) ?_
            refine g_put (fs' := [.ref 1, .ref 6, .ref 8, .ref 12, .ref 17, .ref 120, .ref 123, .ref 137, .int (nI 1), .int (nI cm), .int (nI sd)]) dX10_countDraw_114 fX10_67 ((p7.2.2.2 0 (by omega) (by decide)).trans a0) (Nat.le_of_ble_eq_true rfl) rfl rfl rfl ?_
            exact e_v dX10_countDraw_117 rfl (((g_fr.rf).tr (fr6.mono SP_r) (fun _ q => q)).up (List.mem_range.mpr (by omega))) ⟨(by unfold stP; rw [if_neg hno, if_neg (by omega)]; exact g_eq), (show Dl _ _ _ _ _ _ _ _ from ⟨g_ne (by decide) ((hj3 12 (by omega) (by decide)).trans hl2'.1), g_ne (by decide) ((hj3 13 (by omega) (by decide)).trans hl2'.2.1), g_ne (by decide) ((hj3 14 (by omega) (by decide)).trans hl2'.2.2.1), g_ne (by decide) ((hj3 15 (by omega) (by decide)).trans hl2'.2.2.2.1), g_ne (by decide) ((hj3 16 (by omega) (by decide)).trans hl2'.2.2.2.2)⟩), hT3.fr (g_fr.up (S := [0]) g_fr.rf (by simp)) (by decide) (by decide), hK3.fr (g_fr.up (S := [0]) g_fr.rf (by simp)) (by decide) hm, fun j h1 h2 h3 h4 => g_ne h2 ((hj3 j h1 h4).trans (rfl))⟩ (by decide) (by decide)
          · refine g_iconst (v := nI 4) dX10_countDraw_109 (by decide) ?_
            refine g_goto (tgt := 114) dX10_countDraw_110 (by decide) ?_
            refine g_put (fs' := [.ref 1, .ref 6, .ref 8, .ref 12, .ref 17, .ref 120, .ref 123, .ref 137, .int (nI 4), .int (nI cm), .int (nI sd)]) dX10_countDraw_114 fX10_67 ((p7.2.2.2 0 (by omega) (by decide)).trans a0) (Nat.le_of_ble_eq_true rfl) rfl rfl rfl ?_
            exact e_v dX10_countDraw_117 rfl (((g_fr.rf).tr (fr6.mono SP_r) (fun _ q => q)).up (List.mem_range.mpr (by omega))) ⟨(by unfold stP; rw [if_neg hno, if_pos (by omega)]; exact g_eq), (show Dl _ _ _ _ _ _ _ _ from ⟨g_ne (by decide) ((hj3 12 (by omega) (by decide)).trans hl2'.1), g_ne (by decide) ((hj3 13 (by omega) (by decide)).trans hl2'.2.1), g_ne (by decide) ((hj3 14 (by omega) (by decide)).trans hl2'.2.2.1), g_ne (by decide) ((hj3 15 (by omega) (by decide)).trans hl2'.2.2.2.1), g_ne (by decide) ((hj3 16 (by omega) (by decide)).trans hl2'.2.2.2.2)⟩), hT3.fr (g_fr.up (S := [0]) g_fr.rf (by simp)) (by decide) (by decide), hK3.fr (g_fr.up (S := [0]) g_fr.rf (by simp)) (by decide) hm, fun j h1 h2 h3 h4 => g_ne h2 ((hj3 j h1 h4).trans (rfl))⟩ (by decide) (by decide)
        · have hyes : cs_ (pw_sw (-2) w l v (s 9) (s 10) dr sw ea eb) m = m := Decidable.byContradiction (fun q => c80 (if_neg q))
          refine g_aload_n dX10_countDraw_83 rfl rfl ?_
          refine g_iconst (v := nI 3) dX10_countDraw_84 (by decide) ?_
          refine g_put (fs' := [.ref 1, .ref 6, .ref 8, .ref 12, .ref 17, .ref 120, .ref 123, .ref 137, .int (nI 3), .int (nI cm), .int (nI sd)]) dX10_countDraw_85 fX10_67 ((p7.2.2.2 0 (by omega) (by decide)).trans a0) (Nat.le_of_ble_eq_true rfl) rfl rfl rfl ?_
          refine g_goto (tgt := 117) dX10_countDraw_88 (by decide) ?_
          exact e_v dX10_countDraw_117 rfl (((g_fr.rf).tr (fr6.mono SP_r) (fun _ q => q)).up (List.mem_range.mpr (by omega))) ⟨(by unfold stP; rw [if_pos hyes]; exact g_eq), (show Dl _ _ _ _ _ _ _ _ from ⟨g_ne (by decide) ((hj3 12 (by omega) (by decide)).trans hl2'.1), g_ne (by decide) ((hj3 13 (by omega) (by decide)).trans hl2'.2.1), g_ne (by decide) ((hj3 14 (by omega) (by decide)).trans hl2'.2.2.1), g_ne (by decide) ((hj3 15 (by omega) (by decide)).trans hl2'.2.2.2.1), g_ne (by decide) ((hj3 16 (by omega) (by decide)).trans hl2'.2.2.2.2)⟩), hT3.fr (g_fr.up (S := [0]) g_fr.rf (by simp)) (by decide) (by decide), hK3.fr (g_fr.up (S := [0]) g_fr.rf (by simp)) (by decide) hm, fun j h1 h2 h3 h4 => g_ne h2 ((hj3 j h1 h4).trans (rfl))⟩ (by decide) (by decide)
      · exact absurd hcm c38
  rcases hok with hq | ⟨c, hc, hq⟩
  rotate_left
  · rw [hq]
    refine g_aload_n dX10_countDraw_0 rfl rfl ?_
    refine g_getf dX10_countDraw_1 fX10_33 a0 rfl ?_
    refine g_iload_n dX10_countDraw_4 rfl rfl ?_
    refine cVi (st := []) dX10_countDraw_5 (c_countC G (d + 2) n ex h hl hxD hD hc hq) sX10_365 l1 rfl rfl (by simp only [g_rm]; omega) (by simp only [g_rm]; omega) (Nat.le_of_ble_eq_true rfl) ⟨Nat.le_of_ble_eq_true rfl, Nat.le_of_ble_eq_true rfl⟩ (fun r4 h1 fr2 p3 => ?_)
    obtain ⟨e9, hl2'⟩ := p3
    subst e9
    rw [cdf_c df hc] at hl2'
    have hT2 := hT.fr fr2 (by intro q; simp only [List.mem_cons, List.not_mem_nil, or_false] at q; omega) (by intro q; simp only [List.mem_cons, List.not_mem_nil, or_false] at q; omega)
    have hK2 := hK.fr fr2 (by intro j q; simp only [List.mem_cons, List.not_mem_nil, or_false] at q; omega) hm
    have hs2 := hs.fr fr2 (by intro j q; simp only [List.mem_cons, List.not_mem_nil, or_false] at q; omega)
    refine g_istore_n (ls' := [(2, .int (nI c)), (0, .ref 0), (1, .int (nI x))]) dX10_countDraw_8 rfl (by decide) rfl ?_
    refine g_iload_n dX10_countDraw_9 rfl rfl ?_
    refine g_iconst (v := -1) dX10_countDraw_10 (by decide) ?_
    refine g_icmp_ne (tgt := 18) dX10_countDraw_11 (by decide) (fun c11 => ?_) (fun c11 => ?_)
    · refine g_aload_n dX10_countDraw_18 rfl rfl ?_
      refine g_getf dX10_countDraw_19 fX10_12 (fr2.at (by intro q; simp only [List.mem_cons, List.not_mem_nil, or_false] at q; omega) a0) rfl ?_
      refine g_aload_n dX10_countDraw_22 rfl rfl ?_
      refine g_getf dX10_countDraw_23 fX10_33 (fr2.at (by intro q; simp only [List.mem_cons, List.not_mem_nil, or_false] at q; omega) a0) rfl ?_
      refine g_iload_n dX10_countDraw_26 rfl rfl ?_
      refine cVi (st := [.ref 1]) dX10_countDraw_27 (c_ballotAtAt G (d + 3) n ex h1 hl2' hxD hD) sX10_368 (fr2.at (by intro q; simp only [List.mem_cons, List.not_mem_nil, or_false] at q; omega) l1) rfl rfl (by simp only [g_rm]; omega) (by simp only [g_rm]; omega) (Nat.le_of_ble_eq_true rfl) ⟨Nat.le_of_ble_eq_true rfl, Nat.le_of_ble_eq_true rfl⟩ (fun r8 h5 fr6 p7 => ?_)
      cases g_fr0 fr6
      subst p7
      refine cVi (st := []) dX10_countDraw_30 (c_readOf G (d + 4) n ex h1 hs2 hblx) sX10_272 (fr2.at (by intro q; simp only [List.mem_cons, List.not_mem_nil, or_false] at q; omega) z1) rfl rfl (by simp only [g_rm]; omega) (by simp only [g_rm]; omega) (Nat.le_of_ble_eq_true rfl) ⟨Nat.le_of_ble_eq_true rfl, Nat.le_of_ble_eq_true rfl⟩ (fun r12 h9 fr10 p11 => ?_)
      cases g_fr0 fr10
      subst p11
      refine g_istore_n (ls' := [(3, .int (nI (rc (bl x)) - nI 1)), (2, .int (nI c)), (0, .ref 0), (1, .int (nI x))]) dX10_countDraw_33 rfl (by decide) rfl ?_
      refine g_aload_n dX10_countDraw_34 rfl rfl ?_
      refine g_getf dX10_countDraw_35 fX10_173 (fr2.at (by intro q; simp only [List.mem_cons, List.not_mem_nil, or_false] at q; omega) a0) rfl ?_
      refine g_if_eqN (tgt := 57) dX10_countDraw_38 (by decide) (by omega) (fun c38 => ?_) (fun c38 => ?_)
      · refine g_aload_n dX10_countDraw_57 rfl rfl ?_
        refine g_getf dX10_countDraw_58 fX10_40 (fr2.at (by intro q; simp only [List.mem_cons, List.not_mem_nil, or_false] at q; omega) a0) rfl ?_
        refine g_aload_n dX10_countDraw_61 rfl rfl ?_
        refine g_getf dX10_countDraw_62 fX10_12 (fr2.at (by intro q; simp only [List.mem_cons, List.not_mem_nil, or_false] at q; omega) a0) rfl ?_
        refine g_iload_n dX10_countDraw_65 rfl rfl ?_
        refine g_aload_n dX10_countDraw_66 rfl rfl ?_
        refine g_getf dX10_countDraw_67 fX10_33 (fr2.at (by intro q; simp only [List.mem_cons, List.not_mem_nil, or_false] at q; omega) a0) rfl ?_
        refine g_getf dX10_countDraw_70 fX10_180 (fr2.at (by intro q; simp only [List.mem_cons, List.not_mem_nil, or_false] at q; omega) l1) rfl ?_
        refine cVi (st := []) dX10_countDraw_73 (c_poll G d n ex h1 (seen := nI c) hm (fun k hk => ⟨by have := hV k hk; omega, (hV k hk).2, by have := hV k hk; omega⟩) hwl hE hl1 hl2 (by omega) hT2 hs2 hK2) sX10_375 (fr2.at (by intro q; simp only [List.mem_cons, List.not_mem_nil, or_false] at q; omega) t1) rfl rfl (by simp only [g_rm]; omega) (by simp only [g_rm]; omega) (Nat.le_of_ble_eq_true rfl) ⟨Nat.le_of_ble_eq_true rfl, Nat.le_of_ble_eq_true rfl⟩ (fun r16 h13 fr14 p15 => ?_)
        obtain ⟨e8, hT3, hK3, hj3⟩ := p15
        have p15 := And.intro True.intro (And.intro True.intro (And.intro True.intro hj3))
        subst e8
        refine g_istore (ls' := [(4, .int (nI (if cs_ (pw_sw (nI c) w l v (s 9) (s 10) dr sw ea eb) m = m then 1 else 0))), (3, .int (nI (rc (bl x)) - nI 1)), (2, .int (nI c)), (0, .ref 0), (1, .int (nI x))]) dX10_countDraw_76 (by decide) rfl ?_
        refine g_iload dX10_countDraw_78 rfl ?_
        refine g_if_eqN (tgt := 91) dX10_countDraw_80 (by decide) (by split <;> decide) (fun c80 => ?_) (fun c80 => ?_)
        · have hno : ¬ (cs_ (pw_sw (nI c) w l v (s 9) (s 10) dr sw ea eb) m = m) := fun q => absurd ((if_pos q).symm.trans c80 : (1 : Nat) = 0) (by decide)
          refine g_aload_n dX10_countDraw_91 rfl rfl ?_
          refine g_aload_n dX10_countDraw_92 rfl rfl ?_
          refine g_getf dX10_countDraw_93 fX10_33 ((p15.2.2.2 0 (by omega) (by decide)).trans (fr2.at (by intro q; simp only [List.mem_cons, List.not_mem_nil, or_false] at q; omega) a0)) rfl ?_
          refine g_getf dX10_countDraw_96 fX10_180 ((p15.2.2.2 12 (by omega) (by decide)).trans (fr2.at (by intro q; simp only [List.mem_cons, List.not_mem_nil, or_false] at q; omega) l1)) rfl ?_
          refine g_aload_n dX10_countDraw_99 rfl rfl ?_
          refine g_getf dX10_countDraw_100 fX10_12 ((p15.2.2.2 0 (by omega) (by decide)).trans (fr2.at (by intro q; simp only [List.mem_cons, List.not_mem_nil, or_false] at q; omega) a0)) rfl ?_
          refine g_getf dX10_countDraw_103 fX10_111 ((p15.2.2.2 1 (by omega) (by decide)).trans (fr2.at (by intro q; simp only [List.mem_cons, List.not_mem_nil, or_false] at q; omega) z1)) rfl ?_
          refine g_icmp_ltN (tgt := 113) dX10_countDraw_106 (by decide) (by omega) (by omega) (fun c106 => ?_) (fun c106 => ?_)
          · refine g_iconst (v := nI 1) dX10_countDraw_113 (by decide) ?_
            refine g_put (fs' := [.ref 1, .ref 6, .ref 8, .ref 12, .ref 17, .ref 120, .ref 123, .ref 137, .int (nI 1), .int (nI cm), .int (nI sd)]) dX10_countDraw_114 fX10_67 ((p15.2.2.2 0 (by omega) (by decide)).trans (fr2.at (by intro q; simp only [List.mem_cons, List.not_mem_nil, or_false] at q; omega) a0)) (Nat.le_of_ble_eq_true rfl) rfl rfl rfl ?_
            exact e_v dX10_countDraw_117 rfl ((((g_fr.rf).tr (fr2.mono (by intro j q; simp only [List.mem_cons, List.not_mem_nil, or_false] at q; exact List.mem_range.mpr (by omega))) (fun _ q => q)).tr (fr14.mono SP_r) (fun _ q => q)).up (List.mem_range.mpr (by omega))) ⟨(by unfold stP; rw [if_neg hno, if_neg (by omega)]; exact g_eq), (show Dl _ _ _ _ _ _ _ _ from ⟨g_ne (by decide) ((hj3 12 (by omega) (by decide)).trans hl2'.1), g_ne (by decide) ((hj3 13 (by omega) (by decide)).trans hl2'.2.1), g_ne (by decide) ((hj3 14 (by omega) (by decide)).trans hl2'.2.2.1), g_ne (by decide) ((hj3 15 (by omega) (by decide)).trans hl2'.2.2.2.1), g_ne (by decide) ((hj3 16 (by omega) (by decide)).trans hl2'.2.2.2.2)⟩), hT3.fr (g_fr.up (S := [0]) g_fr.rf (by simp)) (by decide) (by decide), hK3.fr (g_fr.up (S := [0]) g_fr.rf (by simp)) (by decide) hm, fun j h1 h2 h3 h4 => g_ne h2 ((hj3 j h1 h4).trans (fr2 j (by intro q; simp only [List.mem_cons, List.not_mem_nil, or_false] at q; omega)))⟩ (by decide) (by decide)
          · refine g_iconst (v := nI 4) dX10_countDraw_109 (by decide) ?_
            refine g_goto (tgt := 114) dX10_countDraw_110 (by decide) ?_
            refine g_put (fs' := [.ref 1, .ref 6, .ref 8, .ref 12, .ref 17, .ref 120, .ref 123, .ref 137, .int (nI 4), .int (nI cm), .int (nI sd)]) dX10_countDraw_114 fX10_67 ((p15.2.2.2 0 (by omega) (by decide)).trans (fr2.at (by intro q; simp only [List.mem_cons, List.not_mem_nil, or_false] at q; omega) a0)) (Nat.le_of_ble_eq_true rfl) rfl rfl rfl ?_
            exact e_v dX10_countDraw_117 rfl ((((g_fr.rf).tr (fr2.mono (by intro j q; simp only [List.mem_cons, List.not_mem_nil, or_false] at q; exact List.mem_range.mpr (by omega))) (fun _ q => q)).tr (fr14.mono SP_r) (fun _ q => q)).up (List.mem_range.mpr (by omega))) ⟨(by unfold stP; rw [if_neg hno, if_pos (by omega)]; exact g_eq), (show Dl _ _ _ _ _ _ _ _ from ⟨g_ne (by decide) ((hj3 12 (by omega) (by decide)).trans hl2'.1), g_ne (by decide) ((hj3 13 (by omega) (by decide)).trans hl2'.2.1), g_ne (by decide) ((hj3 14 (by omega) (by decide)).trans hl2'.2.2.1), g_ne (by decide) ((hj3 15 (by omega) (by decide)).trans hl2'.2.2.2.1), g_ne (by decide) ((hj3 16 (by omega) (by decide)).trans hl2'.2.2.2.2)⟩), hT3.fr (g_fr.up (S := [0]) g_fr.rf (by simp)) (by decide) (by decide), hK3.fr (g_fr.up (S := [0]) g_fr.rf (by simp)) (by decide) hm, fun j h1 h2 h3 h4 => g_ne h2 ((hj3 j h1 h4).trans (fr2 j (by intro q; simp only [List.mem_cons, List.not_mem_nil, or_false] at q; omega)))⟩ (by decide) (by decide)
        · have hyes : cs_ (pw_sw (nI c) w l v (s 9) (s 10) dr sw ea eb) m = m := Decidable.byContradiction (fun q => c80 (if_neg q))
          refine g_aload_n dX10_countDraw_83 rfl rfl ?_
          refine g_iconst (v := nI 3) dX10_countDraw_84 (by decide) ?_
          refine g_put (fs' := [.ref 1, .ref 6, .ref 8, .ref 12, .ref 17, .ref 120, .ref 123, .ref 137, .int (nI 3), .int (nI cm), .int (nI sd)]) dX10_countDraw_85 fX10_67 ((p15.2.2.2 0 (by omega) (by decide)).trans (fr2.at (by intro q; simp only [List.mem_cons, List.not_mem_nil, or_false] at q; omega) a0)) (Nat.le_of_ble_eq_true rfl) rfl rfl rfl ?_
          refine g_goto (tgt := 117) dX10_countDraw_88 (by decide) ?_
          exact e_v dX10_countDraw_117 rfl ((((g_fr.rf).tr (fr2.mono (by intro j q; simp only [List.mem_cons, List.not_mem_nil, or_false] at q; exact List.mem_range.mpr (by omega))) (fun _ q => q)).tr (fr14.mono SP_r) (fun _ q => q)).up (List.mem_range.mpr (by omega))) ⟨(by unfold stP; rw [if_pos hyes]; exact g_eq), (show Dl _ _ _ _ _ _ _ _ from ⟨g_ne (by decide) ((hj3 12 (by omega) (by decide)).trans hl2'.1), g_ne (by decide) ((hj3 13 (by omega) (by decide)).trans hl2'.2.1), g_ne (by decide) ((hj3 14 (by omega) (by decide)).trans hl2'.2.2.1), g_ne (by decide) ((hj3 15 (by omega) (by decide)).trans hl2'.2.2.2.1), g_ne (by decide) ((hj3 16 (by omega) (by decide)).trans hl2'.2.2.2.2)⟩), hT3.fr (g_fr.up (S := [0]) g_fr.rf (by simp)) (by decide) (by decide), hK3.fr (g_fr.up (S := [0]) g_fr.rf (by simp)) (by decide) hm, fun j h1 h2 h3 h4 => g_ne h2 ((hj3 j h1 h4).trans (fr2 j (by intro q; simp only [List.mem_cons, List.not_mem_nil, or_false] at q; omega)))⟩ (by decide) (by decide)
      · exact absurd hcm c38
    · exact absurd c11 (ne_m1 (by omega))
  · rw [hq]
    refine g_aload_n dX10_countDraw_0 rfl rfl ?_
    refine g_getf dX10_countDraw_1 fX10_33 a0 rfl ?_
    refine g_iload_n dX10_countDraw_4 rfl rfl ?_
    refine cVi (st := []) dX10_countDraw_5 (c_countN G (d + 2) n ex h hl hxD hD hq) sX10_365 l1 rfl rfl (by simp only [g_rm]; omega) (by simp only [g_rm]; omega) (Nat.le_of_ble_eq_true rfl) ⟨Nat.le_of_ble_eq_true rfl, Nat.le_of_ble_eq_true rfl⟩ (fun r4 h1 fr2 p3 => ?_)
    cases g_fr0 fr2
    subst p3
    have hl2' : Dl h bl ti (cdf df (-1)) se D dr bk := by rw [cdf_1]; exact hl
    have hT2 := hT
    have hK2 := hK
    have hs2 := hs
    refine g_istore_n (ls' := [(2, .int (-1)), (0, .ref 0), (1, .int (nI x))]) dX10_countDraw_8 rfl (by decide) rfl ?_
    refine g_iload_n dX10_countDraw_9 rfl rfl ?_
    refine g_iconst (v := -1) dX10_countDraw_10 (by decide) ?_
    refine g_icmp_ne (tgt := 18) dX10_countDraw_11 (by decide) (fun c11 => ?_) (fun c11 => ?_)
    · refine g_aload_n dX10_countDraw_18 rfl rfl ?_
      refine g_getf dX10_countDraw_19 fX10_12 a0 rfl ?_
      refine g_aload_n dX10_countDraw_22 rfl rfl ?_
      refine g_getf dX10_countDraw_23 fX10_33 a0 rfl ?_
      refine g_iload_n dX10_countDraw_26 rfl rfl ?_
      refine cVi (st := [.ref 1]) dX10_countDraw_27 (c_ballotAtAt G (d + 3) n ex h hl2' hxD hD) sX10_368 l1 rfl rfl (by simp only [g_rm]; omega) (by simp only [g_rm]; omega) (Nat.le_of_ble_eq_true rfl) ⟨Nat.le_of_ble_eq_true rfl, Nat.le_of_ble_eq_true rfl⟩ (fun r8 h5 fr6 p7 => ?_)
      cases g_fr0 fr6
      subst p7
      refine cVi (st := []) dX10_countDraw_30 (c_readOf G (d + 4) n ex h hs2 hblx) sX10_272 z1 rfl rfl (by simp only [g_rm]; omega) (by simp only [g_rm]; omega) (Nat.le_of_ble_eq_true rfl) ⟨Nat.le_of_ble_eq_true rfl, Nat.le_of_ble_eq_true rfl⟩ (fun r12 h9 fr10 p11 => ?_)
      cases g_fr0 fr10
      subst p11
      refine g_istore_n (ls' := [(3, .int (nI (rc (bl x)) - nI 1)), (2, .int (-1)), (0, .ref 0), (1, .int (nI x))]) dX10_countDraw_33 rfl (by decide) rfl ?_
      refine g_aload_n dX10_countDraw_34 rfl rfl ?_
      refine g_getf dX10_countDraw_35 fX10_173 a0 rfl ?_
      refine g_if_eqN (tgt := 57) dX10_countDraw_38 (by decide) (by omega) (fun c38 => ?_) (fun c38 => ?_)
      · refine g_aload_n dX10_countDraw_57 rfl rfl ?_
        refine g_getf dX10_countDraw_58 fX10_40 a0 rfl ?_
        refine g_aload_n dX10_countDraw_61 rfl rfl ?_
        refine g_getf dX10_countDraw_62 fX10_12 a0 rfl ?_
        refine g_iload_n dX10_countDraw_65 rfl rfl ?_
        refine g_aload_n dX10_countDraw_66 rfl rfl ?_
        refine g_getf dX10_countDraw_67 fX10_33 a0 rfl ?_
        refine g_getf dX10_countDraw_70 fX10_180 l1 rfl ?_
        refine cVi (st := []) dX10_countDraw_73 (c_poll G d n ex h (seen := (-1)) hm (fun k hk => ⟨by have := hV k hk; omega, (hV k hk).2, by have := hV k hk; omega⟩) hwl hE hl1 hl2 (by omega) hT2 hs2 hK2) sX10_375 t1 rfl rfl (by simp only [g_rm]; omega) (by simp only [g_rm]; omega) (Nat.le_of_ble_eq_true rfl) ⟨Nat.le_of_ble_eq_true rfl, Nat.le_of_ble_eq_true rfl⟩ (fun r16 h13 fr14 p15 => ?_)
        obtain ⟨e8, hT3, hK3, hj3⟩ := p15
        have p15 := And.intro True.intro (And.intro True.intro (And.intro True.intro hj3))
        subst e8
        refine g_istore (ls' := [(4, .int (nI (if cs_ (pw_sw (-1) w l v (s 9) (s 10) dr sw ea eb) m = m then 1 else 0))), (3, .int (nI (rc (bl x)) - nI 1)), (2, .int (-1)), (0, .ref 0), (1, .int (nI x))]) dX10_countDraw_76 (by decide) rfl ?_
        refine g_iload dX10_countDraw_78 rfl ?_
        refine g_if_eqN (tgt := 91) dX10_countDraw_80 (by decide) (by split <;> decide) (fun c80 => ?_) (fun c80 => ?_)
        · have hno : ¬ (cs_ (pw_sw (-1) w l v (s 9) (s 10) dr sw ea eb) m = m) := fun q => absurd ((if_pos q).symm.trans c80 : (1 : Nat) = 0) (by decide)
          refine g_aload_n dX10_countDraw_91 rfl rfl ?_
          refine g_aload_n dX10_countDraw_92 rfl rfl ?_
          refine g_getf dX10_countDraw_93 fX10_33 ((p15.2.2.2 0 (by omega) (by decide)).trans a0) rfl ?_
          refine g_getf dX10_countDraw_96 fX10_180 ((p15.2.2.2 12 (by omega) (by decide)).trans l1) rfl ?_
          refine g_aload_n dX10_countDraw_99 rfl rfl ?_
          refine g_getf dX10_countDraw_100 fX10_12 ((p15.2.2.2 0 (by omega) (by decide)).trans a0) rfl ?_
          refine g_getf dX10_countDraw_103 fX10_111 ((p15.2.2.2 1 (by omega) (by decide)).trans z1) rfl ?_
          refine g_icmp_ltN (tgt := 113) dX10_countDraw_106 (by decide) (by omega) (by omega) (fun c106 => ?_) (fun c106 => ?_)
          · refine g_iconst (v := nI 1) dX10_countDraw_113 (by decide) ?_
            refine g_put (fs' := [.ref 1, .ref 6, .ref 8, .ref 12, .ref 17, .ref 120, .ref 123, .ref 137, .int (nI 1), .int (nI cm), .int (nI sd)]) dX10_countDraw_114 fX10_67 ((p15.2.2.2 0 (by omega) (by decide)).trans a0) (Nat.le_of_ble_eq_true rfl) rfl rfl rfl ?_
            exact e_v dX10_countDraw_117 rfl (((g_fr.rf).tr (fr14.mono SP_r) (fun _ q => q)).up (List.mem_range.mpr (by omega))) ⟨(by unfold stP; rw [if_neg hno, if_neg (by omega)]; exact g_eq), (show Dl _ _ _ _ _ _ _ _ from ⟨g_ne (by decide) ((hj3 12 (by omega) (by decide)).trans hl2'.1), g_ne (by decide) ((hj3 13 (by omega) (by decide)).trans hl2'.2.1), g_ne (by decide) ((hj3 14 (by omega) (by decide)).trans hl2'.2.2.1), g_ne (by decide) ((hj3 15 (by omega) (by decide)).trans hl2'.2.2.2.1), g_ne (by decide) ((hj3 16 (by omega) (by decide)).trans hl2'.2.2.2.2)⟩), hT3.fr (g_fr.up (S := [0]) g_fr.rf (by simp)) (by decide) (by decide), hK3.fr (g_fr.up (S := [0]) g_fr.rf (by simp)) (by decide) hm, fun j h1 h2 h3 h4 => g_ne h2 ((hj3 j h1 h4).trans (rfl))⟩ (by decide) (by decide)
          · refine g_iconst (v := nI 4) dX10_countDraw_109 (by decide) ?_
            refine g_goto (tgt := 114) dX10_countDraw_110 (by decide) ?_
            refine g_put (fs' := [.ref 1, .ref 6, .ref 8, .ref 12, .ref 17, .ref 120, .ref 123, .ref 137, .int (nI 4), .int (nI cm), .int (nI sd)]) dX10_countDraw_114 fX10_67 ((p15.2.2.2 0 (by omega) (by decide)).trans a0) (Nat.le_of_ble_eq_true rfl) rfl rfl rfl ?_
            exact e_v dX10_countDraw_117 rfl (((g_fr.rf).tr (fr14.mono SP_r) (fun _ q => q)).up (List.mem_range.mpr (by omega))) ⟨(by unfold stP; rw [if_neg hno, if_pos (by omega)]; exact g_eq), (show Dl _ _ _ _ _ _ _ _ from ⟨g_ne (by decide) ((hj3 12 (by omega) (by decide)).trans hl2'.1), g_ne (by decide) ((hj3 13 (by omega) (by decide)).trans hl2'.2.1), g_ne (by decide) ((hj3 14 (by omega) (by decide)).trans hl2'.2.2.1), g_ne (by decide) ((hj3 15 (by omega) (by decide)).trans hl2'.2.2.2.1), g_ne (by decide) ((hj3 16 (by omega) (by decide)).trans hl2'.2.2.2.2)⟩), hT3.fr (g_fr.up (S := [0]) g_fr.rf (by simp)) (by decide) (by decide), hK3.fr (g_fr.up (S := [0]) g_fr.rf (by simp)) (by decide) hm, fun j h1 h2 h3 h4 => g_ne h2 ((hj3 j h1 h4).trans (rfl))⟩ (by decide) (by decide)
        · have hyes : cs_ (pw_sw (-1) w l v (s 9) (s 10) dr sw ea eb) m = m := Decidable.byContradiction (fun q => c80 (if_neg q))
          refine g_aload_n dX10_countDraw_83 rfl rfl ?_
          refine g_iconst (v := nI 3) dX10_countDraw_84 (by decide) ?_
          refine g_put (fs' := [.ref 1, .ref 6, .ref 8, .ref 12, .ref 17, .ref 120, .ref 123, .ref 137, .int (nI 3), .int (nI cm), .int (nI sd)]) dX10_countDraw_85 fX10_67 ((p15.2.2.2 0 (by omega) (by decide)).trans a0) (Nat.le_of_ble_eq_true rfl) rfl rfl rfl ?_
          refine g_goto (tgt := 117) dX10_countDraw_88 (by decide) ?_
          exact e_v dX10_countDraw_117 rfl (((g_fr.rf).tr (fr14.mono SP_r) (fun _ q => q)).up (List.mem_range.mpr (by omega))) ⟨(by unfold stP; rw [if_pos hyes]; exact g_eq), (show Dl _ _ _ _ _ _ _ _ from ⟨g_ne (by decide) ((hj3 12 (by omega) (by decide)).trans hl2'.1), g_ne (by decide) ((hj3 13 (by omega) (by decide)).trans hl2'.2.1), g_ne (by decide) ((hj3 14 (by omega) (by decide)).trans hl2'.2.2.1), g_ne (by decide) ((hj3 15 (by omega) (by decide)).trans hl2'.2.2.2.1), g_ne (by decide) ((hj3 16 (by omega) (by decide)).trans hl2'.2.2.2.2)⟩), hT3.fr (g_fr.up (S := [0]) g_fr.rf (by simp)) (by decide) (by decide), hK3.fr (g_fr.up (S := [0]) g_fr.rf (by simp)) (by decide) hm, fun j h1 h2 h3 h4 => g_ne h2 ((hj3 j h1 h4).trans (rfl))⟩ (by decide) (by decide)
      · exact absurd hcm c38
    · exact absurd c11 (ne_m1 (by omega))
set_option maxHeartbeats 4000000 in
set_option maxRecDepth 100000 in
theorem c_countDrawC (G : gG) (d n : Nat) (ex : Bool) (h : gH) {sg cm sd : Nat} {s v wn en rc bl ti df w l ea eb : Nat → Nat} {se sw : Nat → Int32} {D dr bk m lm pn pd e : Nat} {pl sv rd : Int32} (a0 : Au h sg cm sd) (hs : Su h s v wn en rc) (hl : Dl h bl ti df se D dr bk) (hpl : pl_ok se bl rc D pl sv rd) (hD : D ≤ 200) (hdr : dr ≤ 200) (hcap : s 8 ≤ 200) (hm : m ≤ 16) (hV : ∀ k, k < m → v (l k) < v (w k) ∧ v (w k) ≤ 20000) (hl1 : s 9 ≤ 1000000) (hl2 : s 10 ≤ 1000000) (hT : Te h m (cs_ sw m) lm) (hK : Tk h m w l v sw ea eb) (hm1 : 1 ≤ m) (hP : Pq h pn pd e) (he2 : e ≤ 199) (g1 : s 12 < s 11) (g2 : s 11 ≤ 1000000) (hN1 : 1 ≤ s 6) (hN2 : s 6 ≤ 20000) (hlm : ∀ k, k < m → lm ≤ md v w l k) (hlm2 : lm ≤ s 6) (hcm : cm = 1) : g_M G mX10_countDraw (d + 5) 0 0 [.ref 0, .int pl] n ex h (q_v n ex (List.range 120) h (fun h' => Au h' (stP ((pn * ((2 * s 11 * s 6 - s 12 * lm) * md v w l (mo (oe w l rd sv) (md v w l) m))) * s 10 ≤ (pd * (s 6 * cF2 (s 11) (s 12) lm (md v w l (mo (oe w l rd sv) (md v w l) m)) (oe w l rd sv (mo (oe w l rd sv) (md v w l) m)))) * s 9) (s 8) dr) cm sd ∧ Dl h' bl ti (cdf df sv) se D dr bk ∧ Pq h' (pn * ((2 * s 11 * s 6 - s 12 * lm) * md v w l (mo (oe w l rd sv) (md v w l) m))) (pd * (s 6 * cF2 (s 11) (s 12) lm (md v w l (mo (oe w l rd sv) (md v w l) m)) (oe w l rd sv (mo (oe w l rd sv) (md v w l) m)))) (e + 1) ∧ ∀ j, (j < 20 ∨ 23 < j) → ¬ j = 0 → ¬ j = 16 → h' j = h j)) := by
  obtain ⟨z1, z2, z3, z4, z5⟩ := id hs
  have l1 := hl.1
  have t1 := hT.1
  refine g_enter (by decide) (Nat.le_of_ble_eq_true rfl) ?_
  show g_W G _ _ _ n ex h 0 0 0 [(0, .ref 0), (1, .int pl)] []
  rcases hpl with ⟨rfl, rfl, rfl⟩ | ⟨x, rfl, hxD, rfl, hok, hblx, rfl⟩
  · skip
    refine g_aload_n dX10_countDraw_0 rfl rfl ?_
    refine g_getf dX10_countDraw_1 fX10_33 a0 rfl ?_
    refine g_iload_n dX10_countDraw_4 rfl rfl ?_
    refine cVi (st := []) dX10_countDraw_5 (c_countNo G (d + 2) n ex h hl) sX10_365 l1 rfl rfl (by simp only [g_rm]; omega) (by simp only [g_rm]; omega) (Nat.le_of_ble_eq_true rfl) ⟨Nat.le_of_ble_eq_true rfl, Nat.le_of_ble_eq_true rfl⟩ (fun r4 h1 fr2 p3 => ?_)
    cases g_fr0 fr2
    subst p3
    have hl2' : Dl h bl ti (cdf df (-2)) se D dr bk := by rw [cdf_2]; exact hl
    have hT2 := hT
    have hK2 := hK
    have hs2 := hs
    have hP2 := hP
    refine g_istore_n (ls' := [(2, .int (-2)), (0, .ref 0), (1, .int (-1))]) dX10_countDraw_8 rfl (by decide) rfl ?_
    refine g_iload_n dX10_countDraw_9 rfl rfl ?_
    refine g_iconst (v := -1) dX10_countDraw_10 (by decide) ?_
    refine g_icmp_ne (tgt := 18) dX10_countDraw_11 (by decide) (fun c11 => ?_) (fun c11 => ?_)
    · exact absurd rfl c11
    · refine g_iconst (v := -1) dX10_countDraw_14 (by decide) ?_
      refine g_goto (tgt := 33) dX10_countDraw_15 (by decide) ?_
      refine g_istore_n (ls' := [(3, .int (-1)), (2, .int (-2)), (0, .ref 0), (1, .int (-1))]) dX10_countDraw_33 rfl (by decide) rfl ?_
      refine g_aload_n dX10_countDraw_34 rfl rfl ?_
      refine g_getf dX10_countDraw_35 fX10_173 a0 rfl ?_
      refine g_if_eqN (tgt := 57) dX10_countDraw_38 (by decide) (by omega) (fun c38 => ?_) (fun c38 => ?_)
      · exact absurd c38 (by omega)
      · refine g_aload_n dX10_countDraw_41 rfl rfl ?_
        refine g_getf dX10_countDraw_42 fX10_40 a0 rfl ?_
        refine g_aload_n dX10_countDraw_45 rfl rfl ?_
        refine g_getf dX10_countDraw_46 fX10_12 a0 rfl ?_
        refine g_iload_n dX10_countDraw_49 rfl rfl ?_
        refine g_iload_n dX10_countDraw_50 rfl rfl ?_
        refine cVi (st := []) dX10_countDraw_51 (c_compare G d n ex h (ra := (-1)) (rb := (-2)) hm hm1 hV hT2 hK2 hs2 hP2 he2 g1 g2 hN1 hN2 hl1 hl2 hlm hlm2) sX10_371 t1 rfl rfl (by simp only [g_rm]; omega) (by simp only [g_rm]; omega) (Nat.le_of_ble_eq_true rfl) ⟨Nat.le_of_ble_eq_true rfl, Nat.le_of_ble_eq_true rfl⟩ (fun r8 h5 fr6 p7 => ?_)
        obtain ⟨e8, hP3⟩ := p7
        subst e8
        have hl3 := hl2'.fr fr6 (by intro j q; simp only [List.mem_cons, List.not_mem_nil, or_false] at q; omega)
        refine g_goto (tgt := 76) dX10_countDraw_54 (by decide) ?_
        refine g_istore (ls' := [(4, .int (nI (if (pn * ((2 * s 11 * s 6 - s 12 * lm) * md v w l (mo (oe w l (-1) (-2)) (md v w l) m))) * s 10 ≤ (pd * (s 6 * cF2 (s 11) (s 12) lm (md v w l (mo (oe w l (-1) (-2)) (md v w l) m)) (oe w l (-1) (-2) (mo (oe w l (-1) (-2)) (md v w l) m)))) * s 9 then 1 else 0))), (3, .int (-1)), (2, .int (-2)), (0, .ref 0), (1, .int (-1))]) dX10_countDraw_76 (by decide) rfl ?_
        refine g_iload dX10_countDraw_78 rfl ?_
        refine g_if_eqN (tgt := 91) dX10_countDraw_80 (by decide) (by split <;> decide) (fun c80 => ?_) (fun c80 => ?_)
        · have hno : ¬ ((pn * ((2 * s 11 * s 6 - s 12 * lm) * md v w l (mo (oe w l (-1) (-2)) (md v w l) m))) * s 10 ≤ (pd * (s 6 * cF2 (s 11) (s 12) lm (md v w l (mo (oe w l (-1) (-2)) (md v w l) m)) (oe w l (-1) (-2) (mo (oe w l (-1) (-2)) (md v w l) m)))) * s 9) := fun q => absurd ((if_pos q).symm.trans c80 : (1 : Nat) = 0) (by decide)
          refine g_aload_n dX10_countDraw_91 rfl rfl ?_
          refine g_aload_n dX10_countDraw_92 rfl rfl ?_
          refine g_getf dX10_countDraw_93 fX10_33 (fr6.at (by intro q; simp only [List.mem_cons, List.not_mem_nil, or_false] at q; omega) a0) rfl ?_
          refine g_getf dX10_countDraw_96 fX10_180 (fr6.at (by intro q; simp only [List.mem_cons, List.not_mem_nil, or_false] at q; omega) l1) rfl ?_
          refine g_aload_n dX10_countDraw_99 rfl rfl ?_
          refine g_getf dX10_countDraw_100 fX10_12 (fr6.at (by intro q; simp only [List.mem_cons, List.not_mem_nil, or_false] at q; omega) a0) rfl ?_
          refine g_getf dX10_countDraw_103 fX10_111 (fr6.at (by intro q; simp only [List.mem_cons, List.not_mem_nil, or_false] at q; omega) z1) rfl ?_
          refine g_icmp_ltN (tgt := 113) dX10_countDraw_106 (by decide) (by omega) (by omega) (fun c106 => ?_) (fun c106 => ?_)
          · refine g_iconst (v := nI 1) dX10_countDraw_113 (by decide) ?_
            refine g_put (fs' := [.ref 1, .ref 6, .ref 8, .ref 12, .ref 17, .ref 120, .ref 123, .ref 137, .int (nI 1), .int (nI cm), .int (nI sd)]) dX10_countDraw_114 fX10_67 (fr6.at (by intro q; simp only [List.mem_cons, List.not_mem_nil, or_false] at q; omega) a0) (Nat.le_of_ble_eq_true rfl) rfl rfl rfl ?_
            exact e_v dX10_countDraw_117 rfl (((g_fr.rf).tr (fr6.mono (by intro j q; simp only [List.mem_cons, List.not_mem_nil, or_false] at q; exact List.mem_range.mpr (by omega))) (fun _ q => q)).up (List.mem_range.mpr (by omega))) ⟨(by unfold stP; rw [if_neg hno, if_neg (by omega)]; exact g_eq), hl3.fr (g_fr.up (S := [0]) g_fr.rf (by simp)) (by decide), hP3.fr (g_fr.up (S := [0]) g_fr.rf (by simp)) (by decide), fun j h1 h2 h3 => g_ne h2 (fr6.at (by intro q; simp only [List.mem_cons, List.not_mem_nil, or_false] at q; omega) rfl)⟩ (by decide) (by decide)
          · refine g_iconst (v := nI 4) dX10_countDraw_109 (by decide) ?_
            refine g_goto (tgt := 114) dX10_countDraw_110 (by decide) ?_
            refine g_put (fs' := [.ref 1, .ref 6, .ref 8, .ref 12, .ref 17, .ref 120, .ref 123, .ref 137, .int (nI 4), .int (nI cm), .int (nI sd)]) dX10_countDraw_114 fX10_67 (fr6.at (by intro q; simp only [List.mem_cons, List.not_mem_nil, or_false] at q; omega) a0) (Nat.le_of_ble_eq_true rfl) rfl rfl rfl ?_
            exact e_v dX10_countDraw_117 rfl (((g_fr.rf).tr (fr6.mono (by intro j q; simp only [List.mem_cons, List.not_mem_nil, or_false] at q; exact List.mem_range.mpr (by omega))) (fun _ q => q)).up (List.mem_range.mpr (by omega))) ⟨(by unfold stP; rw [if_neg hno, if_pos (by omega)]; exact g_eq), hl3.fr (g_fr.up (S := [0]) g_fr.rf (by simp)) (by decide), hP3.fr (g_fr.up (S := [0]) g_fr.rf (by simp)) (by decide), fun j h1 h2 h3 => g_ne h2 (fr6.at (by intro q; simp only [List.mem_cons, List.not_mem_nil, or_false] at q; omega) rfl)⟩ (by decide) (by decide)
        · have hyes : (pn * ((2 * s 11 * s 6 - s 12 * lm) * md v w l (mo (oe w l (-1) (-2)) (md v w l) m))) * s 10 ≤ (pd * (s 6 * cF2 (s 11) (s 12) lm (md v w l (mo (oe w l (-1) (-2)) (md v w l) m)) (oe w l (-1) (-2) (mo (oe w l (-1) (-2)) (md v w l) m)))) * s 9 := Decidable.byContradiction (fun q => c80 (if_neg q))
          refine g_aload_n dX10_countDraw_83 rfl rfl ?_
          refine g_iconst (v := nI 3) dX10_countDraw_84 (by decide) ?_
          refine g_put (fs' := [.ref 1, .ref 6, .ref 8, .ref 12, .ref 17, .ref 120, .ref 123, .ref 137, .int (nI 3), .int (nI cm), .int (nI sd)]) dX10_countDraw_85 fX10_67 (fr6.at (by intro q; simp only [List.mem_cons, List.not_mem_nil, or_false] at q; omega) a0) (Nat.le_of_ble_eq_true rfl) rfl rfl rfl ?_
          refine g_goto (tgt := 117) dX10_countDraw_88 (by decide) ?_
          exact e_v dX10_countDraw_117 rfl (((g_fr.rf).tr (fr6.mono (by intro j q; simp only [List.mem_cons, List.not_mem_nil, or_false] at q; exact List.mem_range.mpr (by omega))) (fun _ q => q)).up (List.mem_range.mpr (by omega))) ⟨(by unfold stP; rw [if_pos hyes]; exact g_eq), hl3.fr (g_fr.up (S := [0]) g_fr.rf (by simp)) (by decide), hP3.fr (g_fr.up (S := [0]) g_fr.rf (by simp)) (by decide), fun j h1 h2 h3 => g_ne h2 (fr6.at (by intro q; simp only [List.mem_cons, List.not_mem_nil, or_false] at q; omega) rfl)⟩ (by decide) (by decide)
  rcases hok with hq | ⟨c, hc, hq⟩
  rotate_left
  · rw [hq]
    refine g_aload_n dX10_countDraw_0 rfl rfl ?_
    refine g_getf dX10_countDraw_1 fX10_33 a0 rfl ?_
    refine g_iload_n dX10_countDraw_4 rfl rfl ?_
    refine cVi (st := []) dX10_countDraw_5 (c_countC G (d + 2) n ex h hl hxD hD hc hq) sX10_365 l1 rfl rfl (by simp only [g_rm]; omega) (by simp only [g_rm]; omega) (Nat.le_of_ble_eq_true rfl) ⟨Nat.le_of_ble_eq_true rfl, Nat.le_of_ble_eq_true rfl⟩ (fun r4 h1 fr2 p3 => ?_)
    obtain ⟨e9, hl2'⟩ := p3
    subst e9
    rw [cdf_c df hc] at hl2'
    have hT2 := hT.fr fr2 (by intro q; simp only [List.mem_cons, List.not_mem_nil, or_false] at q; omega) (by intro q; simp only [List.mem_cons, List.not_mem_nil, or_false] at q; omega)
    have hK2 := hK.fr fr2 (by intro j q; simp only [List.mem_cons, List.not_mem_nil, or_false] at q; omega) hm
    have hs2 := hs.fr fr2 (by intro j q; simp only [List.mem_cons, List.not_mem_nil, or_false] at q; omega)
    have hP2 := hP.fr fr2 (by intro j q; simp only [List.mem_cons, List.not_mem_nil, or_false] at q; omega)
    refine g_istore_n (ls' := [(2, .int (nI c)), (0, .ref 0), (1, .int (nI x))]) dX10_countDraw_8 rfl (by decide) rfl ?_
    refine g_iload_n dX10_countDraw_9 rfl rfl ?_
    refine g_iconst (v := -1) dX10_countDraw_10 (by decide) ?_
    refine g_icmp_ne (tgt := 18) dX10_countDraw_11 (by decide) (fun c11 => ?_) (fun c11 => ?_)
    · refine g_aload_n dX10_countDraw_18 rfl rfl ?_
      refine g_getf dX10_countDraw_19 fX10_12 (fr2.at (by intro q; simp only [List.mem_cons, List.not_mem_nil, or_false] at q; omega) a0) rfl ?_
      refine g_aload_n dX10_countDraw_22 rfl rfl ?_
      refine g_getf dX10_countDraw_23 fX10_33 (fr2.at (by intro q; simp only [List.mem_cons, List.not_mem_nil, or_false] at q; omega) a0) rfl ?_
      refine g_iload_n dX10_countDraw_26 rfl rfl ?_
      refine cVi (st := [.ref 1]) dX10_countDraw_27 (c_ballotAtAt G (d + 3) n ex h1 hl2' hxD hD) sX10_368 (fr2.at (by intro q; simp only [List.mem_cons, List.not_mem_nil, or_false] at q; omega) l1) rfl rfl (by simp only [g_rm]; omega) (by simp only [g_rm]; omega) (Nat.le_of_ble_eq_true rfl) ⟨Nat.le_of_ble_eq_true rfl, Nat.le_of_ble_eq_true rfl⟩ (fun r8 h5 fr6 p7 => ?_)
      cases g_fr0 fr6
      subst p7
      refine cVi (st := []) dX10_countDraw_30 (c_readOf G (d + 4) n ex h1 hs2 hblx) sX10_272 (fr2.at (by intro q; simp only [List.mem_cons, List.not_mem_nil, or_false] at q; omega) z1) rfl rfl (by simp only [g_rm]; omega) (by simp only [g_rm]; omega) (Nat.le_of_ble_eq_true rfl) ⟨Nat.le_of_ble_eq_true rfl, Nat.le_of_ble_eq_true rfl⟩ (fun r12 h9 fr10 p11 => ?_)
      cases g_fr0 fr10
      subst p11
      refine g_istore_n (ls' := [(3, .int (nI (rc (bl x)) - nI 1)), (2, .int (nI c)), (0, .ref 0), (1, .int (nI x))]) dX10_countDraw_33 rfl (by decide) rfl ?_
      refine g_aload_n dX10_countDraw_34 rfl rfl ?_
      refine g_getf dX10_countDraw_35 fX10_173 (fr2.at (by intro q; simp only [List.mem_cons, List.not_mem_nil, or_false] at q; omega) a0) rfl ?_
      refine g_if_eqN (tgt := 57) dX10_countDraw_38 (by decide) (by omega) (fun c38 => ?_) (fun c38 => ?_)
      · exact absurd c38 (by omega)
      · refine g_aload_n dX10_countDraw_41 rfl rfl ?_
        refine g_getf dX10_countDraw_42 fX10_40 (fr2.at (by intro q; simp only [List.mem_cons, List.not_mem_nil, or_false] at q; omega) a0) rfl ?_
        refine g_aload_n dX10_countDraw_45 rfl rfl ?_
        refine g_getf dX10_countDraw_46 fX10_12 (fr2.at (by intro q; simp only [List.mem_cons, List.not_mem_nil, or_false] at q; omega) a0) rfl ?_
        refine g_iload_n dX10_countDraw_49 rfl rfl ?_
        refine g_iload_n dX10_countDraw_50 rfl rfl ?_
        refine cVi (st := []) dX10_countDraw_51 (c_compare G d n ex h1 (ra := nI (rc (bl x)) - nI 1) (rb := nI c) hm hm1 hV hT2 hK2 hs2 hP2 he2 g1 g2 hN1 hN2 hl1 hl2 hlm hlm2) sX10_371 (fr2.at (by intro q; simp only [List.mem_cons, List.not_mem_nil, or_false] at q; omega) t1) rfl rfl (by simp only [g_rm]; omega) (by simp only [g_rm]; omega) (Nat.le_of_ble_eq_true rfl) ⟨Nat.le_of_ble_eq_true rfl, Nat.le_of_ble_eq_true rfl⟩ (fun r16 h13 fr14 p15 => ?_)
        obtain ⟨e8, hP3⟩ := p15
        subst e8
        have hl3 := hl2'.fr fr14 (by intro j q; simp only [List.mem_cons, List.not_mem_nil, or_false] at q; omega)
        refine g_goto (tgt := 76) dX10_countDraw_54 (by decide) ?_
        refine g_istore (ls' := [(4, .int (nI (if (pn * ((2 * s 11 * s 6 - s 12 * lm) * md v w l (mo (oe w l (nI (rc (bl x)) - nI 1) (nI c)) (md v w l) m))) * s 10 ≤ (pd * (s 6 * cF2 (s 11) (s 12) lm (md v w l (mo (oe w l (nI (rc (bl x)) - nI 1) (nI c)) (md v w l) m)) (oe w l (nI (rc (bl x)) - nI 1) (nI c) (mo (oe w l (nI (rc (bl x)) - nI 1) (nI c)) (md v w l) m)))) * s 9 then 1 else 0))), (3, .int (nI (rc (bl x)) - nI 1)), (2, .int (nI c)), (0, .ref 0), (1, .int (nI x))]) dX10_countDraw_76 (by decide) rfl ?_
        refine g_iload dX10_countDraw_78 rfl ?_
        refine g_if_eqN (tgt := 91) dX10_countDraw_80 (by decide) (by split <;> decide) (fun c80 => ?_) (fun c80 => ?_)
        · have hno : ¬ ((pn * ((2 * s 11 * s 6 - s 12 * lm) * md v w l (mo (oe w l (nI (rc (bl x)) - nI 1) (nI c)) (md v w l) m))) * s 10 ≤ (pd * (s 6 * cF2 (s 11) (s 12) lm (md v w l (mo (oe w l (nI (rc (bl x)) - nI 1) (nI c)) (md v w l) m)) (oe w l (nI (rc (bl x)) - nI 1) (nI c) (mo (oe w l (nI (rc (bl x)) - nI 1) (nI c)) (md v w l) m)))) * s 9) := fun q => absurd ((if_pos q).symm.trans c80 : (1 : Nat) = 0) (by decide)
          refine g_aload_n dX10_countDraw_91 rfl rfl ?_
          refine g_aload_n dX10_countDraw_92 rfl rfl ?_
          refine g_getf dX10_countDraw_93 fX10_33 (fr14.at (by intro q; simp only [List.mem_cons, List.not_mem_nil, or_false] at q; omega) (fr2.at (by intro q; simp only [List.mem_cons, List.not_mem_nil, or_false] at q; omega) a0)) rfl ?_
          refine g_getf dX10_countDraw_96 fX10_180 (fr14.at (by intro q; simp only [List.mem_cons, List.not_mem_nil, or_false] at q; omega) (fr2.at (by intro q; simp only [List.mem_cons, List.not_mem_nil, or_false] at q; omega) l1)) rfl ?_
          refine g_aload_n dX10_countDraw_99 rfl rfl ?_
          refine g_getf dX10_countDraw_100 fX10_12 (fr14.at (by intro q; simp only [List.mem_cons, List.not_mem_nil, or_false] at q; omega) (fr2.at (by intro q; simp only [List.mem_cons, List.not_mem_nil, or_false] at q; omega) a0)) rfl ?_
          refine g_getf dX10_countDraw_103 fX10_111 (fr14.at (by intro q; simp only [List.mem_cons, List.not_mem_nil, or_false] at q; omega) (fr2.at (by intro q; simp only [List.mem_cons, List.not_mem_nil, or_false] at q; omega) z1)) rfl ?_
          refine g_icmp_ltN (tgt := 113) dX10_countDraw_106 (by decide) (by omega) (by omega) (fun c106 => ?_) (fun c106 => ?_)
          · refine g_iconst (v := nI 1) dX10_countDraw_113 (by decide) ?_
            refine g_put (fs' := [.ref 1, .ref 6, .ref 8, .ref 12, .ref 17, .ref 120, .ref 123, .ref 137, .int (nI 1), .int (nI cm), .int (nI sd)]) dX10_countDraw_114 fX10_67 (fr14.at (by intro q; simp only [List.mem_cons, List.not_mem_nil, or_false] at q; omega) (fr2.at (by intro q; simp only [List.mem_cons, List.not_mem_nil, or_false] at q; omega) a0)) (Nat.le_of_ble_eq_true rfl) rfl rfl rfl ?_
            exact e_v dX10_countDraw_117 rfl ((((g_fr.rf).tr (fr2.mono (by intro j q; simp only [List.mem_cons, List.not_mem_nil, or_false] at q; exact List.mem_range.mpr (by omega))) (fun _ q => q)).tr (fr14.mono (by intro j q; simp only [List.mem_cons, List.not_mem_nil, or_false] at q; exact List.mem_range.mpr (by omega))) (fun _ q => q)).up (List.mem_range.mpr (by omega))) ⟨(by unfold stP; rw [if_neg hno, if_neg (by omega)]; exact g_eq), hl3.fr (g_fr.up (S := [0]) g_fr.rf (by simp)) (by decide), hP3.fr (g_fr.up (S := [0]) g_fr.rf (by simp)) (by decide), fun j h1 h2 h3 => g_ne h2 (fr14.at (by intro q; simp only [List.mem_cons, List.not_mem_nil, or_false] at q; omega) (fr2 j (by intro q; simp only [List.mem_cons, List.not_mem_nil, or_false] at q; omega)))⟩ (by decide) (by decide)
          · refine g_iconst (v := nI 4) dX10_countDraw_109 (by decide) ?_
            refine g_goto (tgt := 114) dX10_countDraw_110 (by decide) ?_
            refine g_put (fs' := [.ref 1, .ref 6, .ref 8, .ref 12, .ref 17, .ref 120, .ref 123, .ref 137, .int (nI 4), .int (nI cm), .int (nI sd)]) dX10_countDraw_114 fX10_67 (fr14.at (by intro q; simp only [List.mem_cons, List.not_mem_nil, or_false] at q; omega) (fr2.at (by intro q; simp only [List.mem_cons, List.not_mem_nil, or_false] at q; omega) a0)) (Nat.le_of_ble_eq_true rfl) rfl rfl rfl ?_
            exact e_v dX10_countDraw_117 rfl ((((g_fr.rf).tr (fr2.mono (by intro j q; simp only [List.mem_cons, List.not_mem_nil, or_false] at q; exact List.mem_range.mpr (by omega))) (fun _ q => q)).tr (fr14.mono (by intro j q; simp only [List.mem_cons, List.not_mem_nil, or_false] at q; exact List.mem_range.mpr (by omega))) (fun _ q => q)).up (List.mem_range.mpr (by omega))) ⟨(by unfold stP; rw [if_neg hno, if_pos (by omega)]; exact g_eq), hl3.fr (g_fr.up (S := [0]) g_fr.rf (by simp)) (by decide), hP3.fr (g_fr.up (S := [0]) g_fr.rf (by simp)) (by decide), fun j h1 h2 h3 => g_ne h2 (fr14.at (by intro q; simp only [List.mem_cons, List.not_mem_nil, or_false] at q; omega) (fr2 j (by intro q; simp only [List.mem_cons, List.not_mem_nil, or_false] at q; omega)))⟩ (by decide) (by decide)
        · have hyes : (pn * ((2 * s 11 * s 6 - s 12 * lm) * md v w l (mo (oe w l (nI (rc (bl x)) - nI 1) (nI c)) (md v w l) m))) * s 10 ≤ (pd * (s 6 * cF2 (s 11) (s 12) lm (md v w l (mo (oe w l (nI (rc (bl x)) - nI 1) (nI c)) (md v w l) m)) (oe w l (nI (rc (bl x)) - nI 1) (nI c) (mo (oe w l (nI (rc (bl x)) - nI 1) (nI c)) (md v w l) m)))) * s 9 := Decidable.byContradiction (fun q => c80 (if_neg q))
          refine g_aload_n dX10_countDraw_83 rfl rfl ?_
          refine g_iconst (v := nI 3) dX10_countDraw_84 (by decide) ?_
          refine g_put (fs' := [.ref 1, .ref 6, .ref 8, .ref 12, .ref 17, .ref 120, .ref 123, .ref 137, .int (nI 3), .int (nI cm), .int (nI sd)]) dX10_countDraw_85 fX10_67 (fr14.at (by intro q; simp only [List.mem_cons, List.not_mem_nil, or_false] at q; omega) (fr2.at (by intro q; simp only [List.mem_cons, List.not_mem_nil, or_false] at q; omega) a0)) (Nat.le_of_ble_eq_true rfl) rfl rfl rfl ?_
          refine g_goto (tgt := 117) dX10_countDraw_88 (by decide) ?_
          exact e_v dX10_countDraw_117 rfl ((((g_fr.rf).tr (fr2.mono (by intro j q; simp only [List.mem_cons, List.not_mem_nil, or_false] at q; exact List.mem_range.mpr (by omega))) (fun _ q => q)).tr (fr14.mono (by intro j q; simp only [List.mem_cons, List.not_mem_nil, or_false] at q; exact List.mem_range.mpr (by omega))) (fun _ q => q)).up (List.mem_range.mpr (by omega))) ⟨(by unfold stP; rw [if_pos hyes]; exact g_eq), hl3.fr (g_fr.up (S := [0]) g_fr.rf (by simp)) (by decide), hP3.fr (g_fr.up (S := [0]) g_fr.rf (by simp)) (by decide), fun j h1 h2 h3 => g_ne h2 (fr14.at (by intro q; simp only [List.mem_cons, List.not_mem_nil, or_false] at q; omega) (fr2 j (by intro q; simp only [List.mem_cons, List.not_mem_nil, or_false] at q; omega)))⟩ (by decide) (by decide)
    · exact absurd c11 (ne_m1 (by omega))
  · rw [hq]
    refine g_aload_n dX10_countDraw_0 rfl rfl ?_
    refine g_getf dX10_countDraw_1 fX10_33 a0 rfl ?_
    refine g_iload_n dX10_countDraw_4 rfl rfl ?_
    refine cVi (st := []) dX10_countDraw_5 (c_countN G (d + 2) n ex h hl hxD hD hq) sX10_365 l1 rfl rfl (by simp only [g_rm]; omega) (by simp only [g_rm]; omega) (Nat.le_of_ble_eq_true rfl) ⟨Nat.le_of_ble_eq_true rfl, Nat.le_of_ble_eq_true rfl⟩ (fun r4 h1 fr2 p3 => ?_)
    cases g_fr0 fr2
    subst p3
    have hl2' : Dl h bl ti (cdf df (-1)) se D dr bk := by rw [cdf_1]; exact hl
    have hT2 := hT
    have hK2 := hK
    have hs2 := hs
    have hP2 := hP
    refine g_istore_n (ls' := [(2, .int (-1)), (0, .ref 0), (1, .int (nI x))]) dX10_countDraw_8 rfl (by decide) rfl ?_
    refine g_iload_n dX10_countDraw_9 rfl rfl ?_
    refine g_iconst (v := -1) dX10_countDraw_10 (by decide) ?_
    refine g_icmp_ne (tgt := 18) dX10_countDraw_11 (by decide) (fun c11 => ?_) (fun c11 => ?_)
    · refine g_aload_n dX10_countDraw_18 rfl rfl ?_
      refine g_getf dX10_countDraw_19 fX10_12 a0 rfl ?_
      refine g_aload_n dX10_countDraw_22 rfl rfl ?_
      refine g_getf dX10_countDraw_23 fX10_33 a0 rfl ?_
      refine g_iload_n dX10_countDraw_26 rfl rfl ?_
      refine cVi (st := [.ref 1]) dX10_countDraw_27 (c_ballotAtAt G (d + 3) n ex h hl2' hxD hD) sX10_368 l1 rfl rfl (by simp only [g_rm]; omega) (by simp only [g_rm]; omega) (Nat.le_of_ble_eq_true rfl) ⟨Nat.le_of_ble_eq_true rfl, Nat.le_of_ble_eq_true rfl⟩ (fun r8 h5 fr6 p7 => ?_)
      cases g_fr0 fr6
      subst p7
      refine cVi (st := []) dX10_countDraw_30 (c_readOf G (d + 4) n ex h hs2 hblx) sX10_272 z1 rfl rfl (by simp only [g_rm]; omega) (by simp only [g_rm]; omega) (Nat.le_of_ble_eq_true rfl) ⟨Nat.le_of_ble_eq_true rfl, Nat.le_of_ble_eq_true rfl⟩ (fun r12 h9 fr10 p11 => ?_)
      cases g_fr0 fr10
      subst p11
      refine g_istore_n (ls' := [(3, .int (nI (rc (bl x)) - nI 1)), (2, .int (-1)), (0, .ref 0), (1, .int (nI x))]) dX10_countDraw_33 rfl (by decide) rfl ?_
      refine g_aload_n dX10_countDraw_34 rfl rfl ?_
      refine g_getf dX10_countDraw_35 fX10_173 a0 rfl ?_
      refine g_if_eqN (tgt := 57) dX10_countDraw_38 (by decide) (by omega) (fun c38 => ?_) (fun c38 => ?_)
      · exact absurd c38 (by omega)
      · refine g_aload_n dX10_countDraw_41 rfl rfl ?_
        refine g_getf dX10_countDraw_42 fX10_40 a0 rfl ?_
        refine g_aload_n dX10_countDraw_45 rfl rfl ?_
        refine g_getf dX10_countDraw_46 fX10_12 a0 rfl ?_
        refine g_iload_n dX10_countDraw_49 rfl rfl ?_
        refine g_iload_n dX10_countDraw_50 rfl rfl ?_
        refine cVi (st := []) dX10_countDraw_51 (c_compare G d n ex h (ra := nI (rc (bl x)) - nI 1) (rb := (-1)) hm hm1 hV hT2 hK2 hs2 hP2 he2 g1 g2 hN1 hN2 hl1 hl2 hlm hlm2) sX10_371 t1 rfl rfl (by simp only [g_rm]; omega) (by simp only [g_rm]; omega) (Nat.le_of_ble_eq_true rfl) ⟨Nat.le_of_ble_eq_true rfl, Nat.le_of_ble_eq_true rfl⟩ (fun r16 h13 fr14 p15 => ?_)
        obtain ⟨e8, hP3⟩ := p15
        subst e8
        have hl3 := hl2'.fr fr14 (by intro j q; simp only [List.mem_cons, List.not_mem_nil, or_false] at q; omega)
        refine g_goto (tgt := 76) dX10_countDraw_54 (by decide) ?_
        refine g_istore (ls' := [(4, .int (nI (if (pn * ((2 * s 11 * s 6 - s 12 * lm) * md v w l (mo (oe w l (nI (rc (bl x)) - nI 1) (-1)) (md v w l) m))) * s 10 ≤ (pd * (s 6 * cF2 (s 11) (s 12) lm (md v w l (mo (oe w l (nI (rc (bl x)) - nI 1) (-1)) (md v w l) m)) (oe w l (nI (rc (bl x)) - nI 1) (-1) (mo (oe w l (nI (rc (bl x)) - nI 1) (-1)) (md v w l) m)))) * s 9 then 1 else 0))), (3, .int (nI (rc (bl x)) - nI 1)), (2, .int (-1)), (0, .ref 0), (1, .int (nI x))]) dX10_countDraw_76 (by decide) rfl ?_
        refine g_iload dX10_countDraw_78 rfl ?_
        refine g_if_eqN (tgt := 91) dX10_countDraw_80 (by decide) (by split <;> decide) (fun c80 => ?_) (fun c80 => ?_)
        · have hno : ¬ ((pn * ((2 * s 11 * s 6 - s 12 * lm) * md v w l (mo (oe w l (nI (rc (bl x)) - nI 1) (-1)) (md v w l) m))) * s 10 ≤ (pd * (s 6 * cF2 (s 11) (s 12) lm (md v w l (mo (oe w l (nI (rc (bl x)) - nI 1) (-1)) (md v w l) m)) (oe w l (nI (rc (bl x)) - nI 1) (-1) (mo (oe w l (nI (rc (bl x)) - nI 1) (-1)) (md v w l) m)))) * s 9) := fun q => absurd ((if_pos q).symm.trans c80 : (1 : Nat) = 0) (by decide)
          refine g_aload_n dX10_countDraw_91 rfl rfl ?_
          refine g_aload_n dX10_countDraw_92 rfl rfl ?_
          refine g_getf dX10_countDraw_93 fX10_33 (fr14.at (by intro q; simp only [List.mem_cons, List.not_mem_nil, or_false] at q; omega) a0) rfl ?_
          refine g_getf dX10_countDraw_96 fX10_180 (fr14.at (by intro q; simp only [List.mem_cons, List.not_mem_nil, or_false] at q; omega) l1) rfl ?_
          refine g_aload_n dX10_countDraw_99 rfl rfl ?_
          refine g_getf dX10_countDraw_100 fX10_12 (fr14.at (by intro q; simp only [List.mem_cons, List.not_mem_nil, or_false] at q; omega) a0) rfl ?_
          refine g_getf dX10_countDraw_103 fX10_111 (fr14.at (by intro q; simp only [List.mem_cons, List.not_mem_nil, or_false] at q; omega) z1) rfl ?_
          refine g_icmp_ltN (tgt := 113) dX10_countDraw_106 (by decide) (by omega) (by omega) (fun c106 => ?_) (fun c106 => ?_)
          · refine g_iconst (v := nI 1) dX10_countDraw_113 (by decide) ?_
            refine g_put (fs' := [.ref 1, .ref 6, .ref 8, .ref 12, .ref 17, .ref 120, .ref 123, .ref 137, .int (nI 1), .int (nI cm), .int (nI sd)]) dX10_countDraw_114 fX10_67 (fr14.at (by intro q; simp only [List.mem_cons, List.not_mem_nil, or_false] at q; omega) a0) (Nat.le_of_ble_eq_true rfl) rfl rfl rfl ?_
            exact e_v dX10_countDraw_117 rfl (((g_fr.rf).tr (fr14.mono (by intro j q; simp only [List.mem_cons, List.not_mem_nil, or_false] at q; exact List.mem_range.mpr (by omega))) (fun _ q => q)).up (List.mem_range.mpr (by omega))) ⟨(by unfold stP; rw [if_neg hno, if_neg (by omega)]; exact g_eq), hl3.fr (g_fr.up (S := [0]) g_fr.rf (by simp)) (by decide), hP3.fr (g_fr.up (S := [0]) g_fr.rf (by simp)) (by decide), fun j h1 h2 h3 => g_ne h2 (fr14.at (by intro q; simp only [List.mem_cons, List.not_mem_nil, or_false] at q; omega) rfl)⟩ (by decide) (by decide)
          · refine g_iconst (v := nI 4) dX10_countDraw_109 (by decide) ?_
            refine g_goto (tgt := 114) dX10_countDraw_110 (by decide) ?_
            refine g_put (fs' := [.ref 1, .ref 6, .ref 8, .ref 12, .ref 17, .ref 120, .ref 123, .ref 137, .int (nI 4), .int (nI cm), .int (nI sd)]) dX10_countDraw_114 fX10_67 (fr14.at (by intro q; simp only [List.mem_cons, List.not_mem_nil, or_false] at q; omega) a0) (Nat.le_of_ble_eq_true rfl) rfl rfl rfl ?_
            exact e_v dX10_countDraw_117 rfl (((g_fr.rf).tr (fr14.mono (by intro j q; simp only [List.mem_cons, List.not_mem_nil, or_false] at q; exact List.mem_range.mpr (by omega))) (fun _ q => q)).up (List.mem_range.mpr (by omega))) ⟨(by unfold stP; rw [if_neg hno, if_pos (by omega)]; exact g_eq), hl3.fr (g_fr.up (S := [0]) g_fr.rf (by simp)) (by decide), hP3.fr (g_fr.up (S := [0]) g_fr.rf (by simp)) (by decide), fun j h1 h2 h3 => g_ne h2 (fr14.at (by intro q; simp only [List.mem_cons, List.not_mem_nil, or_false] at q; omega) rfl)⟩ (by decide) (by decide)
        · have hyes : (pn * ((2 * s 11 * s 6 - s 12 * lm) * md v w l (mo (oe w l (nI (rc (bl x)) - nI 1) (-1)) (md v w l) m))) * s 10 ≤ (pd * (s 6 * cF2 (s 11) (s 12) lm (md v w l (mo (oe w l (nI (rc (bl x)) - nI 1) (-1)) (md v w l) m)) (oe w l (nI (rc (bl x)) - nI 1) (-1) (mo (oe w l (nI (rc (bl x)) - nI 1) (-1)) (md v w l) m)))) * s 9 := Decidable.byContradiction (fun q => c80 (if_neg q))
          refine g_aload_n dX10_countDraw_83 rfl rfl ?_
          refine g_iconst (v := nI 3) dX10_countDraw_84 (by decide) ?_
          refine g_put (fs' := [.ref 1, .ref 6, .ref 8, .ref 12, .ref 17, .ref 120, .ref 123, .ref 137, .int (nI 3), .int (nI cm), .int (nI sd)]) dX10_countDraw_85 fX10_67 (fr14.at (by intro q; simp only [List.mem_cons, List.not_mem_nil, or_false] at q; omega) a0) (Nat.le_of_ble_eq_true rfl) rfl rfl rfl ?_
          refine g_goto (tgt := 117) dX10_countDraw_88 (by decide) ?_
          exact e_v dX10_countDraw_117 rfl (((g_fr.rf).tr (fr14.mono (by intro j q; simp only [List.mem_cons, List.not_mem_nil, or_false] at q; exact List.mem_range.mpr (by omega))) (fun _ q => q)).up (List.mem_range.mpr (by omega))) ⟨(by unfold stP; rw [if_pos hyes]; exact g_eq), hl3.fr (g_fr.up (S := [0]) g_fr.rf (by simp)) (by decide), hP3.fr (g_fr.up (S := [0]) g_fr.rf (by simp)) (by decide), fun j h1 h2 h3 => g_ne h2 (fr14.at (by intro q; simp only [List.mem_cons, List.not_mem_nil, or_false] at q; omega) rfl)⟩ (by decide) (by decide)
    · exact absurd c11 (ne_m1 (by omega))
