set_option maxHeartbeats 4000000 in
set_option maxRecDepth 100000 in
theorem c_again (G : gG) (d n : Nat) (ex : Bool) (h : gH) {sg cm sd : Nat} {c bl ti df fv ft : Nat → Nat} {se : Nat → Int32} {m D dr bk mm sr lm fm fr : Nat} (a0 : Au h sg cm sd) (hC : Co h c m) (hl : Dl h bl ti df se D dr bk) (hF : Fc h fv ft fm fr) (hT : Te h mm sr lm) : g_M G mX10_again (d + 1) 0 0 [.ref 0] n ex h (q_v n ex [0, 6, 12, 16, 17, 120, 122] h (fun h' => Au h' 0 cm sd ∧ (∀ cc, Co h' cc 0) ∧ Dl h' bl ti (fe df 8) se 0 0 0 ∧ Fc h' fv (fe ft 8) 0 0 ∧ Te h' 0 0 lm)) := by
  obtain ⟨f0, rg, c6, -⟩ := id hC
  have l1 := hl.1
  have t1 := hT.1
  have fc1 := hF.1
  refine g_enter (by decide) (Nat.le_of_ble_eq_true rfl) ?_
  show g_W G _ _ _ n ex h 0 0 0 [(0, .ref 0)] []
  refine g_aload_n dX10_again_0 rfl rfl ?_
  refine g_getf dX10_again_1 fX10_19 a0 rfl ?_
  refine cVv (st := []) dX10_again_4 (c_coEmpty G d n ex h hC) sX10_216 c6 rfl rfl (by simp only [g_rm]; omega) (by simp only [g_rm]; omega) (Nat.le_of_ble_eq_true rfl) ⟨Nat.le_of_ble_eq_true rfl, Nat.le_of_ble_eq_true rfl⟩ (fun h1 fr2 p3 => ?_)
  have q5 := p3
  refine g_aload_n dX10_again_7 rfl rfl ?_
  refine g_getf dX10_again_8 fX10_33 (fr2.at (by intro q; simp only [List.mem_cons, List.not_mem_nil, or_false] at q; omega) a0) rfl ?_
  refine cVv (st := []) dX10_again_11 (c_dlEmpty G d n ex h1 (hl.fr (S := [6]) ((g_fr.rf).tr fr2 (by simp)) (by intro j q; simp only [List.mem_cons, List.not_mem_nil, or_false] at q; omega))) sX10_219 (fr2.at (by intro q; simp only [List.mem_cons, List.not_mem_nil, or_false] at q; omega) l1) rfl rfl (by simp only [g_rm]; omega) (by simp only [g_rm]; omega) (Nat.le_of_ble_eq_true rfl) ⟨Nat.le_of_ble_eq_true rfl, Nat.le_of_ble_eq_true rfl⟩ (fun h6 fr7 p8 => ?_)
  have q10 := p8
  refine g_aload_n dX10_again_14 rfl rfl ?_
  refine g_getf dX10_again_15 fX10_47 (fr7.at (by intro q; simp only [List.mem_cons, List.not_mem_nil, or_false] at q; omega) (fr2.at (by intro q; simp only [List.mem_cons, List.not_mem_nil, or_false] at q; omega) a0)) rfl ?_
  refine cVv (st := []) dX10_again_18 (c_fcEmpty G d n ex h6 (hF.fr (S := [6, 12, 16]) (((g_fr.rf).tr fr2 (by simp)).tr fr7 (by simp)) (by simp) (by simp) (by simp))) sX10_220 (fr7.at (by intro q; simp only [List.mem_cons, List.not_mem_nil, or_false] at q; omega) (fr2.at (by intro q; simp only [List.mem_cons, List.not_mem_nil, or_false] at q; omega) fc1)) rfl rfl (by simp only [g_rm]; omega) (by simp only [g_rm]; omega) (Nat.le_of_ble_eq_true rfl) ⟨Nat.le_of_ble_eq_true rfl, Nat.le_of_ble_eq_true rfl⟩ (fun h11 fr12 p13 => ?_)
  have q15 := p13
  refine g_aload_n dX10_again_21 rfl rfl ?_
  refine g_getf dX10_again_22 fX10_40 (fr12.at (by intro q; simp only [List.mem_cons, List.not_mem_nil, or_false] at q; omega) (fr7.at (by intro q; simp only [List.mem_cons, List.not_mem_nil, or_false] at q; omega) (fr2.at (by intro q; simp only [List.mem_cons, List.not_mem_nil, or_false] at q; omega) a0))) rfl ?_
  refine cVv (st := []) dX10_again_25 (c_teEnd G d n ex h11 (hT.fr (S := [6, 12, 16, 120, 122]) ((((g_fr.rf).tr fr2 (by simp)).tr fr7 (by simp)).tr fr12 (by simp)) (by simp) (by simp))) sX10_221 (fr12.at (by intro q; simp only [List.mem_cons, List.not_mem_nil, or_false] at q; omega) (fr7.at (by intro q; simp only [List.mem_cons, List.not_mem_nil, or_false] at q; omega) (fr2.at (by intro q; simp only [List.mem_cons, List.not_mem_nil, or_false] at q; omega) t1))) rfl rfl (by simp only [g_rm]; omega) (by simp only [g_rm]; omega) (Nat.le_of_ble_eq_true rfl) ⟨Nat.le_of_ble_eq_true rfl, Nat.le_of_ble_eq_true rfl⟩ (fun h16 fr17 p18 => ?_)
  have q20 := p18
  refine g_aload_n dX10_again_28 rfl rfl ?_
  refine g_iconst (v := nI 0) dX10_again_29 (by decide) ?_
  refine g_put (fs' := [.ref 1, .ref 6, .ref 8, .ref 12, .ref 17, .ref 120, .ref 123, .ref 137, .int (nI 0), .int (nI cm), .int (nI sd)]) dX10_again_30 fX10_67 (fr17.at (by intro q; simp only [List.mem_cons, List.not_mem_nil, or_false] at q; omega) (fr12.at (by intro q; simp only [List.mem_cons, List.not_mem_nil, or_false] at q; omega) (fr7.at (by intro q; simp only [List.mem_cons, List.not_mem_nil, or_false] at q; omega) (fr2.at (by intro q; simp only [List.mem_cons, List.not_mem_nil, or_false] at q; omega) a0)))) (Nat.le_of_ble_eq_true rfl) rfl rfl rfl ?_
  exact e_v dX10_again_33 rfl ((((((g_fr.rf).tr fr2 (by simp)).tr fr7 (by simp)).tr fr12 (by simp)).tr fr17 (by simp)).up (by simp)) ⟨g_eq, fun cc => ((((q5 cc).fr fr7 (by simp) (by simp)).fr fr12 (by simp) (by simp)).fr fr17 (by simp) (by simp)).fr (g_fr.up (S := [0]) g_fr.rf (by simp)) (by simp) (by simp), (((q10).fr fr12 (by intro j q; simp only [List.mem_cons, List.not_mem_nil, or_false] at q; omega)).fr fr17 (by intro j q; simp only [List.mem_cons, List.not_mem_nil, or_false] at q; omega)).fr (g_fr.up (S := [0]) g_fr.rf (by simp)) (by intro j q; simp only [List.mem_cons, List.not_mem_nil, or_false] at q; omega), ((q15).fr fr17 (by simp) (by simp) (by simp)).fr (g_fr.up (S := [0]) g_fr.rf (by simp)) (by simp) (by simp) (by simp), (q20).fr (g_fr.up (S := [0]) g_fr.rf (by simp)) (by simp) (by simp)⟩ (by decide) (by decide)
set_option maxHeartbeats 4000000 in
set_option maxRecDepth 100000 in
theorem c_told (G : gG) (d n : Nat) (h : gH) {sg cm sd : Nat} (a0 : Au h sg cm sd) (hsg : sg < 2 ^ 31) {s v wn en rc : Nat → Nat} (hs : Su h s v wn en rc) {c bl ti df fv ft : Nat → Nat} {se : Nat → Int32} {m D dr bk mm sr lm fm fr : Nat} {x : Int32} (hC : Co h c m) (hl : Dl h bl ti df se D dr bk) (hF : Fc h fv ft fm fr) (hT : Te h mm sr lm) (hD1 : sg = 2 → 1 ≤ D) (hD : D ≤ 200) (h6 : s 6 ≤ 20000) (hfr : fr ≤ 1) : g_M G mX10_told (d + 7) 8 48 [.ref 0, .int x] n false h (q_t n [] h (fun r h' => k_told x = 0 ∧ ∃ r', r = some (.int r') ∧ tAns (un x) r' sg (s 4) (s 5) (s 6) dr (if sg = 2 then D - 1 else D) bk m mm sr (if sg = 2 then nI (bl (D - 1)) else -1) fr) (x_of [xIB] (k_told x))) := by
  have hs' := hs
  obtain ⟨z1, z2, z3, z4, z5⟩ := hs'
  obtain ⟨f0, rg, c6, -⟩ := id hC
  have l1 := hl.1
  have t1 := hT.1
  have fc1 := hF.1
  refine g_enter (by decide) (Nat.le_of_ble_eq_true rfl) ?_
  show g_W G _ _ _ n false h 0 0 0 [(0, .ref 0), (1, .int x)] []
  refine g_iload_n dX10_told_0 rfl rfl ?_
  refine g_bipush (v := nI 13) dX10_told_1 (by decide) ?_
  refine cSn (st := []) dX10_told_3 (c_needIndex G d n h (x := x) (m := nI 13)) sX10_104 rfl (by simp only [g_rm]; omega) (by simp only [g_rm]; omega) (Nat.le_of_ble_eq_true rfl) ⟨Nat.le_of_ble_eq_true rfl, Nat.le_of_ble_eq_true rfl⟩ (fun p1 => ?_) (fun p1 => g_out rfl (Nat.le_of_ble_eq_true rfl) (Nat.le_of_ble_eq_true rfl) (x_t (by unfold x_of k_told; rw [if_pos p1]; exact ⟨by decide, rfl⟩)))
  obtain ⟨j, hjb, rfl⟩ := nat_ix p1 (by first | decide | omega)
  have hju := un_nI (show j < 4294967296 by omega)
  refine g_aload_n dX10_told_6 rfl rfl ?_
  refine g_getf dX10_told_7 fX10_67 a0 rfl ?_
  refine g_iconst (v := nI 2) dX10_told_10 (by decide) ?_
  refine g_icmp_neN (tgt := 18) dX10_told_11 (by decide) (by omega) (by decide) (fun c11 => ?_) (fun c11 => ?_)
  · refine g_iconst (v := nI 0) dX10_told_18 (by decide) ?_
    refine g_istore_n (ls' := [(2, .int (nI 0)), (0, .ref 0), (1, .int (nI j))]) dX10_told_19 rfl (by decide) rfl ?_
    refine g_iload_n dX10_told_20 rfl rfl ?_
    have hsw : j = 0 ∨ j = 1 ∨ j = 2 ∨ j = 3 ∨ j = 4 ∨ j = 5 ∨ j = 6 ∨ j = 7 ∨ j = 8 ∨ j = 9 ∨ j = 10 ∨ j = 11 ∨ j = 12 := by omega
    rcases hsw with rfl | rfl | rfl | rfl | rfl | rfl | rfl | rfl | rfl | rfl | rfl | rfl | rfl
    · refine g_tableIn (tgt := 84) dX10_told_21 (by decide) (by decide) rfl (by decide) ?_
      refine g_aload_n dX10_told_84 rfl rfl ?_
      refine g_getf dX10_told_85 fX10_67 a0 rfl ?_
      exact e_ti dX10_told_88 rfl rfl g_fr.rf ⟨(by unfold k_told; rw [if_neg (nn_ p1)]), _, rfl, by rw [un_nI (by decide)]; exact rfl⟩ (Nat.le_of_ble_eq_true rfl) (Nat.le_of_ble_eq_true rfl)
    · refine g_tableIn (tgt := 89) dX10_told_21 (by decide) (by decide) rfl (by decide) ?_
      refine g_aload_n dX10_told_89 rfl rfl ?_
      refine g_getf dX10_told_90 fX10_12 a0 rfl ?_
      refine g_getf dX10_told_93 fX10_79 z1 rfl ?_
      exact e_ti dX10_told_96 rfl rfl g_fr.rf ⟨(by unfold k_told; rw [if_neg (nn_ p1)]), _, rfl, by rw [un_nI (by decide)]; exact rfl⟩ (Nat.le_of_ble_eq_true rfl) (Nat.le_of_ble_eq_true rfl)
    · refine g_tableIn (tgt := 97) dX10_told_21 (by decide) (by decide) rfl (by decide) ?_
      refine g_aload_n dX10_told_97 rfl rfl ?_
      refine g_getf dX10_told_98 fX10_12 a0 rfl ?_
      refine g_getf dX10_told_101 fX10_93 z1 rfl ?_
      exact e_ti dX10_told_104 rfl rfl g_fr.rf ⟨(by unfold k_told; rw [if_neg (nn_ p1)]), _, rfl, by rw [un_nI (by decide)]; exact rfl⟩ (Nat.le_of_ble_eq_true rfl) (Nat.le_of_ble_eq_true rfl)
    · refine g_tableIn (tgt := 105) dX10_told_21 (by decide) (by decide) rfl (by decide) ?_
      refine g_aload_n dX10_told_105 rfl rfl ?_
      refine g_getf dX10_told_106 fX10_12 a0 rfl ?_
      refine g_getf dX10_told_109 fX10_96 z1 rfl ?_
      exact e_ti dX10_told_112 rfl rfl g_fr.rf ⟨(by unfold k_told; rw [if_neg (nn_ p1)]), _, rfl, by rw [un_nI (by decide)]; exact rfl⟩ (Nat.le_of_ble_eq_true rfl) (Nat.le_of_ble_eq_true rfl)
    · refine g_tableIn (tgt := 113) dX10_told_21 (by decide) (by decide) rfl (by decide) ?_
      refine g_aload_n dX10_told_113 rfl rfl ?_
      refine g_getf dX10_told_114 fX10_33 a0 rfl ?_
      refine g_getf dX10_told_117 fX10_180 l1 rfl ?_
      exact e_ti dX10_told_120 rfl rfl g_fr.rf ⟨(by unfold k_told; rw [if_neg (nn_ p1)]), _, rfl, by rw [un_nI (by decide)]; exact rfl⟩ (Nat.le_of_ble_eq_true rfl) (Nat.le_of_ble_eq_true rfl)
    · refine g_tableIn (tgt := 121) dX10_told_21 (by decide) (by decide) rfl (by decide) ?_
      refine g_iload_n dX10_told_121 rfl rfl ?_
      refine g_if_eqN (tgt := 137) dX10_told_122 (by decide) (by decide) (fun c122 => ?_) (fun c122 => ?_)
      · refine g_aload_n dX10_told_137 rfl rfl ?_
        refine g_getf dX10_told_138 fX10_33 a0 rfl ?_
        refine g_getf dX10_told_141 fX10_224 l1 rfl ?_
        exact e_ti dX10_told_144 rfl rfl g_fr.rf ⟨(by unfold k_told; rw [if_neg (nn_ p1)]), _, rfl, by rw [un_nI (by decide)]; exact (show _ = _ from by first | rw [if_pos (by omega)] | rw [if_neg (by omega)])⟩ (Nat.le_of_ble_eq_true rfl) (Nat.le_of_ble_eq_true rfl)
      · exact absurd c122 (by decide)
    · refine g_tableIn (tgt := 145) dX10_told_21 (by decide) (by decide) rfl (by decide) ?_
      refine g_aload_n dX10_told_145 rfl rfl ?_
      refine g_getf dX10_told_146 fX10_33 a0 rfl ?_
      refine g_getf dX10_told_149 fX10_227 l1 rfl ?_
      exact e_ti dX10_told_152 rfl rfl g_fr.rf ⟨(by unfold k_told; rw [if_neg (nn_ p1)]), _, rfl, by rw [un_nI (by decide)]; exact rfl⟩ (Nat.le_of_ble_eq_true rfl) (Nat.le_of_ble_eq_true rfl)
    · refine g_tableIn (tgt := 153) dX10_told_21 (by decide) (by decide) rfl (by decide) ?_
      refine g_aload_n dX10_told_153 rfl rfl ?_
      refine g_getf dX10_told_154 fX10_19 a0 rfl ?_
      refine g_getf dX10_told_157 fX10_150 c6 rfl ?_
      exact e_ti dX10_told_160 rfl rfl g_fr.rf ⟨(by unfold k_told; rw [if_neg (nn_ p1)]), _, rfl, by rw [un_nI (by decide)]; exact rfl⟩ (Nat.le_of_ble_eq_true rfl) (Nat.le_of_ble_eq_true rfl)
    · refine g_tableIn (tgt := 161) dX10_told_21 (by decide) (by decide) rfl (by decide) ?_
      refine g_aload_n dX10_told_161 rfl rfl ?_
      refine g_getf dX10_told_162 fX10_40 a0 rfl ?_
      refine g_getf dX10_told_165 fX10_230 t1 rfl ?_
      exact e_ti dX10_told_168 rfl rfl g_fr.rf ⟨(by unfold k_told; rw [if_neg (nn_ p1)]), _, rfl, by rw [un_nI (by decide)]; exact rfl⟩ (Nat.le_of_ble_eq_true rfl) (Nat.le_of_ble_eq_true rfl)
    · refine g_tableIn (tgt := 169) dX10_told_21 (by decide) (by decide) rfl (by decide) ?_
      refine g_aload_n dX10_told_169 rfl rfl ?_
      refine g_getf dX10_told_170 fX10_40 a0 rfl ?_
      refine g_getf dX10_told_173 fX10_231 t1 rfl ?_
      exact e_ti dX10_told_176 rfl rfl g_fr.rf ⟨(by unfold k_told; rw [if_neg (nn_ p1)]), _, rfl, by rw [un_nI (by decide)]; exact rfl⟩ (Nat.le_of_ble_eq_true rfl) (Nat.le_of_ble_eq_true rfl)
    · refine g_tableIn (tgt := 177) dX10_told_21 (by decide) (by decide) rfl (by decide) ?_
      refine g_iload_n dX10_told_177 rfl rfl ?_
      refine g_if_eqN (tgt := 191) dX10_told_178 (by decide) (by decide) (fun c178 => ?_) (fun c178 => ?_)
      · refine g_iconst (v := -1) dX10_told_191 (by decide) ?_
        exact e_ti dX10_told_192 rfl rfl g_fr.rf ⟨(by unfold k_told; rw [if_neg (nn_ p1)]), _, rfl, by rw [un_nI (by decide)]; exact (show _ = _ from by first | rw [if_pos (by omega)] | rw [if_neg (by omega)])⟩ (Nat.le_of_ble_eq_true rfl) (Nat.le_of_ble_eq_true rfl)
      · exact absurd c178 (by decide)
    · refine g_tableIn (tgt := 193) dX10_told_21 (by decide) (by decide) rfl (by decide) ?_
      refine g_aload_n dX10_told_193 rfl rfl ?_
      refine g_getf dX10_told_194 fX10_12 a0 rfl ?_
      refine cVi (st := []) dX10_told_197 (c_coinsADraw G (d + 6) n false h hs (by omega)) sX10_237 z1 rfl rfl (by simp only [g_rm]; omega) (by simp only [g_rm]; omega) (Nat.le_of_ble_eq_true rfl) ⟨Nat.le_of_ble_eq_true rfl, Nat.le_of_ble_eq_true rfl⟩ (fun r5 h2 fr3 p4 => ?_)
      cases g_fr0 fr3
      obtain ⟨K, rfl, hK⟩ := p4
      exact e_ti dX10_told_200 rfl rfl g_fr.rf ⟨(by unfold k_told; rw [if_neg (nn_ p1)]), _, rfl, by rw [un_nI (by decide)]; exact ⟨K, hK, rfl⟩⟩ (Nat.le_of_ble_eq_true rfl) (Nat.le_of_ble_eq_true rfl)
    · refine g_tableOut (tgt := 201) dX10_told_21 (by decide) (by decide) ?_
      refine g_aload_n dX10_told_201 rfl rfl ?_
      refine g_getf dX10_told_202 fX10_47 a0 rfl ?_
      refine g_getf dX10_told_205 fX10_213 fc1 rfl ?_
      refine g_if_eqN (tgt := 215) dX10_told_208 (by decide) (by omega) (fun c208 => ?_) (fun c208 => ?_)
      · refine g_iconst (v := nI 0) dX10_told_215 (by decide) ?_
        exact e_ti dX10_told_216 rfl rfl g_fr.rf ⟨(by unfold k_told; rw [if_neg (nn_ p1)]), _, rfl, by rw [un_nI (by decide)]; exact (show nI _ = nI _ from by congr 1; omega)⟩ (Nat.le_of_ble_eq_true rfl) (Nat.le_of_ble_eq_true rfl)
      · refine g_iconst (v := nI 1) dX10_told_211 (by decide) ?_
        refine g_goto (tgt := 216) dX10_told_212 (by decide) ?_
        exact e_ti dX10_told_216 rfl rfl g_fr.rf ⟨(by unfold k_told; rw [if_neg (nn_ p1)]), _, rfl, by rw [un_nI (by decide)]; exact (show nI _ = nI _ from by congr 1; omega)⟩ (Nat.le_of_ble_eq_true rfl) (Nat.le_of_ble_eq_true rfl)
  · refine g_iconst (v := nI 1) dX10_told_14 (by decide) ?_
    refine g_goto (tgt := 19) dX10_told_15 (by decide) ?_
    refine g_istore_n (ls' := [(2, .int (nI 1)), (0, .ref 0), (1, .int (nI j))]) dX10_told_19 rfl (by decide) rfl ?_
    refine g_iload_n dX10_told_20 rfl rfl ?_
    have hsw : j = 0 ∨ j = 1 ∨ j = 2 ∨ j = 3 ∨ j = 4 ∨ j = 5 ∨ j = 6 ∨ j = 7 ∨ j = 8 ∨ j = 9 ∨ j = 10 ∨ j = 11 ∨ j = 12 := by omega
    rcases hsw with rfl | rfl | rfl | rfl | rfl | rfl | rfl | rfl | rfl | rfl | rfl | rfl | rfl
    · refine g_tableIn (tgt := 84) dX10_told_21 (by decide) (by decide) rfl (by decide) ?_
      refine g_aload_n dX10_told_84 rfl rfl ?_
      refine g_getf dX10_told_85 fX10_67 a0 rfl ?_
      exact e_ti dX10_told_88 rfl rfl g_fr.rf ⟨(by unfold k_told; rw [if_neg (nn_ p1)]), _, rfl, by rw [un_nI (by decide)]; exact rfl⟩ (Nat.le_of_ble_eq_true rfl) (Nat.le_of_ble_eq_true rfl)
    · refine g_tableIn (tgt := 89) dX10_told_21 (by decide) (by decide) rfl (by decide) ?_
      refine g_aload_n dX10_told_89 rfl rfl ?_
      refine g_getf dX10_told_90 fX10_12 a0 rfl ?_
      refine g_getf dX10_told_93 fX10_79 z1 rfl ?_
      exact e_ti dX10_told_96 rfl rfl g_fr.rf ⟨(by unfold k_told; rw [if_neg (nn_ p1)]), _, rfl, by rw [un_nI (by decide)]; exact rfl⟩ (Nat.le_of_ble_eq_true rfl) (Nat.le_of_ble_eq_true rfl)
    · refine g_tableIn (tgt := 97) dX10_told_21 (by decide) (by decide) rfl (by decide) ?_
      refine g_aload_n dX10_told_97 rfl rfl ?_
      refine g_getf dX10_told_98 fX10_12 a0 rfl ?_
      refine g_getf dX10_told_101 fX10_93 z1 rfl ?_
      exact e_ti dX10_told_104 rfl rfl g_fr.rf ⟨(by unfold k_told; rw [if_neg (nn_ p1)]), _, rfl, by rw [un_nI (by decide)]; exact rfl⟩ (Nat.le_of_ble_eq_true rfl) (Nat.le_of_ble_eq_true rfl)
    · refine g_tableIn (tgt := 105) dX10_told_21 (by decide) (by decide) rfl (by decide) ?_
      refine g_aload_n dX10_told_105 rfl rfl ?_
      refine g_getf dX10_told_106 fX10_12 a0 rfl ?_
      refine g_getf dX10_told_109 fX10_96 z1 rfl ?_
      exact e_ti dX10_told_112 rfl rfl g_fr.rf ⟨(by unfold k_told; rw [if_neg (nn_ p1)]), _, rfl, by rw [un_nI (by decide)]; exact rfl⟩ (Nat.le_of_ble_eq_true rfl) (Nat.le_of_ble_eq_true rfl)
    · refine g_tableIn (tgt := 113) dX10_told_21 (by decide) (by decide) rfl (by decide) ?_
      refine g_aload_n dX10_told_113 rfl rfl ?_
      refine g_getf dX10_told_114 fX10_33 a0 rfl ?_
      refine g_getf dX10_told_117 fX10_180 l1 rfl ?_
      exact e_ti dX10_told_120 rfl rfl g_fr.rf ⟨(by unfold k_told; rw [if_neg (nn_ p1)]), _, rfl, by rw [un_nI (by decide)]; exact rfl⟩ (Nat.le_of_ble_eq_true rfl) (Nat.le_of_ble_eq_true rfl)
    · refine g_tableIn (tgt := 121) dX10_told_21 (by decide) (by decide) rfl (by decide) ?_
      refine g_iload_n dX10_told_121 rfl rfl ?_
      refine g_if_eqN (tgt := 137) dX10_told_122 (by decide) (by decide) (fun c122 => ?_) (fun c122 => ?_)
      · exact absurd c122 (by decide)
      · refine g_aload_n dX10_told_125 rfl rfl ?_
        refine g_getf dX10_told_126 fX10_33 a0 rfl ?_
        refine g_getf dX10_told_129 fX10_224 l1 rfl ?_
        refine g_iconst (v := nI 1) dX10_told_132 (by decide) ?_
        refine g_isubN dX10_told_133 (hD1 (by omega)) ?_
        refine g_goto (tgt := 144) dX10_told_134 (by decide) ?_
        exact e_ti dX10_told_144 rfl rfl g_fr.rf ⟨(by unfold k_told; rw [if_neg (nn_ p1)]), _, rfl, by rw [un_nI (by decide)]; exact (show _ = _ from by first | rw [if_pos (by omega)] | rw [if_neg (by omega)])⟩ (Nat.le_of_ble_eq_true rfl) (Nat.le_of_ble_eq_true rfl)
    · refine g_tableIn (tgt := 145) dX10_told_21 (by decide) (by decide) rfl (by decide) ?_
      refine g_aload_n dX10_told_145 rfl rfl ?_
      refine g_getf dX10_told_146 fX10_33 a0 rfl ?_
      refine g_getf dX10_told_149 fX10_227 l1 rfl ?_
      exact e_ti dX10_told_152 rfl rfl g_fr.rf ⟨(by unfold k_told; rw [if_neg (nn_ p1)]), _, rfl, by rw [un_nI (by decide)]; exact rfl⟩ (Nat.le_of_ble_eq_true rfl) (Nat.le_of_ble_eq_true rfl)
    · refine g_tableIn (tgt := 153) dX10_told_21 (by decide) (by decide) rfl (by decide) ?_
      refine g_aload_n dX10_told_153 rfl rfl ?_
      refine g_getf dX10_told_154 fX10_19 a0 rfl ?_
      refine g_getf dX10_told_157 fX10_150 c6 rfl ?_
      exact e_ti dX10_told_160 rfl rfl g_fr.rf ⟨(by unfold k_told; rw [if_neg (nn_ p1)]), _, rfl, by rw [un_nI (by decide)]; exact rfl⟩ (Nat.le_of_ble_eq_true rfl) (Nat.le_of_ble_eq_true rfl)
    · refine g_tableIn (tgt := 161) dX10_told_21 (by decide) (by decide) rfl (by decide) ?_
      refine g_aload_n dX10_told_161 rfl rfl ?_
      refine g_getf dX10_told_162 fX10_40 a0 rfl ?_
      refine g_getf dX10_told_165 fX10_230 t1 rfl ?_
      exact e_ti dX10_told_168 rfl rfl g_fr.rf ⟨(by unfold k_told; rw [if_neg (nn_ p1)]), _, rfl, by rw [un_nI (by decide)]; exact rfl⟩ (Nat.le_of_ble_eq_true rfl) (Nat.le_of_ble_eq_true rfl)
    · refine g_tableIn (tgt := 169) dX10_told_21 (by decide) (by decide) rfl (by decide) ?_
      refine g_aload_n dX10_told_169 rfl rfl ?_
      refine g_getf dX10_told_170 fX10_40 a0 rfl ?_
      refine g_getf dX10_told_173 fX10_231 t1 rfl ?_
      exact e_ti dX10_told_176 rfl rfl g_fr.rf ⟨(by unfold k_told; rw [if_neg (nn_ p1)]), _, rfl, by rw [un_nI (by decide)]; exact rfl⟩ (Nat.le_of_ble_eq_true rfl) (Nat.le_of_ble_eq_true rfl)
    · refine g_tableIn (tgt := 177) dX10_told_21 (by decide) (by decide) rfl (by decide) ?_
      refine g_iload_n dX10_told_177 rfl rfl ?_
      refine g_if_eqN (tgt := 191) dX10_told_178 (by decide) (by decide) (fun c178 => ?_) (fun c178 => ?_)
      · exact absurd c178 (by decide)
      · refine g_aload_n dX10_told_181 rfl rfl ?_
        refine g_getf dX10_told_182 fX10_33 a0 rfl ?_
        refine cVi (st := []) dX10_told_185 (c_lastNew G (d + 6) n false h hl (hD1 (by omega)) hD) sX10_234 l1 rfl rfl (by simp only [g_rm]; omega) (by simp only [g_rm]; omega) (Nat.le_of_ble_eq_true rfl) ⟨Nat.le_of_ble_eq_true rfl, Nat.le_of_ble_eq_true rfl⟩ (fun r9 h6 fr7 p8 => ?_)
        cases g_fr0 fr7
        subst p8
        refine g_goto (tgt := 192) dX10_told_188 (by decide) ?_
        exact e_ti dX10_told_192 rfl rfl g_fr.rf ⟨(by unfold k_told; rw [if_neg (nn_ p1)]), _, rfl, by rw [un_nI (by decide)]; exact (show _ = _ from by first | rw [if_pos (by omega)] | rw [if_neg (by omega)])⟩ (Nat.le_of_ble_eq_true rfl) (Nat.le_of_ble_eq_true rfl)
    · refine g_tableIn (tgt := 193) dX10_told_21 (by decide) (by decide) rfl (by decide) ?_
      refine g_aload_n dX10_told_193 rfl rfl ?_
      refine g_getf dX10_told_194 fX10_12 a0 rfl ?_
      refine cVi (st := []) dX10_told_197 (c_coinsADraw G (d + 6) n false h hs (by omega)) sX10_237 z1 rfl rfl (by simp only [g_rm]; omega) (by simp only [g_rm]; omega) (Nat.le_of_ble_eq_true rfl) ⟨Nat.le_of_ble_eq_true rfl, Nat.le_of_ble_eq_true rfl⟩ (fun r13 h10 fr11 p12 => ?_)
      cases g_fr0 fr11
      obtain ⟨K, rfl, hK⟩ := p12
      exact e_ti dX10_told_200 rfl rfl g_fr.rf ⟨(by unfold k_told; rw [if_neg (nn_ p1)]), _, rfl, by rw [un_nI (by decide)]; exact ⟨K, hK, rfl⟩⟩ (Nat.le_of_ble_eq_true rfl) (Nat.le_of_ble_eq_true rfl)
    · refine g_tableOut (tgt := 201) dX10_told_21 (by decide) (by decide) ?_
      refine g_aload_n dX10_told_201 rfl rfl ?_
      refine g_getf dX10_told_202 fX10_47 a0 rfl ?_
      refine g_getf dX10_told_205 fX10_213 fc1 rfl ?_
      refine g_if_eqN (tgt := 215) dX10_told_208 (by decide) (by omega) (fun c208 => ?_) (fun c208 => ?_)
      · refine g_iconst (v := nI 0) dX10_told_215 (by decide) ?_
        exact e_ti dX10_told_216 rfl rfl g_fr.rf ⟨(by unfold k_told; rw [if_neg (nn_ p1)]), _, rfl, by rw [un_nI (by decide)]; exact (show nI _ = nI _ from by congr 1; omega)⟩ (Nat.le_of_ble_eq_true rfl) (Nat.le_of_ble_eq_true rfl)
      · refine g_iconst (v := nI 1) dX10_told_211 (by decide) ?_
        refine g_goto (tgt := 216) dX10_told_212 (by decide) ?_
        exact e_ti dX10_told_216 rfl rfl g_fr.rf ⟨(by unfold k_told; rw [if_neg (nn_ p1)]), _, rfl, by rw [un_nI (by decide)]; exact (show nI _ = nI _ from by congr 1; omega)⟩ (Nat.le_of_ble_eq_true rfl) (Nat.le_of_ble_eq_true rfl)
set_option maxHeartbeats 4000000 in
set_option maxRecDepth 100000 in
theorem c_of (G : gG) (d n : Nat) (h : gH) {sg cm sd : Nat} (a0 : Au h sg cm sd) (hsg : sg < 2 ^ 31) {s v wn en rc : Nat → Nat} (hs : Su h s v wn en rc) {bl ti df fv ft : Nat → Nat} {se : Nat → Int32} {D dr bk fm fr : Nat} {x y : Int32} (hl : Dl h bl ti df se D dr bk) (hF : Fc h fv ft fm fr) (h4 : s 4 ≤ 8) (hwn : ∀ k, wn k ≤ 1) (hft : ∀ k, ft k < 2 ^ 31) : g_M G mX10_of (d + 7) 8 48 [.ref 0, .int x, .int y] n false h (q_t n [] h (fun r h' => k_two (s 4) 4 x y = 0 ∧ ∃ r', r = some (.int r') ∧ oAns (un y) r' (un x) v wn df sg (if ft (un x) = 0 then -1 else nI (fv (un x)))) (x_of [xIB] (k_two (s 4) 4 x y))) := by
  have hs' := hs
  obtain ⟨z1, z2, z3, z4, z5⟩ := hs'
  have l1 := hl.1
  have l5 := hl.2.2.2.2
  have fc1 := hF.1
  refine g_enter (by decide) (Nat.le_of_ble_eq_true rfl) ?_
  show g_W G _ _ _ n false h 0 0 0 [(0, .ref 0), (1, .int x), (2, .int y)] []
  refine g_iload_n dX10_of_0 rfl rfl ?_
  refine g_aload_n dX10_of_1 rfl rfl ?_
  refine g_getf dX10_of_2 fX10_12 a0 rfl ?_
  refine g_getf dX10_of_5 fX10_79 z1 rfl ?_
  refine cSn (st := []) dX10_of_8 (c_needIndex G d n h (x := x) (m := nI (s 4))) sX10_104 rfl (by simp only [g_rm]; omega) (by simp only [g_rm]; omega) (Nat.le_of_ble_eq_true rfl) ⟨Nat.le_of_ble_eq_true rfl, Nat.le_of_ble_eq_true rfl⟩ (fun p1 => ?_) (fun p1 => g_out rfl (Nat.le_of_ble_eq_true rfl) (Nat.le_of_ble_eq_true rfl) (x_t (by unfold x_of k_two; rw [if_pos p1]; exact ⟨by decide, rfl⟩)))
  obtain ⟨a, hab, rfl⟩ := nat_ix p1 (by first | decide | omega)
  have hau := un_nI (show a < 4294967296 by omega)
  refine g_iload_n dX10_of_11 rfl rfl ?_
  refine g_iconst (v := nI 4) dX10_of_12 (by decide) ?_
  refine cSn (st := []) dX10_of_13 (c_needIndex G d n h (x := y) (m := nI 4)) sX10_104 rfl (by simp only [g_rm]; omega) (by simp only [g_rm]; omega) (Nat.le_of_ble_eq_true rfl) ⟨Nat.le_of_ble_eq_true rfl, Nat.le_of_ble_eq_true rfl⟩ (fun p2 => ?_) (fun p2 => g_out rfl (Nat.le_of_ble_eq_true rfl) (Nat.le_of_ble_eq_true rfl) (x_t (by unfold x_of k_two; rw [if_neg (nn_ p1), if_pos p2]; exact ⟨by decide, rfl⟩)))
  obtain ⟨j, hjb, rfl⟩ := nat_ix p2 (by first | decide | omega)
  have hju := un_nI (show j < 4294967296 by omega)
  refine g_iload_n dX10_of_16 rfl rfl ?_
  have hsw : j = 0 ∨ j = 1 ∨ j = 2 ∨ j = 3 := by omega
  rcases hsw with rfl | rfl | rfl | rfl
  · refine g_tableIn (tgt := 44) dX10_of_17 (by decide) (by decide) rfl (by decide) ?_
    refine g_aload_n dX10_of_44 rfl rfl ?_
    refine g_getf dX10_of_45 fX10_12 a0 rfl ?_
    refine g_getf dX10_of_48 fX10_240 z1 rfl ?_
    refine g_iload_n dX10_of_51 rfl rfl ?_
    refine g_ialdN dX10_of_52 z2 (by omega) (by decide) ?_
    exact e_ti dX10_of_53 rfl rfl g_fr.rf ⟨(by unfold k_two; rw [if_neg (nn_ p1), if_neg (nn_ p2)]), _, rfl, by rw [hau, un_nI (by decide)]; exact rfl⟩ (Nat.le_of_ble_eq_true rfl) (Nat.le_of_ble_eq_true rfl)
  · refine g_tableIn (tgt := 54) dX10_of_17 (by decide) (by decide) rfl (by decide) ?_
    refine g_aload_n dX10_of_54 rfl rfl ?_
    refine g_getf dX10_of_55 fX10_67 a0 rfl ?_
    refine g_if_eqN (tgt := 77) dX10_of_58 (by decide) hsg (fun c58 => ?_) (fun c58 => ?_)
    · refine g_iconst (v := nI 0) dX10_of_77 (by decide) ?_
      exact e_ti dX10_of_78 rfl rfl g_fr.rf ⟨(by unfold k_two; rw [if_neg (nn_ p1), if_neg (nn_ p2)]), _, rfl, by rw [hau, un_nI (by decide)]; exact (by show nI _ = nI (if _ then 0 else 1); rw [if_pos (Or.inl c58)])⟩ (Nat.le_of_ble_eq_true rfl) (Nat.le_of_ble_eq_true rfl)
    · refine g_aload_n dX10_of_61 rfl rfl ?_
      refine g_getf dX10_of_62 fX10_12 a0 rfl ?_
      refine g_getf dX10_of_65 fX10_244 z1 rfl ?_
      refine g_iload_n dX10_of_68 rfl rfl ?_
      refine g_zaldN dX10_of_69 z3 (by omega) (by decide) ?_
      refine g_if_eqN (tgt := 77) dX10_of_70 (by decide) (by have := hwn a; omega) (fun c70 => ?_) (fun c70 => ?_)
      · refine g_iconst (v := nI 0) dX10_of_77 (by decide) ?_
        exact e_ti dX10_of_78 rfl rfl g_fr.rf ⟨(by unfold k_two; rw [if_neg (nn_ p1), if_neg (nn_ p2)]), _, rfl, by rw [hau, un_nI (by decide)]; exact (by show nI _ = nI (if _ then 0 else 1); rw [if_pos (Or.inr c70)])⟩ (Nat.le_of_ble_eq_true rfl) (Nat.le_of_ble_eq_true rfl)
      · refine g_iconst (v := nI 1) dX10_of_73 (by decide) ?_
        refine g_goto (tgt := 78) dX10_of_74 (by decide) ?_
        exact e_ti dX10_of_78 rfl rfl g_fr.rf ⟨(by unfold k_two; rw [if_neg (nn_ p1), if_neg (nn_ p2)]), _, rfl, by rw [hau, un_nI (by decide)]; exact (by show nI _ = nI (if _ then 0 else 1); rw [if_neg (fun q => q.elim (fun z => c58 z) (fun z => c70 z))])⟩ (Nat.le_of_ble_eq_true rfl) (Nat.le_of_ble_eq_true rfl)
  · refine g_tableIn (tgt := 79) dX10_of_17 (by decide) (by decide) rfl (by decide) ?_
    refine g_aload_n dX10_of_79 rfl rfl ?_
    refine g_getf dX10_of_80 fX10_33 a0 rfl ?_
    refine g_getf dX10_of_83 fX10_248 l1 rfl ?_
    refine g_iload_n dX10_of_86 rfl rfl ?_
    refine g_ialdN dX10_of_87 l5 (by omega) (by decide) ?_
    exact e_ti dX10_of_88 rfl rfl g_fr.rf ⟨(by unfold k_two; rw [if_neg (nn_ p1), if_neg (nn_ p2)]), _, rfl, by rw [hau, un_nI (by decide)]; exact rfl⟩ (Nat.le_of_ble_eq_true rfl) (Nat.le_of_ble_eq_true rfl)
  · refine g_tableOut (tgt := 89) dX10_of_17 (by decide) (by decide) ?_
    refine g_aload_n dX10_of_89 rfl rfl ?_
    refine g_getf dX10_of_90 fX10_47 a0 rfl ?_
    refine g_iload_n dX10_of_93 rfl rfl ?_
    refine cVi (st := []) dX10_of_94 (c_votesOf G (d + 6) n false h hF (by omega) hft) sX10_251 fc1 rfl rfl (by simp only [g_rm]; omega) (by simp only [g_rm]; omega) (Nat.le_of_ble_eq_true rfl) ⟨Nat.le_of_ble_eq_true rfl, Nat.le_of_ble_eq_true rfl⟩ (fun r6 h3 fr4 p5 => ?_)
    cases g_fr0 fr4
    subst p5
    exact e_ti dX10_of_97 rfl rfl g_fr.rf ⟨(by unfold k_two; rw [if_neg (nn_ p1), if_neg (nn_ p2)]), _, rfl, by rw [hau, un_nI (by decide)]; exact rfl⟩ (Nat.le_of_ble_eq_true rfl) (Nat.le_of_ble_eq_true rfl)
set_option maxHeartbeats 4000000 in
set_option maxRecDepth 100000 in
theorem c_pair (G : gG) (d n : Nat) (h : gH) {sg cm sd : Nat} (a0 : Au h sg cm sd) (hsg : sg < 2 ^ 31) {w l v ea eb : Nat → Nat} {sw : Nat → Int32} {mm sr lm : Nat} {x y : Int32} (hT : Te h mm sr lm) (hK : Tk h mm w l v sw ea eb) (hmm : mm ≤ 16) : g_M G mX10_pair (d + 7) 8 48 [.ref 0, .int x, .int y] n false h (q_t n [] h (fun r h' => k_two mm 3 x y = 0 ∧ ∃ r', r = some (.int r') ∧ pAns (un y) r' (un x) w l sw) (x_of [xIB] (k_two mm 3 x y))) := by
  obtain ⟨t1, f, t2, t3⟩ := id hT
  refine g_enter (by decide) (Nat.le_of_ble_eq_true rfl) ?_
  show g_W G _ _ _ n false h 0 0 0 [(0, .ref 0), (1, .int x), (2, .int y)] []
  refine g_iload_n dX10_pair_0 rfl rfl ?_
  refine g_aload_n dX10_pair_1 rfl rfl ?_
  refine g_getf dX10_pair_2 fX10_40 a0 rfl ?_
  refine g_getf dX10_pair_5 fX10_230 t1 rfl ?_
  refine cSn (st := []) dX10_pair_8 (c_needIndex G d n h (x := x) (m := nI mm)) sX10_104 rfl (by simp only [g_rm]; omega) (by simp only [g_rm]; omega) (Nat.le_of_ble_eq_true rfl) ⟨Nat.le_of_ble_eq_true rfl, Nat.le_of_ble_eq_true rfl⟩ (fun p1 => ?_) (fun p1 => g_out rfl (Nat.le_of_ble_eq_true rfl) (Nat.le_of_ble_eq_true rfl) (x_t (by unfold x_of k_two; rw [if_pos p1]; exact ⟨by decide, rfl⟩)))
  obtain ⟨a, hab, rfl⟩ := nat_ix p1 (by first | decide | omega)
  have hau := un_nI (show a < 4294967296 by omega)
  refine g_iload_n dX10_pair_11 rfl rfl ?_
  refine g_iconst (v := nI 3) dX10_pair_12 (by decide) ?_
  refine cSn (st := []) dX10_pair_13 (c_needIndex G d n h (x := y) (m := nI 3)) sX10_104 rfl (by simp only [g_rm]; omega) (by simp only [g_rm]; omega) (Nat.le_of_ble_eq_true rfl) ⟨Nat.le_of_ble_eq_true rfl, Nat.le_of_ble_eq_true rfl⟩ (fun p2 => ?_) (fun p2 => g_out rfl (Nat.le_of_ble_eq_true rfl) (Nat.le_of_ble_eq_true rfl) (x_t (by unfold x_of k_two; rw [if_neg (nn_ p1), if_pos p2]; exact ⟨by decide, rfl⟩)))
  obtain ⟨j, hjb, rfl⟩ := nat_ix p2 (by first | decide | omega)
  have hju := un_nI (show j < 4294967296 by omega)
  have haa : a < 16 := by omega
  refine g_aload_n dX10_pair_16 rfl rfl ?_
  refine g_getf dX10_pair_17 fX10_40 a0 rfl ?_
  refine g_getf dX10_pair_20 fX10_254 t1 rfl ?_
  refine g_iload_n dX10_pair_23 rfl rfl ?_
  refine g_aaldN (r := 24 + 6 * a) dX10_pair_24 t2 (by omega) (by omega) (t3 a haa) ?_
  refine g_astore_n (ls' := [(3, .ref (24 + 6 * a)), (0, .ref 0), (1, .int (nI a)), (2, .int (nI j))]) dX10_pair_25 rfl (by decide) rfl ?_
  have hp9 := (hK a hab).1
  refine g_iload_n dX10_pair_26 rfl rfl ?_
  have hsw : j = 0 ∨ j = 1 ∨ j = 2 := by omega
  rcases hsw with rfl | rfl | rfl
  · refine g_lookup (tgt := 52) dX10_pair_27 (by decide) rfl (by decide) ?_
    refine g_aload_n dX10_pair_52 rfl rfl ?_
    refine g_getf dX10_pair_53 fX10_258 hp9 rfl ?_
    exact e_ti dX10_pair_56 rfl rfl g_fr.rf ⟨(by unfold k_two; rw [if_neg (nn_ p1), if_neg (nn_ p2)]), _, rfl, by rw [hau, un_nI (by decide)]; exact rfl⟩ (Nat.le_of_ble_eq_true rfl) (Nat.le_of_ble_eq_true rfl)
  · refine g_lookup (tgt := 57) dX10_pair_27 (by decide) rfl (by decide) ?_
    refine g_aload_n dX10_pair_57 rfl rfl ?_
    refine g_getf dX10_pair_58 fX10_263 hp9 rfl ?_
    exact e_ti dX10_pair_61 rfl rfl g_fr.rf ⟨(by unfold k_two; rw [if_neg (nn_ p1), if_neg (nn_ p2)]), _, rfl, by rw [hau, un_nI (by decide)]; exact rfl⟩ (Nat.le_of_ble_eq_true rfl) (Nat.le_of_ble_eq_true rfl)
  · refine g_lookup (tgt := 62) dX10_pair_27 (by decide) rfl (by decide) ?_
    refine g_aload_n dX10_pair_62 rfl rfl ?_
    refine g_getf dX10_pair_63 fX10_266 hp9 rfl ?_
    exact e_ti dX10_pair_66 rfl rfl g_fr.rf ⟨(by unfold k_two; rw [if_neg (nn_ p1), if_neg (nn_ p2)]), _, rfl, by rw [hau, un_nI (by decide)]; exact rfl⟩ (Nat.le_of_ble_eq_true rfl) (Nat.le_of_ble_eq_true rfl)
set_option maxHeartbeats 4000000 in
set_option maxRecDepth 100000 in
theorem c_digest (G : gG) (d n : Nat) (h : gH) {sg cm sd : Nat} (a0 : Au h sg cm sd) (hsg : sg < 2 ^ 31) {dg : Nat → Nat} {k : Nat} {x y : Int32} (hS : Sd h dg k) (hk : k ≤ 20) (hdg : ∀ i, dg i < 2 ^ 30) : g_M G mX10_digest (d + 7) 8 48 [.ref 0, .int x, .int y] n false h (q_t n [10, 11] h (fun r h' => k_digest x y = 0 ∧ r = some (.int (nI (bh (shaO dg k (un x)) (un y)))) ∧ Sd h' dg k) (x_of [xIB, xIA] (k_digest x y))) := by
  have s1 := hS.1
  refine g_enter (by decide) (Nat.le_of_ble_eq_true rfl) ?_
  show g_W G _ _ _ n false h 0 0 0 [(0, .ref 0), (1, .int x), (2, .int y)] []
  refine g_iload_n dX10_digest_0 rfl rfl ?_
  refine g_bipush (v := nI 32) dX10_digest_1 (by decide) ?_
  refine cSn (st := []) dX10_digest_3 (c_needIndex G d n h (x := y) (m := nI 32)) sX10_104 rfl (by simp only [g_rm]; omega) (by simp only [g_rm]; omega) (Nat.le_of_ble_eq_true rfl) ⟨Nat.le_of_ble_eq_true rfl, Nat.le_of_ble_eq_true rfl⟩ (fun p1 => ?_) (fun p1 => g_out rfl (Nat.le_of_ble_eq_true rfl) (Nat.le_of_ble_eq_true rfl) (x_t (by unfold x_of k_digest; rw [if_pos p1]; exact ⟨by decide, rfl⟩)))
  obtain ⟨j, hjb, rfl⟩ := nat_ix p1 (by first | decide | omega)
  have hju := un_nI (show j < 4294967296 by omega)
  refine g_iload_n dX10_digest_6 rfl rfl ?_
  refine g_iconst (v := nI 1) dX10_digest_7 (by decide) ?_
  refine g_icmp_ge (tgt := 22) dX10_digest_8 (by decide) (fun c8 => ?_) (fun c8 => ?_)
  · obtain ⟨a, ha1, rfl⟩ := nI_of (x := x) (fun z => absurd (Int32.lt_of_lt_of_le z (by decide)) (Int32.not_lt.mpr c8))
    have hau := un_nI (show a < 4294967296 by omega)
    refine g_aload_n dX10_digest_22 rfl rfl ?_
    refine g_getf dX10_digest_23 fX10_26 a0 rfl ?_
    refine g_iload_n dX10_digest_26 rfl rfl ?_
    refine cVv (st := []) dX10_digest_27 (c_hashWith G (d + 4) n false h hk hdg (num := a) (by omega) hS) sX10_283 s1 rfl rfl (by simp only [g_rm]; omega) (by simp only [g_rm]; omega) (Nat.le_of_ble_eq_true rfl) ⟨Nat.le_of_ble_eq_true rfl, Nat.le_of_ble_eq_true rfl⟩ (fun h2 fr3 p4 => ?_)
    obtain ⟨⟨f9, y0⟩, g9, y1, y2⟩ := p4
    refine g_aload_n dX10_digest_30 rfl rfl ?_
    refine g_getf dX10_digest_31 fX10_26 (fr3.at (by intro q; simp only [List.mem_cons, List.not_mem_nil, or_false] at q; omega) a0) rfl ?_
    refine g_iload_n dX10_digest_34 rfl rfl ?_
    refine cVi (st := []) dX10_digest_35 (c_byteOfHash G (d + 5) n false h2 (fr3.at (by intro q; simp only [List.mem_cons, List.not_mem_nil, or_false] at q; omega) s1) y1 (by omega)) sX10_286 (fr3.at (by intro q; simp only [List.mem_cons, List.not_mem_nil, or_false] at q; omega) s1) rfl rfl (by simp only [g_rm]; omega) (by simp only [g_rm]; omega) (Nat.le_of_ble_eq_true rfl) ⟨Nat.le_of_ble_eq_true rfl, Nat.le_of_ble_eq_true rfl⟩ (fun r9 h6 fr7 p8 => ?_)
    cases g_fr0 fr7
    subst p8
    have ebh : bh g9 j = bh (shaO dg k a) j := by unfold bh; rw [y2 (j / 4) (by omega)]
    exact e_ti dX10_digest_38 rfl rfl ((g_fr.rf).tr fr3 (by simp)) ⟨(by unfold k_digest; rw [if_neg (nn_ p1), if_neg (Int32.not_lt.mpr c8)]), by rw [hau, hju, ebh], ⟨fr3.at (by simp) s1, fr3.at (by simp) hS.2.1, ⟨f9, y0⟩, g9, y1⟩⟩ (Nat.le_of_ble_eq_true rfl) (Nat.le_of_ble_eq_true rfl)
  · exact g_throwW (text := "draws have numbers from 1 on") (names := xUp) dX10_digest_11 dX10_digest_14 dX10_digest_15 dX10_digest_18 dX10_digest_21 rfl rfl (by decide) (by decide) tw_114_118 (by decide) (by show 2 + 3 < _; simp only [g_rm]; omega) (by show 0 + 82 ≤ _; simp only [g_rm]; omega) (Nat.le_of_ble_eq_true rfl) (Nat.le_of_ble_eq_true rfl) (Nat.le_of_ble_eq_true rfl) (Nat.le_of_ble_eq_true rfl) (x_t (by unfold x_of k_digest; rw [if_neg (nn_ p1), if_pos (Int32.not_le.mp c8)]; exact ⟨by decide, rfl⟩))
