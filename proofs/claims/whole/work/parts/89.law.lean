theorem Rel.mc {h : gH} {kk : Nat} {ou : Nat → Int64} (z : Rel h kk ou) : ∃ (s : Nat → Nat) (k m sg cm sd mm dr dd bk rt : Nat) (wt : Int32), Mc h (nI kk) s k m sg cm sd mm dr dd bk rt wt ∧ h 167 = some (.inl (3, 1, .inr (.inl ou))) := by
  obtain ⟨_, _, _, _, _, _, _, _, _, _, _, _, _, _, _, _, _, _, _, _, _, _, _, _, _, _, _, _, _, _, _, _, _, _, _, _, _, _, _, _, _, _, _, z⟩ := z
  exact ⟨_, _, _, _, _, _, _, _, _, _, _, _, z.2.2.2.2.2.2.2.2.2.2.2.1, z.2.2.2.2.2.2.2.2.2.2.2.2⟩
theorem and31 (x : Int32) : ∃ u, u < 32 ∧ x &&& nI 31 = nI u := by
  refine ⟨un (x &&& nI 31), ?_, (nI_un _).symm⟩
  unfold un
  rw [Int32.toBitVec_and, BitVec.toNat_and]
  exact Nat.lt_of_le_of_lt Nat.and_le_right (by decide)
theorem lw_cmp {L i : Nat} (hL : L ≤ 3072) (hi : i ≤ L) (h : ¬ (nI L - nI 6 < nI i)) : i + 6 ≤ L := by
  by_cases q : L < 6
  · have key : ∀ a b : Fin 6, nI a.val - nI 6 < nI b.val := by decide
    exact absurd (key ⟨L, q⟩ ⟨i, by omega⟩) h
  · rw [show nI L - nI 6 = nI (L - 6) from pk_sub (by omega)] at h
    rw [i_lt, nI_toInt (by omega), nI_toInt (by omega)] at h
    omega
set_option maxHeartbeats 4000000 in
set_option maxRecDepth 100000 in
theorem L_candidate (G : gG) (hL : g_L G ≤ 3072) (h : gH) {i k sl kk : Nat} {ou : Nat → Int64} (hi : i + 6 ≤ g_L G) (z : Rel h kk ou) (hk8 : k + 8 ≤ 600000) (hs8 : sl + 48 ≤ 7000000) (cont : ∀ (h' : gH) (kk' : Nat) (ou' : Nat → Int64), Rel h' kk' ou' → g_W G mL_law room_1 (g_KL G) 168 false h' (k + 8) (sl + 48) 1454 [(4, .int (nI i)), (0, .float 0), (1, .ref 0), (2, .ref 142), (3, .ref 167)] []) : g_W G mL_law room_1 (g_KL G) 168 false h k sl 140 [(4, .int (nI i)), (0, .float 0), (1, .ref 0), (2, .ref 142), (3, .ref 167)] [] := by
  have hL' : g_tn G 0 < 2 ^ 31 := (by show g_L G < _; omega)
  refine g_aload_n dL_law_140 rfl rfl ?_
  refine g_aload_nS dL_law_141 rfl rfl ?_
  refine g_iload dL_law_142 rfl ?_
  refine g_iconst (v := nI 1) dL_law_144 (by decide) ?_
  refine g_iaddN dL_law_145 ?_
  refine g_saldN dL_law_146 (t := 0) (by decide) (by decide) (by show _ < g_L G; omega) hL' ?_
  refine g_aload_n dL_law_147 rfl rfl ?_
  obtain ⟨S1, P1, hM1, hk1⟩ := t_candidate G 168 h (x := g_tf G 0 (i + 1)) z
  refine cSiH (st := []) dL_law_148 hM1 sH_candidate rfl (by decide) (by decide) (by decide) ⟨by show k + 8 ≤ 601024; omega, by show sl + 48 ≤ 7293034; omega⟩ (fun r1 h1 fr1 p1 => ?_)
  obtain ⟨k1, S2, P2, rfl, hkb, hM2, ⟨fs1, m1⟩, he1⟩ := hk1 r1 h1 fr1 p1
  refine g_istore (ls' := [(5, .int (nI k1)), (4, .int (nI i)), (0, .float 0), (1, .ref 0), (2, .ref 142), (3, .ref 167)]) dL_law_151 (by decide) rfl ?_
  refine g_aload_n dL_law_153 rfl rfl ?_
  refine g_aload_nS dL_law_154 rfl rfl ?_
  refine g_iload dL_law_155 rfl ?_
  refine g_iconst (v := nI 1) dL_law_157 (by decide) ?_
  refine g_iaddN dL_law_158 ?_
  refine g_saldN dL_law_159 (t := 0) (by decide) (by decide) (by show _ < g_L G; omega) hL' ?_
  refine cVi (st := []) dL_law_160 hM2 sL_93 m1 rfl rfl (by decide) (by decide) (by decide) ⟨by show k + 8 + 0 ≤ 601024; omega, by show sl + 48 + 0 ≤ 7293034; omega⟩ (fun b2 h2 fr2 p2 => ?_)
  obtain ⟨ou2, z2, ha2⟩ := he1 b2 h2 fr2 p2
  refine g_istore (ls' := [(6, .int b2), (5, .int (nI k1)), (4, .int (nI i)), (0, .float 0), (1, .ref 0), (2, .ref 142), (3, .ref 167)]) dL_law_163 (by decide) rfl ?_
  refine g_aload_n dL_law_165 rfl rfl ?_
  obtain ⟨s2, kx, mx, sgx, cmx, sdx, mmx, drx, ddx, bkx, rtx, wtx, m2, o2⟩ := z2.mc
  refine cVi (st := []) dL_law_166 (c_thrown G 9 168 false h2 m2) sL_94 m2 rfl rfl (by decide) (by decide) (by decide) ⟨by show k + 8 + 0 + 0 ≤ 601024; omega, by show sl + 48 + 0 + 0 ≤ 7293034; omega⟩ (fun r3 h3 fr3 p3 => ?_)
  cases g_fr0 fr3
  subst p3
  refine g_iload dL_law_169 rfl ?_
  refine g_icmp_eqN (tgt := 176) dL_law_171 (by decide) hkb hkb (fun c171 => ?_) (fun c171 => ?_)
  · refine g_iload dL_law_176 rfl ?_
    refine g_if_neN (tgt := 193) dL_law_178 (by decide) hkb (fun c178 => ?_) (fun c178 => ?_)
    · refine g_goto (tgt := 1454) dL_law_193 (by decide) ?_
      refine g_pick [2, 3, 4, 5, 6] (ls' := [(4, .int (nI i)), (0, .float 0), (1, .ref 0), (2, .ref 142), (3, .ref 167)]) rfl ?_
      exact cont h2 k1 ou2 z2
    · refine g_aload_n dL_law_181 rfl rfl ?_
      refine g_iconst (v := nI 0) dL_law_182 (by decide) ?_
      refine g_laldN dL_law_183 o2 (by decide) (by decide) ?_
      refine g_topl (show ou2 0 = b2.toInt64 from (ha2 c178)) ?_
      refine g_iload dL_law_184 rfl ?_
      refine g_i2l dL_law_186 ?_
      refine g_lcmp dL_law_187 ?_
      refine g_if_eq (tgt := 193) dL_law_188 (by decide) (fun c188 => ?_) (fun c188 => ?_)
      · refine g_goto (tgt := 1454) dL_law_193 (by decide) ?_
        refine g_pick [2, 3, 4, 5, 6] (ls' := [(4, .int (nI i)), (0, .float 0), (1, .ref 0), (2, .ref 142), (3, .ref 167)]) rfl ?_
        exact cont h2 k1 ou2 z2
      · exact absurd (g_lcE.mpr rfl) c188
  · exact absurd rfl c171
set_option maxHeartbeats 4000000 in
set_option maxRecDepth 100000 in
theorem L_batch (G : gG) (hL : g_L G ≤ 3072) (h : gH) {i k sl kk : Nat} {ou : Nat → Int64} (hi : i + 6 ≤ g_L G) (z : Rel h kk ou) (hk8 : k + 8 ≤ 600000) (hs8 : sl + 48 ≤ 7000000) (cont : ∀ (h' : gH) (kk' : Nat) (ou' : Nat → Int64), Rel h' kk' ou' → g_W G mL_law room_1 (g_KL G) 168 false h' (k + 8) (sl + 48) 1454 [(4, .int (nI i)), (0, .float 0), (1, .ref 0), (2, .ref 142), (3, .ref 167)] []) : g_W G mL_law room_1 (g_KL G) 168 false h k sl 196 [(4, .int (nI i)), (0, .float 0), (1, .ref 0), (2, .ref 142), (3, .ref 167)] [] := by
  have hL' : g_tn G 0 < 2 ^ 31 := (by show g_L G < _; omega)
  refine g_aload_n dL_law_196 rfl rfl ?_
  refine g_aload_nS dL_law_197 rfl rfl ?_
  refine g_iload dL_law_198 rfl ?_
  refine g_iconst (v := nI 1) dL_law_200 (by decide) ?_
  refine g_iaddN dL_law_201 ?_
  refine g_saldN dL_law_202 (t := 0) (by decide) (by decide) (by show _ < g_L G; omega) hL' ?_
  refine g_aload_n dL_law_203 rfl rfl ?_
  obtain ⟨S1, P1, hM1, hk1⟩ := t_batch G 168 h (x := g_tf G 0 (i + 1)) z
  refine cSiH (st := []) dL_law_204 hM1 sH_batch rfl (by decide) (by decide) (by decide) ⟨by show k + 8 ≤ 601024; omega, by show sl + 48 ≤ 7293034; omega⟩ (fun r1 h1 fr1 p1 => ?_)
  obtain ⟨k1, S2, P2, rfl, hkb, hM2, ⟨fs1, m1⟩, he1⟩ := hk1 r1 h1 fr1 p1
  refine g_istore (ls' := [(5, .int (nI k1)), (4, .int (nI i)), (0, .float 0), (1, .ref 0), (2, .ref 142), (3, .ref 167)]) dL_law_207 (by decide) rfl ?_
  refine g_aload_n dL_law_209 rfl rfl ?_
  refine g_aload_nS dL_law_210 rfl rfl ?_
  refine g_iload dL_law_211 rfl ?_
  refine g_iconst (v := nI 1) dL_law_213 (by decide) ?_
  refine g_iaddN dL_law_214 ?_
  refine g_saldN dL_law_215 (t := 0) (by decide) (by decide) (by show _ < g_L G; omega) hL' ?_
  refine cVi (st := []) dL_law_216 hM2 sL_99 m1 rfl rfl (by decide) (by decide) (by decide) ⟨by show k + 8 + 0 ≤ 601024; omega, by show sl + 48 + 0 ≤ 7293034; omega⟩ (fun b2 h2 fr2 p2 => ?_)
  obtain ⟨ou2, z2, ha2⟩ := he1 b2 h2 fr2 p2
  refine g_istore (ls' := [(6, .int b2), (5, .int (nI k1)), (4, .int (nI i)), (0, .float 0), (1, .ref 0), (2, .ref 142), (3, .ref 167)]) dL_law_219 (by decide) rfl ?_
  refine g_aload_n dL_law_221 rfl rfl ?_
  obtain ⟨s2, kx, mx, sgx, cmx, sdx, mmx, drx, ddx, bkx, rtx, wtx, m2, o2⟩ := z2.mc
  refine cVi (st := []) dL_law_222 (c_thrown G 9 168 false h2 m2) sL_94 m2 rfl rfl (by decide) (by decide) (by decide) ⟨by show k + 8 + 0 + 0 ≤ 601024; omega, by show sl + 48 + 0 + 0 ≤ 7293034; omega⟩ (fun r3 h3 fr3 p3 => ?_)
  cases g_fr0 fr3
  subst p3
  refine g_iload dL_law_225 rfl ?_
  refine g_icmp_eqN (tgt := 232) dL_law_227 (by decide) hkb hkb (fun c227 => ?_) (fun c227 => ?_)
  · refine g_iload dL_law_232 rfl ?_
    refine g_if_neN (tgt := 249) dL_law_234 (by decide) hkb (fun c234 => ?_) (fun c234 => ?_)
    · refine g_goto (tgt := 1454) dL_law_249 (by decide) ?_
      refine g_pick [2, 3, 4, 5, 6] (ls' := [(4, .int (nI i)), (0, .float 0), (1, .ref 0), (2, .ref 142), (3, .ref 167)]) rfl ?_
      exact cont h2 k1 ou2 z2
    · refine g_aload_n dL_law_237 rfl rfl ?_
      refine g_iconst (v := nI 0) dL_law_238 (by decide) ?_
      refine g_laldN dL_law_239 o2 (by decide) (by decide) ?_
      refine g_topl (show ou2 0 = b2.toInt64 from (ha2 c234)) ?_
      refine g_iload dL_law_240 rfl ?_
      refine g_i2l dL_law_242 ?_
      refine g_lcmp dL_law_243 ?_
      refine g_if_eq (tgt := 249) dL_law_244 (by decide) (fun c244 => ?_) (fun c244 => ?_)
      · refine g_goto (tgt := 1454) dL_law_249 (by decide) ?_
        refine g_pick [2, 3, 4, 5, 6] (ls' := [(4, .int (nI i)), (0, .float 0), (1, .ref 0), (2, .ref 142), (3, .ref 167)]) rfl ?_
        exact cont h2 k1 ou2 z2
      · exact absurd (g_lcE.mpr rfl) c244
  · exact absurd rfl c227
set_option maxHeartbeats 4000000 in
set_option maxRecDepth 100000 in
theorem L_set (G : gG) (hL : g_L G ≤ 3072) (h : gH) {i k sl kk : Nat} {ou : Nat → Int64} (hi : i + 6 ≤ g_L G) (z : Rel h kk ou) (hk8 : k + 8 ≤ 600000) (hs8 : sl + 48 ≤ 7000000) (cont : ∀ (h' : gH) (kk' : Nat) (ou' : Nat → Int64), Rel h' kk' ou' → g_W G mL_law room_1 (g_KL G) 168 false h' (k + 8) (sl + 48) 1454 [(4, .int (nI i)), (0, .float 0), (1, .ref 0), (2, .ref 142), (3, .ref 167)] []) : g_W G mL_law room_1 (g_KL G) 168 false h k sl 252 [(4, .int (nI i)), (0, .float 0), (1, .ref 0), (2, .ref 142), (3, .ref 167)] [] := by
  have hL' : g_tn G 0 < 2 ^ 31 := (by show g_L G < _; omega)
  refine g_aload_n dL_law_252 rfl rfl ?_
  refine g_aload_nS dL_law_253 rfl rfl ?_
  refine g_iload dL_law_254 rfl ?_
  refine g_iconst (v := nI 1) dL_law_256 (by decide) ?_
  refine g_iaddN dL_law_257 ?_
  refine g_saldN dL_law_258 (t := 0) (by decide) (by decide) (by show _ < g_L G; omega) hL' ?_
  refine g_aload_nS dL_law_259 rfl rfl ?_
  refine g_iload dL_law_260 rfl ?_
  refine g_iconst (v := nI 2) dL_law_262 (by decide) ?_
  refine g_iaddN dL_law_263 ?_
  refine g_saldN dL_law_264 (t := 0) (by decide) (by decide) (by show _ < g_L G; omega) hL' ?_
  refine g_aload_n dL_law_265 rfl rfl ?_
  obtain ⟨S1, P1, hM1, hk1⟩ := t_setw G 168 h (x := g_tf G 0 (i + 1)) (y := g_tf G 0 (i + 2)) z
  refine cSiH (st := []) dL_law_266 hM1 sH_set rfl (by decide) (by decide) (by decide) ⟨by show k + 8 ≤ 601024; omega, by show sl + 48 ≤ 7293034; omega⟩ (fun r1 h1 fr1 p1 => ?_)
  obtain ⟨k1, S2, P2, rfl, hkb, hM2, ⟨fs1, m1⟩, he1⟩ := hk1 r1 h1 fr1 p1
  refine g_istore (ls' := [(5, .int (nI k1)), (4, .int (nI i)), (0, .float 0), (1, .ref 0), (2, .ref 142), (3, .ref 167)]) dL_law_269 (by decide) rfl ?_
  refine g_aload_n dL_law_271 rfl rfl ?_
  refine g_aload_nS dL_law_272 rfl rfl ?_
  refine g_iload dL_law_273 rfl ?_
  refine g_iconst (v := nI 1) dL_law_275 (by decide) ?_
  refine g_iaddN dL_law_276 ?_
  refine g_saldN dL_law_277 (t := 0) (by decide) (by decide) (by show _ < g_L G; omega) hL' ?_
  refine g_aload_nS dL_law_278 rfl rfl ?_
  refine g_iload dL_law_279 rfl ?_
  refine g_iconst (v := nI 2) dL_law_281 (by decide) ?_
  refine g_iaddN dL_law_282 ?_
  refine g_saldN dL_law_283 (t := 0) (by decide) (by decide) (by show _ < g_L G; omega) hL' ?_
  refine cVi (st := []) dL_law_284 hM2 sL_103 m1 rfl rfl (by decide) (by decide) (by decide) ⟨by show k + 8 + 0 ≤ 601024; omega, by show sl + 48 + 0 ≤ 7293034; omega⟩ (fun b2 h2 fr2 p2 => ?_)
  obtain ⟨ou2, z2, ha2⟩ := he1 b2 h2 fr2 p2
  refine g_istore (ls' := [(6, .int b2), (5, .int (nI k1)), (4, .int (nI i)), (0, .float 0), (1, .ref 0), (2, .ref 142), (3, .ref 167)]) dL_law_287 (by decide) rfl ?_
  refine g_aload_n dL_law_289 rfl rfl ?_
  obtain ⟨s2, kx, mx, sgx, cmx, sdx, mmx, drx, ddx, bkx, rtx, wtx, m2, o2⟩ := z2.mc
  refine cVi (st := []) dL_law_290 (c_thrown G 9 168 false h2 m2) sL_94 m2 rfl rfl (by decide) (by decide) (by decide) ⟨by show k + 8 + 0 + 0 ≤ 601024; omega, by show sl + 48 + 0 + 0 ≤ 7293034; omega⟩ (fun r3 h3 fr3 p3 => ?_)
  cases g_fr0 fr3
  subst p3
  refine g_iload dL_law_293 rfl ?_
  refine g_icmp_eqN (tgt := 300) dL_law_295 (by decide) hkb hkb (fun c295 => ?_) (fun c295 => ?_)
  · refine g_iload dL_law_300 rfl ?_
    refine g_if_neN (tgt := 317) dL_law_302 (by decide) hkb (fun c302 => ?_) (fun c302 => ?_)
    · refine g_goto (tgt := 1454) dL_law_317 (by decide) ?_
      refine g_pick [2, 3, 4, 5, 6] (ls' := [(4, .int (nI i)), (0, .float 0), (1, .ref 0), (2, .ref 142), (3, .ref 167)]) rfl ?_
      exact cont h2 k1 ou2 z2
    · refine g_aload_n dL_law_305 rfl rfl ?_
      refine g_iconst (v := nI 0) dL_law_306 (by decide) ?_
      refine g_laldN dL_law_307 o2 (by decide) (by decide) ?_
      refine g_topl (show ou2 0 = b2.toInt64 from (ha2 c302)) ?_
      refine g_iload dL_law_308 rfl ?_
      refine g_i2l dL_law_310 ?_
      refine g_lcmp dL_law_311 ?_
      refine g_if_eq (tgt := 317) dL_law_312 (by decide) (fun c312 => ?_) (fun c312 => ?_)
      · refine g_goto (tgt := 1454) dL_law_317 (by decide) ?_
        refine g_pick [2, 3, 4, 5, 6] (ls' := [(4, .int (nI i)), (0, .float 0), (1, .ref 0), (2, .ref 142), (3, .ref 167)]) rfl ?_
        exact cont h2 k1 ou2 z2
      · exact absurd (g_lcE.mpr rfl) c312
  · exact absurd rfl c295
set_option maxHeartbeats 4000000 in
set_option maxRecDepth 100000 in
theorem L_fraction (G : gG) (hL : g_L G ≤ 3072) (h : gH) {i k sl kk : Nat} {ou : Nat → Int64} (hi : i + 6 ≤ g_L G) (z : Rel h kk ou) (hk8 : k + 8 ≤ 600000) (hs8 : sl + 48 ≤ 7000000) (cont : ∀ (h' : gH) (kk' : Nat) (ou' : Nat → Int64), Rel h' kk' ou' → g_W G mL_law room_1 (g_KL G) 168 false h' (k + 8) (sl + 48) 1454 [(4, .int (nI i)), (0, .float 0), (1, .ref 0), (2, .ref 142), (3, .ref 167)] []) : g_W G mL_law room_1 (g_KL G) 168 false h k sl 320 [(4, .int (nI i)), (0, .float 0), (1, .ref 0), (2, .ref 142), (3, .ref 167)] [] := by
  have hL' : g_tn G 0 < 2 ^ 31 := (by show g_L G < _; omega)
  refine g_aload_n dL_law_320 rfl rfl ?_
  refine g_aload_nS dL_law_321 rfl rfl ?_
  refine g_iload dL_law_322 rfl ?_
  refine g_iconst (v := nI 1) dL_law_324 (by decide) ?_
  refine g_iaddN dL_law_325 ?_
  refine g_saldN dL_law_326 (t := 0) (by decide) (by decide) (by show _ < g_L G; omega) hL' ?_
  refine g_aload_nS dL_law_327 rfl rfl ?_
  refine g_iload dL_law_328 rfl ?_
  refine g_iconst (v := nI 2) dL_law_330 (by decide) ?_
  refine g_iaddN dL_law_331 ?_
  refine g_saldN dL_law_332 (t := 0) (by decide) (by decide) (by show _ < g_L G; omega) hL' ?_
  refine g_aload_nS dL_law_333 rfl rfl ?_
  refine g_iload dL_law_334 rfl ?_
  refine g_iconst (v := nI 3) dL_law_336 (by decide) ?_
  refine g_iaddN dL_law_337 ?_
  refine g_saldN dL_law_338 (t := 0) (by decide) (by decide) (by show _ < g_L G; omega) hL' ?_
  obtain ⟨S1, P1, hM1, hk1⟩ := t_fraction G 168 h (x := g_tf G 0 (i + 1)) (y := g_tf G 0 (i + 2)) (z_ := g_tf G 0 (i + 3)) z
  refine cSiH (st := []) dL_law_339 hM1 sH_fraction rfl (by decide) (by decide) (by decide) ⟨by show k + 8 ≤ 601024; omega, by show sl + 48 ≤ 7293034; omega⟩ (fun r1 h1 fr1 p1 => ?_)
  obtain ⟨k1, S2, P2, rfl, hkb, hM2, ⟨fs1, m1⟩, he1⟩ := hk1 r1 h1 fr1 p1
  refine g_istore (ls' := [(5, .int (nI k1)), (4, .int (nI i)), (0, .float 0), (1, .ref 0), (2, .ref 142), (3, .ref 167)]) dL_law_342 (by decide) rfl ?_
  refine g_aload_n dL_law_344 rfl rfl ?_
  refine g_aload_nS dL_law_345 rfl rfl ?_
  refine g_iload dL_law_346 rfl ?_
  refine g_iconst (v := nI 1) dL_law_348 (by decide) ?_
  refine g_iaddN dL_law_349 ?_
  refine g_saldN dL_law_350 (t := 0) (by decide) (by decide) (by show _ < g_L G; omega) hL' ?_
  refine g_aload_nS dL_law_351 rfl rfl ?_
  refine g_iload dL_law_352 rfl ?_
  refine g_iconst (v := nI 2) dL_law_354 (by decide) ?_
  refine g_iaddN dL_law_355 ?_
  refine g_saldN dL_law_356 (t := 0) (by decide) (by decide) (by show _ < g_L G; omega) hL' ?_
  refine g_aload_nS dL_law_357 rfl rfl ?_
  refine g_iload dL_law_358 rfl ?_
  refine g_iconst (v := nI 3) dL_law_360 (by decide) ?_
  refine g_iaddN dL_law_361 ?_
  refine g_saldN dL_law_362 (t := 0) (by decide) (by decide) (by show _ < g_L G; omega) hL' ?_
  refine cVv (st := []) dL_law_363 hM2 sL_107 m1 rfl rfl (by decide) (by decide) (by decide) ⟨by show k + 8 + 0 ≤ 601024; omega, by show sl + 48 + 0 ≤ 7293034; omega⟩ (fun h2 fr2 p2 => ?_)
  obtain ⟨ou2, z2⟩ := he1 h2 fr2 p2
  refine g_aload_n dL_law_366 rfl rfl ?_
  obtain ⟨s2, kx, mx, sgx, cmx, sdx, mmx, drx, ddx, bkx, rtx, wtx, m2, o2⟩ := z2.mc
  refine cVi (st := []) dL_law_367 (c_thrown G 9 168 false h2 m2) sL_94 m2 rfl rfl (by decide) (by decide) (by decide) ⟨by show k + 8 + 0 + 0 ≤ 601024; omega, by show sl + 48 + 0 + 0 ≤ 7293034; omega⟩ (fun r3 h3 fr3 p3 => ?_)
  cases g_fr0 fr3
  subst p3
  refine g_iload dL_law_370 rfl ?_
  refine g_icmp_eqN (tgt := 377) dL_law_372 (by decide) hkb hkb (fun c372 => ?_) (fun c372 => ?_)
  · refine g_goto (tgt := 1454) dL_law_377 (by decide) ?_
    refine g_pick [1, 2, 3, 4, 5] (ls' := [(4, .int (nI i)), (0, .float 0), (1, .ref 0), (2, .ref 142), (3, .ref 167)]) rfl ?_
    exact cont h2 k1 ou2 z2
  · exact absurd rfl c372
set_option maxHeartbeats 4000000 in
set_option maxRecDepth 100000 in
theorem L_record (G : gG) (hL : g_L G ≤ 3072) (h : gH) {i k sl kk : Nat} {ou : Nat → Int64} (hi : i + 6 ≤ g_L G) (z : Rel h kk ou) (hk8 : k + 8 ≤ 600000) (hs8 : sl + 48 ≤ 7000000) (cont : ∀ (h' : gH) (kk' : Nat) (ou' : Nat → Int64), Rel h' kk' ou' → g_W G mL_law room_1 (g_KL G) 168 false h' (k + 8) (sl + 48) 1454 [(4, .int (nI i)), (0, .float 0), (1, .ref 0), (2, .ref 142), (3, .ref 167)] []) : g_W G mL_law room_1 (g_KL G) 168 false h k sl 380 [(4, .int (nI i)), (0, .float 0), (1, .ref 0), (2, .ref 142), (3, .ref 167)] [] := by
  have hL' : g_tn G 0 < 2 ^ 31 := (by show g_L G < _; omega)
  refine g_aload_n dL_law_380 rfl rfl ?_
  refine g_aload_nS dL_law_381 rfl rfl ?_
  refine g_iload dL_law_382 rfl ?_
  refine g_iconst (v := nI 1) dL_law_384 (by decide) ?_
  refine g_iaddN dL_law_385 ?_
  refine g_saldN dL_law_386 (t := 0) (by decide) (by decide) (by show _ < g_L G; omega) hL' ?_
  refine g_aload_nS dL_law_387 rfl rfl ?_
  refine g_iload dL_law_388 rfl ?_
  refine g_iconst (v := nI 2) dL_law_390 (by decide) ?_
  refine g_iaddN dL_law_391 ?_
  refine g_saldN dL_law_392 (t := 0) (by decide) (by decide) (by show _ < g_L G; omega) hL' ?_
  refine g_aload_nS dL_law_393 rfl rfl ?_
  refine g_iload dL_law_394 rfl ?_
  refine g_iconst (v := nI 3) dL_law_396 (by decide) ?_
  refine g_iaddN dL_law_397 ?_
  refine g_saldN dL_law_398 (t := 0) (by decide) (by decide) (by show _ < g_L G; omega) hL' ?_
  obtain ⟨S1, P1, hM1, hk1⟩ := t_record G 168 h (x := g_tf G 0 (i + 1)) (y := g_tf G 0 (i + 2)) (z_ := g_tf G 0 (i + 3)) z
  refine cSiH (st := []) dL_law_399 hM1 sH_record rfl (by decide) (by decide) (by decide) ⟨by show k + 8 ≤ 601024; omega, by show sl + 48 ≤ 7293034; omega⟩ (fun r1 h1 fr1 p1 => ?_)
  obtain ⟨k1, S2, P2, rfl, hkb, hM2, ⟨fs1, m1⟩, he1⟩ := hk1 r1 h1 fr1 p1
  refine g_istore (ls' := [(5, .int (nI k1)), (4, .int (nI i)), (0, .float 0), (1, .ref 0), (2, .ref 142), (3, .ref 167)]) dL_law_402 (by decide) rfl ?_
  refine g_aload_n dL_law_404 rfl rfl ?_
  refine g_aload_nS dL_law_405 rfl rfl ?_
  refine g_iload dL_law_406 rfl ?_
  refine g_iconst (v := nI 1) dL_law_408 (by decide) ?_
  refine g_iaddN dL_law_409 ?_
  refine g_saldN dL_law_410 (t := 0) (by decide) (by decide) (by show _ < g_L G; omega) hL' ?_
  refine g_aload_nS dL_law_411 rfl rfl ?_
  refine g_iload dL_law_412 rfl ?_
  refine g_iconst (v := nI 2) dL_law_414 (by decide) ?_
  refine g_iaddN dL_law_415 ?_
  refine g_saldN dL_law_416 (t := 0) (by decide) (by decide) (by show _ < g_L G; omega) hL' ?_
  refine g_aload_nS dL_law_417 rfl rfl ?_
  refine g_iload dL_law_418 rfl ?_
  refine g_iconst (v := nI 3) dL_law_420 (by decide) ?_
  refine g_iaddN dL_law_421 ?_
  refine g_saldN dL_law_422 (t := 0) (by decide) (by decide) (by show _ < g_L G; omega) hL' ?_
  refine cVv (st := []) dL_law_423 hM2 sL_110 m1 rfl rfl (by decide) (by decide) (by decide) ⟨by show k + 8 + 0 ≤ 601024; omega, by show sl + 48 + 0 ≤ 7293034; omega⟩ (fun h2 fr2 p2 => ?_)
  obtain ⟨ou2, z2⟩ := he1 h2 fr2 p2
  refine g_aload_n dL_law_426 rfl rfl ?_
  obtain ⟨s2, kx, mx, sgx, cmx, sdx, mmx, drx, ddx, bkx, rtx, wtx, m2, o2⟩ := z2.mc
  refine cVi (st := []) dL_law_427 (c_thrown G 9 168 false h2 m2) sL_94 m2 rfl rfl (by decide) (by decide) (by decide) ⟨by show k + 8 + 0 + 0 ≤ 601024; omega, by show sl + 48 + 0 + 0 ≤ 7293034; omega⟩ (fun r3 h3 fr3 p3 => ?_)
  cases g_fr0 fr3
  subst p3
  refine g_iload dL_law_430 rfl ?_
  refine g_icmp_eqN (tgt := 437) dL_law_432 (by decide) hkb hkb (fun c432 => ?_) (fun c432 => ?_)
  · refine g_goto (tgt := 1454) dL_law_437 (by decide) ?_
    refine g_pick [1, 2, 3, 4, 5] (ls' := [(4, .int (nI i)), (0, .float 0), (1, .ref 0), (2, .ref 142), (3, .ref 167)]) rfl ?_
    exact cont h2 k1 ou2 z2
  · exact absurd rfl c432
set_option maxHeartbeats 4000000 in
set_option maxRecDepth 100000 in
theorem L_digit (G : gG) (hL : g_L G ≤ 3072) (h : gH) {i k sl kk : Nat} {ou : Nat → Int64} (hi : i + 6 ≤ g_L G) (z : Rel h kk ou) (hk8 : k + 8 ≤ 600000) (hs8 : sl + 48 ≤ 7000000) (cont : ∀ (h' : gH) (kk' : Nat) (ou' : Nat → Int64), Rel h' kk' ou' → g_W G mL_law room_1 (g_KL G) 168 false h' (k + 8) (sl + 48) 1454 [(4, .int (nI i)), (0, .float 0), (1, .ref 0), (2, .ref 142), (3, .ref 167)] []) : g_W G mL_law room_1 (g_KL G) 168 false h k sl 440 [(4, .int (nI i)), (0, .float 0), (1, .ref 0), (2, .ref 142), (3, .ref 167)] [] := by
  have hL' : g_tn G 0 < 2 ^ 31 := (by show g_L G < _; omega)
  refine g_aload_n dL_law_440 rfl rfl ?_
  refine g_aload_nS dL_law_441 rfl rfl ?_
  refine g_iload dL_law_442 rfl ?_
  refine g_iconst (v := nI 1) dL_law_444 (by decide) ?_
  refine g_iaddN dL_law_445 ?_
  refine g_saldN dL_law_446 (t := 0) (by decide) (by decide) (by show _ < g_L G; omega) hL' ?_
  refine g_aload_n dL_law_447 rfl rfl ?_
  obtain ⟨S1, P1, hM1, hk1⟩ := t_digit G 168 h (x := g_tf G 0 (i + 1)) z
  refine cSiH (st := []) dL_law_448 hM1 sH_digit rfl (by decide) (by decide) (by decide) ⟨by show k + 8 ≤ 601024; omega, by show sl + 48 ≤ 7293034; omega⟩ (fun r1 h1 fr1 p1 => ?_)
  obtain ⟨k1, S2, P2, rfl, hkb, hM2, ⟨fs1, m1⟩, he1⟩ := hk1 r1 h1 fr1 p1
  refine g_istore (ls' := [(5, .int (nI k1)), (4, .int (nI i)), (0, .float 0), (1, .ref 0), (2, .ref 142), (3, .ref 167)]) dL_law_451 (by decide) rfl ?_
  refine g_aload_n dL_law_453 rfl rfl ?_
  refine g_aload_nS dL_law_454 rfl rfl ?_
  refine g_iload dL_law_455 rfl ?_
  refine g_iconst (v := nI 1) dL_law_457 (by decide) ?_
  refine g_iaddN dL_law_458 ?_
  refine g_saldN dL_law_459 (t := 0) (by decide) (by decide) (by show _ < g_L G; omega) hL' ?_
  refine cVi (st := []) dL_law_460 hM2 sL_113 m1 rfl rfl (by decide) (by decide) (by decide) ⟨by show k + 8 + 0 ≤ 601024; omega, by show sl + 48 + 0 ≤ 7293034; omega⟩ (fun b2 h2 fr2 p2 => ?_)
  obtain ⟨ou2, z2, ha2⟩ := he1 b2 h2 fr2 p2
  refine g_istore (ls' := [(6, .int b2), (5, .int (nI k1)), (4, .int (nI i)), (0, .float 0), (1, .ref 0), (2, .ref 142), (3, .ref 167)]) dL_law_463 (by decide) rfl ?_
  refine g_aload_n dL_law_465 rfl rfl ?_
  obtain ⟨s2, kx, mx, sgx, cmx, sdx, mmx, drx, ddx, bkx, rtx, wtx, m2, o2⟩ := z2.mc
  refine cVi (st := []) dL_law_466 (c_thrown G 9 168 false h2 m2) sL_94 m2 rfl rfl (by decide) (by decide) (by decide) ⟨by show k + 8 + 0 + 0 ≤ 601024; omega, by show sl + 48 + 0 + 0 ≤ 7293034; omega⟩ (fun r3 h3 fr3 p3 => ?_)
  cases g_fr0 fr3
  subst p3
  refine g_iload dL_law_469 rfl ?_
  refine g_icmp_eqN (tgt := 476) dL_law_471 (by decide) hkb hkb (fun c471 => ?_) (fun c471 => ?_)
  · refine g_iload dL_law_476 rfl ?_
    refine g_if_neN (tgt := 493) dL_law_478 (by decide) hkb (fun c478 => ?_) (fun c478 => ?_)
    · refine g_goto (tgt := 1454) dL_law_493 (by decide) ?_
      refine g_pick [2, 3, 4, 5, 6] (ls' := [(4, .int (nI i)), (0, .float 0), (1, .ref 0), (2, .ref 142), (3, .ref 167)]) rfl ?_
      exact cont h2 k1 ou2 z2
    · refine g_aload_n dL_law_481 rfl rfl ?_
      refine g_iconst (v := nI 0) dL_law_482 (by decide) ?_
      refine g_laldN dL_law_483 o2 (by decide) (by decide) ?_
      refine g_topl (show ou2 0 = b2.toInt64 from (ha2 c478)) ?_
      refine g_iload dL_law_484 rfl ?_
      refine g_i2l dL_law_486 ?_
      refine g_lcmp dL_law_487 ?_
      refine g_if_eq (tgt := 493) dL_law_488 (by decide) (fun c488 => ?_) (fun c488 => ?_)
      · refine g_goto (tgt := 1454) dL_law_493 (by decide) ?_
        refine g_pick [2, 3, 4, 5, 6] (ls' := [(4, .int (nI i)), (0, .float 0), (1, .ref 0), (2, .ref 142), (3, .ref 167)]) rfl ?_
        exact cont h2 k1 ou2 z2
      · exact absurd (g_lcE.mpr rfl) c488
  · exact absurd rfl c471
set_option maxHeartbeats 4000000 in
set_option maxRecDepth 100000 in
theorem L_coins (G : gG) (hL : g_L G ≤ 3072) (h : gH) {i k sl kk : Nat} {ou : Nat → Int64} (hi : i + 6 ≤ g_L G) (z : Rel h kk ou) (hk8 : k + 8 ≤ 600000) (hs8 : sl + 48 ≤ 7000000) (cont : ∀ (h' : gH) (kk' : Nat) (ou' : Nat → Int64), Rel h' kk' ou' → g_W G mL_law room_1 (g_KL G) 168 false h' (k + 8) (sl + 48) 1454 [(4, .int (nI i)), (0, .float 0), (1, .ref 0), (2, .ref 142), (3, .ref 167)] []) : g_W G mL_law room_1 (g_KL G) 168 false h k sl 496 [(4, .int (nI i)), (0, .float 0), (1, .ref 0), (2, .ref 142), (3, .ref 167)] [] := by
  have hL' : g_tn G 0 < 2 ^ 31 := (by show g_L G < _; omega)
  refine g_aload_n dL_law_496 rfl rfl ?_
  refine g_aload_nS dL_law_497 rfl rfl ?_
  refine g_iload dL_law_498 rfl ?_
  refine g_iconst (v := nI 1) dL_law_500 (by decide) ?_
  refine g_iaddN dL_law_501 ?_
  refine g_saldN dL_law_502 (t := 0) (by decide) (by decide) (by show _ < g_L G; omega) hL' ?_
  refine g_aload_nS dL_law_503 rfl rfl ?_
  refine g_iload dL_law_504 rfl ?_
  refine g_iconst (v := nI 2) dL_law_506 (by decide) ?_
  refine g_iaddN dL_law_507 ?_
  refine g_saldN dL_law_508 (t := 0) (by decide) (by decide) (by show _ < g_L G; omega) hL' ?_
  refine g_aload_n dL_law_509 rfl rfl ?_
  obtain ⟨S1, P1, hM1, hk1⟩ := t_coins G 168 h (x := g_tf G 0 (i + 1)) (y := g_tf G 0 (i + 2)) z
  refine cSiH (st := []) dL_law_510 hM1 sH_coins rfl (by decide) (by decide) (by decide) ⟨by show k + 8 ≤ 601024; omega, by show sl + 48 ≤ 7293034; omega⟩ (fun r1 h1 fr1 p1 => ?_)
  obtain ⟨k1, S2, P2, rfl, hkb, hM2, ⟨fs1, m1⟩, he1⟩ := hk1 r1 h1 fr1 p1
  refine g_istore (ls' := [(5, .int (nI k1)), (4, .int (nI i)), (0, .float 0), (1, .ref 0), (2, .ref 142), (3, .ref 167)]) dL_law_513 (by decide) rfl ?_
  refine g_aload_n dL_law_515 rfl rfl ?_
  refine g_aload_nS dL_law_516 rfl rfl ?_
  refine g_iload dL_law_517 rfl ?_
  refine g_iconst (v := nI 1) dL_law_519 (by decide) ?_
  refine g_iaddN dL_law_520 ?_
  refine g_saldN dL_law_521 (t := 0) (by decide) (by decide) (by show _ < g_L G; omega) hL' ?_
  refine g_aload_nS dL_law_522 rfl rfl ?_
  refine g_iload dL_law_523 rfl ?_
  refine g_iconst (v := nI 2) dL_law_525 (by decide) ?_
  refine g_iaddN dL_law_526 ?_
  refine g_saldN dL_law_527 (t := 0) (by decide) (by decide) (by show _ < g_L G; omega) hL' ?_
  refine cVi (st := []) dL_law_528 hM2 sL_116 m1 rfl rfl (by decide) (by decide) (by decide) ⟨by show k + 8 + 0 ≤ 601024; omega, by show sl + 48 + 0 ≤ 7293034; omega⟩ (fun b2 h2 fr2 p2 => ?_)
  obtain ⟨ou2, z2, ha2⟩ := he1 b2 h2 fr2 p2
  refine g_istore (ls' := [(6, .int b2), (5, .int (nI k1)), (4, .int (nI i)), (0, .float 0), (1, .ref 0), (2, .ref 142), (3, .ref 167)]) dL_law_531 (by decide) rfl ?_
  refine g_aload_n dL_law_533 rfl rfl ?_
  obtain ⟨s2, kx, mx, sgx, cmx, sdx, mmx, drx, ddx, bkx, rtx, wtx, m2, o2⟩ := z2.mc
  refine cVi (st := []) dL_law_534 (c_thrown G 9 168 false h2 m2) sL_94 m2 rfl rfl (by decide) (by decide) (by decide) ⟨by show k + 8 + 0 + 0 ≤ 601024; omega, by show sl + 48 + 0 + 0 ≤ 7293034; omega⟩ (fun r3 h3 fr3 p3 => ?_)
  cases g_fr0 fr3
  subst p3
  refine g_iload dL_law_537 rfl ?_
  refine g_icmp_eqN (tgt := 544) dL_law_539 (by decide) hkb hkb (fun c539 => ?_) (fun c539 => ?_)
  · refine g_iload dL_law_544 rfl ?_
    refine g_if_neN (tgt := 561) dL_law_546 (by decide) hkb (fun c546 => ?_) (fun c546 => ?_)
    · refine g_goto (tgt := 1454) dL_law_561 (by decide) ?_
      refine g_pick [2, 3, 4, 5, 6] (ls' := [(4, .int (nI i)), (0, .float 0), (1, .ref 0), (2, .ref 142), (3, .ref 167)]) rfl ?_
      exact cont h2 k1 ou2 z2
    · refine g_aload_n dL_law_549 rfl rfl ?_
      refine g_iconst (v := nI 0) dL_law_550 (by decide) ?_
      refine g_laldN dL_law_551 o2 (by decide) (by decide) ?_
      refine g_topl (show ou2 0 = b2.toInt64 from (ha2 c546)) ?_
      refine g_iload dL_law_552 rfl ?_
      refine g_i2l dL_law_554 ?_
      refine g_lcmp dL_law_555 ?_
      refine g_if_eq (tgt := 561) dL_law_556 (by decide) (fun c556 => ?_) (fun c556 => ?_)
      · refine g_goto (tgt := 1454) dL_law_561 (by decide) ?_
        refine g_pick [2, 3, 4, 5, 6] (ls' := [(4, .int (nI i)), (0, .float 0), (1, .ref 0), (2, .ref 142), (3, .ref 167)]) rfl ?_
        exact cont h2 k1 ou2 z2
      · exact absurd (g_lcE.mpr rfl) c556
  · exact absurd rfl c539
set_option maxHeartbeats 4000000 in
set_option maxRecDepth 100000 in
theorem L_start (G : gG) (hL : g_L G ≤ 3072) (h : gH) {i k sl kk : Nat} {ou : Nat → Int64} (hi : i + 6 ≤ g_L G) (z : Rel h kk ou) (hk8 : k + 8 ≤ 600000) (hs8 : sl + 48 ≤ 7000000) (cont : ∀ (h' : gH) (kk' : Nat) (ou' : Nat → Int64), Rel h' kk' ou' → g_W G mL_law room_1 (g_KL G) 168 false h' (k + 8) (sl + 48) 1454 [(4, .int (nI i)), (0, .float 0), (1, .ref 0), (2, .ref 142), (3, .ref 167)] []) : g_W G mL_law room_1 (g_KL G) 168 false h k sl 564 [(4, .int (nI i)), (0, .float 0), (1, .ref 0), (2, .ref 142), (3, .ref 167)] [] := by
  have hL' : g_tn G 0 < 2 ^ 31 := (by show g_L G < _; omega)
  refine g_aload_n dL_law_564 rfl rfl ?_
  refine g_aload_nS dL_law_565 rfl rfl ?_
  refine g_iload dL_law_566 rfl ?_
  refine g_iconst (v := nI 1) dL_law_568 (by decide) ?_
  refine g_iaddN dL_law_569 ?_
  refine g_saldN dL_law_570 (t := 0) (by decide) (by decide) (by show _ < g_L G; omega) hL' ?_
  refine g_if_eq (tgt := 578) dL_law_571 (by decide) (fun c571 => ?_) (fun c571 => ?_)
  · refine g_iconst (v := nI 0) dL_law_578 (by decide) ?_
    refine g_aload_nS dL_law_579 rfl rfl ?_
    refine g_iload dL_law_580 rfl ?_
    refine g_iconst (v := nI 2) dL_law_582 (by decide) ?_
    refine g_iaddN dL_law_583 ?_
    refine g_saldN dL_law_584 (t := 0) (by decide) (by decide) (by show _ < g_L G; omega) hL' ?_
    refine g_if_eq (tgt := 592) dL_law_585 (by decide) (fun c585 => ?_) (fun c585 => ?_)
    · refine g_iconst (v := nI 0) dL_law_592 (by decide) ?_
      obtain ⟨S1, P1, hM1, hk1⟩ := t_start G 168 h (cm1 := 0) (sd1 := 0) (by decide) (by decide) z
      refine cSiH (st := []) dL_law_593 hM1 sH_start rfl (by decide) (by decide) (by decide) ⟨by show k + 8 ≤ 601024; omega, by show sl + 48 ≤ 7293034; omega⟩ (fun r1 h1 fr1 p1 => ?_)
      obtain ⟨k1, S2, P2, rfl, hkb, hM2, ⟨fs1, m1⟩, he1⟩ := hk1 r1 h1 fr1 p1
      refine g_istore (ls' := [(5, .int (nI k1)), (4, .int (nI i)), (0, .float 0), (1, .ref 0), (2, .ref 142), (3, .ref 167)]) dL_law_596 (by decide) rfl ?_
      refine g_aload_n dL_law_598 rfl rfl ?_
      refine g_aload_nS dL_law_599 rfl rfl ?_
      refine g_iload dL_law_600 rfl ?_
      refine g_iconst (v := nI 1) dL_law_602 (by decide) ?_
      refine g_iaddN dL_law_603 ?_
      refine g_saldN dL_law_604 (t := 0) (by decide) (by decide) (by show _ < g_L G; omega) hL' ?_
      refine g_if_eq (tgt := 612) dL_law_605 (by decide) (fun c605 => ?_) (fun c605 => ?_)
      · refine g_iconst (v := nI 0) dL_law_612 (by decide) ?_
        refine g_aload_nS dL_law_613 rfl rfl ?_
        refine g_iload dL_law_614 rfl ?_
        refine g_iconst (v := nI 2) dL_law_616 (by decide) ?_
        refine g_iaddN dL_law_617 ?_
        refine g_saldN dL_law_618 (t := 0) (by decide) (by decide) (by show _ < g_L G; omega) hL' ?_
        refine g_if_eq (tgt := 626) dL_law_619 (by decide) (fun c619 => ?_) (fun c619 => ?_)
        · refine g_iconst (v := nI 0) dL_law_626 (by decide) ?_
          refine cVv (st := []) dL_law_627 hM2 sL_120 m1 rfl rfl (by decide) (by decide) (by decide) ⟨by show k + 8 + 0 ≤ 601024; omega, by show sl + 48 + 0 ≤ 7293034; omega⟩ (fun h2 fr2 p2 => ?_)
          obtain ⟨ou2, z2⟩ := he1 h2 fr2 p2
          refine g_aload_n dL_law_630 rfl rfl ?_
          obtain ⟨s2, kx, mx, sgx, cmx, sdx, mmx, drx, ddx, bkx, rtx, wtx, m2, o2⟩ := z2.mc
          refine cVi (st := []) dL_law_631 (c_thrown G 9 168 false h2 m2) sL_94 m2 rfl rfl (by decide) (by decide) (by decide) ⟨by show k + 8 + 0 + 0 ≤ 601024; omega, by show sl + 48 + 0 + 0 ≤ 7293034; omega⟩ (fun r3 h3 fr3 p3 => ?_)
          cases g_fr0 fr3
          subst p3
          refine g_iload dL_law_634 rfl ?_
          refine g_icmp_eqN (tgt := 641) dL_law_636 (by decide) hkb hkb (fun c636 => ?_) (fun c636 => ?_)
          · refine g_goto (tgt := 1454) dL_law_641 (by decide) ?_
            refine g_pick [1, 2, 3, 4, 5] (ls' := [(4, .int (nI i)), (0, .float 0), (1, .ref 0), (2, .ref 142), (3, .ref 167)]) rfl ?_
            exact cont h2 k1 ou2 z2
          · exact absurd rfl c636
        · exact absurd c585 c619
      · exact absurd c571 c605
    · refine g_iconst (v := nI 1) dL_law_588 (by decide) ?_
      refine g_goto (tgt := 593) dL_law_589 (by decide) ?_
      obtain ⟨S1, P1, hM1, hk1⟩ := t_start G 168 h (cm1 := 0) (sd1 := 1) (by decide) (by decide) z
      refine cSiH (st := []) dL_law_593 hM1 sH_start rfl (by decide) (by decide) (by decide) ⟨by show k + 8 ≤ 601024; omega, by show sl + 48 ≤ 7293034; omega⟩ (fun r1 h1 fr1 p1 => ?_)
      obtain ⟨k1, S2, P2, rfl, hkb, hM2, ⟨fs1, m1⟩, he1⟩ := hk1 r1 h1 fr1 p1
      refine g_istore (ls' := [(5, .int (nI k1)), (4, .int (nI i)), (0, .float 0), (1, .ref 0), (2, .ref 142), (3, .ref 167)]) dL_law_596 (by decide) rfl ?_
      refine g_aload_n dL_law_598 rfl rfl ?_
      refine g_aload_nS dL_law_599 rfl rfl ?_
      refine g_iload dL_law_600 rfl ?_
      refine g_iconst (v := nI 1) dL_law_602 (by decide) ?_
      refine g_iaddN dL_law_603 ?_
      refine g_saldN dL_law_604 (t := 0) (by decide) (by decide) (by show _ < g_L G; omega) hL' ?_
      refine g_if_eq (tgt := 612) dL_law_605 (by decide) (fun c605 => ?_) (fun c605 => ?_)
      · refine g_iconst (v := nI 0) dL_law_612 (by decide) ?_
        refine g_aload_nS dL_law_613 rfl rfl ?_
        refine g_iload dL_law_614 rfl ?_
        refine g_iconst (v := nI 2) dL_law_616 (by decide) ?_
        refine g_iaddN dL_law_617 ?_
        refine g_saldN dL_law_618 (t := 0) (by decide) (by decide) (by show _ < g_L G; omega) hL' ?_
        refine g_if_eq (tgt := 626) dL_law_619 (by decide) (fun c619 => ?_) (fun c619 => ?_)
        · exact absurd c619 c585
        · refine g_iconst (v := nI 1) dL_law_622 (by decide) ?_
          refine g_goto (tgt := 627) dL_law_623 (by decide) ?_
          refine cVv (st := []) dL_law_627 hM2 sL_120 m1 rfl rfl (by decide) (by decide) (by decide) ⟨by show k + 8 + 0 ≤ 601024; omega, by show sl + 48 + 0 ≤ 7293034; omega⟩ (fun h2 fr2 p2 => ?_)
          obtain ⟨ou2, z2⟩ := he1 h2 fr2 p2
          refine g_aload_n dL_law_630 rfl rfl ?_
          obtain ⟨s2, kx, mx, sgx, cmx, sdx, mmx, drx, ddx, bkx, rtx, wtx, m2, o2⟩ := z2.mc
          refine cVi (st := []) dL_law_631 (c_thrown G 9 168 false h2 m2) sL_94 m2 rfl rfl (by decide) (by decide) (by decide) ⟨by show k + 8 + 0 + 0 ≤ 601024; omega, by show sl + 48 + 0 + 0 ≤ 7293034; omega⟩ (fun r3 h3 fr3 p3 => ?_)
          cases g_fr0 fr3
          subst p3
          refine g_iload dL_law_634 rfl ?_
          refine g_icmp_eqN (tgt := 641) dL_law_636 (by decide) hkb hkb (fun c636 => ?_) (fun c636 => ?_)
          · refine g_goto (tgt := 1454) dL_law_641 (by decide) ?_
            refine g_pick [1, 2, 3, 4, 5] (ls' := [(4, .int (nI i)), (0, .float 0), (1, .ref 0), (2, .ref 142), (3, .ref 167)]) rfl ?_
            exact cont h2 k1 ou2 z2
          · exact absurd rfl c636
      · exact absurd c571 c605
  · refine g_iconst (v := nI 1) dL_law_574 (by decide) ?_
    refine g_goto (tgt := 579) dL_law_575 (by decide) ?_
    refine g_aload_nS dL_law_579 rfl rfl ?_
    refine g_iload dL_law_580 rfl ?_
    refine g_iconst (v := nI 2) dL_law_582 (by decide) ?_
    refine g_iaddN dL_law_583 ?_
    refine g_saldN dL_law_584 (t := 0) (by decide) (by decide) (by show _ < g_L G; omega) hL' ?_
    refine g_if_eq (tgt := 592) dL_law_585 (by decide) (fun c585 => ?_) (fun c585 => ?_)
    · refine g_iconst (v := nI 0) dL_law_592 (by decide) ?_
      obtain ⟨S1, P1, hM1, hk1⟩ := t_start G 168 h (cm1 := 1) (sd1 := 0) (by decide) (by decide) z
      refine cSiH (st := []) dL_law_593 hM1 sH_start rfl (by decide) (by decide) (by decide) ⟨by show k + 8 ≤ 601024; omega, by show sl + 48 ≤ 7293034; omega⟩ (fun r1 h1 fr1 p1 => ?_)
      obtain ⟨k1, S2, P2, rfl, hkb, hM2, ⟨fs1, m1⟩, he1⟩ := hk1 r1 h1 fr1 p1
      refine g_istore (ls' := [(5, .int (nI k1)), (4, .int (nI i)), (0, .float 0), (1, .ref 0), (2, .ref 142), (3, .ref 167)]) dL_law_596 (by decide) rfl ?_
      refine g_aload_n dL_law_598 rfl rfl ?_
      refine g_aload_nS dL_law_599 rfl rfl ?_
      refine g_iload dL_law_600 rfl ?_
      refine g_iconst (v := nI 1) dL_law_602 (by decide) ?_
      refine g_iaddN dL_law_603 ?_
      refine g_saldN dL_law_604 (t := 0) (by decide) (by decide) (by show _ < g_L G; omega) hL' ?_
      refine g_if_eq (tgt := 612) dL_law_605 (by decide) (fun c605 => ?_) (fun c605 => ?_)
      · exact absurd c605 c571
      · refine g_iconst (v := nI 1) dL_law_608 (by decide) ?_
        refine g_goto (tgt := 613) dL_law_609 (by decide) ?_
        refine g_aload_nS dL_law_613 rfl rfl ?_
        refine g_iload dL_law_614 rfl ?_
        refine g_iconst (v := nI 2) dL_law_616 (by decide) ?_
        refine g_iaddN dL_law_617 ?_
        refine g_saldN dL_law_618 (t := 0) (by decide) (by decide) (by show _ < g_L G; omega) hL' ?_
        refine g_if_eq (tgt := 626) dL_law_619 (by decide) (fun c619 => ?_) (fun c619 => ?_)
        · refine g_iconst (v := nI 0) dL_law_626 (by decide) ?_
          refine cVv (st := []) dL_law_627 hM2 sL_120 m1 rfl rfl (by decide) (by decide) (by decide) ⟨by show k + 8 + 0 ≤ 601024; omega, by show sl + 48 + 0 ≤ 7293034; omega⟩ (fun h2 fr2 p2 => ?_)
          obtain ⟨ou2, z2⟩ := he1 h2 fr2 p2
          refine g_aload_n dL_law_630 rfl rfl ?_
          obtain ⟨s2, kx, mx, sgx, cmx, sdx, mmx, drx, ddx, bkx, rtx, wtx, m2, o2⟩ := z2.mc
          refine cVi (st := []) dL_law_631 (c_thrown G 9 168 false h2 m2) sL_94 m2 rfl rfl (by decide) (by decide) (by decide) ⟨by show k + 8 + 0 + 0 ≤ 601024; omega, by show sl + 48 + 0 + 0 ≤ 7293034; omega⟩ (fun r3 h3 fr3 p3 => ?_)
          cases g_fr0 fr3
          subst p3
          refine g_iload dL_law_634 rfl ?_
          refine g_icmp_eqN (tgt := 641) dL_law_636 (by decide) hkb hkb (fun c636 => ?_) (fun c636 => ?_)
          · refine g_goto (tgt := 1454) dL_law_641 (by decide) ?_
            refine g_pick [1, 2, 3, 4, 5] (ls' := [(4, .int (nI i)), (0, .float 0), (1, .ref 0), (2, .ref 142), (3, .ref 167)]) rfl ?_
            exact cont h2 k1 ou2 z2
          · exact absurd rfl c636
        · exact absurd c585 c619
    · refine g_iconst (v := nI 1) dL_law_588 (by decide) ?_
      refine g_goto (tgt := 593) dL_law_589 (by decide) ?_
      obtain ⟨S1, P1, hM1, hk1⟩ := t_start G 168 h (cm1 := 1) (sd1 := 1) (by decide) (by decide) z
      refine cSiH (st := []) dL_law_593 hM1 sH_start rfl (by decide) (by decide) (by decide) ⟨by show k + 8 ≤ 601024; omega, by show sl + 48 ≤ 7293034; omega⟩ (fun r1 h1 fr1 p1 => ?_)
      obtain ⟨k1, S2, P2, rfl, hkb, hM2, ⟨fs1, m1⟩, he1⟩ := hk1 r1 h1 fr1 p1
      refine g_istore (ls' := [(5, .int (nI k1)), (4, .int (nI i)), (0, .float 0), (1, .ref 0), (2, .ref 142), (3, .ref 167)]) dL_law_596 (by decide) rfl ?_
      refine g_aload_n dL_law_598 rfl rfl ?_
      refine g_aload_nS dL_law_599 rfl rfl ?_
      refine g_iload dL_law_600 rfl ?_
      refine g_iconst (v := nI 1) dL_law_602 (by decide) ?_
      refine g_iaddN dL_law_603 ?_
      refine g_saldN dL_law_604 (t := 0) (by decide) (by decide) (by show _ < g_L G; omega) hL' ?_
      refine g_if_eq (tgt := 612) dL_law_605 (by decide) (fun c605 => ?_) (fun c605 => ?_)
      · exact absurd c605 c571
      · refine g_iconst (v := nI 1) dL_law_608 (by decide) ?_
        refine g_goto (tgt := 613) dL_law_609 (by decide) ?_
        refine g_aload_nS dL_law_613 rfl rfl ?_
        refine g_iload dL_law_614 rfl ?_
        refine g_iconst (v := nI 2) dL_law_616 (by decide) ?_
        refine g_iaddN dL_law_617 ?_
        refine g_saldN dL_law_618 (t := 0) (by decide) (by decide) (by show _ < g_L G; omega) hL' ?_
        refine g_if_eq (tgt := 626) dL_law_619 (by decide) (fun c619 => ?_) (fun c619 => ?_)
        · exact absurd c619 c585
        · refine g_iconst (v := nI 1) dL_law_622 (by decide) ?_
          refine g_goto (tgt := 627) dL_law_623 (by decide) ?_
          refine cVv (st := []) dL_law_627 hM2 sL_120 m1 rfl rfl (by decide) (by decide) (by decide) ⟨by show k + 8 + 0 ≤ 601024; omega, by show sl + 48 + 0 ≤ 7293034; omega⟩ (fun h2 fr2 p2 => ?_)
          obtain ⟨ou2, z2⟩ := he1 h2 fr2 p2
          refine g_aload_n dL_law_630 rfl rfl ?_
          obtain ⟨s2, kx, mx, sgx, cmx, sdx, mmx, drx, ddx, bkx, rtx, wtx, m2, o2⟩ := z2.mc
          refine cVi (st := []) dL_law_631 (c_thrown G 9 168 false h2 m2) sL_94 m2 rfl rfl (by decide) (by decide) (by decide) ⟨by show k + 8 + 0 + 0 ≤ 601024; omega, by show sl + 48 + 0 + 0 ≤ 7293034; omega⟩ (fun r3 h3 fr3 p3 => ?_)
          cases g_fr0 fr3
          subst p3
          refine g_iload dL_law_634 rfl ?_
          refine g_icmp_eqN (tgt := 641) dL_law_636 (by decide) hkb hkb (fun c636 => ?_) (fun c636 => ?_)
          · refine g_goto (tgt := 1454) dL_law_641 (by decide) ?_
            refine g_pick [1, 2, 3, 4, 5] (ls' := [(4, .int (nI i)), (0, .float 0), (1, .ref 0), (2, .ref 142), (3, .ref 167)]) rfl ?_
            exact cont h2 k1 ou2 z2
          · exact absurd rfl c636
set_option maxHeartbeats 4000000 in
set_option maxRecDepth 100000 in
theorem L_draw (G : gG) (hL : g_L G ≤ 3072) (h : gH) {i k sl kk : Nat} {ou : Nat → Int64} (hi : i + 6 ≤ g_L G) (z : Rel h kk ou) (hk8 : k + 8 ≤ 600000) (hs8 : sl + 48 ≤ 7000000) (cont : ∀ (h' : gH) (kk' : Nat) (ou' : Nat → Int64), Rel h' kk' ou' → g_W G mL_law room_1 (g_KL G) 168 false h' (k + 8) (sl + 48) 1454 [(4, .int (nI i)), (0, .float 0), (1, .ref 0), (2, .ref 142), (3, .ref 167)] []) : g_W G mL_law room_1 (g_KL G) 168 false h k sl 644 [(4, .int (nI i)), (0, .float 0), (1, .ref 0), (2, .ref 142), (3, .ref 167)] [] := by
  have hL' : g_tn G 0 < 2 ^ 31 := (by show g_L G < _; omega)
  refine g_aload_n dL_law_644 rfl rfl ?_
  refine g_aload_n dL_law_645 rfl rfl ?_
  obtain ⟨S1, P1, hM1, hk1⟩ := t_draw G 168 h  z
  refine cSiH (st := []) dL_law_646 hM1 sH_draw rfl (by decide) (by decide) (by decide) ⟨by show k + 8 ≤ 601024; omega, by show sl + 48 ≤ 7293034; omega⟩ (fun r1 h1 fr1 p1 => ?_)
  obtain ⟨k1, S2, P2, rfl, hkb, hM2, ⟨fs1, m1⟩, he1⟩ := hk1 r1 h1 fr1 p1
  refine g_istore (ls' := [(5, .int (nI k1)), (4, .int (nI i)), (0, .float 0), (1, .ref 0), (2, .ref 142), (3, .ref 167)]) dL_law_649 (by decide) rfl ?_
  refine g_aload_n dL_law_651 rfl rfl ?_
  refine cVi (st := []) dL_law_652 hM2 sL_124 m1 rfl rfl (by decide) (by decide) (by decide) ⟨by show k + 8 + 0 ≤ 601024; omega, by show sl + 48 + 0 ≤ 7293034; omega⟩ (fun b2 h2 fr2 p2 => ?_)
  obtain ⟨ou2, z2, ha2⟩ := he1 b2 h2 fr2 p2
  refine g_istore (ls' := [(6, .int b2), (5, .int (nI k1)), (4, .int (nI i)), (0, .float 0), (1, .ref 0), (2, .ref 142), (3, .ref 167)]) dL_law_655 (by decide) rfl ?_
  refine g_aload_n dL_law_657 rfl rfl ?_
  obtain ⟨s2, kx, mx, sgx, cmx, sdx, mmx, drx, ddx, bkx, rtx, wtx, m2, o2⟩ := z2.mc
  refine cVi (st := []) dL_law_658 (c_thrown G 9 168 false h2 m2) sL_94 m2 rfl rfl (by decide) (by decide) (by decide) ⟨by show k + 8 + 0 + 0 ≤ 601024; omega, by show sl + 48 + 0 + 0 ≤ 7293034; omega⟩ (fun r3 h3 fr3 p3 => ?_)
  cases g_fr0 fr3
  subst p3
  refine g_iload dL_law_661 rfl ?_
  refine g_icmp_eqN (tgt := 668) dL_law_663 (by decide) hkb hkb (fun c663 => ?_) (fun c663 => ?_)
  · refine g_iload dL_law_668 rfl ?_
    refine g_if_neN (tgt := 685) dL_law_670 (by decide) hkb (fun c670 => ?_) (fun c670 => ?_)
    · refine g_goto (tgt := 1454) dL_law_685 (by decide) ?_
      refine g_pick [2, 3, 4, 5, 6] (ls' := [(4, .int (nI i)), (0, .float 0), (1, .ref 0), (2, .ref 142), (3, .ref 167)]) rfl ?_
      exact cont h2 k1 ou2 z2
    · refine g_aload_n dL_law_673 rfl rfl ?_
      refine g_iconst (v := nI 0) dL_law_674 (by decide) ?_
      refine g_laldN dL_law_675 o2 (by decide) (by decide) ?_
      refine g_topl (show ou2 0 = b2.toInt64 from (ha2 c670)) ?_
      refine g_iload dL_law_676 rfl ?_
      refine g_i2l dL_law_678 ?_
      refine g_lcmp dL_law_679 ?_
      refine g_if_eq (tgt := 685) dL_law_680 (by decide) (fun c680 => ?_) (fun c680 => ?_)
      · refine g_goto (tgt := 1454) dL_law_685 (by decide) ?_
        refine g_pick [2, 3, 4, 5, 6] (ls' := [(4, .int (nI i)), (0, .float 0), (1, .ref 0), (2, .ref 142), (3, .ref 167)]) rfl ?_
        exact cont h2 k1 ou2 z2
      · exact absurd (g_lcE.mpr rfl) c680
  · exact absurd rfl c663
set_option maxHeartbeats 4000000 in
set_option maxRecDepth 100000 in
theorem L_see (G : gG) (hL : g_L G ≤ 3072) (h : gH) {i k sl kk : Nat} {ou : Nat → Int64} (hi : i + 6 ≤ g_L G) (z : Rel h kk ou) (hk8 : k + 8 ≤ 600000) (hs8 : sl + 48 ≤ 7000000) (cont : ∀ (h' : gH) (kk' : Nat) (ou' : Nat → Int64), Rel h' kk' ou' → g_W G mL_law room_1 (g_KL G) 168 false h' (k + 8) (sl + 48) 1454 [(4, .int (nI i)), (0, .float 0), (1, .ref 0), (2, .ref 142), (3, .ref 167)] []) : g_W G mL_law room_1 (g_KL G) 168 false h k sl 688 [(4, .int (nI i)), (0, .float 0), (1, .ref 0), (2, .ref 142), (3, .ref 167)] [] := by
  have hL' : g_tn G 0 < 2 ^ 31 := (by show g_L G < _; omega)
  refine g_aload_n dL_law_688 rfl rfl ?_
  refine g_aload_nS dL_law_689 rfl rfl ?_
  refine g_iload dL_law_690 rfl ?_
  refine g_iconst (v := nI 1) dL_law_692 (by decide) ?_
  refine g_iaddN dL_law_693 ?_
  refine g_saldN dL_law_694 (t := 0) (by decide) (by decide) (by show _ < g_L G; omega) hL' ?_
  refine g_aload_n dL_law_695 rfl rfl ?_
  obtain ⟨S1, P1, hM1, hk1⟩ := t_see G 168 h (x := g_tf G 0 (i + 1)) z
  refine cSiH (st := []) dL_law_696 hM1 sH_see rfl (by decide) (by decide) (by decide) ⟨by show k + 8 ≤ 601024; omega, by show sl + 48 ≤ 7293034; omega⟩ (fun r1 h1 fr1 p1 => ?_)
  obtain ⟨k1, S2, P2, rfl, hkb, hM2, ⟨fs1, m1⟩, he1⟩ := hk1 r1 h1 fr1 p1
  refine g_istore (ls' := [(5, .int (nI k1)), (4, .int (nI i)), (0, .float 0), (1, .ref 0), (2, .ref 142), (3, .ref 167)]) dL_law_699 (by decide) rfl ?_
  refine g_aload_n dL_law_701 rfl rfl ?_
  refine g_aload_nS dL_law_702 rfl rfl ?_
  refine g_iload dL_law_703 rfl ?_
  refine g_iconst (v := nI 1) dL_law_705 (by decide) ?_
  refine g_iaddN dL_law_706 ?_
  refine g_saldN dL_law_707 (t := 0) (by decide) (by decide) (by show _ < g_L G; omega) hL' ?_
  refine cVi (st := []) dL_law_708 hM2 sL_127 m1 rfl rfl (by decide) (by decide) (by decide) ⟨by show k + 8 + 0 ≤ 601024; omega, by show sl + 48 + 0 ≤ 7293034; omega⟩ (fun b2 h2 fr2 p2 => ?_)
  obtain ⟨ou2, z2, ha2⟩ := he1 b2 h2 fr2 p2
  refine g_istore (ls' := [(6, .int b2), (5, .int (nI k1)), (4, .int (nI i)), (0, .float 0), (1, .ref 0), (2, .ref 142), (3, .ref 167)]) dL_law_711 (by decide) rfl ?_
  refine g_aload_n dL_law_713 rfl rfl ?_
  obtain ⟨s2, kx, mx, sgx, cmx, sdx, mmx, drx, ddx, bkx, rtx, wtx, m2, o2⟩ := z2.mc
  refine cVi (st := []) dL_law_714 (c_thrown G 9 168 false h2 m2) sL_94 m2 rfl rfl (by decide) (by decide) (by decide) ⟨by show k + 8 + 0 + 0 ≤ 601024; omega, by show sl + 48 + 0 + 0 ≤ 7293034; omega⟩ (fun r3 h3 fr3 p3 => ?_)
  cases g_fr0 fr3
  subst p3
  refine g_iload dL_law_717 rfl ?_
  refine g_icmp_eqN (tgt := 724) dL_law_719 (by decide) hkb hkb (fun c719 => ?_) (fun c719 => ?_)
  · refine g_iload dL_law_724 rfl ?_
    refine g_if_neN (tgt := 741) dL_law_726 (by decide) hkb (fun c726 => ?_) (fun c726 => ?_)
    · refine g_goto (tgt := 1454) dL_law_741 (by decide) ?_
      refine g_pick [2, 3, 4, 5, 6] (ls' := [(4, .int (nI i)), (0, .float 0), (1, .ref 0), (2, .ref 142), (3, .ref 167)]) rfl ?_
      exact cont h2 k1 ou2 z2
    · refine g_aload_n dL_law_729 rfl rfl ?_
      refine g_iconst (v := nI 0) dL_law_730 (by decide) ?_
      refine g_laldN dL_law_731 o2 (by decide) (by decide) ?_
      refine g_topl (show ou2 0 = b2.toInt64 from (ha2 c726)) ?_
      refine g_iload dL_law_732 rfl ?_
      refine g_i2l dL_law_734 ?_
      refine g_lcmp dL_law_735 ?_
      refine g_if_eq (tgt := 741) dL_law_736 (by decide) (fun c736 => ?_) (fun c736 => ?_)
      · refine g_goto (tgt := 1454) dL_law_741 (by decide) ?_
        refine g_pick [2, 3, 4, 5, 6] (ls' := [(4, .int (nI i)), (0, .float 0), (1, .ref 0), (2, .ref 142), (3, .ref 167)]) rfl ?_
        exact cont h2 k1 ou2 z2
      · exact absurd (g_lcE.mpr rfl) c736
  · exact absurd rfl c719
set_option maxHeartbeats 4000000 in
set_option maxRecDepth 100000 in
theorem L_counted (G : gG) (hL : g_L G ≤ 3072) (h : gH) {i k sl kk : Nat} {ou : Nat → Int64} (hi : i + 6 ≤ g_L G) (z : Rel h kk ou) (hk8 : k + 8 ≤ 600000) (hs8 : sl + 48 ≤ 7000000) (cont : ∀ (h' : gH) (kk' : Nat) (ou' : Nat → Int64), Rel h' kk' ou' → g_W G mL_law room_1 (g_KL G) 168 false h' (k + 8) (sl + 48) 1454 [(4, .int (nI i)), (0, .float 0), (1, .ref 0), (2, .ref 142), (3, .ref 167)] []) : g_W G mL_law room_1 (g_KL G) 168 false h k sl 744 [(4, .int (nI i)), (0, .float 0), (1, .ref 0), (2, .ref 142), (3, .ref 167)] [] := by
  have hL' : g_tn G 0 < 2 ^ 31 := (by show g_L G < _; omega)
  refine g_aload_n dL_law_744 rfl rfl ?_
  refine g_aload_nS dL_law_745 rfl rfl ?_
  refine g_iload dL_law_746 rfl ?_
  refine g_iconst (v := nI 1) dL_law_748 (by decide) ?_
  refine g_iaddN dL_law_749 ?_
  refine g_saldN dL_law_750 (t := 0) (by decide) (by decide) (by show _ < g_L G; omega) hL' ?_
  refine g_aload_nS dL_law_751 rfl rfl ?_
  refine g_iload dL_law_752 rfl ?_
  refine g_iconst (v := nI 2) dL_law_754 (by decide) ?_
  refine g_iaddN dL_law_755 ?_
  refine g_saldN dL_law_756 (t := 0) (by decide) (by decide) (by show _ < g_L G; omega) hL' ?_
  refine g_aload_n dL_law_757 rfl rfl ?_
  obtain ⟨S1, P1, hM1, hk1⟩ := t_counted G 168 h (x := g_tf G 0 (i + 1)) (y := g_tf G 0 (i + 2)) z
  refine cSiH (st := []) dL_law_758 hM1 sH_counted rfl (by decide) (by decide) (by decide) ⟨by show k + 8 ≤ 601024; omega, by show sl + 48 ≤ 7293034; omega⟩ (fun r1 h1 fr1 p1 => ?_)
  obtain ⟨k1, S2, P2, rfl, hkb, hM2, ⟨fs1, m1⟩, he1⟩ := hk1 r1 h1 fr1 p1
  refine g_istore (ls' := [(5, .int (nI k1)), (4, .int (nI i)), (0, .float 0), (1, .ref 0), (2, .ref 142), (3, .ref 167)]) dL_law_761 (by decide) rfl ?_
  refine g_aload_n dL_law_763 rfl rfl ?_
  refine g_aload_nS dL_law_764 rfl rfl ?_
  refine g_iload dL_law_765 rfl ?_
  refine g_iconst (v := nI 1) dL_law_767 (by decide) ?_
  refine g_iaddN dL_law_768 ?_
  refine g_saldN dL_law_769 (t := 0) (by decide) (by decide) (by show _ < g_L G; omega) hL' ?_
  refine g_aload_nS dL_law_770 rfl rfl ?_
  refine g_iload dL_law_771 rfl ?_
  refine g_iconst (v := nI 2) dL_law_773 (by decide) ?_
  refine g_iaddN dL_law_774 ?_
  refine g_saldN dL_law_775 (t := 0) (by decide) (by decide) (by show _ < g_L G; omega) hL' ?_
  refine cVi (st := []) dL_law_776 hM2 sL_130 m1 rfl rfl (by decide) (by decide) (by decide) ⟨by show k + 8 + 0 ≤ 601024; omega, by show sl + 48 + 0 ≤ 7293034; omega⟩ (fun b2 h2 fr2 p2 => ?_)
  obtain ⟨ou2, z2, ha2⟩ := he1 b2 h2 fr2 p2
  refine g_istore (ls' := [(6, .int b2), (5, .int (nI k1)), (4, .int (nI i)), (0, .float 0), (1, .ref 0), (2, .ref 142), (3, .ref 167)]) dL_law_779 (by decide) rfl ?_
  refine g_aload_n dL_law_781 rfl rfl ?_
  obtain ⟨s2, kx, mx, sgx, cmx, sdx, mmx, drx, ddx, bkx, rtx, wtx, m2, o2⟩ := z2.mc
  refine cVi (st := []) dL_law_782 (c_thrown G 9 168 false h2 m2) sL_94 m2 rfl rfl (by decide) (by decide) (by decide) ⟨by show k + 8 + 0 + 0 ≤ 601024; omega, by show sl + 48 + 0 + 0 ≤ 7293034; omega⟩ (fun r3 h3 fr3 p3 => ?_)
  cases g_fr0 fr3
  subst p3
  refine g_iload dL_law_785 rfl ?_
  refine g_icmp_eqN (tgt := 792) dL_law_787 (by decide) hkb hkb (fun c787 => ?_) (fun c787 => ?_)
  · refine g_iload dL_law_792 rfl ?_
    refine g_if_neN (tgt := 809) dL_law_794 (by decide) hkb (fun c794 => ?_) (fun c794 => ?_)
    · refine g_goto (tgt := 1454) dL_law_809 (by decide) ?_
      refine g_pick [2, 3, 4, 5, 6] (ls' := [(4, .int (nI i)), (0, .float 0), (1, .ref 0), (2, .ref 142), (3, .ref 167)]) rfl ?_
      exact cont h2 k1 ou2 z2
    · refine g_aload_n dL_law_797 rfl rfl ?_
      refine g_iconst (v := nI 0) dL_law_798 (by decide) ?_
      refine g_laldN dL_law_799 o2 (by decide) (by decide) ?_
      refine g_topl (show ou2 0 = b2.toInt64 from (ha2 c794)) ?_
      refine g_iload dL_law_800 rfl ?_
      refine g_i2l dL_law_802 ?_
      refine g_lcmp dL_law_803 ?_
      refine g_if_eq (tgt := 809) dL_law_804 (by decide) (fun c804 => ?_) (fun c804 => ?_)
      · refine g_goto (tgt := 1454) dL_law_809 (by decide) ?_
        refine g_pick [2, 3, 4, 5, 6] (ls' := [(4, .int (nI i)), (0, .float 0), (1, .ref 0), (2, .ref 142), (3, .ref 167)]) rfl ?_
        exact cont h2 k1 ou2 z2
      · exact absurd (g_lcE.mpr rfl) c804
  · exact absurd rfl c787
set_option maxHeartbeats 4000000 in
set_option maxRecDepth 100000 in
theorem L_again (G : gG) (hL : g_L G ≤ 3072) (h : gH) {i k sl kk : Nat} {ou : Nat → Int64} (hi : i + 6 ≤ g_L G) (z : Rel h kk ou) (hk8 : k + 8 ≤ 600000) (hs8 : sl + 48 ≤ 7000000) (cont : ∀ (h' : gH) (kk' : Nat) (ou' : Nat → Int64), Rel h' kk' ou' → g_W G mL_law room_1 (g_KL G) 168 false h' k sl 1454 [(4, .int (nI i)), (0, .float 0), (1, .ref 0), (2, .ref 142), (3, .ref 167)] []) : g_W G mL_law room_1 (g_KL G) 168 false h k sl 812 [(4, .int (nI i)), (0, .float 0), (1, .ref 0), (2, .ref 142), (3, .ref 167)] [] := by
  have hL' : g_tn G 0 < 2 ^ 31 := (by show g_L G < _; omega)
  refine g_aload_n dL_law_812 rfl rfl ?_
  obtain ⟨S1, P1, hM1, ⟨fs0, m0⟩, hk1⟩ := t_again G 168 h z
  refine cVv (st := []) dL_law_813 hM1 sL_131 m0 rfl rfl (by decide) (by decide) (by decide) ⟨by show k + 0 ≤ 601024; omega, by show sl + 0 ≤ 7293034; omega⟩ (fun h1 fr1 p1 => ?_)
  obtain ⟨S2, P2, hM2, ⟨fs1, m1⟩, he1⟩ := hk1 h1 fr1 p1
  refine g_aload_n dL_law_816 rfl rfl ?_
  refine cVv (st := []) dL_law_817 hM2 sL_134 m1 rfl rfl (by decide) (by decide) (by decide) ⟨by show k + 0 + 0 ≤ 601024; omega, by show sl + 0 + 0 ≤ 7293034; omega⟩ (fun h2 fr2 p2 => ?_)
  obtain ⟨ou2, z2⟩ := he1 h2 fr2 p2
  refine g_goto (tgt := 1454) dL_law_820 (by decide) ?_
  refine g_pick [0, 1, 2, 3, 4] (ls' := [(4, .int (nI i)), (0, .float 0), (1, .ref 0), (2, .ref 142), (3, .ref 167)]) rfl ?_
  exact cont h2 0 ou2 z2
set_option maxHeartbeats 4000000 in
set_option maxRecDepth 100000 in
theorem L_told (G : gG) (hL : g_L G ≤ 3072) (h : gH) {i k sl kk : Nat} {ou : Nat → Int64} (hi : i + 6 ≤ g_L G) (z : Rel h kk ou) (hk8 : k + 8 ≤ 600000) (hs8 : sl + 48 ≤ 7000000) (cont : ∀ (h' : gH) (kk' : Nat) (ou' : Nat → Int64), Rel h' kk' ou' → g_W G mL_law room_1 (g_KL G) 168 false h' (k + 8) (sl + 48) 1454 [(4, .int (nI i)), (0, .float 0), (1, .ref 0), (2, .ref 142), (3, .ref 167)] []) : g_W G mL_law room_1 (g_KL G) 168 false h k sl 823 [(4, .int (nI i)), (0, .float 0), (1, .ref 0), (2, .ref 142), (3, .ref 167)] [] := by
  have hL' : g_tn G 0 < 2 ^ 31 := (by show g_L G < _; omega)
  refine g_aload_n dL_law_823 rfl rfl ?_
  refine g_aload_nS dL_law_824 rfl rfl ?_
  refine g_iload dL_law_825 rfl ?_
  refine g_iconst (v := nI 1) dL_law_827 (by decide) ?_
  refine g_iaddN dL_law_828 ?_
  refine g_saldN dL_law_829 (t := 0) (by decide) (by decide) (by show _ < g_L G; omega) hL' ?_
  refine g_aload_n dL_law_830 rfl rfl ?_
  obtain ⟨S1, P1, hM1, hk1⟩ := t_told G 168 h (x := g_tf G 0 (i + 1)) z
  refine cSiH (st := []) dL_law_831 hM1 sH_told rfl (by decide) (by decide) (by decide) ⟨by show k + 8 ≤ 601024; omega, by show sl + 48 ≤ 7293034; omega⟩ (fun r1 h1 fr1 p1 => ?_)
  obtain ⟨k1, S2, P2, rfl, hkb, hM2, ⟨fs1, m1⟩, he1⟩ := hk1 r1 h1 fr1 p1
  refine g_istore (ls' := [(5, .int (nI k1)), (4, .int (nI i)), (0, .float 0), (1, .ref 0), (2, .ref 142), (3, .ref 167)]) dL_law_834 (by decide) rfl ?_
  refine g_aload_n dL_law_836 rfl rfl ?_
  refine g_aload_nS dL_law_837 rfl rfl ?_
  refine g_iload dL_law_838 rfl ?_
  refine g_iconst (v := nI 1) dL_law_840 (by decide) ?_
  refine g_iaddN dL_law_841 ?_
  refine g_saldN dL_law_842 (t := 0) (by decide) (by decide) (by show _ < g_L G; omega) hL' ?_
  refine cVi (st := []) dL_law_843 hM2 sL_137 m1 rfl rfl (by decide) (by decide) (by decide) ⟨by show k + 8 + 0 ≤ 601024; omega, by show sl + 48 + 0 ≤ 7293034; omega⟩ (fun b2 h2 fr2 p2 => ?_)
  obtain ⟨ou2, z2, ha2⟩ := he1 b2 h2 fr2 p2
  refine g_istore (ls' := [(6, .int b2), (5, .int (nI k1)), (4, .int (nI i)), (0, .float 0), (1, .ref 0), (2, .ref 142), (3, .ref 167)]) dL_law_846 (by decide) rfl ?_
  refine g_aload_n dL_law_848 rfl rfl ?_
  obtain ⟨s2, kx, mx, sgx, cmx, sdx, mmx, drx, ddx, bkx, rtx, wtx, m2, o2⟩ := z2.mc
  refine cVi (st := []) dL_law_849 (c_thrown G 9 168 false h2 m2) sL_94 m2 rfl rfl (by decide) (by decide) (by decide) ⟨by show k + 8 + 0 + 0 ≤ 601024; omega, by show sl + 48 + 0 + 0 ≤ 7293034; omega⟩ (fun r3 h3 fr3 p3 => ?_)
  cases g_fr0 fr3
  subst p3
  refine g_iload dL_law_852 rfl ?_
  refine g_icmp_eqN (tgt := 859) dL_law_854 (by decide) hkb hkb (fun c854 => ?_) (fun c854 => ?_)
  · refine g_iload dL_law_859 rfl ?_
    refine g_if_neN (tgt := 876) dL_law_861 (by decide) hkb (fun c861 => ?_) (fun c861 => ?_)
    · refine g_goto (tgt := 1454) dL_law_876 (by decide) ?_
      refine g_pick [2, 3, 4, 5, 6] (ls' := [(4, .int (nI i)), (0, .float 0), (1, .ref 0), (2, .ref 142), (3, .ref 167)]) rfl ?_
      exact cont h2 k1 ou2 z2
    · refine g_aload_n dL_law_864 rfl rfl ?_
      refine g_iconst (v := nI 0) dL_law_865 (by decide) ?_
      refine g_laldN dL_law_866 o2 (by decide) (by decide) ?_
      refine g_topl (show ou2 0 = b2.toInt64 from (ha2 c861)) ?_
      refine g_iload dL_law_867 rfl ?_
      refine g_i2l dL_law_869 ?_
      refine g_lcmp dL_law_870 ?_
      refine g_if_eq (tgt := 876) dL_law_871 (by decide) (fun c871 => ?_) (fun c871 => ?_)
      · refine g_goto (tgt := 1454) dL_law_876 (by decide) ?_
        refine g_pick [2, 3, 4, 5, 6] (ls' := [(4, .int (nI i)), (0, .float 0), (1, .ref 0), (2, .ref 142), (3, .ref 167)]) rfl ?_
        exact cont h2 k1 ou2 z2
      · exact absurd (g_lcE.mpr rfl) c871
  · exact absurd rfl c854
set_option maxHeartbeats 4000000 in
set_option maxRecDepth 100000 in
theorem L_of (G : gG) (hL : g_L G ≤ 3072) (h : gH) {i k sl kk : Nat} {ou : Nat → Int64} (hi : i + 6 ≤ g_L G) (z : Rel h kk ou) (hk8 : k + 8 ≤ 600000) (hs8 : sl + 48 ≤ 7000000) (cont : ∀ (h' : gH) (kk' : Nat) (ou' : Nat → Int64), Rel h' kk' ou' → g_W G mL_law room_1 (g_KL G) 168 false h' (k + 8) (sl + 48) 1454 [(4, .int (nI i)), (0, .float 0), (1, .ref 0), (2, .ref 142), (3, .ref 167)] []) : g_W G mL_law room_1 (g_KL G) 168 false h k sl 879 [(4, .int (nI i)), (0, .float 0), (1, .ref 0), (2, .ref 142), (3, .ref 167)] [] := by
  have hL' : g_tn G 0 < 2 ^ 31 := (by show g_L G < _; omega)
  refine g_aload_n dL_law_879 rfl rfl ?_
  refine g_aload_nS dL_law_880 rfl rfl ?_
  refine g_iload dL_law_881 rfl ?_
  refine g_iconst (v := nI 1) dL_law_883 (by decide) ?_
  refine g_iaddN dL_law_884 ?_
  refine g_saldN dL_law_885 (t := 0) (by decide) (by decide) (by show _ < g_L G; omega) hL' ?_
  refine g_aload_nS dL_law_886 rfl rfl ?_
  refine g_iload dL_law_887 rfl ?_
  refine g_iconst (v := nI 2) dL_law_889 (by decide) ?_
  refine g_iaddN dL_law_890 ?_
  refine g_saldN dL_law_891 (t := 0) (by decide) (by decide) (by show _ < g_L G; omega) hL' ?_
  refine g_aload_n dL_law_892 rfl rfl ?_
  obtain ⟨S1, P1, hM1, hk1⟩ := t_of G 168 h (x := g_tf G 0 (i + 1)) (y := g_tf G 0 (i + 2)) z
  refine cSiH (st := []) dL_law_893 hM1 sH_of rfl (by decide) (by decide) (by decide) ⟨by show k + 8 ≤ 601024; omega, by show sl + 48 ≤ 7293034; omega⟩ (fun r1 h1 fr1 p1 => ?_)
  obtain ⟨k1, S2, P2, rfl, hkb, hM2, ⟨fs1, m1⟩, he1⟩ := hk1 r1 h1 fr1 p1
  refine g_istore (ls' := [(5, .int (nI k1)), (4, .int (nI i)), (0, .float 0), (1, .ref 0), (2, .ref 142), (3, .ref 167)]) dL_law_896 (by decide) rfl ?_
  refine g_aload_n dL_law_898 rfl rfl ?_
  refine g_aload_nS dL_law_899 rfl rfl ?_
  refine g_iload dL_law_900 rfl ?_
  refine g_iconst (v := nI 1) dL_law_902 (by decide) ?_
  refine g_iaddN dL_law_903 ?_
  refine g_saldN dL_law_904 (t := 0) (by decide) (by decide) (by show _ < g_L G; omega) hL' ?_
  refine g_aload_nS dL_law_905 rfl rfl ?_
  refine g_iload dL_law_906 rfl ?_
  refine g_iconst (v := nI 2) dL_law_908 (by decide) ?_
  refine g_iaddN dL_law_909 ?_
  refine g_saldN dL_law_910 (t := 0) (by decide) (by decide) (by show _ < g_L G; omega) hL' ?_
  refine cVi (st := []) dL_law_911 hM2 sL_140 m1 rfl rfl (by decide) (by decide) (by decide) ⟨by show k + 8 + 0 ≤ 601024; omega, by show sl + 48 + 0 ≤ 7293034; omega⟩ (fun b2 h2 fr2 p2 => ?_)
  obtain ⟨ou2, z2, ha2⟩ := he1 b2 h2 fr2 p2
  refine g_istore (ls' := [(6, .int b2), (5, .int (nI k1)), (4, .int (nI i)), (0, .float 0), (1, .ref 0), (2, .ref 142), (3, .ref 167)]) dL_law_914 (by decide) rfl ?_
  refine g_aload_n dL_law_916 rfl rfl ?_
  obtain ⟨s2, kx, mx, sgx, cmx, sdx, mmx, drx, ddx, bkx, rtx, wtx, m2, o2⟩ := z2.mc
  refine cVi (st := []) dL_law_917 (c_thrown G 9 168 false h2 m2) sL_94 m2 rfl rfl (by decide) (by decide) (by decide) ⟨by show k + 8 + 0 + 0 ≤ 601024; omega, by show sl + 48 + 0 + 0 ≤ 7293034; omega⟩ (fun r3 h3 fr3 p3 => ?_)
  cases g_fr0 fr3
  subst p3
  refine g_iload dL_law_920 rfl ?_
  refine g_icmp_eqN (tgt := 927) dL_law_922 (by decide) hkb hkb (fun c922 => ?_) (fun c922 => ?_)
  · refine g_iload dL_law_927 rfl ?_
    refine g_if_neN (tgt := 944) dL_law_929 (by decide) hkb (fun c929 => ?_) (fun c929 => ?_)
    · refine g_goto (tgt := 1454) dL_law_944 (by decide) ?_
      refine g_pick [2, 3, 4, 5, 6] (ls' := [(4, .int (nI i)), (0, .float 0), (1, .ref 0), (2, .ref 142), (3, .ref 167)]) rfl ?_
      exact cont h2 k1 ou2 z2
    · refine g_aload_n dL_law_932 rfl rfl ?_
      refine g_iconst (v := nI 0) dL_law_933 (by decide) ?_
      refine g_laldN dL_law_934 o2 (by decide) (by decide) ?_
      refine g_topl (show ou2 0 = b2.toInt64 from (ha2 c929)) ?_
      refine g_iload dL_law_935 rfl ?_
      refine g_i2l dL_law_937 ?_
      refine g_lcmp dL_law_938 ?_
      refine g_if_eq (tgt := 944) dL_law_939 (by decide) (fun c939 => ?_) (fun c939 => ?_)
      · refine g_goto (tgt := 1454) dL_law_944 (by decide) ?_
        refine g_pick [2, 3, 4, 5, 6] (ls' := [(4, .int (nI i)), (0, .float 0), (1, .ref 0), (2, .ref 142), (3, .ref 167)]) rfl ?_
        exact cont h2 k1 ou2 z2
      · exact absurd (g_lcE.mpr rfl) c939
  · exact absurd rfl c922
set_option maxHeartbeats 4000000 in
set_option maxRecDepth 100000 in
theorem L_pair (G : gG) (hL : g_L G ≤ 3072) (h : gH) {i k sl kk : Nat} {ou : Nat → Int64} (hi : i + 6 ≤ g_L G) (z : Rel h kk ou) (hk8 : k + 8 ≤ 600000) (hs8 : sl + 48 ≤ 7000000) (cont : ∀ (h' : gH) (kk' : Nat) (ou' : Nat → Int64), Rel h' kk' ou' → g_W G mL_law room_1 (g_KL G) 168 false h' (k + 8) (sl + 48) 1454 [(4, .int (nI i)), (0, .float 0), (1, .ref 0), (2, .ref 142), (3, .ref 167)] []) : g_W G mL_law room_1 (g_KL G) 168 false h k sl 947 [(4, .int (nI i)), (0, .float 0), (1, .ref 0), (2, .ref 142), (3, .ref 167)] [] := by
  have hL' : g_tn G 0 < 2 ^ 31 := (by show g_L G < _; omega)
  refine g_aload_n dL_law_947 rfl rfl ?_
  refine g_aload_nS dL_law_948 rfl rfl ?_
  refine g_iload dL_law_949 rfl ?_
  refine g_iconst (v := nI 1) dL_law_951 (by decide) ?_
  refine g_iaddN dL_law_952 ?_
  refine g_saldN dL_law_953 (t := 0) (by decide) (by decide) (by show _ < g_L G; omega) hL' ?_
  refine g_aload_nS dL_law_954 rfl rfl ?_
  refine g_iload dL_law_955 rfl ?_
  refine g_iconst (v := nI 2) dL_law_957 (by decide) ?_
  refine g_iaddN dL_law_958 ?_
  refine g_saldN dL_law_959 (t := 0) (by decide) (by decide) (by show _ < g_L G; omega) hL' ?_
  refine g_aload_n dL_law_960 rfl rfl ?_
  obtain ⟨S1, P1, hM1, hk1⟩ := t_pair G 168 h (x := g_tf G 0 (i + 1)) (y := g_tf G 0 (i + 2)) z
  refine cSiH (st := []) dL_law_961 hM1 sH_pair rfl (by decide) (by decide) (by decide) ⟨by show k + 8 ≤ 601024; omega, by show sl + 48 ≤ 7293034; omega⟩ (fun r1 h1 fr1 p1 => ?_)
  obtain ⟨k1, S2, P2, rfl, hkb, hM2, ⟨fs1, m1⟩, he1⟩ := hk1 r1 h1 fr1 p1
  refine g_istore (ls' := [(5, .int (nI k1)), (4, .int (nI i)), (0, .float 0), (1, .ref 0), (2, .ref 142), (3, .ref 167)]) dL_law_964 (by decide) rfl ?_
  refine g_aload_n dL_law_966 rfl rfl ?_
  refine g_aload_nS dL_law_967 rfl rfl ?_
  refine g_iload dL_law_968 rfl ?_
  refine g_iconst (v := nI 1) dL_law_970 (by decide) ?_
  refine g_iaddN dL_law_971 ?_
  refine g_saldN dL_law_972 (t := 0) (by decide) (by decide) (by show _ < g_L G; omega) hL' ?_
  refine g_aload_nS dL_law_973 rfl rfl ?_
  refine g_iload dL_law_974 rfl ?_
  refine g_iconst (v := nI 2) dL_law_976 (by decide) ?_
  refine g_iaddN dL_law_977 ?_
  refine g_saldN dL_law_978 (t := 0) (by decide) (by decide) (by show _ < g_L G; omega) hL' ?_
  refine cVi (st := []) dL_law_979 hM2 sL_143 m1 rfl rfl (by decide) (by decide) (by decide) ⟨by show k + 8 + 0 ≤ 601024; omega, by show sl + 48 + 0 ≤ 7293034; omega⟩ (fun b2 h2 fr2 p2 => ?_)
  obtain ⟨ou2, z2, ha2⟩ := he1 b2 h2 fr2 p2
  refine g_istore (ls' := [(6, .int b2), (5, .int (nI k1)), (4, .int (nI i)), (0, .float 0), (1, .ref 0), (2, .ref 142), (3, .ref 167)]) dL_law_982 (by decide) rfl ?_
  refine g_aload_n dL_law_984 rfl rfl ?_
  obtain ⟨s2, kx, mx, sgx, cmx, sdx, mmx, drx, ddx, bkx, rtx, wtx, m2, o2⟩ := z2.mc
  refine cVi (st := []) dL_law_985 (c_thrown G 9 168 false h2 m2) sL_94 m2 rfl rfl (by decide) (by decide) (by decide) ⟨by show k + 8 + 0 + 0 ≤ 601024; omega, by show sl + 48 + 0 + 0 ≤ 7293034; omega⟩ (fun r3 h3 fr3 p3 => ?_)
  cases g_fr0 fr3
  subst p3
  refine g_iload dL_law_988 rfl ?_
  refine g_icmp_eqN (tgt := 995) dL_law_990 (by decide) hkb hkb (fun c990 => ?_) (fun c990 => ?_)
  · refine g_iload dL_law_995 rfl ?_
    refine g_if_neN (tgt := 1012) dL_law_997 (by decide) hkb (fun c997 => ?_) (fun c997 => ?_)
    · refine g_goto (tgt := 1454) dL_law_1012 (by decide) ?_
      refine g_pick [2, 3, 4, 5, 6] (ls' := [(4, .int (nI i)), (0, .float 0), (1, .ref 0), (2, .ref 142), (3, .ref 167)]) rfl ?_
      exact cont h2 k1 ou2 z2
    · refine g_aload_n dL_law_1000 rfl rfl ?_
      refine g_iconst (v := nI 0) dL_law_1001 (by decide) ?_
      refine g_laldN dL_law_1002 o2 (by decide) (by decide) ?_
      refine g_topl (show ou2 0 = b2.toInt64 from (ha2 c997)) ?_
      refine g_iload dL_law_1003 rfl ?_
      refine g_i2l dL_law_1005 ?_
      refine g_lcmp dL_law_1006 ?_
      refine g_if_eq (tgt := 1012) dL_law_1007 (by decide) (fun c1007 => ?_) (fun c1007 => ?_)
      · refine g_goto (tgt := 1454) dL_law_1012 (by decide) ?_
        refine g_pick [2, 3, 4, 5, 6] (ls' := [(4, .int (nI i)), (0, .float 0), (1, .ref 0), (2, .ref 142), (3, .ref 167)]) rfl ?_
        exact cont h2 k1 ou2 z2
      · exact absurd (g_lcE.mpr rfl) c1007
  · exact absurd rfl c990
set_option maxHeartbeats 4000000 in
set_option maxRecDepth 100000 in
theorem L_ballot (G : gG) (hL : g_L G ≤ 3072) (h : gH) {i k sl kk : Nat} {ou : Nat → Int64} (hi : i + 6 ≤ g_L G) (z : Rel h kk ou) (hk8 : k + 8 ≤ 600000) (hs8 : sl + 48 ≤ 7000000) (cont : ∀ (h' : gH) (kk' : Nat) (ou' : Nat → Int64), Rel h' kk' ou' → g_W G mL_law room_1 (g_KL G) 168 false h' (k + 8) (sl + 48) 1454 [(4, .int (nI i)), (0, .float 0), (1, .ref 0), (2, .ref 142), (3, .ref 167)] []) : g_W G mL_law room_1 (g_KL G) 168 false h k sl 1015 [(4, .int (nI i)), (0, .float 0), (1, .ref 0), (2, .ref 142), (3, .ref 167)] [] := by
  have hL' : g_tn G 0 < 2 ^ 31 := (by show g_L G < _; omega)
  refine g_aload_n dL_law_1015 rfl rfl ?_
  refine g_aload_nS dL_law_1016 rfl rfl ?_
  refine g_iload dL_law_1017 rfl ?_
  refine g_iconst (v := nI 1) dL_law_1019 (by decide) ?_
  refine g_iaddN dL_law_1020 ?_
  refine g_saldN dL_law_1021 (t := 0) (by decide) (by decide) (by show _ < g_L G; omega) hL' ?_
  refine g_aload_nS dL_law_1022 rfl rfl ?_
  refine g_iload dL_law_1023 rfl ?_
  refine g_iconst (v := nI 2) dL_law_1025 (by decide) ?_
  refine g_iaddN dL_law_1026 ?_
  refine g_saldN dL_law_1027 (t := 0) (by decide) (by decide) (by show _ < g_L G; omega) hL' ?_
  refine g_aload_n dL_law_1028 rfl rfl ?_
  obtain ⟨S1, P1, hM1, hk1⟩ := t_ballot G 168 h (x := g_tf G 0 (i + 1)) (y := g_tf G 0 (i + 2)) z
  refine cSiH (st := []) dL_law_1029 hM1 sH_ballot rfl (by decide) (by decide) (by decide) ⟨by show k + 8 ≤ 601024; omega, by show sl + 48 ≤ 7293034; omega⟩ (fun r1 h1 fr1 p1 => ?_)
  obtain ⟨k1, S2, P2, rfl, hkb, hM2, ⟨fs1, m1⟩, he1⟩ := hk1 r1 h1 fr1 p1
  refine g_istore (ls' := [(5, .int (nI k1)), (4, .int (nI i)), (0, .float 0), (1, .ref 0), (2, .ref 142), (3, .ref 167)]) dL_law_1032 (by decide) rfl ?_
  refine g_aload_n dL_law_1034 rfl rfl ?_
  refine g_aload_nS dL_law_1035 rfl rfl ?_
  refine g_iload dL_law_1036 rfl ?_
  refine g_iconst (v := nI 1) dL_law_1038 (by decide) ?_
  refine g_iaddN dL_law_1039 ?_
  refine g_saldN dL_law_1040 (t := 0) (by decide) (by decide) (by show _ < g_L G; omega) hL' ?_
  refine g_aload_nS dL_law_1041 rfl rfl ?_
  refine g_iload dL_law_1042 rfl ?_
  refine g_iconst (v := nI 2) dL_law_1044 (by decide) ?_
  refine g_iaddN dL_law_1045 ?_
  refine g_saldN dL_law_1046 (t := 0) (by decide) (by decide) (by show _ < g_L G; omega) hL' ?_
  refine cVi (st := []) dL_law_1047 hM2 sL_146 m1 rfl rfl (by decide) (by decide) (by decide) ⟨by show k + 8 + 0 ≤ 601024; omega, by show sl + 48 + 0 ≤ 7293034; omega⟩ (fun b2 h2 fr2 p2 => ?_)
  obtain ⟨ou2, z2, ha2⟩ := he1 b2 h2 fr2 p2
  refine g_istore (ls' := [(6, .int b2), (5, .int (nI k1)), (4, .int (nI i)), (0, .float 0), (1, .ref 0), (2, .ref 142), (3, .ref 167)]) dL_law_1050 (by decide) rfl ?_
  refine g_aload_n dL_law_1052 rfl rfl ?_
  obtain ⟨s2, kx, mx, sgx, cmx, sdx, mmx, drx, ddx, bkx, rtx, wtx, m2, o2⟩ := z2.mc
  refine cVi (st := []) dL_law_1053 (c_thrown G 9 168 false h2 m2) sL_94 m2 rfl rfl (by decide) (by decide) (by decide) ⟨by show k + 8 + 0 + 0 ≤ 601024; omega, by show sl + 48 + 0 + 0 ≤ 7293034; omega⟩ (fun r3 h3 fr3 p3 => ?_)
  cases g_fr0 fr3
  subst p3
  refine g_iload dL_law_1056 rfl ?_
  refine g_icmp_eqN (tgt := 1063) dL_law_1058 (by decide) hkb hkb (fun c1058 => ?_) (fun c1058 => ?_)
  · refine g_iload dL_law_1063 rfl ?_
    refine g_if_neN (tgt := 1080) dL_law_1065 (by decide) hkb (fun c1065 => ?_) (fun c1065 => ?_)
    · refine g_goto (tgt := 1454) dL_law_1080 (by decide) ?_
      refine g_pick [2, 3, 4, 5, 6] (ls' := [(4, .int (nI i)), (0, .float 0), (1, .ref 0), (2, .ref 142), (3, .ref 167)]) rfl ?_
      exact cont h2 k1 ou2 z2
    · refine g_aload_n dL_law_1068 rfl rfl ?_
      refine g_iconst (v := nI 0) dL_law_1069 (by decide) ?_
      refine g_laldN dL_law_1070 o2 (by decide) (by decide) ?_
      refine g_topl (show ou2 0 = b2.toInt64 from (ha2 c1065)) ?_
      refine g_iload dL_law_1071 rfl ?_
      refine g_i2l dL_law_1073 ?_
      refine g_lcmp dL_law_1074 ?_
      refine g_if_eq (tgt := 1080) dL_law_1075 (by decide) (fun c1075 => ?_) (fun c1075 => ?_)
      · refine g_goto (tgt := 1454) dL_law_1080 (by decide) ?_
        refine g_pick [2, 3, 4, 5, 6] (ls' := [(4, .int (nI i)), (0, .float 0), (1, .ref 0), (2, .ref 142), (3, .ref 167)]) rfl ?_
        exact cont h2 k1 ou2 z2
      · exact absurd (g_lcE.mpr rfl) c1075
  · exact absurd rfl c1058
set_option maxHeartbeats 4000000 in
set_option maxRecDepth 100000 in
theorem L_digest (G : gG) (hL : g_L G ≤ 3072) (h : gH) {i k sl kk : Nat} {ou : Nat → Int64} (hi : i + 6 ≤ g_L G) (z : Rel h kk ou) (hk8 : k + 8 ≤ 600000) (hs8 : sl + 48 ≤ 7000000) (cont : ∀ (h' : gH) (kk' : Nat) (ou' : Nat → Int64), Rel h' kk' ou' → g_W G mL_law room_1 (g_KL G) 168 false h' (k + 8) (sl + 48) 1454 [(4, .int (nI i)), (0, .float 0), (1, .ref 0), (2, .ref 142), (3, .ref 167)] []) : g_W G mL_law room_1 (g_KL G) 168 false h k sl 1083 [(4, .int (nI i)), (0, .float 0), (1, .ref 0), (2, .ref 142), (3, .ref 167)] [] := by
  have hL' : g_tn G 0 < 2 ^ 31 := (by show g_L G < _; omega)
  refine g_aload_n dL_law_1083 rfl rfl ?_
  refine g_aload_nS dL_law_1084 rfl rfl ?_
  refine g_iload dL_law_1085 rfl ?_
  refine g_iconst (v := nI 1) dL_law_1087 (by decide) ?_
  refine g_iaddN dL_law_1088 ?_
  refine g_saldN dL_law_1089 (t := 0) (by decide) (by decide) (by show _ < g_L G; omega) hL' ?_
  refine g_aload_nS dL_law_1090 rfl rfl ?_
  refine g_iload dL_law_1091 rfl ?_
  refine g_iconst (v := nI 2) dL_law_1093 (by decide) ?_
  refine g_iaddN dL_law_1094 ?_
  refine g_saldN dL_law_1095 (t := 0) (by decide) (by decide) (by show _ < g_L G; omega) hL' ?_
  refine g_aload_n dL_law_1096 rfl rfl ?_
  obtain ⟨S1, P1, hM1, hk1⟩ := t_digest G 168 h (x := g_tf G 0 (i + 1)) (y := g_tf G 0 (i + 2)) z
  refine cSiH (st := []) dL_law_1097 hM1 sH_digest rfl (by decide) (by decide) (by decide) ⟨by show k + 8 ≤ 601024; omega, by show sl + 48 ≤ 7293034; omega⟩ (fun r1 h1 fr1 p1 => ?_)
  obtain ⟨k1, S2, P2, rfl, hkb, hM2, ⟨fs1, m1⟩, he1⟩ := hk1 r1 h1 fr1 p1
  refine g_istore (ls' := [(5, .int (nI k1)), (4, .int (nI i)), (0, .float 0), (1, .ref 0), (2, .ref 142), (3, .ref 167)]) dL_law_1100 (by decide) rfl ?_
  refine g_aload_n dL_law_1102 rfl rfl ?_
  refine g_aload_nS dL_law_1103 rfl rfl ?_
  refine g_iload dL_law_1104 rfl ?_
  refine g_iconst (v := nI 1) dL_law_1106 (by decide) ?_
  refine g_iaddN dL_law_1107 ?_
  refine g_saldN dL_law_1108 (t := 0) (by decide) (by decide) (by show _ < g_L G; omega) hL' ?_
  refine g_aload_nS dL_law_1109 rfl rfl ?_
  refine g_iload dL_law_1110 rfl ?_
  refine g_iconst (v := nI 2) dL_law_1112 (by decide) ?_
  refine g_iaddN dL_law_1113 ?_
  refine g_saldN dL_law_1114 (t := 0) (by decide) (by decide) (by show _ < g_L G; omega) hL' ?_
  refine cVi (st := []) dL_law_1115 hM2 sL_149 m1 rfl rfl (by decide) (by decide) (by decide) ⟨by show k + 8 + 0 ≤ 601024; omega, by show sl + 48 + 0 ≤ 7293034; omega⟩ (fun b2 h2 fr2 p2 => ?_)
  obtain ⟨ou2, z2, ha2⟩ := he1 b2 h2 fr2 p2
  refine g_istore (ls' := [(6, .int b2), (5, .int (nI k1)), (4, .int (nI i)), (0, .float 0), (1, .ref 0), (2, .ref 142), (3, .ref 167)]) dL_law_1118 (by decide) rfl ?_
  refine g_aload_n dL_law_1120 rfl rfl ?_
  obtain ⟨s2, kx, mx, sgx, cmx, sdx, mmx, drx, ddx, bkx, rtx, wtx, m2, o2⟩ := z2.mc
  refine cVi (st := []) dL_law_1121 (c_thrown G 9 168 false h2 m2) sL_94 m2 rfl rfl (by decide) (by decide) (by decide) ⟨by show k + 8 + 0 + 0 ≤ 601024; omega, by show sl + 48 + 0 + 0 ≤ 7293034; omega⟩ (fun r3 h3 fr3 p3 => ?_)
  cases g_fr0 fr3
  subst p3
  refine g_iload dL_law_1124 rfl ?_
  refine g_icmp_eqN (tgt := 1131) dL_law_1126 (by decide) hkb hkb (fun c1126 => ?_) (fun c1126 => ?_)
  · refine g_iload dL_law_1131 rfl ?_
    refine g_if_neN (tgt := 1148) dL_law_1133 (by decide) hkb (fun c1133 => ?_) (fun c1133 => ?_)
    · refine g_goto (tgt := 1454) dL_law_1148 (by decide) ?_
      refine g_pick [2, 3, 4, 5, 6] (ls' := [(4, .int (nI i)), (0, .float 0), (1, .ref 0), (2, .ref 142), (3, .ref 167)]) rfl ?_
      exact cont h2 k1 ou2 z2
    · refine g_aload_n dL_law_1136 rfl rfl ?_
      refine g_iconst (v := nI 0) dL_law_1137 (by decide) ?_
      refine g_laldN dL_law_1138 o2 (by decide) (by decide) ?_
      refine g_topl (show ou2 0 = b2.toInt64 from (ha2 c1133)) ?_
      refine g_iload dL_law_1139 rfl ?_
      refine g_i2l dL_law_1141 ?_
      refine g_lcmp dL_law_1142 ?_
      refine g_if_eq (tgt := 1148) dL_law_1143 (by decide) (fun c1143 => ?_) (fun c1143 => ?_)
      · refine g_goto (tgt := 1454) dL_law_1148 (by decide) ?_
        refine g_pick [2, 3, 4, 5, 6] (ls' := [(4, .int (nI i)), (0, .float 0), (1, .ref 0), (2, .ref 142), (3, .ref 167)]) rfl ?_
        exact cont h2 k1 ou2 z2
      · exact absurd (g_lcE.mpr rfl) c1143
  · exact absurd rfl c1126
set_option maxHeartbeats 4000000 in
set_option maxRecDepth 100000 in
theorem L_risk (G : gG) (hL : g_L G ≤ 3072) (h : gH) {i k sl kk : Nat} {ou : Nat → Int64} (hi : i + 6 ≤ g_L G) (z : Rel h kk ou) (hk8 : k + 8 ≤ 600000) (hs8 : sl + 48 ≤ 7000000) (cont : ∀ (h' : gH) (kk' : Nat) (ou' : Nat → Int64), Rel h' kk' ou' → g_W G mL_law room_1 (g_KL G) 168 false h' (k + 8) (sl + 48) 1454 [(4, .int (nI i)), (0, .float 0), (1, .ref 0), (2, .ref 142), (3, .ref 167)] []) : g_W G mL_law room_1 (g_KL G) 168 false h k sl 1151 [(4, .int (nI i)), (0, .float 0), (1, .ref 0), (2, .ref 142), (3, .ref 167)] [] := by
  have hL' : g_tn G 0 < 2 ^ 31 := (by show g_L G < _; omega)
  refine g_aload_n dL_law_1151 rfl rfl ?_
  refine g_aload_nS dL_law_1152 rfl rfl ?_
  refine g_iload dL_law_1153 rfl ?_
  refine g_iconst (v := nI 1) dL_law_1155 (by decide) ?_
  refine g_iaddN dL_law_1156 ?_
  refine g_saldN dL_law_1157 (t := 0) (by decide) (by decide) (by show _ < g_L G; omega) hL' ?_
  refine g_aload_nS dL_law_1158 rfl rfl ?_
  refine g_iload dL_law_1159 rfl ?_
  refine g_iconst (v := nI 2) dL_law_1161 (by decide) ?_
  refine g_iaddN dL_law_1162 ?_
  refine g_saldN dL_law_1163 (t := 0) (by decide) (by decide) (by show _ < g_L G; omega) hL' ?_
  refine g_aload_nS dL_law_1164 rfl rfl ?_
  refine g_iload dL_law_1165 rfl ?_
  refine g_iconst (v := nI 3) dL_law_1167 (by decide) ?_
  refine g_iaddN dL_law_1168 ?_
  refine g_saldN dL_law_1169 (t := 0) (by decide) (by decide) (by show _ < g_L G; omega) hL' ?_
  refine g_aload_nS dL_law_1170 rfl rfl ?_
  refine g_iload dL_law_1171 rfl ?_
  refine g_iconst (v := nI 4) dL_law_1173 (by decide) ?_
  refine g_iaddN dL_law_1174 ?_
  refine g_saldN dL_law_1175 (t := 0) (by decide) (by decide) (by show _ < g_L G; omega) hL' ?_
  refine g_aload_nS dL_law_1176 rfl rfl ?_
  refine g_iload dL_law_1177 rfl ?_
  refine g_iconst (v := nI 5) dL_law_1179 (by decide) ?_
  refine g_iaddN dL_law_1180 ?_
  refine g_saldN dL_law_1181 (t := 0) (by decide) (by decide) (by show _ < g_L G; omega) hL' ?_
  refine g_aload_n dL_law_1182 rfl rfl ?_
  obtain ⟨S1, P1, hM1, hk1⟩ := t_risk G 168 h (i_ := g_tf G 0 (i + 1)) (n_ := g_tf G 0 (i + 2)) (x_ := g_tf G 0 (i + 3)) (y_ := g_tf G 0 (i + 4)) (z_ := g_tf G 0 (i + 5)) z
  refine cSiH (st := []) dL_law_1183 hM1 sH_risk rfl (by decide) (by decide) (by decide) ⟨by show k + 8 ≤ 601024; omega, by show sl + 48 ≤ 7293034; omega⟩ (fun r1 h1 fr1 p1 => ?_)
  obtain ⟨k1, S2, P2, rfl, hkb, hM2, ⟨fs1, m1⟩, he1⟩ := hk1 r1 h1 fr1 p1
  refine g_istore (ls' := [(5, .int (nI k1)), (4, .int (nI i)), (0, .float 0), (1, .ref 0), (2, .ref 142), (3, .ref 167)]) dL_law_1186 (by decide) rfl ?_
  refine g_aload_n dL_law_1188 rfl rfl ?_
  refine g_aload_nS dL_law_1189 rfl rfl ?_
  refine g_iload dL_law_1190 rfl ?_
  refine g_iconst (v := nI 1) dL_law_1192 (by decide) ?_
  refine g_iaddN dL_law_1193 ?_
  refine g_saldN dL_law_1194 (t := 0) (by decide) (by decide) (by show _ < g_L G; omega) hL' ?_
  refine g_aload_nS dL_law_1195 rfl rfl ?_
  refine g_iload dL_law_1196 rfl ?_
  refine g_iconst (v := nI 2) dL_law_1198 (by decide) ?_
  refine g_iaddN dL_law_1199 ?_
  refine g_saldN dL_law_1200 (t := 0) (by decide) (by decide) (by show _ < g_L G; omega) hL' ?_
  refine g_aload_nS dL_law_1201 rfl rfl ?_
  refine g_iload dL_law_1202 rfl ?_
  refine g_iconst (v := nI 3) dL_law_1204 (by decide) ?_
  refine g_iaddN dL_law_1205 ?_
  refine g_saldN dL_law_1206 (t := 0) (by decide) (by decide) (by show _ < g_L G; omega) hL' ?_
  refine g_aload_nS dL_law_1207 rfl rfl ?_
  refine g_iload dL_law_1208 rfl ?_
  refine g_iconst (v := nI 4) dL_law_1210 (by decide) ?_
  refine g_iaddN dL_law_1211 ?_
  refine g_saldN dL_law_1212 (t := 0) (by decide) (by decide) (by show _ < g_L G; omega) hL' ?_
  refine g_aload_nS dL_law_1213 rfl rfl ?_
  refine g_iload dL_law_1214 rfl ?_
  refine g_iconst (v := nI 5) dL_law_1216 (by decide) ?_
  refine g_iaddN dL_law_1217 ?_
  refine g_saldN dL_law_1218 (t := 0) (by decide) (by decide) (by show _ < g_L G; omega) hL' ?_
  refine cVi (st := []) dL_law_1219 hM2 sL_153 m1 rfl rfl (by decide) (by decide) (by decide) ⟨by show k + 8 + 0 ≤ 601024; omega, by show sl + 48 + 0 ≤ 7293034; omega⟩ (fun b2 h2 fr2 p2 => ?_)
  obtain ⟨ou2, z2, ha2⟩ := he1 b2 h2 fr2 p2
  refine g_istore (ls' := [(6, .int b2), (5, .int (nI k1)), (4, .int (nI i)), (0, .float 0), (1, .ref 0), (2, .ref 142), (3, .ref 167)]) dL_law_1222 (by decide) rfl ?_
  refine g_aload_n dL_law_1224 rfl rfl ?_
  obtain ⟨s2, kx, mx, sgx, cmx, sdx, mmx, drx, ddx, bkx, rtx, wtx, m2, o2⟩ := z2.mc
  refine cVi (st := []) dL_law_1225 (c_thrown G 9 168 false h2 m2) sL_94 m2 rfl rfl (by decide) (by decide) (by decide) ⟨by show k + 8 + 0 + 0 ≤ 601024; omega, by show sl + 48 + 0 + 0 ≤ 7293034; omega⟩ (fun r3 h3 fr3 p3 => ?_)
  cases g_fr0 fr3
  subst p3
  refine g_iload dL_law_1228 rfl ?_
  refine g_icmp_eqN (tgt := 1235) dL_law_1230 (by decide) hkb hkb (fun c1230 => ?_) (fun c1230 => ?_)
  · refine g_iload dL_law_1235 rfl ?_
    refine g_if_neN (tgt := 1252) dL_law_1237 (by decide) hkb (fun c1237 => ?_) (fun c1237 => ?_)
    · refine g_goto (tgt := 1454) dL_law_1252 (by decide) ?_
      refine g_pick [2, 3, 4, 5, 6] (ls' := [(4, .int (nI i)), (0, .float 0), (1, .ref 0), (2, .ref 142), (3, .ref 167)]) rfl ?_
      exact cont h2 k1 ou2 z2
    · refine g_aload_n dL_law_1240 rfl rfl ?_
      refine g_iconst (v := nI 0) dL_law_1241 (by decide) ?_
      refine g_laldN dL_law_1242 o2 (by decide) (by decide) ?_
      refine g_topl (show ou2 0 = b2.toInt64 from (ha2 c1237)) ?_
      refine g_iload dL_law_1243 rfl ?_
      refine g_i2l dL_law_1245 ?_
      refine g_lcmp dL_law_1246 ?_
      refine g_if_eq (tgt := 1252) dL_law_1247 (by decide) (fun c1247 => ?_) (fun c1247 => ?_)
      · refine g_goto (tgt := 1454) dL_law_1252 (by decide) ?_
        refine g_pick [2, 3, 4, 5, 6] (ls' := [(4, .int (nI i)), (0, .float 0), (1, .ref 0), (2, .ref 142), (3, .ref 167)]) rfl ?_
        exact cont h2 k1 ou2 z2
      · exact absurd (g_lcE.mpr rfl) c1247
  · exact absurd rfl c1230
set_option maxHeartbeats 4000000 in
set_option maxRecDepth 100000 in
theorem L_show (G : gG) (hL : g_L G ≤ 3072) (h : gH) {i k sl kk : Nat} {ou : Nat → Int64} (hi : i + 6 ≤ g_L G) (z : Rel h kk ou) (hk8 : k + 8 ≤ 600000) (hs8 : sl + 48 ≤ 7000000) (cont : ∀ (h' : gH) (kk' : Nat) (ou' : Nat → Int64), Rel h' kk' ou' → g_W G mL_law room_1 (g_KL G) 168 false h' (k + 8) (sl + 48) 1454 [(4, .int (nI i)), (0, .float 0), (1, .ref 0), (2, .ref 142), (3, .ref 167)] []) : g_W G mL_law room_1 (g_KL G) 168 false h k sl 1255 [(4, .int (nI i)), (0, .float 0), (1, .ref 0), (2, .ref 142), (3, .ref 167)] [] := by
  have hL' : g_tn G 0 < 2 ^ 31 := (by show g_L G < _; omega)
  refine g_aload_n dL_law_1255 rfl rfl ?_
  refine g_aload_nS dL_law_1256 rfl rfl ?_
  refine g_iload dL_law_1257 rfl ?_
  refine g_iconst (v := nI 1) dL_law_1259 (by decide) ?_
  refine g_iaddN dL_law_1260 ?_
  refine g_saldN dL_law_1261 (t := 0) (by decide) (by decide) (by show _ < g_L G; omega) hL' ?_
  refine g_aload_nS dL_law_1262 rfl rfl ?_
  refine g_iload dL_law_1263 rfl ?_
  refine g_iconst (v := nI 2) dL_law_1265 (by decide) ?_
  refine g_iaddN dL_law_1266 ?_
  refine g_saldN dL_law_1267 (t := 0) (by decide) (by decide) (by show _ < g_L G; omega) hL' ?_
  refine g_aload_n dL_law_1268 rfl rfl ?_
  obtain ⟨S1, P1, hM1, hk1⟩ := t_show G 168 h (x := g_tf G 0 (i + 1)) (y := g_tf G 0 (i + 2)) z
  refine cSiH (st := []) dL_law_1269 hM1 sH_show rfl (by decide) (by decide) (by decide) ⟨by show k + 8 ≤ 601024; omega, by show sl + 48 ≤ 7293034; omega⟩ (fun r1 h1 fr1 p1 => ?_)
  obtain ⟨k1, S2, P2, rfl, hkb, hM2, ⟨fs1, m1⟩, he1⟩ := hk1 r1 h1 fr1 p1
  refine g_istore (ls' := [(5, .int (nI k1)), (4, .int (nI i)), (0, .float 0), (1, .ref 0), (2, .ref 142), (3, .ref 167)]) dL_law_1272 (by decide) rfl ?_
  refine g_aload_n dL_law_1274 rfl rfl ?_
  refine g_aload_nS dL_law_1275 rfl rfl ?_
  refine g_iload dL_law_1276 rfl ?_
  refine g_iconst (v := nI 1) dL_law_1278 (by decide) ?_
  refine g_iaddN dL_law_1279 ?_
  refine g_saldN dL_law_1280 (t := 0) (by decide) (by decide) (by show _ < g_L G; omega) hL' ?_
  refine g_aload_nS dL_law_1281 rfl rfl ?_
  refine g_iload dL_law_1282 rfl ?_
  refine g_iconst (v := nI 2) dL_law_1284 (by decide) ?_
  refine g_iaddN dL_law_1285 ?_
  refine g_saldN dL_law_1286 (t := 0) (by decide) (by decide) (by show _ < g_L G; omega) hL' ?_
  refine cVi (st := []) dL_law_1287 hM2 sL_156 m1 rfl rfl (by decide) (by decide) (by decide) ⟨by show k + 8 + 0 ≤ 601024; omega, by show sl + 48 + 0 ≤ 7293034; omega⟩ (fun b2 h2 fr2 p2 => ?_)
  obtain ⟨ou2, z2, ha2⟩ := he1 b2 h2 fr2 p2
  refine g_istore (ls' := [(6, .int b2), (5, .int (nI k1)), (4, .int (nI i)), (0, .float 0), (1, .ref 0), (2, .ref 142), (3, .ref 167)]) dL_law_1290 (by decide) rfl ?_
  refine g_aload_n dL_law_1292 rfl rfl ?_
  obtain ⟨s2, kx, mx, sgx, cmx, sdx, mmx, drx, ddx, bkx, rtx, wtx, m2, o2⟩ := z2.mc
  refine cVi (st := []) dL_law_1293 (c_thrown G 9 168 false h2 m2) sL_94 m2 rfl rfl (by decide) (by decide) (by decide) ⟨by show k + 8 + 0 + 0 ≤ 601024; omega, by show sl + 48 + 0 + 0 ≤ 7293034; omega⟩ (fun r3 h3 fr3 p3 => ?_)
  cases g_fr0 fr3
  subst p3
  refine g_iload dL_law_1296 rfl ?_
  refine g_icmp_eqN (tgt := 1303) dL_law_1298 (by decide) hkb hkb (fun c1298 => ?_) (fun c1298 => ?_)
  · refine g_iload dL_law_1303 rfl ?_
    refine g_if_neN (tgt := 1327) dL_law_1305 (by decide) hkb (fun c1305 => ?_) (fun c1305 => ?_)
    · refine g_goto (tgt := 1454) dL_law_1327 (by decide) ?_
      refine g_pick [2, 3, 4, 5, 6] (ls' := [(4, .int (nI i)), (0, .float 0), (1, .ref 0), (2, .ref 142), (3, .ref 167)]) rfl ?_
      exact cont h2 k1 ou2 z2
    · refine g_aload_n dL_law_1308 rfl rfl ?_
      refine g_iconst (v := nI 0) dL_law_1309 (by decide) ?_
      obtain ⟨qq, hq1, hq2, hq3⟩ := ha2 c1305
      refine g_laldN dL_law_1310 o2 (by decide) (by decide) ?_
      refine g_topl (show ou2 0 = lN qq from hq3) ?_
      refine g_iload dL_law_1311 rfl ?_
      refine g_top (show b2 = nI qq from hq2) ?_
      refine g_if_eqN (tgt := 1320) dL_law_1313 (by decide) (by omega) (fun c1313 => ?_) (fun c1313 => ?_)
      · have e9 : qq = 0 := by omega
        rw [e9]
        refine g_lconst (v := lN 0) dL_law_1320 (by decide) ?_
        refine g_lc_eqN (tgt := 1327) dL_law_1321 dL_law_1322 (by decide) (by decide) (by decide) (fun c1321 => ?_) (fun c1321 => ?_)
        · refine g_goto (tgt := 1454) dL_law_1327 (by decide) ?_
          refine g_pick [2, 3, 4, 5, 6] (ls' := [(4, .int (nI i)), (0, .float 0), (1, .ref 0), (2, .ref 142), (3, .ref 167)]) rfl ?_
          exact cont h2 k1 ou2 z2
        · exact absurd rfl c1321
      · have e9 : qq = 1 := by omega
        rw [e9]
        refine g_lconst (v := lN 1) dL_law_1316 (by decide) ?_
        refine g_goto (tgt := 1321) dL_law_1317 (by decide) ?_
        refine g_lc_eqN (tgt := 1327) dL_law_1321 dL_law_1322 (by decide) (by decide) (by decide) (fun c1321 => ?_) (fun c1321 => ?_)
        · refine g_goto (tgt := 1454) dL_law_1327 (by decide) ?_
          refine g_pick [2, 3, 4, 5, 6] (ls' := [(4, .int (nI i)), (0, .float 0), (1, .ref 0), (2, .ref 142), (3, .ref 167)]) rfl ?_
          exact cont h2 k1 ou2 z2
        · exact absurd rfl c1321
  · exact absurd rfl c1298
set_option maxHeartbeats 4000000 in
set_option maxRecDepth 100000 in
theorem L_size (G : gG) (hL : g_L G ≤ 3072) (h : gH) {i k sl kk : Nat} {ou : Nat → Int64} (hi : i + 6 ≤ g_L G) (z : Rel h kk ou) (hk8 : k + 8 ≤ 600000) (hs8 : sl + 48 ≤ 7000000) (cont : ∀ (h' : gH) (kk' : Nat) (ou' : Nat → Int64), Rel h' kk' ou' → g_W G mL_law room_1 (g_KL G) 168 false h' (k + 8) (sl + 48) 1454 [(4, .int (nI i)), (0, .float 0), (1, .ref 0), (2, .ref 142), (3, .ref 167)] []) : g_W G mL_law room_1 (g_KL G) 168 false h k sl 1330 [(4, .int (nI i)), (0, .float 0), (1, .ref 0), (2, .ref 142), (3, .ref 167)] [] := by
  have hL' : g_tn G 0 < 2 ^ 31 := (by show g_L G < _; omega)
  refine g_aload_n dL_law_1330 rfl rfl ?_
  refine g_aload_nS dL_law_1331 rfl rfl ?_
  refine g_iload dL_law_1332 rfl ?_
  refine g_iconst (v := nI 1) dL_law_1334 (by decide) ?_
  refine g_iaddN dL_law_1335 ?_
  refine g_saldN dL_law_1336 (t := 0) (by decide) (by decide) (by show _ < g_L G; omega) hL' ?_
  refine g_aload_n dL_law_1337 rfl rfl ?_
  obtain ⟨S1, P1, hM1, hk1⟩ := t_size G 168 h (x := g_tf G 0 (i + 1)) z
  refine cSiH (st := []) dL_law_1338 hM1 sH_size rfl (by decide) (by decide) (by decide) ⟨by show k + 8 ≤ 601024; omega, by show sl + 48 ≤ 7293034; omega⟩ (fun r1 h1 fr1 p1 => ?_)
  obtain ⟨k1, S2, P2, rfl, hkb, hM2, ⟨fs1, m1⟩, he1⟩ := hk1 r1 h1 fr1 p1
  refine g_istore (ls' := [(5, .int (nI k1)), (4, .int (nI i)), (0, .float 0), (1, .ref 0), (2, .ref 142), (3, .ref 167)]) dL_law_1341 (by decide) rfl ?_
  refine g_aload_n dL_law_1343 rfl rfl ?_
  refine g_aload_nS dL_law_1344 rfl rfl ?_
  refine g_iload dL_law_1345 rfl ?_
  refine g_iconst (v := nI 1) dL_law_1347 (by decide) ?_
  refine g_iaddN dL_law_1348 ?_
  refine g_saldN dL_law_1349 (t := 0) (by decide) (by decide) (by show _ < g_L G; omega) hL' ?_
  refine cVi (st := []) dL_law_1350 hM2 sL_159 m1 rfl rfl (by decide) (by decide) (by decide) ⟨by show k + 8 + 0 ≤ 601024; omega, by show sl + 48 + 0 ≤ 7293034; omega⟩ (fun b2 h2 fr2 p2 => ?_)
  obtain ⟨ou2, z2, ha2⟩ := he1 b2 h2 fr2 p2
  refine g_istore (ls' := [(6, .int b2), (5, .int (nI k1)), (4, .int (nI i)), (0, .float 0), (1, .ref 0), (2, .ref 142), (3, .ref 167)]) dL_law_1353 (by decide) rfl ?_
  refine g_aload_n dL_law_1355 rfl rfl ?_
  obtain ⟨s2, kx, mx, sgx, cmx, sdx, mmx, drx, ddx, bkx, rtx, wtx, m2, o2⟩ := z2.mc
  refine cVi (st := []) dL_law_1356 (c_thrown G 9 168 false h2 m2) sL_94 m2 rfl rfl (by decide) (by decide) (by decide) ⟨by show k + 8 + 0 + 0 ≤ 601024; omega, by show sl + 48 + 0 + 0 ≤ 7293034; omega⟩ (fun r3 h3 fr3 p3 => ?_)
  cases g_fr0 fr3
  subst p3
  refine g_iload dL_law_1359 rfl ?_
  refine g_icmp_eqN (tgt := 1366) dL_law_1361 (by decide) hkb hkb (fun c1361 => ?_) (fun c1361 => ?_)
  · refine g_iload dL_law_1366 rfl ?_
    refine g_if_neN (tgt := 1383) dL_law_1368 (by decide) hkb (fun c1368 => ?_) (fun c1368 => ?_)
    · refine g_goto (tgt := 1454) dL_law_1383 (by decide) ?_
      refine g_pick [2, 3, 4, 5, 6] (ls' := [(4, .int (nI i)), (0, .float 0), (1, .ref 0), (2, .ref 142), (3, .ref 167)]) rfl ?_
      exact cont h2 k1 ou2 z2
    · refine g_aload_n dL_law_1371 rfl rfl ?_
      refine g_iconst (v := nI 0) dL_law_1372 (by decide) ?_
      refine g_laldN dL_law_1373 o2 (by decide) (by decide) ?_
      refine g_topl (show ou2 0 = b2.toInt64 from (ha2 c1368)) ?_
      refine g_iload dL_law_1374 rfl ?_
      refine g_i2l dL_law_1376 ?_
      refine g_lcmp dL_law_1377 ?_
      refine g_if_eq (tgt := 1383) dL_law_1378 (by decide) (fun c1378 => ?_) (fun c1378 => ?_)
      · refine g_goto (tgt := 1454) dL_law_1383 (by decide) ?_
        refine g_pick [2, 3, 4, 5, 6] (ls' := [(4, .int (nI i)), (0, .float 0), (1, .ref 0), (2, .ref 142), (3, .ref 167)]) rfl ?_
        exact cont h2 k1 ou2 z2
      · exact absurd (g_lcE.mpr rfl) c1378
  · exact absurd rfl c1361
set_option maxHeartbeats 4000000 in
set_option maxRecDepth 100000 in
theorem L_limb (G : gG) (hL : g_L G ≤ 3072) (h : gH) {i k sl kk : Nat} {ou : Nat → Int64} (hi : i + 6 ≤ g_L G) (z : Rel h kk ou) (hk8 : k + 8 ≤ 600000) (hs8 : sl + 48 ≤ 7000000) (cont : ∀ (h' : gH) (kk' : Nat) (ou' : Nat → Int64), Rel h' kk' ou' → g_W G mL_law room_1 (g_KL G) 168 false h' (k + 8) (sl + 48) 1454 [(4, .int (nI i)), (0, .float 0), (1, .ref 0), (2, .ref 142), (3, .ref 167)] []) : g_W G mL_law room_1 (g_KL G) 168 false h k sl 1386 [(4, .int (nI i)), (0, .float 0), (1, .ref 0), (2, .ref 142), (3, .ref 167)] [] := by
  have hL' : g_tn G 0 < 2 ^ 31 := (by show g_L G < _; omega)
  refine g_aload_n dL_law_1386 rfl rfl ?_
  refine g_aload_nS dL_law_1387 rfl rfl ?_
  refine g_iload dL_law_1388 rfl ?_
  refine g_iconst (v := nI 1) dL_law_1390 (by decide) ?_
  refine g_iaddN dL_law_1391 ?_
  refine g_saldN dL_law_1392 (t := 0) (by decide) (by decide) (by show _ < g_L G; omega) hL' ?_
  refine g_aload_nS dL_law_1393 rfl rfl ?_
  refine g_iload dL_law_1394 rfl ?_
  refine g_iconst (v := nI 2) dL_law_1396 (by decide) ?_
  refine g_iaddN dL_law_1397 ?_
  refine g_saldN dL_law_1398 (t := 0) (by decide) (by decide) (by show _ < g_L G; omega) hL' ?_
  refine g_aload_n dL_law_1399 rfl rfl ?_
  obtain ⟨S1, P1, hM1, hk1⟩ := t_limb G 168 h (x := g_tf G 0 (i + 1)) (y := g_tf G 0 (i + 2)) z
  refine cSiH (st := []) dL_law_1400 hM1 sH_limb rfl (by decide) (by decide) (by decide) ⟨by show k + 8 ≤ 601024; omega, by show sl + 48 ≤ 7293034; omega⟩ (fun r1 h1 fr1 p1 => ?_)
  obtain ⟨k1, S2, P2, rfl, hkb, hM2, ⟨fs1, m1⟩, he1⟩ := hk1 r1 h1 fr1 p1
  refine g_istore (ls' := [(5, .int (nI k1)), (4, .int (nI i)), (0, .float 0), (1, .ref 0), (2, .ref 142), (3, .ref 167)]) dL_law_1403 (by decide) rfl ?_
  refine g_aload_n dL_law_1405 rfl rfl ?_
  refine g_aload_nS dL_law_1406 rfl rfl ?_
  refine g_iload dL_law_1407 rfl ?_
  refine g_iconst (v := nI 1) dL_law_1409 (by decide) ?_
  refine g_iaddN dL_law_1410 ?_
  refine g_saldN dL_law_1411 (t := 0) (by decide) (by decide) (by show _ < g_L G; omega) hL' ?_
  refine g_aload_nS dL_law_1412 rfl rfl ?_
  refine g_iload dL_law_1413 rfl ?_
  refine g_iconst (v := nI 2) dL_law_1415 (by decide) ?_
  refine g_iaddN dL_law_1416 ?_
  refine g_saldN dL_law_1417 (t := 0) (by decide) (by decide) (by show _ < g_L G; omega) hL' ?_
  refine cVi (st := []) dL_law_1418 hM2 sL_162 m1 rfl rfl (by decide) (by decide) (by decide) ⟨by show k + 8 + 0 ≤ 601024; omega, by show sl + 48 + 0 ≤ 7293034; omega⟩ (fun b2 h2 fr2 p2 => ?_)
  obtain ⟨ou2, z2, ha2⟩ := he1 b2 h2 fr2 p2
  refine g_istore (ls' := [(6, .int b2), (5, .int (nI k1)), (4, .int (nI i)), (0, .float 0), (1, .ref 0), (2, .ref 142), (3, .ref 167)]) dL_law_1421 (by decide) rfl ?_
  refine g_aload_n dL_law_1423 rfl rfl ?_
  obtain ⟨s2, kx, mx, sgx, cmx, sdx, mmx, drx, ddx, bkx, rtx, wtx, m2, o2⟩ := z2.mc
  refine cVi (st := []) dL_law_1424 (c_thrown G 9 168 false h2 m2) sL_94 m2 rfl rfl (by decide) (by decide) (by decide) ⟨by show k + 8 + 0 + 0 ≤ 601024; omega, by show sl + 48 + 0 + 0 ≤ 7293034; omega⟩ (fun r3 h3 fr3 p3 => ?_)
  cases g_fr0 fr3
  subst p3
  refine g_iload dL_law_1427 rfl ?_
  refine g_icmp_eqN (tgt := 1434) dL_law_1429 (by decide) hkb hkb (fun c1429 => ?_) (fun c1429 => ?_)
  · refine g_iload dL_law_1434 rfl ?_
    refine g_if_neN (tgt := 1451) dL_law_1436 (by decide) hkb (fun c1436 => ?_) (fun c1436 => ?_)
    · refine g_goto (tgt := 1454) dL_law_1451 (by decide) ?_
      refine g_pick [2, 3, 4, 5, 6] (ls' := [(4, .int (nI i)), (0, .float 0), (1, .ref 0), (2, .ref 142), (3, .ref 167)]) rfl ?_
      exact cont h2 k1 ou2 z2
    · refine g_aload_n dL_law_1439 rfl rfl ?_
      refine g_iconst (v := nI 0) dL_law_1440 (by decide) ?_
      refine g_laldN dL_law_1441 o2 (by decide) (by decide) ?_
      refine g_topl (show ou2 0 = b2.toInt64 from (ha2 c1436)) ?_
      refine g_iload dL_law_1442 rfl ?_
      refine g_i2l dL_law_1444 ?_
      refine g_lcmp dL_law_1445 ?_
      refine g_if_eq (tgt := 1451) dL_law_1446 (by decide) (fun c1446 => ?_) (fun c1446 => ?_)
      · refine g_goto (tgt := 1454) dL_law_1451 (by decide) ?_
        refine g_pick [2, 3, 4, 5, 6] (ls' := [(4, .int (nI i)), (0, .float 0), (1, .ref 0), (2, .ref 142), (3, .ref 167)]) rfl ?_
        exact cont h2 k1 ou2 z2
      · exact absurd (g_lcE.mpr rfl) c1446
  · exact absurd rfl c1429
set_option maxHeartbeats 4000000 in
set_option maxRecDepth 100000 in
theorem L_loop (G : gG) (hL : g_L G ≤ 3072) : ∀ (t i k sl : Nat) (h : gH) (kk : Nat) (ou : Nat → Int64), g_L G + 6 - i < t → i ≤ g_L G → k ≤ 1000 + 2 * i → sl ≤ 400000 + 8 * i → Rel h kk ou →
    g_W G mL_law room_1 (g_KL G) 168 false h k sl 23 [(4, .int (nI i)), (0, .float 0), (1, .ref 0), (2, .ref 142), (3, .ref 167)] [] := by
  intro t
  induction t with
  | zero => intro i k sl h kk ou ht; exact absurd ht (by omega)
  | succ t ih =>
    intro i k sl h kk ou ht hi hk hs z
    have hL' : g_tn G 0 < 2 ^ 31 := (by show g_L G < _; omega)
    refine g_iload dL_law_23 rfl ?_
    refine g_aload_nS dL_law_25 rfl rfl ?_
    refine g_salen dL_law_26 (t := 0) (by decide) (by decide) ?_
    refine g_top (show Int32.ofNat (g_tn G 0) = nI (g_L G) from rfl) ?_
    refine g_bipush (v := nI 6) dL_law_27 (by decide) ?_
    refine g_isub dL_law_29 ?_
    refine g_icmp_gt (tgt := 1460) dL_law_30 (by decide) (fun c30 => ?_) (fun c30 => ?_)
    · refine g_iconst (v := nI 1) dL_law_1460 (by decide) ?_
      exact g_lawEnd dL_law_1461 (by omega) (by omega)
    · have hi6 := lw_cmp hL hi c30
      have cont : ∀ (h' : gH) (kk' : Nat) (ou' : Nat → Int64) (k' sl' : Nat), k' ≤ k + 8 → sl' ≤ sl + 48 → Rel h' kk' ou' → g_W G mL_law room_1 (g_KL G) 168 false h' k' sl' 1454 [(4, .int (nI i)), (0, .float 0), (1, .ref 0), (2, .ref 142), (3, .ref 167)] [] := fun h' kk' ou' k' sl' hk' hs' z' => by
        refine g_iincN (z := 6) (ls' := [(4, .int (nI (i + 6))), (0, .float 0), (1, .ref 0), (2, .ref 142), (3, .ref 167)]) dL_law_1454 rfl (by decide) rfl ?_
        refine g_goto (tgt := 23) dL_law_1457 (by decide) ?_
        exact ih (i + 6) k' sl' h' kk' ou' (by omega) hi6 (by omega) (by omega) z'
      refine g_aload_nS dL_law_33 rfl rfl ?_
      refine g_iload dL_law_34 rfl ?_
      refine g_saldN dL_law_36 (t := 0) (by decide) (by decide) (by show _ < g_L G; omega) hL' ?_
      refine g_bipush (v := nI 31) dL_law_37 (by decide) ?_
      refine g_iand dL_law_39 ?_
      obtain ⟨u, hu, eu⟩ := and31 (g_tf G 0 i)
      refine g_top eu ?_
      have hsw : u = 0 ∨ u = 1 ∨ u = 2 ∨ u = 3 ∨ u = 4 ∨ u = 5 ∨ u = 6 ∨ u = 7 ∨ u = 8 ∨ u = 9 ∨ u = 10 ∨ u = 11 ∨ u = 12 ∨ u = 13 ∨ u = 14 ∨ u = 15 ∨ u = 16 ∨ u = 17 ∨ u = 18 ∨ u = 19 ∨ u = 20 ∨ u = 21 ∨ u = 22 ∨ u = 23 ∨ u = 24 ∨ u = 25 ∨ u = 26 ∨ u = 27 ∨ u = 28 ∨ u = 29 ∨ u = 30 ∨ u = 31 := by omega
      rcases hsw with rfl | rfl | rfl | rfl | rfl | rfl | rfl | rfl | rfl | rfl | rfl | rfl | rfl | rfl | rfl | rfl | rfl | rfl | rfl | rfl | rfl | rfl | rfl | rfl | rfl | rfl | rfl | rfl | rfl | rfl | rfl | rfl
      · refine g_tableIn (tgt := 140) dL_law_40 (by decide) (by decide) rfl (by decide) ?_
        refine g_pick [0, 1, 2, 3, 4] (ls' := [(4, .int (nI i)), (0, .float 0), (1, .ref 0), (2, .ref 142), (3, .ref 167)]) rfl ?_
        exact L_candidate G hL h hi6 z (by omega) (by omega) (fun h' kk' ou' z' => cont h' kk' ou' (k + 8) (sl + 48) (by omega) (by omega) z')
      · refine g_tableIn (tgt := 196) dL_law_40 (by decide) (by decide) rfl (by decide) ?_
        refine g_pick [0, 1, 2, 3, 4] (ls' := [(4, .int (nI i)), (0, .float 0), (1, .ref 0), (2, .ref 142), (3, .ref 167)]) rfl ?_
        exact L_batch G hL h hi6 z (by omega) (by omega) (fun h' kk' ou' z' => cont h' kk' ou' (k + 8) (sl + 48) (by omega) (by omega) z')
      · refine g_tableIn (tgt := 252) dL_law_40 (by decide) (by decide) rfl (by decide) ?_
        refine g_pick [0, 1, 2, 3, 4] (ls' := [(4, .int (nI i)), (0, .float 0), (1, .ref 0), (2, .ref 142), (3, .ref 167)]) rfl ?_
        exact L_set G hL h hi6 z (by omega) (by omega) (fun h' kk' ou' z' => cont h' kk' ou' (k + 8) (sl + 48) (by omega) (by omega) z')
      · refine g_tableIn (tgt := 320) dL_law_40 (by decide) (by decide) rfl (by decide) ?_
        refine g_pick [0, 1, 2, 3, 4] (ls' := [(4, .int (nI i)), (0, .float 0), (1, .ref 0), (2, .ref 142), (3, .ref 167)]) rfl ?_
        exact L_fraction G hL h hi6 z (by omega) (by omega) (fun h' kk' ou' z' => cont h' kk' ou' (k + 8) (sl + 48) (by omega) (by omega) z')
      · refine g_tableIn (tgt := 380) dL_law_40 (by decide) (by decide) rfl (by decide) ?_
        refine g_pick [0, 1, 2, 3, 4] (ls' := [(4, .int (nI i)), (0, .float 0), (1, .ref 0), (2, .ref 142), (3, .ref 167)]) rfl ?_
        exact L_record G hL h hi6 z (by omega) (by omega) (fun h' kk' ou' z' => cont h' kk' ou' (k + 8) (sl + 48) (by omega) (by omega) z')
      · refine g_tableIn (tgt := 440) dL_law_40 (by decide) (by decide) rfl (by decide) ?_
        refine g_pick [0, 1, 2, 3, 4] (ls' := [(4, .int (nI i)), (0, .float 0), (1, .ref 0), (2, .ref 142), (3, .ref 167)]) rfl ?_
        exact L_digit G hL h hi6 z (by omega) (by omega) (fun h' kk' ou' z' => cont h' kk' ou' (k + 8) (sl + 48) (by omega) (by omega) z')
      · refine g_tableIn (tgt := 496) dL_law_40 (by decide) (by decide) rfl (by decide) ?_
        refine g_pick [0, 1, 2, 3, 4] (ls' := [(4, .int (nI i)), (0, .float 0), (1, .ref 0), (2, .ref 142), (3, .ref 167)]) rfl ?_
        exact L_coins G hL h hi6 z (by omega) (by omega) (fun h' kk' ou' z' => cont h' kk' ou' (k + 8) (sl + 48) (by omega) (by omega) z')
      · refine g_tableIn (tgt := 564) dL_law_40 (by decide) (by decide) rfl (by decide) ?_
        refine g_pick [0, 1, 2, 3, 4] (ls' := [(4, .int (nI i)), (0, .float 0), (1, .ref 0), (2, .ref 142), (3, .ref 167)]) rfl ?_
        exact L_start G hL h hi6 z (by omega) (by omega) (fun h' kk' ou' z' => cont h' kk' ou' (k + 8) (sl + 48) (by omega) (by omega) z')
      · refine g_tableIn (tgt := 644) dL_law_40 (by decide) (by decide) rfl (by decide) ?_
        refine g_pick [0, 1, 2, 3, 4] (ls' := [(4, .int (nI i)), (0, .float 0), (1, .ref 0), (2, .ref 142), (3, .ref 167)]) rfl ?_
        exact L_draw G hL h hi6 z (by omega) (by omega) (fun h' kk' ou' z' => cont h' kk' ou' (k + 8) (sl + 48) (by omega) (by omega) z')
      · refine g_tableIn (tgt := 688) dL_law_40 (by decide) (by decide) rfl (by decide) ?_
        refine g_pick [0, 1, 2, 3, 4] (ls' := [(4, .int (nI i)), (0, .float 0), (1, .ref 0), (2, .ref 142), (3, .ref 167)]) rfl ?_
        exact L_see G hL h hi6 z (by omega) (by omega) (fun h' kk' ou' z' => cont h' kk' ou' (k + 8) (sl + 48) (by omega) (by omega) z')
      · refine g_tableIn (tgt := 744) dL_law_40 (by decide) (by decide) rfl (by decide) ?_
        refine g_pick [0, 1, 2, 3, 4] (ls' := [(4, .int (nI i)), (0, .float 0), (1, .ref 0), (2, .ref 142), (3, .ref 167)]) rfl ?_
        exact L_counted G hL h hi6 z (by omega) (by omega) (fun h' kk' ou' z' => cont h' kk' ou' (k + 8) (sl + 48) (by omega) (by omega) z')
      · refine g_tableIn (tgt := 812) dL_law_40 (by decide) (by decide) rfl (by decide) ?_
        refine g_pick [0, 1, 2, 3, 4] (ls' := [(4, .int (nI i)), (0, .float 0), (1, .ref 0), (2, .ref 142), (3, .ref 167)]) rfl ?_
        exact L_again G hL h hi6 z (by omega) (by omega) (fun h' kk' ou' z' => cont h' kk' ou' k sl (by omega) (by omega) z')
      · refine g_tableIn (tgt := 823) dL_law_40 (by decide) (by decide) rfl (by decide) ?_
        refine g_pick [0, 1, 2, 3, 4] (ls' := [(4, .int (nI i)), (0, .float 0), (1, .ref 0), (2, .ref 142), (3, .ref 167)]) rfl ?_
        exact L_told G hL h hi6 z (by omega) (by omega) (fun h' kk' ou' z' => cont h' kk' ou' (k + 8) (sl + 48) (by omega) (by omega) z')
      · refine g_tableIn (tgt := 879) dL_law_40 (by decide) (by decide) rfl (by decide) ?_
        refine g_pick [0, 1, 2, 3, 4] (ls' := [(4, .int (nI i)), (0, .float 0), (1, .ref 0), (2, .ref 142), (3, .ref 167)]) rfl ?_
        exact L_of G hL h hi6 z (by omega) (by omega) (fun h' kk' ou' z' => cont h' kk' ou' (k + 8) (sl + 48) (by omega) (by omega) z')
      · refine g_tableIn (tgt := 947) dL_law_40 (by decide) (by decide) rfl (by decide) ?_
        refine g_pick [0, 1, 2, 3, 4] (ls' := [(4, .int (nI i)), (0, .float 0), (1, .ref 0), (2, .ref 142), (3, .ref 167)]) rfl ?_
        exact L_pair G hL h hi6 z (by omega) (by omega) (fun h' kk' ou' z' => cont h' kk' ou' (k + 8) (sl + 48) (by omega) (by omega) z')
      · refine g_tableIn (tgt := 1015) dL_law_40 (by decide) (by decide) rfl (by decide) ?_
        refine g_pick [0, 1, 2, 3, 4] (ls' := [(4, .int (nI i)), (0, .float 0), (1, .ref 0), (2, .ref 142), (3, .ref 167)]) rfl ?_
        exact L_ballot G hL h hi6 z (by omega) (by omega) (fun h' kk' ou' z' => cont h' kk' ou' (k + 8) (sl + 48) (by omega) (by omega) z')
      · refine g_tableIn (tgt := 1083) dL_law_40 (by decide) (by decide) rfl (by decide) ?_
        refine g_pick [0, 1, 2, 3, 4] (ls' := [(4, .int (nI i)), (0, .float 0), (1, .ref 0), (2, .ref 142), (3, .ref 167)]) rfl ?_
        exact L_digest G hL h hi6 z (by omega) (by omega) (fun h' kk' ou' z' => cont h' kk' ou' (k + 8) (sl + 48) (by omega) (by omega) z')
      · refine g_tableIn (tgt := 1151) dL_law_40 (by decide) (by decide) rfl (by decide) ?_
        refine g_pick [0, 1, 2, 3, 4] (ls' := [(4, .int (nI i)), (0, .float 0), (1, .ref 0), (2, .ref 142), (3, .ref 167)]) rfl ?_
        exact L_risk G hL h hi6 z (by omega) (by omega) (fun h' kk' ou' z' => cont h' kk' ou' (k + 8) (sl + 48) (by omega) (by omega) z')
      · refine g_tableIn (tgt := 1255) dL_law_40 (by decide) (by decide) rfl (by decide) ?_
        refine g_pick [0, 1, 2, 3, 4] (ls' := [(4, .int (nI i)), (0, .float 0), (1, .ref 0), (2, .ref 142), (3, .ref 167)]) rfl ?_
        exact L_show G hL h hi6 z (by omega) (by omega) (fun h' kk' ou' z' => cont h' kk' ou' (k + 8) (sl + 48) (by omega) (by omega) z')
      · refine g_tableIn (tgt := 1330) dL_law_40 (by decide) (by decide) rfl (by decide) ?_
        refine g_pick [0, 1, 2, 3, 4] (ls' := [(4, .int (nI i)), (0, .float 0), (1, .ref 0), (2, .ref 142), (3, .ref 167)]) rfl ?_
        exact L_size G hL h hi6 z (by omega) (by omega) (fun h' kk' ou' z' => cont h' kk' ou' (k + 8) (sl + 48) (by omega) (by omega) z')
      · refine g_tableIn (tgt := 1386) dL_law_40 (by decide) (by decide) rfl (by decide) ?_
        refine g_pick [0, 1, 2, 3, 4] (ls' := [(4, .int (nI i)), (0, .float 0), (1, .ref 0), (2, .ref 142), (3, .ref 167)]) rfl ?_
        exact L_limb G hL h hi6 z (by omega) (by omega) (fun h' kk' ou' z' => cont h' kk' ou' (k + 8) (sl + 48) (by omega) (by omega) z')
      · refine g_tableOut (tgt := 1454) dL_law_40 (by decide) (by decide) ?_
        refine g_pick [0, 1, 2, 3, 4] (ls' := [(4, .int (nI i)), (0, .float 0), (1, .ref 0), (2, .ref 142), (3, .ref 167)]) rfl ?_
        exact cont h kk ou k sl (by omega) (by omega) z
      · refine g_tableOut (tgt := 1454) dL_law_40 (by decide) (by decide) ?_
        refine g_pick [0, 1, 2, 3, 4] (ls' := [(4, .int (nI i)), (0, .float 0), (1, .ref 0), (2, .ref 142), (3, .ref 167)]) rfl ?_
        exact cont h kk ou k sl (by omega) (by omega) z
      · refine g_tableOut (tgt := 1454) dL_law_40 (by decide) (by decide) ?_
        refine g_pick [0, 1, 2, 3, 4] (ls' := [(4, .int (nI i)), (0, .float 0), (1, .ref 0), (2, .ref 142), (3, .ref 167)]) rfl ?_
        exact cont h kk ou k sl (by omega) (by omega) z
      · refine g_tableOut (tgt := 1454) dL_law_40 (by decide) (by decide) ?_
        refine g_pick [0, 1, 2, 3, 4] (ls' := [(4, .int (nI i)), (0, .float 0), (1, .ref 0), (2, .ref 142), (3, .ref 167)]) rfl ?_
        exact cont h kk ou k sl (by omega) (by omega) z
      · refine g_tableOut (tgt := 1454) dL_law_40 (by decide) (by decide) ?_
        refine g_pick [0, 1, 2, 3, 4] (ls' := [(4, .int (nI i)), (0, .float 0), (1, .ref 0), (2, .ref 142), (3, .ref 167)]) rfl ?_
        exact cont h kk ou k sl (by omega) (by omega) z
      · refine g_tableOut (tgt := 1454) dL_law_40 (by decide) (by decide) ?_
        refine g_pick [0, 1, 2, 3, 4] (ls' := [(4, .int (nI i)), (0, .float 0), (1, .ref 0), (2, .ref 142), (3, .ref 167)]) rfl ?_
        exact cont h kk ou k sl (by omega) (by omega) z
      · refine g_tableOut (tgt := 1454) dL_law_40 (by decide) (by decide) ?_
        refine g_pick [0, 1, 2, 3, 4] (ls' := [(4, .int (nI i)), (0, .float 0), (1, .ref 0), (2, .ref 142), (3, .ref 167)]) rfl ?_
        exact cont h kk ou k sl (by omega) (by omega) z
      · refine g_tableOut (tgt := 1454) dL_law_40 (by decide) (by decide) ?_
        refine g_pick [0, 1, 2, 3, 4] (ls' := [(4, .int (nI i)), (0, .float 0), (1, .ref 0), (2, .ref 142), (3, .ref 167)]) rfl ?_
        exact cont h kk ou k sl (by omega) (by omega) z
      · refine g_tableOut (tgt := 1454) dL_law_40 (by decide) (by decide) ?_
        refine g_pick [0, 1, 2, 3, 4] (ls' := [(4, .int (nI i)), (0, .float 0), (1, .ref 0), (2, .ref 142), (3, .ref 167)]) rfl ?_
        exact cont h kk ou k sl (by omega) (by omega) z
      · refine g_tableOut (tgt := 1454) dL_law_40 (by decide) (by decide) ?_
        refine g_pick [0, 1, 2, 3, 4] (ls' := [(4, .int (nI i)), (0, .float 0), (1, .ref 0), (2, .ref 142), (3, .ref 167)]) rfl ?_
        exact cont h kk ou k sl (by omega) (by omega) z
      · refine g_tableOut (tgt := 1454) dL_law_40 (by decide) (by decide) ?_
        refine g_pick [0, 1, 2, 3, 4] (ls' := [(4, .int (nI i)), (0, .float 0), (1, .ref 0), (2, .ref 142), (3, .ref 167)]) rfl ?_
        exact cont h kk ou k sl (by omega) (by omega) z
set_option maxHeartbeats 4000000 in
set_option maxRecDepth 100000 in
theorem Rel_0 {h1 h2 h3 : gH} (P : Au h1 0 0 0 ∧ Su h1 s0 (fun _ => 0) (fun _ => 0) (fun _ => 0) (fun _ => 0) ∧ Co h1 (fun _ => 0) 0 ∧ Sd h1 (fun _ => 0) 0 ∧ Dl h1 (fun _ => 0) (fun _ => 0) (fun _ => 0) (fun k => nI ((fun _ => 0) k)) 0 0 0 ∧ Te h1 0 0 0 ∧ TeR h1 ∧ Fc h1 (fun _ => 0) (fun _ => 0) 0 0 ∧ Od h1 ∧ Fr h1 137 328 0 1) (hf : g_fr [142, 143, 144, 145, 146, 147, 148, 149, 150, 151, 152, 153, 154, 155, 156, 157, 158, 159, 160, 161, 162, 163, 164, 165, 166, 167] h1 h3) {m0 : Mc h2 (nI 0) s0 0 0 0 0 0 0 0 0 0 0 (-1)} (a3 : h2 143 = some (.inl (0, 8, .inl (fun k => nI ((fun _ => 0) k))))) (a4 : h2 144 = some (.inl (0, 65, .inl (fun k => nI ((fun _ => 0) k))))) (a5 : h2 145 = some (.inl (1, 20000, .inl (fun k => nI ((fun _ => 0) k))))) (a7 : h2 147 = some (.inl (1, 4000, .inl (fun k => nI ((fun _ => 0) k))))) (a8 : h2 148 = some (.inl (2, 8, .inl (fun k => nI ((fun _ => 0) k))))) (a9 : h2 149 = some (.inl (0, 16, .inl (fun k => nI ((fun _ => 0) k))))) (a10 : h2 150 = some (.inl (0, 16, .inl (fun k => nI ((fun _ => 0) k))))) (a11 : h2 151 = some (.inl (0, 16, .inl (fun k => nI ((fun _ => 0) k))))) (a12 : h2 152 = some (.inl (0, 8, .inl (fun k => nI ((fun _ => 0) k))))) (a13 : h2 153 = some (.inl (1, 20000, .inl (fun k => nI ((fun _ => 0) k))))) (a14 : h2 154 = some (.inl (0, 20000, .inl (fun k => nI ((fun _ => 0) k))))) (a15 : h2 155 = some (.inl (0, 8, .inl (fun k => nI ((fun _ => 0) k))))) (a16 : h2 158 = some (.inl (0, 77000, .inl (fun k => nI ((fun _ => 0) k))))) (a17 : h2 159 = some (.inl (0, 77000, .inl (fun k => nI ((fun _ => 0) k))))) (a18 : h2 166 = some (.inl (2, 961, .inl (fun k => nI ((fun _ => 0) k))))) (hM : Mh h2 (fun _ => 0)) (hBv : Bv h2 (va_up (va_up (va_up (va_up (fun _ => some 0) 0 (some 0)) 1 (some 1)) 6 (some 1)) 7 (some 1))) (hg : g_fr [167] h2 h3) {ou : Nat → Int64} (ho : h3 167 = some (.inl (3, 1, .inr (.inl ou)))) : Rel h3 0 ou := by
  obtain ⟨x1, x2, x3, x4, x5, x6, x7, x8, x9, x10⟩ := P
  have z1 : RC h3 s0 (fun _ => 0) (fun _ => 0) (fun _ => 0) (fun _ => 0) (fun _ => 0) (fun _ => 0) (fun _ => 0) (fun _ => 0) (fun _ => 0) (fun _ => 0) (fun _ => 0) (fun _ => 0) (fun _ => 0) (fun k => nI ((fun _ => 0) k)) (fun k => nI ((fun _ => 0) k)) 0 0 0 0 0 0 0 0 0 0 1 1 0 0 0 0 1 := ⟨hf.at (by decide) x1, x2.fr hf (by decide), x4.fr hf (by decide), x3.fr hf (by decide) (by decide), x5.fr hf (by decide), x6.fr hf (by decide) (by decide), Tk.z, x7.fr hf (by decide), fun q => absurd rfl q, x8.fr hf (by decide) (by decide) (by decide), x9.fr hf (by decide), x10.fr hf (by decide) (by decide) (by decide) (by decide) (by decide)⟩
  have z2 : RMo h3 (fun _ => 0) (fun _ => 0) (fun k => nI ((fun _ => 0) k)) (fun _ => 0) (fun _ => 0) (fun _ => 0) (fun _ => 0) (fun _ => 0) (fun k => nI ((fun _ => 0) k)) (fun _ => 0) (fun k => nI ((fun _ => 0) k)) (fun _ => 0) (fun _ => 0) (va_up (va_up (va_up (va_up (fun _ => some 0) 0 (some 0)) 1 (some 1)) 6 (some 1)) 7 (some 1)) (fun _ => 0) (fun _ => 0) (fun _ => 0) := RMo.fr ⟨a3, a4, a5, hM, a7, a8, a9, a10, a11, a12, a13, a14, a15, hBv, a16, a17, a18⟩ hg (by decide)
  exact ⟨s0, (fun _ => 0), (fun _ => 0), (fun _ => 0), (fun _ => 0), (fun _ => 0), (fun _ => 0), (fun _ => 0), (fun _ => 0), (fun _ => 0), (fun _ => 0), (fun _ => 0), (fun _ => 0), (fun _ => 0), (fun _ => 0), (fun _ => 0), (fun _ => 0), (fun _ => 0), (fun _ => 0), (fun _ => 0), (fun _ => 0), (fun k => nI ((fun _ => 0) k)), (fun k => nI ((fun _ => 0) k)), (fun k => nI ((fun _ => 0) k)), (fun k => nI ((fun _ => 0) k)), (va_up (va_up (va_up (va_up (fun _ => some 0) 0 (some 0)) 1 (some 1)) 6 (some 1)) 7 (some 1)), 0, 0, 0, 0, 0, 0, 0, 0, 0, 0, 1, 1, 0, 0, 0, 0, 1, z1, z2, (by unfold Ps; decide), ⟨fun q => absurd q (by decide), fun i hi => absurd hi (by show ¬ i + 1 < 0; omega), fun k => (show 0 < 2 ^ 31 by decide), fun k => (show 0 < 2 ^ 31 by decide), fun b hb => absurd hb (Nat.not_lt_zero b), fun b hb => rfl⟩, ⟨by decide, fun i => Nat.zero_le _, fun j => Nat.zero_le _, by decide, by decide, by decide, fun k => (show 0 < 2 ^ 31 by decide), fun k => Nat.zero_le _, fun k => Nat.zero_le _, fun q => absurd rfl q⟩, ⟨by decide, by decide, fun q => absurd q (by decide), fun q => absurd q (by decide), fun k hk => absurd hk (Nat.not_lt_zero k), fun k => (show 0 < 2 ^ 31 by decide), fun k hk => absurd hk (Nat.not_lt_zero k), fun b hb => absurd hb (Nat.not_lt_zero b), fun b hb => absurd hb (Nat.not_lt_zero b), fun _ => ⟨rfl, rfl, rfl⟩⟩, ⟨fun x => Nat.zero_le _, fun x => Nat.zero_le _, fun x hx => rfl, fun x => (show 0 < 2 ^ 31 by decide), rfl, by decide, fun _ x _ => rfl⟩, ⟨by decide, fun _ => rfl, fun q => absurd rfl q, fun k hk => absurd hk (Nat.not_lt_zero k)⟩, ⟨fun x _ => rfl, fun a b _ => Nat.le_refl 0, fun _ k hk => absurd hk (Nat.not_lt_zero k)⟩, ⟨rfl, rfl, rfl, rfl, fun q => absurd rfl q⟩, ⟨fun j => (show 0 < 65536 by decide), fun j => (show 0 < 65536 by decide), fun j => Nat.zero_le _⟩, hg.at (by decide) m0, ho⟩
theorem g_W.ex {G : gG} {M : gM} {R : Room} {K : gK} {n : Nat} {h : gH} {k sl pc : Nat} {ls : List (Nat × Value)} {st : List Value} (z : g_W G M R K n false h k sl pc ls st) : g_W G M R K n true h k sl pc ls st := fun p l e s m args below meth c H locs Ls C hR hS hl => z p l e s m args below meth c H locs Ls C hR.weak hS hl
theorem g_W.n {G : gG} {M : gM} {R : Room} {K : gK} {n n' : Nat} {ex : Bool} {h : gH} {k sl pc : Nat} {ls : List (Nat × Value)} {st : List Value} (e : n = n') (z : g_W G M R K n' ex h k sl pc ls st) : g_W G M R K n ex h k sl pc ls st := by rw [e]; exact z
set_option maxHeartbeats 4000000 in
set_option maxRecDepth 100000 in
theorem law_body : g_body := by
  intro G hL
  refine k_new (i0 := 0) (n1 := 1) (fs := [.null, .null, .null, .null, .null, .null, .null, .null, .int (nI 0), .int (nI 0), .int (nI 0)]) dL_law_0 clX10 ⟨List.mem_of_getElem? (i := 69) (by decide +kernel), rfl⟩ ⟨List.mem_of_getElem? (i := 70) (by decide +kernel), rfl⟩ ⟨List.mem_of_getElem? (i := 49) (by decide +kernel), rfl⟩ (k_df (fs' := [.null, .null, .null, .null, .null, .null, .null, .null, .int (nI 0), .int (nI 0), .int (nI 0)]) rfl (by decide)) (by decide) (by decide) rfl rfl ?_
  refine g_dup dL_law_3 rfl ?_
  refine cI (st := [.ref 0]) dL_law_4 (c_newAudit G 4 _ g_eq) rfl rfl sL_84 rfl (by decide) (by decide) (by decide) ⟨by decide, by decide⟩ (fun h1 fr1 p1 => ?_)
  refine g_astore_n (ls' := [(1, .ref 0), (0, .float 0)]) dL_law_7 rfl (by decide) rfl ?_
  refine k_new (i0 := 142) (n1 := 143) (fs := [.int (nI 0), .null, .int (nI 0), .int (nI 0), .int (nI 0), .null, .int (nI 0), .int (nI 0), .null, .int (nI 0), .int (nI 0), .int (nI 0), .int (nI 0), .null, .int (nI 0), .null, .int (nI 0), .int (nI 0), .int (nI 0), .int (nI 0), .null, .null, .null, .null, .int (nI 0), .null, .null, .null, .int (nI 0), .int (nI 0), .int (nI 0), .int (nI 0), .null, .int (nI 0), .null, .null, .null, .null, .null, .null, .null, .null, .null, .null, .null]) dL_law_8 clX11 ⟨List.mem_of_getElem? (i := 1000) (by decide +kernel), rfl⟩ ⟨List.mem_of_getElem? (i := 1001) (by decide +kernel), rfl⟩ ⟨List.mem_of_getElem? (i := 60) (by decide +kernel), rfl⟩ (k_df (fs' := [.int (nI 0), .null, .int (nI 0), .int (nI 0), .int (nI 0), .null, .int (nI 0), .int (nI 0), .null, .int (nI 0), .int (nI 0), .int (nI 0), .int (nI 0), .null, .int (nI 0), .null, .int (nI 0), .int (nI 0), .int (nI 0), .int (nI 0), .null, .null, .null, .null, .int (nI 0), .null, .null, .null, .int (nI 0), .int (nI 0), .int (nI 0), .int (nI 0), .null, .int (nI 0), .null, .null, .null, .null, .null, .null, .null, .null, .null, .null, .null]) rfl (by decide)) (by decide) (by decide) rfl rfl ?_
  refine g_dup dL_law_11 rfl ?_
  refine cI (st := [.ref 142]) dL_law_12 (c_newModel G 8 _ g_eq) rfl rfl sL_87 rfl (by decide) (by decide) (by decide) ⟨by decide, by decide⟩ (fun h2 fr2 p2 => ?_)
  obtain ⟨m0, a3, a4, a5, a7, a8, a9, a10, a11, a12, a13, a14, a15, a16, a17, a18, hM, hBv⟩ := p2
  refine g_astore_n (ls' := [(2, .ref 142), (1, .ref 0), (0, .float 0)]) dL_law_15 rfl (by decide) rfl ?_
  refine g_iconst (v := nI 1) dL_law_16 (by decide) ?_
  refine k_newL (i0 := 167) (n1 := 168) dL_law_17 (by decide) (by decide) (by decide) rfl rfl ?_
  refine g_astore_n (ls' := [(3, .ref 167), (2, .ref 142), (1, .ref 0), (0, .float 0)]) dL_law_19 rfl (by decide) rfl ?_
  refine g_iconst (v := nI 0) dL_law_20 (by decide) ?_
  refine g_istore (ls' := [(4, .int (nI 0)), (3, .ref 167), (2, .ref 142), (1, .ref 0), (0, .float 0)]) dL_law_21 (by decide) rfl ?_
  refine g_pick [0, 4, 3, 2, 1] (ls' := [(4, .int (nI 0)), (0, .float 0), (1, .ref 0), (2, .ref 142), (3, .ref 167)]) rfl ?_
  have hf3 : g_fr [142, 143, 144, 145, 146, 147, 148, 149, 150, 151, 152, 153, 154, 155, 156, 157, 158, 159, 160, 161, 162, 163, 164, 165, 166, 167] h1 (g_up h2 167 (.inl (3, 1, .inr (.inl (fun _ => 0))))) := (((g_fr.rf.up (by decide) : g_fr [142, 143, 144, 145, 146, 147, 148, 149, 150, 151, 152, 153, 154, 155, 156, 157, 158, 159, 160, 161, 162, 163, 164, 165, 166, 167] h1 _).tr fr2 (by decide)).up (by decide))
  exact g_W.ex (L_loop G hL (g_L G + 7) 0 _ _ _ 0 _ (by omega) (Nat.zero_le _) (by decide) (by decide) (Rel_0 (m0 := m0) p1 hf3 a3 a4 a5 a7 a8 a9 a10 a11 a12 a13 a14 a15 a16 a17 a18 hM hBv (g_fr.rf.up (by decide)) g_eq))
theorem i_vc : Claimed_1_1 ∧ Claimed_1_2 := i_of law_body
