set_option maxHeartbeats 4000000 in
set_option maxRecDepth 100000 in
theorem c_mcount (G : gG) (d n : Nat) (ex : Bool) (h : gH) {cd wt : Int32} {s : Nat → Nat} {k m sg cm sd mm dr dd bk rt : Nat} {v w l df : Nat → Nat} {rI sI sw : Nat → Int32} {V : Nat → Option Nat} {bx sv : Int32} {pn pd : Nat} (hN : Bn h (MX cd s k m sg cm sd mm dr dd bk rt wt) V) (a3 : h 143 = some (.inl (0, 8, .inl (fun k => nI (v k))))) (a9 : h 149 = some (.inl (0, 16, .inl (fun k => nI (w k))))) (a10 : h 150 = some (.inl (0, 16, .inl (fun k => nI (l k))))) (a5 : h 145 = some (.inl (1, 20000, .inl rI))) (a11 : h 151 = some (.inl (0, 16, .inl sw))) (a12 : h 152 = some (.inl (0, 8, .inl (fun k => nI (df k))))) (a13 : h 153 = some (.inl (1, 20000, .inl sI))) (hmm : mm ≤ 16) (hwl : ∀ k, k < mm → w k < 8 ∧ l k < 8) (hV : ∀ k, k < mm → v (l k) < v (w k) ∧ v (w k) ≤ 20000) (hdf : ∀ c, df c ≤ 199) (hl1 : s 9 ≤ 1000000) (hl2 : s 10 ≤ 1000000) (hcap : s 8 ≤ 200) (hv6 : V 6 = some pn) (hv7 : V 7 = some pd) (r6 : pn * 2 ^ 80 < RM) (r7 : pd * 2 ^ 80 < RM) (g1 : s 12 < s 11) (g2 : s 11 ≤ 1000000) (hN1 : 1 ≤ s 6) (hN2 : s 6 ≤ 20000) (hm1 : 1 ≤ mm) (hlm2 : lmn 1000001 v w l mm ≤ s 6) (hlm : ∀ k, k < mm → lmn 1000001 v w l mm ≤ md v w l k) (hcm1 : cm ≤ 1) (hdr : dr ≤ s 8) (hbx : (bx = -2 ∧ sv = -2) ∨ ∃ b, b < 20000 ∧ bx = nI b ∧ sv = sI b ∧ s_ok (sI b)) : g_M G mX11_count (d + 5) 0 0 [.ref 142, .int bx] n ex h (q_v n ex [142, 151, 152, 156, 157] h (fun h' => ∃ (sg' : Nat) (sw' : Nat → Int32) (V' : Nat → Option Nat) (pn' pd' : Nat), Mc h' cd s k m sg' cm sd mm dr dd bk rt wt ∧ h' 151 = some (.inl (0, 16, .inl sw')) ∧ h' 152 = some (.inl (0, 8, .inl (fun k => nI (cdf df sv k)))) ∧ Bv h' V' ∧ V' 6 = some pn' ∧ V' 7 = some pd' ∧ V' 0 = V 0 ∧ V' 1 = V 1 ∧ ((cm = 0 ∧ sg' = stP (cs_ (swm v w l (cdf df sv) (s 9) (s 10) dr sw) mm = mm) (s 8) dr ∧ (∀ k, k < mm → sw' k = (swm v w l (cdf df sv) (s 9) (s 10) dr sw) k) ∧ pn' = pn ∧ pd' = pd) ∨ (cm = 1 ∧ sg' = stP (pn' * s 10 ≤ pd' * s 9) (s 8) dr ∧ (∀ k, k < mm → sw' k = sw k) ∧ ((bx = -2 ∧ pn' = pn * (2 * s 11 * s 6 - lmn 1000001 v w l mm * s 12) ∧ pd' = pd * (s 6 * (2 * s 11))) ∨ ∃ bb, bx = nI bb ∧ bb < 20000 ∧ pn' = pn * ((2 * s 11 * s 6 - lmn 1000001 v w l mm * s 12) * (md v w l (mo (oe w l (rI bb) (sI bb)) (md v w l) mm))) ∧ pd' = pd * (s 6 * (cF2 (s 11) (s 12) (lmn 1000001 v w l mm) (md v w l (mo (oe w l (rI bb) (sI bb)) (md v w l) mm)) (oe w l (rI bb) (sI bb) (mo (oe w l (rI bb) (sI bb)) (md v w l) mm))))))))) := by
  rcases (show cm = 0 ∨ cm = 1 by omega) with hc | hc
  · refine g_M.wk (c_mcountP G d n ex h (pn := pn) (pd := pd) hN a3 a9 a10 a5 a11 a12 a13 hmm hwl hV hdf hl1 hl2 hdr hcap hbx hc) (fun o n' ex' h' q => ?_)
    obtain ⟨q1, q2, q3, q4, V', x1, x2, x3, x4, x5⟩ := q
    exact ⟨q1, q2, q3, q4, _, _, V', pn, pd, x1, x2, x3, x4, (x5 6 (by decide) (by decide)).trans hv6, (x5 7 (by decide) (by decide)).trans hv7, x5 0 (by decide) (by decide), x5 1 (by decide) (by decide), Or.inl ⟨hc, rfl, fun k hk => mx_l hk, rfl, rfl⟩⟩
  · refine g_M.wk (c_mcountC G d n ex h hN a3 a9 a10 a5 a11 a12 a13 hmm hwl hV hdf hl1 hl2 hdr hcap hbx hv6 hv7 r6 r7 g1 g2 hN1 hN2 hm1 hlm2 hlm hc) (fun o n' ex' h' q => ?_)
    obtain ⟨q1, q2, q3, q4, V', pn', pd', x1, x2, x3, x4, x5, x6, x7, x8, x9⟩ := q
    exact ⟨q1, q2, q3, q4, _, sw, V', pn', pd', x1, x2, x3, x4, x5, x6, x7, x8, Or.inr ⟨hc, rfl, fun _ _ => rfl, x9⟩⟩
/-- what a draw gives: the number, the coins that are left -/
def NRel (sd : Nat) (dg : Nat → Nat) (k dr N : Nat) (c : Nat → Nat) (m : Nat) (r : Int32) (m' : Nat) (c' : Nat → Nat) : Prop := (¬ sd = 0 ∧ r = nI (hv (shaO dg k (dr + 1)) 8 % N) ∧ m' = m ∧ ∀ j, j < m' → c' j = c j) ∨ (sd = 0 ∧ ∃ K, ck_P N K ∧ ((m < K ∧ r = -1 ∧ m' = m ∧ ∀ j, j < m' → c' j = c j) ∨ (K ≤ m ∧ r = (if tk c K < N then nI (tk c K) else -2) ∧ m' = m - K ∧ ∀ j, j < m' → c' j = c (j + K))))
theorem NRel.r {sd : Nat} {dg : Nat → Nat} {k dr N m m' : Nat} {c c' : Nat → Nat} {r : Int32} (h : NRel sd dg k dr N c m r m' c') (hN : 1 ≤ N) : r = -1 ∨ r = -2 ∨ ∃ b, b < N ∧ r = nI b := by
  rcases h with ⟨-, h1, -⟩ | ⟨-, K, -, ⟨-, h1, -⟩ | ⟨-, h1, -⟩⟩
  · exact Or.inr (Or.inr ⟨_, Nat.mod_lt _ hN, h1⟩)
  · exact Or.inl h1
  · by_cases q : tk c K < N
    · rw [if_pos q] at h1; exact Or.inr (Or.inr ⟨_, q, h1⟩)
    · rw [if_neg q] at h1; exact Or.inr (Or.inl h1)
theorem tk_cg {c c' : Nat → Nat} {n : Nat} (h : ∀ j, j < n → c j = c' j) : tk c n = tk c' n := by
  induction n with
  | zero => rfl
  | succ n ih => show tk c n * 2 + c n = tk c' n * 2 + c' n; rw [ih (fun j hj => h j (by omega)), h n (by omega)]
theorem NRel.u {sd : Nat} {dg : Nat → Nat} {k dr N m m1 m2 : Nat} {c c1 c2 : Nat → Nat} {r1 r2 : Int32} (hN : N ≤ 20000) (h1 : NRel sd dg k dr N c m r1 m1 c1) (h2 : NRel sd dg k dr N c m r2 m2 c2) : r1 = r2 ∧ m1 = m2 ∧ ∀ j, j < m1 → c1 j = c2 j := by
  rcases h1 with ⟨a0, a1, a2, a3⟩ | ⟨a0, K, aK, ⟨a1, a2, a3, a4⟩ | ⟨a1, a2, a3, a4⟩⟩ <;> rcases h2 with ⟨b0, b1, b2, b3⟩ | ⟨b0, K', bK, ⟨b1, b2, b3, b4⟩ | ⟨b1, b2, b3, b4⟩⟩
  · exact ⟨by rw [a1, b1], by omega, fun j hj => (a3 j hj).trans (b3 j (by omega)).symm⟩
  · exact absurd b0 a0
  · exact absurd b0 a0
  · exact absurd a0 b0
  · exact ⟨by rw [a2, b2], by omega, fun j hj => (a4 j hj).trans (b4 j (by omega)).symm⟩
  · have := ck_u hN aK bK; omega
  · exact absurd a0 b0
  · have := ck_u hN aK bK; omega
  · have e := ck_u hN aK bK
    subst e
    exact ⟨by rw [a2, b2], by omega, fun j hj => (a4 j hj).trans (b4 j (by omega)).symm⟩
set_option maxHeartbeats 4000000 in
set_option maxRecDepth 100000 in
theorem c_mnum (G : gG) (d n : Nat) (ex : Bool) (h : gH) {cd wt : Int32} {s : Nat → Nat} {k m sg cm sd mm dr dd bk rt : Nat} {dg c : Nat → Nat} (hk : k ≤ 20) (hM : Mh h dg) (a7 : h 147 = some (.inl (1, 4000, .inl (fun k => nI (c k))))) (hc1 : ∀ j, c j ≤ 1) (hm : m ≤ 4000) (m0 : Mc h cd s k m sg cm sd mm dr dd bk rt wt) (h6 : s 6 ≤ 20000) (hN1 : 1 ≤ s 6) (hsd : sd ≤ 1) (hdr : dr ≤ 200) : g_M G mX11_number (d + 3) 0 0 [.ref 142] n ex h (q_i n ex [142, 147, 162, 163, 164, 165] h (fun r h' => ∃ (m' : Nat) (c' : Nat → Nat), NRel sd dg k dr (s 6) c m r m' c' ∧ Mc h' cd s k m' sg cm sd mm dr dd bk rt wt ∧ h' 147 = some (.inl (1, 4000, .inl (fun k => nI (c' k)))) ∧ (∀ j, c' j ≤ 1) ∧ m' ≤ 4000 ∧ Mh h' dg)) := by
  refine g_M.wk (c_mnumber G d n ex h hk m0 hM a7 hc1 hm h6 (fun _ => hN1) hsd hdr) (fun o n' ex' h' q => ?_)
  obtain ⟨r, q1, q2, q3, q4, q5⟩ := q
  refine ⟨r, q1, q2, q3, q4, ?_⟩
  rcases q5 with ⟨x0, x1, x2, x3, x4⟩ | ⟨x0, K, xK, ⟨x1, x2, x3, x4⟩ | ⟨x1, x2, c2, x3, x4, x5, x6⟩, x9⟩
  · exact ⟨m, c, Or.inl ⟨x0, x1, rfl, fun _ _ => rfl⟩, x2, x4, hc1, hm, x3⟩
  · exact ⟨m, c, Or.inr ⟨x0, K, xK, Or.inl ⟨x1, x2, rfl, fun _ _ => rfl⟩⟩, x3, x4, hc1, hm, hM.fr x9 (by simp)⟩
  · exact ⟨m - K, c2, Or.inr ⟨x0, K, xK, Or.inr ⟨x1, x2, rfl, x5⟩⟩, x3, x4, x6, by omega, hM.fr x9 (by simp)⟩
def k_draw (sg : Nat) : Nat := if sg = 1 then 0 else 1
set_option maxHeartbeats 4000000 in
set_option maxRecDepth 100000 in
theorem c_mdraw0 (G : gG) (d n : Nat) (ex : Bool) (h : gH) {cd wt : Int32} {s : Nat → Nat} {k m sg cm sd mm dr dd bk rt : Nat} (m0 : Mc h cd s k m sg cm sd mm dr dd bk rt wt) (hsg : sg < 2 ^ 31) (hs1 : ¬ sg = 1) : g_M G mX11_draw d 0 0 [.ref 142] n ex h (q_i n ex [142] h (fun r h' => Mc h' (nI 1) s k m sg cm sd mm dr dd bk rt wt ∧ g_fr [142] h h')) := by
  refine g_enter (by decide) (Nat.le_of_ble_eq_true rfl) ?_
  show g_W G _ _ _ n ex h 0 0 0 [(0, .ref 142)] []
  refine g_aload_n dX11_draw_0 rfl rfl ?_
  refine g_aload_n dX11_draw_1 rfl rfl ?_
  refine g_getf (v := .int (nI sg)) dX11_draw_2 fX11_231 m0 rfl ?_
  refine g_iconst (v := nI 1) dX11_draw_5 (by decide) ?_
  refine g_icmp_neN (tgt := 13) dX11_draw_6 (by decide) (by omega) (by decide) (fun c6 => ?_) (fun c6 => ?_)
  · refine g_iconst (v := nI 1) dX11_draw_13 (by decide) ?_
    refine g_put (fs' := [.int (nI 1), .ref 143, .int (nI (s 4)), .int (nI (s 7)), .int (nI (s 8)), .ref 144, .int (nI (s 5)), .int (nI (s 6)), .ref 145, .int (nI (s 9)), .int (nI (s 10)), .int (nI (s 11)), .int (nI (s 12)), .ref 146, .int (nI k), .ref 147, .int (nI m), .int (nI sg), .int (nI cm), .int (nI sd), .ref 148, .ref 149, .ref 150, .ref 151, .int (nI mm), .ref 152, .ref 153, .ref 154, .int (nI dr), .int (nI dd), .int (nI bk), .int wt, .ref 155, .int (nI rt), .ref 156, .ref 157, .ref 158, .ref 159, .ref 160, .ref 161, .ref 162, .ref 163, .ref 164, .ref 165, .ref 166]) dX11_draw_14 fX11_1 m0 (Nat.le_of_ble_eq_true rfl) rfl rfl rfl ?_
    refine g_aload_n dX11_draw_17 rfl rfl ?_
    refine g_getf (v := .int (nI 1)) dX11_draw_18 fX11_1 g_eq rfl ?_
    refine g_if_leN (tgt := 26) dX11_draw_21 (by decide) (by decide) (fun c21 => ?_) (fun c21 => ?_)
    · exact absurd c21 (by decide)
    · refine g_iconst (v := nI 0) dX11_draw_24 (by decide) ?_
      exact e_i dX11_draw_25 rfl rfl (g_fr.rf.up (by simp)) ⟨g_eq, g_fr.rf.up (by simp)⟩ (by decide) (by decide)
  · exact absurd c6 hs1
set_option maxHeartbeats 4000000 in
set_option maxRecDepth 100000 in
theorem c_mdraw (G : gG) (d n : Nat) (ex : Bool) (h : gH) {cd wt : Int32} {s : Nat → Nat} {k m sg cm sd mm dr dd bk rt : Nat} {v w l df dg c ti : Nat → Nat} {rI sI sw : Nat → Int32} {V : Nat → Option Nat} {pn pd : Nat} (m0 : Mc h cd s k m sg cm sd mm dr dd bk rt wt) (hBv : Bv h V) (a3 : h 143 = some (.inl (0, 8, .inl (fun k => nI (v k))))) (a9 : h 149 = some (.inl (0, 16, .inl (fun k => nI (w k))))) (a10 : h 150 = some (.inl (0, 16, .inl (fun k => nI (l k))))) (a5 : h 145 = some (.inl (1, 20000, .inl rI))) (a11 : h 151 = some (.inl (0, 16, .inl sw))) (a12 : h 152 = some (.inl (0, 8, .inl (fun k => nI (df k))))) (a13 : h 153 = some (.inl (1, 20000, .inl sI))) (hk : k ≤ 20) (hM : Mh h dg) (a7 : h 147 = some (.inl (1, 4000, .inl (fun k => nI (c k))))) (hc1 : ∀ j, c j ≤ 1) (hm : m ≤ 4000) (a14 : h 154 = some (.inl (0, 20000, .inl (fun k => nI (ti k))))) (hsd : sd ≤ 1) (hsg1 : sg = 1) (hd1 : dr + 1 ≤ s 8) (hcap : s 8 ≤ 200) (hmm : mm ≤ 16) (hwl : ∀ k, k < mm → w k < 8 ∧ l k < 8) (hV : ∀ k, k < mm → v (l k) < v (w k) ∧ v (w k) ≤ 20000) (hdf : ∀ c, df c ≤ 199) (hl1 : s 9 ≤ 1000000) (hl2 : s 10 ≤ 1000000) (hv6 : V 6 = some pn) (hv7 : V 7 = some pd) (r6 : pn * 2 ^ 80 < RM) (r7 : pd * 2 ^ 80 < RM) (g1 : s 12 < s 11) (g2 : s 11 ≤ 1000000) (hN1 : 1 ≤ s 6) (hN2 : s 6 ≤ 20000) (hm1 : 1 ≤ mm) (hlm2 : lmn 1000001 v w l mm ≤ s 6) (hlm : ∀ k, k < mm → lmn 1000001 v w l mm ≤ md v w l k) (hcm1 : cm ≤ 1) (hsok : ∀ b, b < s 6 → sI b = -2 ∨ s_ok (sI b)) (hdrl : dr ≤ 200) : g_M G mX11_draw (d + 6) 0 0 [.ref 142] n ex h (q_i n ex [142, 147, 151, 152, 154, 156, 157, 162, 163, 164, 165] h (fun r h' => (∃ (m' : Nat) (c' : Nat → Nat), NRel sd dg k dr (s 6) c m r m' c' ∧ h' 147 = some (.inl (1, 4000, .inl (fun k => nI (c' k)))) ∧ (∀ j, c' j ≤ 1) ∧ m' ≤ 4000 ∧ Mh h' dg ∧ ((r = -1 ∧ Mc h' (nI 0) s k m' sg cm sd mm dr dd bk rt wt ∧ g_fr [142, 147, 162, 163, 164, 165] h h') ∨ (r = -2 ∧ h' 154 = some (.inl (0, 20000, .inl (fun k => nI (ti k)))) ∧ ∃ (sg' : Nat) (sw' : Nat → Int32) (V' : Nat → Option Nat) (pn' pd' : Nat), Mc h' (nI 0) s k m' sg' cm sd mm (dr + 1) dd (bk + 1) rt wt ∧ h' 151 = some (.inl (0, 16, .inl sw')) ∧ h' 152 = some (.inl (0, 8, .inl (fun k => nI (cdf df (-2) k)))) ∧ Bv h' V' ∧ V' 6 = some pn' ∧ V' 7 = some pd' ∧ V' 0 = V 0 ∧ V' 1 = V 1 ∧ ((cm = 0 ∧ sg' = stP (cs_ (swm v w l (cdf df (-2)) (s 9) (s 10) (dr + 1) sw) mm = mm) (s 8) (dr + 1) ∧ (∀ k, k < mm → sw' k = (swm v w l (cdf df (-2)) (s 9) (s 10) (dr + 1) sw) k) ∧ pn' = pn ∧ pd' = pd) ∨ (cm = 1 ∧ sg' = stP (pn' * s 10 ≤ pd' * s 9) (s 8) (dr + 1) ∧ (∀ k, k < mm → sw' k = sw k) ∧ (((-2 : Int32) = -2 ∧ pn' = pn * (2 * s 11 * s 6 - lmn 1000001 v w l mm * s 12) ∧ pd' = pd * (s 6 * (2 * s 11))) ∨ ∃ bb, (-2 : Int32) = nI bb ∧ bb < 20000 ∧ pn' = pn * ((2 * s 11 * s 6 - lmn 1000001 v w l mm * s 12) * (md v w l (mo (oe w l (rI bb) (sI bb)) (md v w l) mm))) ∧ pd' = pd * (s 6 * (cF2 (s 11) (s 12) (lmn 1000001 v w l mm) (md v w l (mo (oe w l (rI bb) (sI bb)) (md v w l) mm)) (oe w l (rI bb) (sI bb) (mo (oe w l (rI bb) (sI bb)) (md v w l) mm)))))))) ∨ (∃ b, b < s 6 ∧ r = nI b ∧ h' 154 = some (.inl (0, 20000, .inl (fun k => nI (va_up ti b (ti b + 1) k)))) ∧ ((sI b = -2 ∧ Mc h' (nI 0) s k m' 2 cm sd mm (dr + 1) dd bk rt (nI b) ∧ g_fr [142, 147, 154, 162, 163, 164, 165] h h') ∨ (¬ sI b = -2 ∧ ∃ (sg' : Nat) (sw' : Nat → Int32) (V' : Nat → Option Nat) (pn' pd' : Nat), Mc h' (nI 0) s k m' sg' cm sd mm (dr + 1) dd bk rt wt ∧ h' 151 = some (.inl (0, 16, .inl sw')) ∧ h' 152 = some (.inl (0, 8, .inl (fun k => nI (cdf df (sI b) k)))) ∧ Bv h' V' ∧ V' 6 = some pn' ∧ V' 7 = some pd' ∧ V' 0 = V 0 ∧ V' 1 = V 1 ∧ ((cm = 0 ∧ sg' = stP (cs_ (swm v w l (cdf df (sI b)) (s 9) (s 10) (dr + 1) sw) mm = mm) (s 8) (dr + 1) ∧ (∀ k, k < mm → sw' k = (swm v w l (cdf df (sI b)) (s 9) (s 10) (dr + 1) sw) k) ∧ pn' = pn ∧ pd' = pd) ∨ (cm = 1 ∧ sg' = stP (pn' * s 10 ≤ pd' * s 9) (s 8) (dr + 1) ∧ (∀ k, k < mm → sw' k = sw k) ∧ (((nI b) = -2 ∧ pn' = pn * (2 * s 11 * s 6 - lmn 1000001 v w l mm * s 12) ∧ pd' = pd * (s 6 * (2 * s 11))) ∨ ∃ bb, (nI b) = nI bb ∧ bb < 20000 ∧ pn' = pn * ((2 * s 11 * s 6 - lmn 1000001 v w l mm * s 12) * (md v w l (mo (oe w l (rI bb) (sI bb)) (md v w l) mm))) ∧ pd' = pd * (s 6 * (cF2 (s 11) (s 12) (lmn 1000001 v w l mm) (md v w l (mo (oe w l (rI bb) (sI bb)) (md v w l) mm)) (oe w l (rI bb) (sI bb) (mo (oe w l (rI bb) (sI bb)) (md v w l) mm)))))))))))))) := by
  refine g_enter (by decide) (Nat.le_of_ble_eq_true rfl) ?_
  show g_W G _ _ _ n ex h 0 0 0 [(0, .ref 142)] []
  refine g_aload_n dX11_draw_0 rfl rfl ?_
  refine g_aload_n dX11_draw_1 rfl rfl ?_
  refine g_getf (v := .int (nI sg)) dX11_draw_2 fX11_231 m0 rfl ?_
  refine g_iconst (v := nI 1) dX11_draw_5 (by decide) ?_
  refine g_icmp_neN (tgt := 13) dX11_draw_6 (by decide) (by omega) (by decide) (fun c6 => ?_) (fun c6 => ?_)
  · exact absurd hsg1 c6
  · refine g_iconst (v := nI 0) dX11_draw_9 (by decide) ?_
    refine g_goto (tgt := 14) dX11_draw_10 (by decide) ?_
    refine g_put (fs' := [.int (nI 0), .ref 143, .int (nI (s 4)), .int (nI (s 7)), .int (nI (s 8)), .ref 144, .int (nI (s 5)), .int (nI (s 6)), .ref 145, .int (nI (s 9)), .int (nI (s 10)), .int (nI (s 11)), .int (nI (s 12)), .ref 146, .int (nI k), .ref 147, .int (nI m), .int (nI sg), .int (nI cm), .int (nI sd), .ref 148, .ref 149, .ref 150, .ref 151, .int (nI mm), .ref 152, .ref 153, .ref 154, .int (nI dr), .int (nI dd), .int (nI bk), .int wt, .ref 155, .int (nI rt), .ref 156, .ref 157, .ref 158, .ref 159, .ref 160, .ref 161, .ref 162, .ref 163, .ref 164, .ref 165, .ref 166]) dX11_draw_14 fX11_1 m0 (Nat.le_of_ble_eq_true rfl) rfl rfl rfl ?_
    refine g_aload_n dX11_draw_17 rfl rfl ?_
    refine g_getf (v := .int (nI 0)) dX11_draw_18 fX11_1 g_eq rfl ?_
    refine g_if_leN (tgt := 26) dX11_draw_21 (by decide) (by decide) (fun c21 => ?_) (fun c21 => ?_)
    · refine g_aload_n dX11_draw_26 rfl rfl ?_
      refine cVi (st := []) dX11_draw_27 (c_mnum G (d + 2) n ex _ (cd := nI 0) (s := s) (k := k) (m := m) (sg := sg) (cm := cm) (sd := sd) (mm := mm) (dr := dr) (dd := dd) (bk := bk) (rt := rt) (wt := wt) (dg := dg) (c := c) hk (hM.fr (S := [142]) (g_fr.rf.up (by simp)) (by simp)) (g_ne (by decide) a7) hc1 hm g_eq hN2 hN1 hsd (by omega)) sX11_299 g_eq rfl rfl (by simp only [g_rm]; omega) (by simp only [g_rm]; omega) (Nat.le_of_ble_eq_true rfl) ⟨Nat.le_of_ble_eq_true rfl, Nat.le_of_ble_eq_true rfl⟩ (fun r9 h1 fr2 p3 => ?_)
      obtain ⟨m', c', y0, y1, y2, y3, y4, y5⟩ := p3
      rcases y0.r hN1 with hr | hr | ⟨b, hb, hr⟩
      · subst hr
        refine g_istore_n (ls' := [(1, .int (-1)), (0, .ref 142)]) dX11_draw_30 rfl (by decide) rfl ?_
        refine g_iload_n dX11_draw_31 rfl rfl ?_
        refine g_iconst (v := -1) dX11_draw_32 (by decide) ?_
        refine g_icmp_ne (tgt := 38) dX11_draw_33 (by decide) (fun c33 => ?_) (fun c33 => ?_)
        · exact absurd rfl c33
        · refine g_iconst (v := -1) dX11_draw_36 (by decide) ?_
          exact e_i dX11_draw_37 rfl rfl ((g_fr.rf.up (by simp)).tr fr2 (by simp)) ⟨m', c', y0, y2, y3, y4, y5, Or.inl ⟨rfl, y1, ((g_fr.rf.up (by simp)).tr fr2 (by simp))⟩⟩ (by decide) (by decide)
      · subst hr
        refine g_istore_n (ls' := [(1, .int (-2)), (0, .ref 142)]) dX11_draw_30 rfl (by decide) rfl ?_
        refine g_iload_n dX11_draw_31 rfl rfl ?_
        refine g_iconst (v := -1) dX11_draw_32 (by decide) ?_
        refine g_icmp_ne (tgt := 38) dX11_draw_33 (by decide) (fun c33 => ?_) (fun c33 => ?_)
        · skip
          refine g_aload_n dX11_draw_38 rfl rfl ?_
          refine g_dup dX11_draw_39 rfl ?_
          refine g_getf (v := .int (nI dr)) dX11_draw_40 fX11_288 y1 rfl ?_
          refine g_iconst (v := nI 1) dX11_draw_43 (by decide) ?_
          refine g_iaddN dX11_draw_44 ?_
          refine g_put (fs' := [.int (nI 0), .ref 143, .int (nI (s 4)), .int (nI (s 7)), .int (nI (s 8)), .ref 144, .int (nI (s 5)), .int (nI (s 6)), .ref 145, .int (nI (s 9)), .int (nI (s 10)), .int (nI (s 11)), .int (nI (s 12)), .ref 146, .int (nI k), .ref 147, .int (nI m'), .int (nI sg), .int (nI cm), .int (nI sd), .ref 148, .ref 149, .ref 150, .ref 151, .int (nI mm), .ref 152, .ref 153, .ref 154, .int (nI (dr + 1)), .int (nI dd), .int (nI bk), .int wt, .ref 155, .int (nI rt), .ref 156, .ref 157, .ref 158, .ref 159, .ref 160, .ref 161, .ref 162, .ref 163, .ref 164, .ref 165, .ref 166]) dX11_draw_45 fX11_288 y1 (Nat.le_of_ble_eq_true rfl) rfl rfl rfl ?_
          refine g_iload_n dX11_draw_48 rfl rfl ?_
          refine g_bipush (v := -2) dX11_draw_49 (by decide) ?_
          refine g_icmp_ne (tgt := 67) dX11_draw_51 (by decide) (fun c51 => ?_) (fun c51 => ?_)
          · exact absurd rfl c51
          · refine g_aload_n dX11_draw_54 rfl rfl ?_
            refine g_dup dX11_draw_55 rfl ?_
            refine g_getf (v := .int (nI bk)) dX11_draw_56 fX11_302 g_eq rfl ?_
            refine g_iconst (v := nI 1) dX11_draw_59 (by decide) ?_
            refine g_iaddN dX11_draw_60 ?_
            refine g_put (fs' := [.int (nI 0), .ref 143, .int (nI (s 4)), .int (nI (s 7)), .int (nI (s 8)), .ref 144, .int (nI (s 5)), .int (nI (s 6)), .ref 145, .int (nI (s 9)), .int (nI (s 10)), .int (nI (s 11)), .int (nI (s 12)), .ref 146, .int (nI k), .ref 147, .int (nI m'), .int (nI sg), .int (nI cm), .int (nI sd), .ref 148, .ref 149, .ref 150, .ref 151, .int (nI mm), .ref 152, .ref 153, .ref 154, .int (nI (dr + 1)), .int (nI dd), .int (nI (bk + 1)), .int wt, .ref 155, .int (nI rt), .ref 156, .ref 157, .ref 158, .ref 159, .ref 160, .ref 161, .ref 162, .ref 163, .ref 164, .ref 165, .ref 166]) dX11_draw_61 fX11_302 g_eq (Nat.le_of_ble_eq_true rfl) rfl rfl rfl ?_
            refine g_goto (tgt := 77) dX11_draw_64 (by decide) ?_
            refine g_iload_n dX11_draw_77 rfl rfl ?_
            refine g_bipush (v := -2) dX11_draw_78 (by decide) ?_
            refine g_icmp_eq (tgt := 107) dX11_draw_80 (by decide) (fun c80 => ?_) (fun c80 => ?_)
            · have frB : g_fr [142, 147, 154, 162, 163, 164, 165] h (g_up (g_up h1 142 (.inr (11, [.int (nI 0), .ref 143, .int (nI (s 4)), .int (nI (s 7)), .int (nI (s 8)), .ref 144, .int (nI (s 5)), .int (nI (s 6)), .ref 145, .int (nI (s 9)), .int (nI (s 10)), .int (nI (s 11)), .int (nI (s 12)), .ref 146, .int (nI k), .ref 147, .int (nI m'), .int (nI sg), .int (nI cm), .int (nI sd), .ref 148, .ref 149, .ref 150, .ref 151, .int (nI mm), .ref 152, .ref 153, .ref 154, .int (nI (dr + 1)), .int (nI dd), .int (nI bk), .int wt, .ref 155, .int (nI rt), .ref 156, .ref 157, .ref 158, .ref 159, .ref 160, .ref 161, .ref 162, .ref 163, .ref 164, .ref 165, .ref 166]))) 142 (.inr (11, [.int (nI 0), .ref 143, .int (nI (s 4)), .int (nI (s 7)), .int (nI (s 8)), .ref 144, .int (nI (s 5)), .int (nI (s 6)), .ref 145, .int (nI (s 9)), .int (nI (s 10)), .int (nI (s 11)), .int (nI (s 12)), .ref 146, .int (nI k), .ref 147, .int (nI m'), .int (nI sg), .int (nI cm), .int (nI sd), .ref 148, .ref 149, .ref 150, .ref 151, .int (nI mm), .ref 152, .ref 153, .ref 154, .int (nI (dr + 1)), .int (nI dd), .int (nI (bk + 1)), .int wt, .ref 155, .int (nI rt), .ref 156, .ref 157, .ref 158, .ref 159, .ref 160, .ref 161, .ref 162, .ref 163, .ref 164, .ref 165, .ref 166]))) := (((g_fr.rf.up (by simp)).tr fr2 (by simp)).up (by simp)).up (by simp)
              have frC : g_fr [142, 154] h1 (g_up (g_up h1 142 (.inr (11, [.int (nI 0), .ref 143, .int (nI (s 4)), .int (nI (s 7)), .int (nI (s 8)), .ref 144, .int (nI (s 5)), .int (nI (s 6)), .ref 145, .int (nI (s 9)), .int (nI (s 10)), .int (nI (s 11)), .int (nI (s 12)), .ref 146, .int (nI k), .ref 147, .int (nI m'), .int (nI sg), .int (nI cm), .int (nI sd), .ref 148, .ref 149, .ref 150, .ref 151, .int (nI mm), .ref 152, .ref 153, .ref 154, .int (nI (dr + 1)), .int (nI dd), .int (nI bk), .int wt, .ref 155, .int (nI rt), .ref 156, .ref 157, .ref 158, .ref 159, .ref 160, .ref 161, .ref 162, .ref 163, .ref 164, .ref 165, .ref 166]))) 142 (.inr (11, [.int (nI 0), .ref 143, .int (nI (s 4)), .int (nI (s 7)), .int (nI (s 8)), .ref 144, .int (nI (s 5)), .int (nI (s 6)), .ref 145, .int (nI (s 9)), .int (nI (s 10)), .int (nI (s 11)), .int (nI (s 12)), .ref 146, .int (nI k), .ref 147, .int (nI m'), .int (nI sg), .int (nI cm), .int (nI sd), .ref 148, .ref 149, .ref 150, .ref 151, .int (nI mm), .ref 152, .ref 153, .ref 154, .int (nI (dr + 1)), .int (nI dd), .int (nI (bk + 1)), .int wt, .ref 155, .int (nI rt), .ref 156, .ref 157, .ref 158, .ref 159, .ref 160, .ref 161, .ref 162, .ref 163, .ref 164, .ref 165, .ref 166]))) := ((g_fr.rf).up (by simp)).up (by simp)
              refine g_aload_n dX11_draw_107 rfl rfl ?_
              refine g_iload_n dX11_draw_108 rfl rfl ?_
              refine cVv (st := []) dX11_draw_109 (c_mcount G (d + 0) n ex _ (pn := pn) (pd := pd) (V := V) ((hBv.fr (frB) (by simp) (by simp)).n (X := MX (nI 0) s k m' sg cm sd mm (dr + 1) dd (bk + 1) rt wt) g_eq) (g_ne (by decide) (g_ne (by decide) (fr2.at (by intro q; simp only [List.mem_cons, List.not_mem_nil, or_false] at q; omega) (g_ne (by decide) a3)))) (g_ne (by decide) (g_ne (by decide) (fr2.at (by intro q; simp only [List.mem_cons, List.not_mem_nil, or_false] at q; omega) (g_ne (by decide) a9)))) (g_ne (by decide) (g_ne (by decide) (fr2.at (by intro q; simp only [List.mem_cons, List.not_mem_nil, or_false] at q; omega) (g_ne (by decide) a10)))) (g_ne (by decide) (g_ne (by decide) (fr2.at (by intro q; simp only [List.mem_cons, List.not_mem_nil, or_false] at q; omega) (g_ne (by decide) a5)))) (g_ne (by decide) (g_ne (by decide) (fr2.at (by intro q; simp only [List.mem_cons, List.not_mem_nil, or_false] at q; omega) (g_ne (by decide) a11)))) (g_ne (by decide) (g_ne (by decide) (fr2.at (by intro q; simp only [List.mem_cons, List.not_mem_nil, or_false] at q; omega) (g_ne (by decide) a12)))) (g_ne (by decide) (g_ne (by decide) (fr2.at (by intro q; simp only [List.mem_cons, List.not_mem_nil, or_false] at q; omega) (g_ne (by decide) a13)))) hmm hwl hV hdf hl1 hl2 hcap hv6 hv7 r6 r7 g1 g2 hN1 hN2 hm1 hlm2 hlm hcm1 (by omega) (Or.inl ⟨rfl, rfl⟩)) sX11_305 g_eq rfl rfl (by simp only [g_rm]; omega) (by simp only [g_rm]; omega) (Nat.le_of_ble_eq_true rfl) ⟨Nat.le_of_ble_eq_true rfl, Nat.le_of_ble_eq_true rfl⟩ (fun h4 fr5 p6 => ?_)
              skip
              refine g_iload_n dX11_draw_112 rfl rfl ?_
              exact e_i dX11_draw_113 rfl rfl (((((g_fr.rf.up (by simp)).tr fr2 (by simp)).up (by simp)).up (by simp)).tr fr5 (by simp)) ⟨m', c', y0, fr5.at (by intro q; simp only [List.mem_cons, List.not_mem_nil, or_false] at q; omega) (g_ne (by decide) (g_ne (by decide) y2)), y3, y4, (((y5.fr frC (by simp))).fr fr5 (by simp)), Or.inr (Or.inl ⟨rfl, fr5.at (by intro q; simp only [List.mem_cons, List.not_mem_nil, or_false] at q; omega) (g_ne (by decide) (g_ne (by decide) (fr2.at (by intro q; simp only [List.mem_cons, List.not_mem_nil, or_false] at q; omega) (g_ne (by decide) a14)))), p6⟩)⟩ (by decide) (by decide)
            · exact absurd rfl c80
        · exact absurd c33 (by decide)
      · subst hr
        refine g_istore_n (ls' := [(1, .int (nI b)), (0, .ref 142)]) dX11_draw_30 rfl (by decide) rfl ?_
        refine g_iload_n dX11_draw_31 rfl rfl ?_
        refine g_iconst (v := -1) dX11_draw_32 (by decide) ?_
        refine g_icmp_ne (tgt := 38) dX11_draw_33 (by decide) (fun c33 => ?_) (fun c33 => ?_)
        · skip
          refine g_aload_n dX11_draw_38 rfl rfl ?_
          refine g_dup dX11_draw_39 rfl ?_
          refine g_getf (v := .int (nI dr)) dX11_draw_40 fX11_288 y1 rfl ?_
          refine g_iconst (v := nI 1) dX11_draw_43 (by decide) ?_
          refine g_iaddN dX11_draw_44 ?_
          refine g_put (fs' := [.int (nI 0), .ref 143, .int (nI (s 4)), .int (nI (s 7)), .int (nI (s 8)), .ref 144, .int (nI (s 5)), .int (nI (s 6)), .ref 145, .int (nI (s 9)), .int (nI (s 10)), .int (nI (s 11)), .int (nI (s 12)), .ref 146, .int (nI k), .ref 147, .int (nI m'), .int (nI sg), .int (nI cm), .int (nI sd), .ref 148, .ref 149, .ref 150, .ref 151, .int (nI mm), .ref 152, .ref 153, .ref 154, .int (nI (dr + 1)), .int (nI dd), .int (nI bk), .int wt, .ref 155, .int (nI rt), .ref 156, .ref 157, .ref 158, .ref 159, .ref 160, .ref 161, .ref 162, .ref 163, .ref 164, .ref 165, .ref 166]) dX11_draw_45 fX11_288 y1 (Nat.le_of_ble_eq_true rfl) rfl rfl rfl ?_
          refine g_iload_n dX11_draw_48 rfl rfl ?_
          refine g_bipush (v := -2) dX11_draw_49 (by decide) ?_
          refine g_icmp_ne (tgt := 67) dX11_draw_51 (by decide) (fun c51 => ?_) (fun c51 => ?_)
          · refine g_aload_n dX11_draw_67 rfl rfl ?_
            refine g_getf (v := .ref 154) dX11_draw_68 fX11_67 g_eq rfl ?_
            refine g_iload_n dX11_draw_71 rfl rfl ?_
            refine g_dup2_11 dX11_draw_72 rfl rfl ?_
            refine g_ialdN dX11_draw_73 (g_ne (by decide) (fr2.at (by intro q; simp only [List.mem_cons, List.not_mem_nil, or_false] at q; omega) (g_ne (by decide) a14))) (by omega) (by decide) ?_
            refine g_iconst (v := nI 1) dX11_draw_74 (by decide) ?_
            refine g_iaddN dX11_draw_75 ?_
            refine g_iastN dX11_draw_76 (g_ne (by decide) (fr2.at (by intro q; simp only [List.mem_cons, List.not_mem_nil, or_false] at q; omega) (g_ne (by decide) a14))) (by omega) (by decide) ?_
            rw [upd_nI]
            refine g_iload_n dX11_draw_77 rfl rfl ?_
            refine g_bipush (v := -2) dX11_draw_78 (by decide) ?_
            refine g_icmp_eq (tgt := 107) dX11_draw_80 (by decide) (fun c80 => ?_) (fun c80 => ?_)
            · exact absurd c80 (ne_m2 (by omega))
            · refine g_aload_n dX11_draw_83 rfl rfl ?_
              refine g_getf (v := .ref 153) dX11_draw_84 fX11_64 (g_ne (by decide) g_eq) rfl ?_
              refine g_iload_n dX11_draw_87 rfl rfl ?_
              refine g_baldN dX11_draw_88 (g_ne (by decide) (g_ne (by decide) (fr2.at (by intro q; simp only [List.mem_cons, List.not_mem_nil, or_false] at q; omega) (g_ne (by decide) a13)))) (by omega) (by decide) ?_
              refine g_bipush (v := -2) dX11_draw_89 (by decide) ?_
              refine g_icmp_ne (tgt := 107) dX11_draw_91 (by decide) (fun c91 => ?_) (fun c91 => ?_)
              · have frB : g_fr [142, 147, 154, 162, 163, 164, 165] h (g_up (g_up h1 142 (.inr (11, [.int (nI 0), .ref 143, .int (nI (s 4)), .int (nI (s 7)), .int (nI (s 8)), .ref 144, .int (nI (s 5)), .int (nI (s 6)), .ref 145, .int (nI (s 9)), .int (nI (s 10)), .int (nI (s 11)), .int (nI (s 12)), .ref 146, .int (nI k), .ref 147, .int (nI m'), .int (nI sg), .int (nI cm), .int (nI sd), .ref 148, .ref 149, .ref 150, .ref 151, .int (nI mm), .ref 152, .ref 153, .ref 154, .int (nI (dr + 1)), .int (nI dd), .int (nI bk), .int wt, .ref 155, .int (nI rt), .ref 156, .ref 157, .ref 158, .ref 159, .ref 160, .ref 161, .ref 162, .ref 163, .ref 164, .ref 165, .ref 166]))) 154 (.inl (0, 20000, .inl (fun k => nI ((va_up ti b ((ti b) + 1)) k))))) := (((g_fr.rf.up (by simp)).tr fr2 (by simp)).up (by simp)).up (by simp)
                have frC : g_fr [142, 154] h1 (g_up (g_up h1 142 (.inr (11, [.int (nI 0), .ref 143, .int (nI (s 4)), .int (nI (s 7)), .int (nI (s 8)), .ref 144, .int (nI (s 5)), .int (nI (s 6)), .ref 145, .int (nI (s 9)), .int (nI (s 10)), .int (nI (s 11)), .int (nI (s 12)), .ref 146, .int (nI k), .ref 147, .int (nI m'), .int (nI sg), .int (nI cm), .int (nI sd), .ref 148, .ref 149, .ref 150, .ref 151, .int (nI mm), .ref 152, .ref 153, .ref 154, .int (nI (dr + 1)), .int (nI dd), .int (nI bk), .int wt, .ref 155, .int (nI rt), .ref 156, .ref 157, .ref 158, .ref 159, .ref 160, .ref 161, .ref 162, .ref 163, .ref 164, .ref 165, .ref 166]))) 154 (.inl (0, 20000, .inl (fun k => nI ((va_up ti b ((ti b) + 1)) k))))) := ((g_fr.rf).up (by simp)).up (by simp)
                refine g_aload_n dX11_draw_107 rfl rfl ?_
                refine g_iload_n dX11_draw_108 rfl rfl ?_
                refine cVv (st := []) dX11_draw_109 (c_mcount G (d + 0) n ex _ (pn := pn) (pd := pd) (V := V) ((hBv.fr (frB) (by simp) (by simp)).n (X := MX (nI 0) s k m' sg cm sd mm (dr + 1) dd (bk) rt wt) (g_ne (by decide) g_eq)) (g_ne (by decide) (g_ne (by decide) (fr2.at (by intro q; simp only [List.mem_cons, List.not_mem_nil, or_false] at q; omega) (g_ne (by decide) a3)))) (g_ne (by decide) (g_ne (by decide) (fr2.at (by intro q; simp only [List.mem_cons, List.not_mem_nil, or_false] at q; omega) (g_ne (by decide) a9)))) (g_ne (by decide) (g_ne (by decide) (fr2.at (by intro q; simp only [List.mem_cons, List.not_mem_nil, or_false] at q; omega) (g_ne (by decide) a10)))) (g_ne (by decide) (g_ne (by decide) (fr2.at (by intro q; simp only [List.mem_cons, List.not_mem_nil, or_false] at q; omega) (g_ne (by decide) a5)))) (g_ne (by decide) (g_ne (by decide) (fr2.at (by intro q; simp only [List.mem_cons, List.not_mem_nil, or_false] at q; omega) (g_ne (by decide) a11)))) (g_ne (by decide) (g_ne (by decide) (fr2.at (by intro q; simp only [List.mem_cons, List.not_mem_nil, or_false] at q; omega) (g_ne (by decide) a12)))) (g_ne (by decide) (g_ne (by decide) (fr2.at (by intro q; simp only [List.mem_cons, List.not_mem_nil, or_false] at q; omega) (g_ne (by decide) a13)))) hmm hwl hV hdf hl1 hl2 hcap hv6 hv7 r6 r7 g1 g2 hN1 hN2 hm1 hlm2 hlm hcm1 (by omega) (Or.inr ⟨b, by omega, rfl, rfl, (hsok b hb).elim (fun q => absurd q c91) (fun q => q)⟩)) sX11_305 (g_ne (by decide) g_eq) rfl rfl (by simp only [g_rm]; omega) (by simp only [g_rm]; omega) (Nat.le_of_ble_eq_true rfl) ⟨Nat.le_of_ble_eq_true rfl, Nat.le_of_ble_eq_true rfl⟩ (fun h8 fr9 p10 => ?_)
                skip
                refine g_iload_n dX11_draw_112 rfl rfl ?_
                exact e_i dX11_draw_113 rfl rfl (((((g_fr.rf.up (by simp)).tr fr2 (by simp)).up (by simp)).up (by simp)).tr fr9 (by simp)) ⟨m', c', y0, fr9.at (by intro q; simp only [List.mem_cons, List.not_mem_nil, or_false] at q; omega) (g_ne (by decide) (g_ne (by decide) y2)), y3, y4, (((y5.fr frC (by simp))).fr fr9 (by simp)), Or.inr (Or.inr ⟨b, hb, rfl, fr9.at (by intro q; simp only [List.mem_cons, List.not_mem_nil, or_false] at q; omega) g_eq, Or.inr ⟨c91, p10⟩⟩)⟩ (by decide) (by decide)
              · skip
                refine g_aload_n dX11_draw_94 rfl rfl ?_
                refine g_iload_n dX11_draw_95 rfl rfl ?_
                refine g_put (fs' := [.int (nI 0), .ref 143, .int (nI (s 4)), .int (nI (s 7)), .int (nI (s 8)), .ref 144, .int (nI (s 5)), .int (nI (s 6)), .ref 145, .int (nI (s 9)), .int (nI (s 10)), .int (nI (s 11)), .int (nI (s 12)), .ref 146, .int (nI k), .ref 147, .int (nI m'), .int (nI sg), .int (nI cm), .int (nI sd), .ref 148, .ref 149, .ref 150, .ref 151, .int (nI mm), .ref 152, .ref 153, .ref 154, .int (nI (dr + 1)), .int (nI dd), .int (nI bk), .int (nI b), .ref 155, .int (nI rt), .ref 156, .ref 157, .ref 158, .ref 159, .ref 160, .ref 161, .ref 162, .ref 163, .ref 164, .ref 165, .ref 166]) dX11_draw_96 fX11_70 (g_ne (by decide) g_eq) (Nat.le_of_ble_eq_true rfl) rfl rfl rfl ?_
                refine g_aload_n dX11_draw_99 rfl rfl ?_
                refine g_iconst (v := nI 2) dX11_draw_100 (by decide) ?_
                refine g_put (fs' := [.int (nI 0), .ref 143, .int (nI (s 4)), .int (nI (s 7)), .int (nI (s 8)), .ref 144, .int (nI (s 5)), .int (nI (s 6)), .ref 145, .int (nI (s 9)), .int (nI (s 10)), .int (nI (s 11)), .int (nI (s 12)), .ref 146, .int (nI k), .ref 147, .int (nI m'), .int (nI 2), .int (nI cm), .int (nI sd), .ref 148, .ref 149, .ref 150, .ref 151, .int (nI mm), .ref 152, .ref 153, .ref 154, .int (nI (dr + 1)), .int (nI dd), .int (nI bk), .int (nI b), .ref 155, .int (nI rt), .ref 156, .ref 157, .ref 158, .ref 159, .ref 160, .ref 161, .ref 162, .ref 163, .ref 164, .ref 165, .ref 166]) dX11_draw_101 fX11_231 g_eq (Nat.le_of_ble_eq_true rfl) rfl rfl rfl ?_
                refine g_goto (tgt := 112) dX11_draw_104 (by decide) ?_
                have frC : g_fr [142, 154] h1 (g_up (g_up (g_up (g_up h1 142 (.inr (11, [.int (nI 0), .ref 143, .int (nI (s 4)), .int (nI (s 7)), .int (nI (s 8)), .ref 144, .int (nI (s 5)), .int (nI (s 6)), .ref 145, .int (nI (s 9)), .int (nI (s 10)), .int (nI (s 11)), .int (nI (s 12)), .ref 146, .int (nI k), .ref 147, .int (nI m'), .int (nI sg), .int (nI cm), .int (nI sd), .ref 148, .ref 149, .ref 150, .ref 151, .int (nI mm), .ref 152, .ref 153, .ref 154, .int (nI (dr + 1)), .int (nI dd), .int (nI bk), .int wt, .ref 155, .int (nI rt), .ref 156, .ref 157, .ref 158, .ref 159, .ref 160, .ref 161, .ref 162, .ref 163, .ref 164, .ref 165, .ref 166]))) 154 (.inl (0, 20000, .inl (fun k => nI ((va_up ti b ((ti b) + 1)) k))))) 142 (.inr (11, [.int (nI 0), .ref 143, .int (nI (s 4)), .int (nI (s 7)), .int (nI (s 8)), .ref 144, .int (nI (s 5)), .int (nI (s 6)), .ref 145, .int (nI (s 9)), .int (nI (s 10)), .int (nI (s 11)), .int (nI (s 12)), .ref 146, .int (nI k), .ref 147, .int (nI m'), .int (nI sg), .int (nI cm), .int (nI sd), .ref 148, .ref 149, .ref 150, .ref 151, .int (nI mm), .ref 152, .ref 153, .ref 154, .int (nI (dr + 1)), .int (nI dd), .int (nI bk), .int (nI b), .ref 155, .int (nI rt), .ref 156, .ref 157, .ref 158, .ref 159, .ref 160, .ref 161, .ref 162, .ref 163, .ref 164, .ref 165, .ref 166]))) 142 (.inr (11, [.int (nI 0), .ref 143, .int (nI (s 4)), .int (nI (s 7)), .int (nI (s 8)), .ref 144, .int (nI (s 5)), .int (nI (s 6)), .ref 145, .int (nI (s 9)), .int (nI (s 10)), .int (nI (s 11)), .int (nI (s 12)), .ref 146, .int (nI k), .ref 147, .int (nI m'), .int (nI 2), .int (nI cm), .int (nI sd), .ref 148, .ref 149, .ref 150, .ref 151, .int (nI mm), .ref 152, .ref 153, .ref 154, .int (nI (dr + 1)), .int (nI dd), .int (nI bk), .int (nI b), .ref 155, .int (nI rt), .ref 156, .ref 157, .ref 158, .ref 159, .ref 160, .ref 161, .ref 162, .ref 163, .ref 164, .ref 165, .ref 166]))) := ((((g_fr.rf).up (by simp)).up (by simp)).up (by simp)).up (by simp)
                have frW : g_fr [142, 147, 154, 162, 163, 164, 165] h (g_up (g_up (g_up (g_up h1 142 (.inr (11, [.int (nI 0), .ref 143, .int (nI (s 4)), .int (nI (s 7)), .int (nI (s 8)), .ref 144, .int (nI (s 5)), .int (nI (s 6)), .ref 145, .int (nI (s 9)), .int (nI (s 10)), .int (nI (s 11)), .int (nI (s 12)), .ref 146, .int (nI k), .ref 147, .int (nI m'), .int (nI sg), .int (nI cm), .int (nI sd), .ref 148, .ref 149, .ref 150, .ref 151, .int (nI mm), .ref 152, .ref 153, .ref 154, .int (nI (dr + 1)), .int (nI dd), .int (nI bk), .int wt, .ref 155, .int (nI rt), .ref 156, .ref 157, .ref 158, .ref 159, .ref 160, .ref 161, .ref 162, .ref 163, .ref 164, .ref 165, .ref 166]))) 154 (.inl (0, 20000, .inl (fun k => nI ((va_up ti b ((ti b) + 1)) k))))) 142 (.inr (11, [.int (nI 0), .ref 143, .int (nI (s 4)), .int (nI (s 7)), .int (nI (s 8)), .ref 144, .int (nI (s 5)), .int (nI (s 6)), .ref 145, .int (nI (s 9)), .int (nI (s 10)), .int (nI (s 11)), .int (nI (s 12)), .ref 146, .int (nI k), .ref 147, .int (nI m'), .int (nI sg), .int (nI cm), .int (nI sd), .ref 148, .ref 149, .ref 150, .ref 151, .int (nI mm), .ref 152, .ref 153, .ref 154, .int (nI (dr + 1)), .int (nI dd), .int (nI bk), .int (nI b), .ref 155, .int (nI rt), .ref 156, .ref 157, .ref 158, .ref 159, .ref 160, .ref 161, .ref 162, .ref 163, .ref 164, .ref 165, .ref 166]))) 142 (.inr (11, [.int (nI 0), .ref 143, .int (nI (s 4)), .int (nI (s 7)), .int (nI (s 8)), .ref 144, .int (nI (s 5)), .int (nI (s 6)), .ref 145, .int (nI (s 9)), .int (nI (s 10)), .int (nI (s 11)), .int (nI (s 12)), .ref 146, .int (nI k), .ref 147, .int (nI m'), .int (nI 2), .int (nI cm), .int (nI sd), .ref 148, .ref 149, .ref 150, .ref 151, .int (nI mm), .ref 152, .ref 153, .ref 154, .int (nI (dr + 1)), .int (nI dd), .int (nI bk), .int (nI b), .ref 155, .int (nI rt), .ref 156, .ref 157, .ref 158, .ref 159, .ref 160, .ref 161, .ref 162, .ref 163, .ref 164, .ref 165, .ref 166]))) := (((((g_fr.rf.up (by simp)).tr fr2 (by simp)).up (by simp)).up (by simp)).up (by simp)).up (by simp)
                refine g_iload_n dX11_draw_112 rfl rfl ?_
                exact e_i dX11_draw_113 rfl rfl ((((((g_fr.rf.up (by simp)).tr fr2 (by simp)).up (by simp)).up (by simp)).up (by simp)).up (by simp)) ⟨m', c', y0, g_ne (by decide) (g_ne (by decide) (g_ne (by decide) (g_ne (by decide) y2))), y3, y4, (y5.fr frC (by simp)), Or.inr (Or.inr ⟨b, hb, rfl, g_ne (by decide) (g_ne (by decide) g_eq), Or.inl ⟨c91, g_eq, frW⟩⟩)⟩ (by decide) (by decide)
          · exact absurd c51 (ne_m2 (by omega))
        · exact absurd c33 (ne_m1 (by omega))
    · exact absurd c21 (by decide)
def k_see (s : Nat → Nat) (sg : Nat) (x : Int32) : Nat := if ¬ (x = -1 ∨ (0 ≤ x ∧ x < nI (s 4))) then 1 else if ¬ sg = 2 then 2 else 0
set_option maxHeartbeats 4000000 in
set_option maxRecDepth 100000 in
theorem c_msee0 (G : gG) (d n : Nat) (ex : Bool) (h : gH) {cd wt : Int32} {s : Nat → Nat} {k m sg cm sd mm dr dd bk rt : Nat} {x : Int32} (m0 : Mc h cd s k m sg cm sd mm dr dd bk rt wt) (hsg : sg < 2 ^ 31) (h4 : s 4 ≤ 8) (hk0 : ¬ k_see s sg x = 0) : g_M G mX11_see (d + 1) 0 0 [.ref 142, .int x] n ex h (q_i n ex [142] h (fun r h' => Mc h' (nI (k_see s sg x)) s k m sg cm sd mm dr dd bk rt wt ∧ g_fr [142] h h')) := by
  refine g_enter (by decide) (Nat.le_of_ble_eq_true rfl) ?_
  show g_W G _ _ _ n ex h 0 0 0 [(0, .ref 142), (1, .int x)] []
  refine g_aload_n dX11_see_0 rfl rfl ?_
  refine g_aload_n dX11_see_1 rfl rfl ?_
  refine g_iload_n dX11_see_2 rfl rfl ?_
  refine cVi (st := [.ref 142]) dX11_see_3 (c_isVote G d n ex h m0 (x := x)) sX11_243 m0 rfl rfl (by simp only [g_rm]; omega) (by simp only [g_rm]; omega) (Nat.le_of_ble_eq_true rfl) ⟨Nat.le_of_ble_eq_true rfl, Nat.le_of_ble_eq_true rfl⟩ (fun r4 h1 fr2 p3 => ?_)
  cases g_fr0 fr2
  obtain ⟨b, rfl, hb1, hb2⟩ := p3
  refine g_if_neN (tgt := 13) dX11_see_6 (by decide) (by omega) (fun c6 => ?_) (fun c6 => ?_)
  · refine g_aload_n dX11_see_13 rfl rfl ?_
    refine g_getf (v := .int (nI sg)) dX11_see_14 fX11_231 m0 rfl ?_
    refine g_iconst (v := nI 2) dX11_see_17 (by decide) ?_
    refine g_icmp_eqN (tgt := 25) dX11_see_18 (by decide) (by omega) (by decide) (fun c18 => ?_) (fun c18 => ?_)
    · refine g_iconst (v := nI 0) dX11_see_25 (by decide) ?_
      refine g_put (fs' := [.int (nI 0), .ref 143, .int (nI (s 4)), .int (nI (s 7)), .int (nI (s 8)), .ref 144, .int (nI (s 5)), .int (nI (s 6)), .ref 145, .int (nI (s 9)), .int (nI (s 10)), .int (nI (s 11)), .int (nI (s 12)), .ref 146, .int (nI k), .ref 147, .int (nI m), .int (nI sg), .int (nI cm), .int (nI sd), .ref 148, .ref 149, .ref 150, .ref 151, .int (nI mm), .ref 152, .ref 153, .ref 154, .int (nI dr), .int (nI dd), .int (nI bk), .int wt, .ref 155, .int (nI rt), .ref 156, .ref 157, .ref 158, .ref 159, .ref 160, .ref 161, .ref 162, .ref 163, .ref 164, .ref 165, .ref 166]) dX11_see_26 fX11_1 m0 (Nat.le_of_ble_eq_true rfl) rfl rfl rfl ?_
      refine g_aload_n dX11_see_29 rfl rfl ?_
      refine g_getf (v := .int (nI 0)) dX11_see_30 fX11_1 g_eq rfl ?_
      refine g_if_leN (tgt := 38) dX11_see_33 (by decide) (by decide) (fun c33 => ?_) (fun c33 => ?_)
      · exact absurd (show k_see s sg x = 0 from (by have hu_x := un_b x; unfold k_see; (repeat' split) <;> first | rfl | (exfalso; simp only [i_lt, i_le, i_eq, it0, itm, ifp, nI_toInt (show 0 < 2147483648 by first | decide | omega), nI_toInt (show 1 < 2147483648 by first | decide | omega), nI_toInt (show s 4 < 2147483648 by first | decide | omega)] at * <;> omega))) hk0
      · exact absurd c33 (by decide)
    · refine g_iconst (v := nI 2) dX11_see_21 (by decide) ?_
      refine g_goto (tgt := 26) dX11_see_22 (by decide) ?_
      refine g_put (fs' := [.int (nI 2), .ref 143, .int (nI (s 4)), .int (nI (s 7)), .int (nI (s 8)), .ref 144, .int (nI (s 5)), .int (nI (s 6)), .ref 145, .int (nI (s 9)), .int (nI (s 10)), .int (nI (s 11)), .int (nI (s 12)), .ref 146, .int (nI k), .ref 147, .int (nI m), .int (nI sg), .int (nI cm), .int (nI sd), .ref 148, .ref 149, .ref 150, .ref 151, .int (nI mm), .ref 152, .ref 153, .ref 154, .int (nI dr), .int (nI dd), .int (nI bk), .int wt, .ref 155, .int (nI rt), .ref 156, .ref 157, .ref 158, .ref 159, .ref 160, .ref 161, .ref 162, .ref 163, .ref 164, .ref 165, .ref 166]) dX11_see_26 fX11_1 m0 (Nat.le_of_ble_eq_true rfl) rfl rfl rfl ?_
      refine g_aload_n dX11_see_29 rfl rfl ?_
      refine g_getf (v := .int (nI 2)) dX11_see_30 fX11_1 g_eq rfl ?_
      refine g_if_leN (tgt := 38) dX11_see_33 (by decide) (by decide) (fun c33 => ?_) (fun c33 => ?_)
      · exact absurd c33 (by decide)
      · refine g_iconst (v := nI 0) dX11_see_36 (by decide) ?_
        have ek : k_see s sg x = 2 := (by have hu_x := un_b x; unfold k_see; (repeat' split) <;> first | rfl | (exfalso; simp only [i_lt, i_le, i_eq, it0, itm, ifp, nI_toInt (show 0 < 2147483648 by first | decide | omega), nI_toInt (show 1 < 2147483648 by first | decide | omega), nI_toInt (show s 4 < 2147483648 by first | decide | omega)] at * <;> omega))
        exact e_i dX11_see_37 rfl rfl (g_fr.rf.up (by simp)) ⟨by rw [ek]; exact g_eq, g_fr.rf.up (by simp)⟩ (by decide) (by decide)
  · refine g_iconst (v := nI 1) dX11_see_9 (by decide) ?_
    refine g_goto (tgt := 26) dX11_see_10 (by decide) ?_
    refine g_put (fs' := [.int (nI 1), .ref 143, .int (nI (s 4)), .int (nI (s 7)), .int (nI (s 8)), .ref 144, .int (nI (s 5)), .int (nI (s 6)), .ref 145, .int (nI (s 9)), .int (nI (s 10)), .int (nI (s 11)), .int (nI (s 12)), .ref 146, .int (nI k), .ref 147, .int (nI m), .int (nI sg), .int (nI cm), .int (nI sd), .ref 148, .ref 149, .ref 150, .ref 151, .int (nI mm), .ref 152, .ref 153, .ref 154, .int (nI dr), .int (nI dd), .int (nI bk), .int wt, .ref 155, .int (nI rt), .ref 156, .ref 157, .ref 158, .ref 159, .ref 160, .ref 161, .ref 162, .ref 163, .ref 164, .ref 165, .ref 166]) dX11_see_26 fX11_1 m0 (Nat.le_of_ble_eq_true rfl) rfl rfl rfl ?_
    refine g_aload_n dX11_see_29 rfl rfl ?_
    refine g_getf (v := .int (nI 1)) dX11_see_30 fX11_1 g_eq rfl ?_
    refine g_if_leN (tgt := 38) dX11_see_33 (by decide) (by decide) (fun c33 => ?_) (fun c33 => ?_)
    · exact absurd c33 (by decide)
    · refine g_iconst (v := nI 0) dX11_see_36 (by decide) ?_
      have ek : k_see s sg x = 1 := (by have hu_x := un_b x; unfold k_see; (repeat' split) <;> first | rfl | (exfalso; simp only [i_lt, i_le, i_eq, it0, itm, ifp, nI_toInt (show 0 < 2147483648 by first | decide | omega), nI_toInt (show 1 < 2147483648 by first | decide | omega), nI_toInt (show s 4 < 2147483648 by first | decide | omega)] at * <;> omega))
      exact e_i dX11_see_37 rfl rfl (g_fr.rf.up (by simp)) ⟨by rw [ek]; exact g_eq, g_fr.rf.up (by simp)⟩ (by decide) (by decide)
set_option maxHeartbeats 4000000 in
set_option maxRecDepth 100000 in
theorem c_msee (G : gG) (d n : Nat) (ex : Bool) (h : gH) {cd : Int32} {s : Nat → Nat} {k m sg cm sd mm dr dd bk rt : Nat} {v w l df : Nat → Nat} {rI sI sw : Nat → Int32} {V : Nat → Option Nat} {pn pd bw : Nat} {x : Int32} (m0 : Mc h cd s k m sg cm sd mm dr dd bk rt (nI bw)) (hBv : Bv h V) (a3 : h 143 = some (.inl (0, 8, .inl (fun k => nI (v k))))) (a9 : h 149 = some (.inl (0, 16, .inl (fun k => nI (w k))))) (a10 : h 150 = some (.inl (0, 16, .inl (fun k => nI (l k))))) (a5 : h 145 = some (.inl (1, 20000, .inl rI))) (a11 : h 151 = some (.inl (0, 16, .inl sw))) (a12 : h 152 = some (.inl (0, 8, .inl (fun k => nI (df k))))) (a13 : h 153 = some (.inl (1, 20000, .inl sI))) (hsg2 : sg = 2) (hbw : bw < 20000) (hx : x = -1 ∨ ∃ c, c < 8 ∧ x = nI c) (hxv : -1 ≤ x ∧ x < nI (s 4)) (hmm : mm ≤ 16) (hwl : ∀ k, k < mm → w k < 8 ∧ l k < 8) (hV : ∀ k, k < mm → v (l k) < v (w k) ∧ v (w k) ≤ 20000) (hdf : ∀ c, df c ≤ 199) (hl1 : s 9 ≤ 1000000) (hl2 : s 10 ≤ 1000000) (hcap : s 8 ≤ 200) (hv6 : V 6 = some pn) (hv7 : V 7 = some pd) (r6 : pn * 2 ^ 80 < RM) (r7 : pd * 2 ^ 80 < RM) (g1 : s 12 < s 11) (g2 : s 11 ≤ 1000000) (hN1 : 1 ≤ s 6) (hN2 : s 6 ≤ 20000) (hm1 : 1 ≤ mm) (hlm2 : lmn 1000001 v w l mm ≤ s 6) (hlm : ∀ k, k < mm → lmn 1000001 v w l mm ≤ md v w l k) (hcm1 : cm ≤ 1) (hdr : dr ≤ s 8) : g_M G mX11_see (d + 6) 0 0 [.ref 142, .int x] n ex h (q_i n ex [142, 151, 152, 153, 156, 157] h (fun r h' => h' 153 = some (.inl (1, 20000, .inl (upd sI bw x))) ∧ ∃ (sg' : Nat) (sw' : Nat → Int32) (V' : Nat → Option Nat) (pn' pd' : Nat), r = nI sg' ∧ Mc h' (nI 0) s k m sg' cm sd mm dr (dd + 1) bk rt (-1) ∧ h' 151 = some (.inl (0, 16, .inl sw')) ∧ h' 152 = some (.inl (0, 8, .inl (fun k => nI (cdf df x k)))) ∧ Bv h' V' ∧ V' 6 = some pn' ∧ V' 7 = some pd' ∧ V' 0 = V 0 ∧ V' 1 = V 1 ∧ ((cm = 0 ∧ sg' = stP (cs_ (swm v w l (cdf df x) (s 9) (s 10) dr sw) mm = mm) (s 8) dr ∧ (∀ k, k < mm → sw' k = (swm v w l (cdf df x) (s 9) (s 10) dr sw) k) ∧ pn' = pn ∧ pd' = pd) ∨ (cm = 1 ∧ sg' = stP (pn' * s 10 ≤ pd' * s 9) (s 8) dr ∧ (∀ k, k < mm → sw' k = sw k) ∧ (((nI bw) = -2 ∧ pn' = pn * (2 * s 11 * s 6 - lmn 1000001 v w l mm * s 12) ∧ pd' = pd * (s 6 * (2 * s 11))) ∨ ∃ bb, (nI bw) = nI bb ∧ bb < 20000 ∧ pn' = pn * ((2 * s 11 * s 6 - lmn 1000001 v w l mm * s 12) * (md v w l (mo (oe w l (rI bb) ((upd sI bw x) bb)) (md v w l) mm))) ∧ pd' = pd * (s 6 * (cF2 (s 11) (s 12) (lmn 1000001 v w l mm) (md v w l (mo (oe w l (rI bb) ((upd sI bw x) bb)) (md v w l) mm)) (oe w l (rI bb) ((upd sI bw x) bb) (mo (oe w l (rI bb) ((upd sI bw x) bb)) (md v w l) mm))))))))) := by
  refine g_enter (by decide) (Nat.le_of_ble_eq_true rfl) ?_
  show g_W G _ _ _ n ex h 0 0 0 [(0, .ref 142), (1, .int x)] []
  refine g_aload_n dX11_see_0 rfl rfl ?_
  refine g_aload_n dX11_see_1 rfl rfl ?_
  refine g_iload_n dX11_see_2 rfl rfl ?_
  refine cVi (st := [.ref 142]) dX11_see_3 (c_isVote G (d + 5) n ex h m0 (x := x)) sX11_243 m0 rfl rfl (by simp only [g_rm]; omega) (by simp only [g_rm]; omega) (Nat.le_of_ble_eq_true rfl) ⟨Nat.le_of_ble_eq_true rfl, Nat.le_of_ble_eq_true rfl⟩ (fun r4 h1 fr2 p3 => ?_)
  cases g_fr0 fr2
  obtain ⟨b, rfl, hb1, hb2⟩ := p3
  refine g_if_neN (tgt := 13) dX11_see_6 (by decide) (by omega) (fun c6 => ?_) (fun c6 => ?_)
  · refine g_aload_n dX11_see_13 rfl rfl ?_
    refine g_getf (v := .int (nI sg)) dX11_see_14 fX11_231 m0 rfl ?_
    refine g_iconst (v := nI 2) dX11_see_17 (by decide) ?_
    refine g_icmp_eqN (tgt := 25) dX11_see_18 (by decide) (by omega) (by decide) (fun c18 => ?_) (fun c18 => ?_)
    · refine g_iconst (v := nI 0) dX11_see_25 (by decide) ?_
      refine g_put (fs' := [.int (nI 0), .ref 143, .int (nI (s 4)), .int (nI (s 7)), .int (nI (s 8)), .ref 144, .int (nI (s 5)), .int (nI (s 6)), .ref 145, .int (nI (s 9)), .int (nI (s 10)), .int (nI (s 11)), .int (nI (s 12)), .ref 146, .int (nI k), .ref 147, .int (nI m), .int (nI sg), .int (nI cm), .int (nI sd), .ref 148, .ref 149, .ref 150, .ref 151, .int (nI mm), .ref 152, .ref 153, .ref 154, .int (nI dr), .int (nI dd), .int (nI bk), .int (nI bw), .ref 155, .int (nI rt), .ref 156, .ref 157, .ref 158, .ref 159, .ref 160, .ref 161, .ref 162, .ref 163, .ref 164, .ref 165, .ref 166]) dX11_see_26 fX11_1 m0 (Nat.le_of_ble_eq_true rfl) rfl rfl rfl ?_
      refine g_aload_n dX11_see_29 rfl rfl ?_
      refine g_getf (v := .int (nI 0)) dX11_see_30 fX11_1 g_eq rfl ?_
      refine g_if_leN (tgt := 38) dX11_see_33 (by decide) (by decide) (fun c33 => ?_) (fun c33 => ?_)
      · refine g_aload_n dX11_see_38 rfl rfl ?_
        refine g_getf (v := .int (nI bw)) dX11_see_39 fX11_70 g_eq rfl ?_
        refine g_istore_n (ls' := [(2, .int (nI bw)), (0, .ref 142), (1, .int x)]) dX11_see_42 rfl (by decide) rfl ?_
        refine g_aload_n dX11_see_43 rfl rfl ?_
        refine g_iconst (v := -1) dX11_see_44 (by decide) ?_
        refine g_put (fs' := [.int (nI 0), .ref 143, .int (nI (s 4)), .int (nI (s 7)), .int (nI (s 8)), .ref 144, .int (nI (s 5)), .int (nI (s 6)), .ref 145, .int (nI (s 9)), .int (nI (s 10)), .int (nI (s 11)), .int (nI (s 12)), .ref 146, .int (nI k), .ref 147, .int (nI m), .int (nI sg), .int (nI cm), .int (nI sd), .ref 148, .ref 149, .ref 150, .ref 151, .int (nI mm), .ref 152, .ref 153, .ref 154, .int (nI dr), .int (nI dd), .int (nI bk), .int (-1), .ref 155, .int (nI rt), .ref 156, .ref 157, .ref 158, .ref 159, .ref 160, .ref 161, .ref 162, .ref 163, .ref 164, .ref 165, .ref 166]) dX11_see_45 fX11_70 g_eq (Nat.le_of_ble_eq_true rfl) rfl rfl rfl ?_
        refine g_aload_n dX11_see_48 rfl rfl ?_
        refine g_getf (v := .ref 153) dX11_see_49 fX11_64 g_eq rfl ?_
        refine g_iload_n dX11_see_52 rfl rfl ?_
        refine g_iload_n dX11_see_53 rfl rfl ?_
        refine g_i2b dX11_see_54 ?_
        refine g_bastN dX11_see_55 (g_ne (by decide) (g_ne (by decide) a13)) (by omega) (by decide) ?_
        refine g_aload_n dX11_see_56 rfl rfl ?_
        refine g_dup dX11_see_57 rfl ?_
        refine g_getf (v := .int (nI dd)) dX11_see_58 fX11_308 (g_ne (by decide) g_eq) rfl ?_
        refine g_iconst (v := nI 1) dX11_see_61 (by decide) ?_
        refine g_iaddN dX11_see_62 ?_
        refine g_put (fs' := [.int (nI 0), .ref 143, .int (nI (s 4)), .int (nI (s 7)), .int (nI (s 8)), .ref 144, .int (nI (s 5)), .int (nI (s 6)), .ref 145, .int (nI (s 9)), .int (nI (s 10)), .int (nI (s 11)), .int (nI (s 12)), .ref 146, .int (nI k), .ref 147, .int (nI m), .int (nI sg), .int (nI cm), .int (nI sd), .ref 148, .ref 149, .ref 150, .ref 151, .int (nI mm), .ref 152, .ref 153, .ref 154, .int (nI dr), .int (nI (dd + 1)), .int (nI bk), .int (-1), .ref 155, .int (nI rt), .ref 156, .ref 157, .ref 158, .ref 159, .ref 160, .ref 161, .ref 162, .ref 163, .ref 164, .ref 165, .ref 166]) dX11_see_63 fX11_308 (g_ne (by decide) g_eq) (Nat.le_of_ble_eq_true rfl) rfl rfl rfl ?_
        refine g_aload_n dX11_see_66 rfl rfl ?_
        refine g_iload_n dX11_see_67 rfl rfl ?_
        refine cVv (st := []) dX11_see_68 (c_mcount G (d + 0) n ex _ (pn := pn) (pd := pd) (V := V) (sv := x) (bx := nI bw) ((hBv.fr (S := [142, 153]) ((((g_fr.rf.up (by simp)).up (by simp)).up (by simp)).up (by simp)) (by simp) (by simp)).n (X := MX (nI 0) s k m sg cm sd mm dr (dd + 1) bk rt (-1)) g_eq) (g_ne (by decide) (g_ne (by decide) (g_ne (by decide) (g_ne (by decide) a3)))) (g_ne (by decide) (g_ne (by decide) (g_ne (by decide) (g_ne (by decide) a9)))) (g_ne (by decide) (g_ne (by decide) (g_ne (by decide) (g_ne (by decide) a10)))) (g_ne (by decide) (g_ne (by decide) (g_ne (by decide) (g_ne (by decide) a5)))) (g_ne (by decide) (g_ne (by decide) (g_ne (by decide) (g_ne (by decide) a11)))) (g_ne (by decide) (g_ne (by decide) (g_ne (by decide) (g_ne (by decide) a12)))) (g_ne (by decide) g_eq) hmm hwl hV hdf hl1 hl2 hcap hv6 hv7 r6 r7 g1 g2 hN1 hN2 hm1 hlm2 hlm hcm1 hdr (Or.inr ⟨bw, hbw, rfl, by rw [pk_us, nar_v (C := 0) hx], by rw [pk_us, nar_v (C := 0) hx]; exact hx⟩)) sX11_305 g_eq rfl rfl (by simp only [g_rm]; omega) (by simp only [g_rm]; omega) (Nat.le_of_ble_eq_true rfl) ⟨Nat.le_of_ble_eq_true rfl, Nat.le_of_ble_eq_true rfl⟩ (fun h5 fr6 p7 => ?_)
        have hcnt := p7
        obtain ⟨sg', sw', V', pn', pd', x1, x2⟩ := p7
        rw [nar_v (C := 0) hx] at x2
        refine g_aload_n dX11_see_71 rfl rfl ?_
        refine g_getf (v := .int (nI sg')) dX11_see_72 fX11_231 x1 rfl ?_
        exact e_i dX11_see_75 rfl rfl (((((g_fr.rf.up (by simp)).up (by simp)).up (by simp)).up (by simp)).tr fr6 (by simp)) ⟨(by have := fr6.at (by intro q; simp only [List.mem_cons, List.not_mem_nil, or_false] at q; omega) (g_ne (by decide) g_eq); rw [nar_v (C := 0) hx] at this; exact this), sg', sw', V', pn', pd', rfl, x1, x2⟩ (by decide) (by decide)
      · exact absurd c33 (by decide)
    · exact absurd hsg2 c18
  · exact absurd (hb2.mpr hxv) (by omega)
