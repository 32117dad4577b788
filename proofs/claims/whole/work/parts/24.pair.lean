def FrR (h : gH) (q N : Nat) : Prop := h q = some (.inr (2, [.ref (q + 1), .ref (q + 3)])) ∧ Wr h (q + 1) (q + 2) N ∧ Wr h (q + 3) (q + 4) N
theorem Fr.r {h : gH} {q N A B : Nat} (z : Fr h q N A B) : FrR h q N := ⟨z.1, z.2.1.r, z.2.2.r⟩
theorem Wr.cell {h : gH} {w a N : Nat} (q : Wr h w a N) : ∃ fs, h w = some (.inr (9, fs)) := by obtain ⟨u, f, h1, -⟩ := q; exact ⟨_, h1⟩
theorem FrR.cell {h : gH} {q N : Nat} (z : FrR h q N) : ∃ fs, h q = some (.inr (2, fs)) := ⟨_, z.1⟩
theorem FrR.fr {h h' : gH} {S : List Nat} {q N : Nat} (z : FrR h q N) (hf : g_fr S h h') (h0 : q ∉ S) (h1 : q + 1 ∉ S) (h2 : q + 2 ∉ S) (h3 : q + 3 ∉ S) (h4 : q + 4 ∉ S) : FrR h' q N := ⟨hf.at h0 z.1, z.2.1.fr hf h1 h2, z.2.2.fr hf h3 h4⟩
theorem lt32 {v N : Nat} (hv : v < 2 ^ 32) (hN : 1 ≤ N) : v < 2 ^ (32 * N) := Nat.lt_of_lt_of_le hv (Nat.pow_le_pow_right (by decide) (by omega))
set_option maxHeartbeats 4000000 in
set_option maxRecDepth 100000 in
theorem c_fbecome (G : gG) (d n : Nat) (ex : Bool) (h : gH) {q N up low : Nat} (hF : FrR h q N) (hN : N < 2 ^ 31) (hN1 : 1 ≤ N) (hl : 1 ≤ low) (hup : up < 70368744177664) (hlow : low < 70368744177664) (hA1 : up < 2 ^ (32 * N)) (hB1 : low < 2 ^ (32 * N)) : g_M G mX2_become (d + 3) 0 0 [.ref q, .long (lN up), .long (lN low)] n ex h (q_v n ex [q + 1, q + 2, q + 3, q + 4] h (fun h' => ∃ A' B', Fr h' q N A' B' ∧ Nat.gcd A' B' = 1 ∧ 1 ≤ B' ∧ A' * low = B' * up ∧ A' ≤ up ∧ B' ≤ low)) := by
  obtain ⟨hq, hA, hB⟩ := hF
  refine g_enter (by decide) (Nat.le_of_ble_eq_true rfl) ?_
  show g_W G _ _ _ n ex h 0 0 0 [(0, .ref q), (1, .long (lN up)), (3, .long (lN low))] []
  refine g_aload_n dX2_become_0 rfl rfl ?_
  refine g_getf dX2_become_1 fX2_12 hq rfl ?_
  refine g_lconst (v := lN 1) dX2_become_4 (by decide) ?_
  obtain ⟨xz1, fz1, hwz1, haz1⟩ := id (hA)
  refine cVvE (st := []) dX2_become_5 (c_become G (d + 1) n ex h hwz1 haz1 hN (by decide) (lt32 (by decide) hN1)) sX2_21 ((hA).cell) rfl rfl (by simp only [g_rm]; omega) (by simp only [g_rm]; omega) (Nat.le_of_ble_eq_true rfl) ⟨Nat.le_of_ble_eq_true rfl, Nat.le_of_ble_eq_true rfl⟩ (fun h2 fr3 p4 => ?_)
  refine g_aload_n dX2_become_8 rfl rfl ?_
  refine g_getf dX2_become_9 fX2_18 (g_fr.at fr3 (by simp) hq) rfl ?_
  refine g_lconst (v := lN 1) dX2_become_12 (by decide) ?_
  obtain ⟨xz6, fz6, hwz6, haz6⟩ := id ((hB).fr fr3 (by simp) (by simp))
  refine cVvE (st := []) dX2_become_13 (c_become G (d + 1) n ex h2 hwz6 haz6 hN (by decide) (lt32 (by decide) hN1)) sX2_21 (((hB).fr fr3 (by simp) (by simp)).cell) rfl rfl (by simp only [g_rm]; omega) (by simp only [g_rm]; omega) (Nat.le_of_ble_eq_true rfl) ⟨Nat.le_of_ble_eq_true rfl, Nat.le_of_ble_eq_true rfl⟩ (fun h7 fr8 p9 => ?_)
  refine g_aload_n dX2_become_16 rfl rfl ?_
  refine g_lload_n dX2_become_17 rfl rfl ?_
  refine g_lload_n dX2_become_18 rfl rfl ?_
  refine cVvE (st := []) dX2_become_19 (c_times G d n ex h7 (q := q) (N := N) (A := 1) (B := 1) (up := up) (low := low) ⟨g_fr.at fr8 (by simp) (g_fr.at fr3 (by simp) hq), (p4).fr fr8 (by simp) (by simp), p9⟩ rfl (by decide) hN hN1 hl hup hlow (by rw [Nat.one_mul]; exact hA1) (by rw [Nat.one_mul]; exact hB1)) sX2_25 (⟨_, g_fr.at fr8 (by simp) (g_fr.at fr3 (by simp) hq)⟩) rfl rfl (by simp only [g_rm]; omega) (by simp only [g_rm]; omega) (Nat.le_of_ble_eq_true rfl) ⟨Nat.le_of_ble_eq_true rfl, Nat.le_of_ble_eq_true rfl⟩ (fun h11 fr12 p13 => ?_)
  obtain ⟨A', B', p1, p2, p3, p4, p5, p6⟩ := p13
  exact e_v dX2_become_22 rfl ((((g_fr.rf).tr fr3 (by simp)).tr fr8 (by simp)).tr fr12 (by simp)) ⟨A', B', p1, p2, p3, by rw [Nat.one_mul, Nat.one_mul] at p4; exact p4, by rw [Nat.one_mul] at p5; exact p5, by rw [Nat.one_mul] at p6; exact p6⟩ (by decide) (by decide)
set_option maxHeartbeats 4000000 in
set_option maxRecDepth 100000 in
theorem c_compareWith (G : gG) (d n : Nat) (ex : Bool) (h : gH) {q N A B up low : Nat} (hF : Fr h q N A B) (hN : N < 2 ^ 31) (hup : up ≤ 1000000) (hlow : low ≤ 1000000) : g_M G mX2_compareWith (d + 2) 0 0 [.ref q, .int (nI up), .int (nI low)] n ex h (q_i n ex [] h (fun r _ => r = cp_sg (A * low) (B * up))) := by
  obtain ⟨hq, hA, hB⟩ := hF
  refine g_enter (by decide) (Nat.le_of_ble_eq_true rfl) ?_
  show g_W G _ _ _ n ex h 0 0 0 [(0, .ref q), (1, .int (nI up)), (2, .int (nI low))] []
  refine g_aload_n dX2_compareWith_0 rfl rfl ?_
  refine g_getf dX2_compareWith_1 fX2_12 hq rfl ?_
  refine g_iload_n dX2_compareWith_4 rfl rfl ?_
  refine g_aload_n dX2_compareWith_5 rfl rfl ?_
  refine g_getf dX2_compareWith_6 fX2_18 hq rfl ?_
  refine g_iload_n dX2_compareWith_9 rfl rfl ?_
  refine cSi (st := []) dX2_compareWith_10 (c_compareProducts G d n ex h hA hB hN hN hlow hup) sX2_47 rfl (by simp only [g_rm]; omega) (by simp only [g_rm]; omega) (Nat.le_of_ble_eq_true rfl) ⟨Nat.le_of_ble_eq_true rfl, Nat.le_of_ble_eq_true rfl⟩ (fun r4 h1 fr2 p3 => ?_)
  cases g_fr0 fr2
  subst p3
  exact e_i dX2_compareWith_13 rfl rfl g_fr.rf rfl (by decide) (by decide)
set_option maxHeartbeats 4000000 in
set_option maxRecDepth 100000 in
theorem c_becomeWhole (G : gG) (d n : Nat) (ex : Bool) (h : gH) {q N w2 a2 N2 V : Nat} (hF : FrR h q N) (hw2 : Wh h w2 a2 N2 V) (hN : N < 2 ^ 31) (hN2 : N2 < 2 ^ 31) (hN1 : 1 ≤ N) (hV : V < 2 ^ (32 * N)) (hap : w2 < q ∨ q + 4 < w2) (hap2 : a2 < q ∨ q + 4 < a2) : g_M G mX2_becomeWhole (d + 2) 0 0 [.ref q, .ref w2] n ex h (q_v n ex [q + 1, q + 2, q + 3, q + 4] h (fun h' => Fr h' q N V 1)) := by
  obtain ⟨hq, hA, hB⟩ := hF
  refine g_enter (by decide) (Nat.le_of_ble_eq_true rfl) ?_
  show g_W G _ _ _ n ex h 0 0 0 [(0, .ref q), (1, .ref w2)] []
  refine g_aload_n dX2_becomeWhole_0 rfl rfl ?_
  refine g_getf dX2_becomeWhole_1 fX2_12 hq rfl ?_
  refine g_aload_n dX2_becomeWhole_4 rfl rfl ?_
  refine cVvE (st := []) dX2_becomeWhole_5 (c_becomeCopyOf G d n ex h (hA) hw2 hN hN2 hV (by omega) (by omega)) sX2_29 ((hA).cell) rfl rfl (by simp only [g_rm]; omega) (by simp only [g_rm]; omega) (Nat.le_of_ble_eq_true rfl) ⟨Nat.le_of_ble_eq_true rfl, Nat.le_of_ble_eq_true rfl⟩ (fun h1 fr2 p3 => ?_)
  refine g_aload_n dX2_becomeWhole_8 rfl rfl ?_
  refine g_getf dX2_becomeWhole_9 fX2_18 (g_fr.at fr2 (by simp) hq) rfl ?_
  refine g_lconst (v := lN 1) dX2_becomeWhole_12 (by decide) ?_
  obtain ⟨xz5, fz5, hwz5, haz5⟩ := id ((hB).fr fr2 (by simp) (by simp))
  refine cVvE (st := []) dX2_becomeWhole_13 (c_become G (d + 0) n ex h1 hwz5 haz5 hN (by decide) (lt32 (by decide) hN1)) sX2_21 (((hB).fr fr2 (by simp) (by simp)).cell) rfl rfl (by simp only [g_rm]; omega) (by simp only [g_rm]; omega) (Nat.le_of_ble_eq_true rfl) ⟨Nat.le_of_ble_eq_true rfl, Nat.le_of_ble_eq_true rfl⟩ (fun h6 fr7 p8 => ?_)
  exact e_v dX2_becomeWhole_16 rfl (((g_fr.rf).tr fr2 (by simp)).tr fr7 (by simp)) ⟨g_fr.at fr7 (by simp) (g_fr.at fr2 (by simp) hq), (p3).fr fr7 (by simp) (by simp), p8⟩ (by decide) (by decide)
set_option maxHeartbeats 4000000 in
set_option maxRecDepth 100000 in
theorem c_fcopy (G : gG) (d n : Nat) (ex : Bool) (h : gH) {q N q2 N2 A B : Nat} (hF : FrR h q N) (hF2 : Fr h q2 N2 A B) (hN : N < 2 ^ 31) (hN2 : N2 < 2 ^ 31) (hA1 : A < 2 ^ (32 * N)) (hB1 : B < 2 ^ (32 * N)) (hap : q2 + 4 < q ∨ q + 4 < q2) : g_M G mX2_becomeCopyOf (d + 2) 0 0 [.ref q, .ref q2] n ex h (q_v n ex [q + 1, q + 2, q + 3, q + 4] h (fun h' => Fr h' q N A B)) := by
  obtain ⟨hq, hA, hB⟩ := hF
  obtain ⟨hq2, oA, oB⟩ := hF2
  refine g_enter (by decide) (Nat.le_of_ble_eq_true rfl) ?_
  show g_W G _ _ _ n ex h 0 0 0 [(0, .ref q), (1, .ref q2)] []
  refine g_aload_n dX2_becomeCopyOf_0 rfl rfl ?_
  refine g_getf dX2_becomeCopyOf_1 fX2_12 hq rfl ?_
  refine g_aload_n dX2_becomeCopyOf_4 rfl rfl ?_
  refine g_getf dX2_becomeCopyOf_5 fX2_12 hq2 rfl ?_
  refine cVvE (st := []) dX2_becomeCopyOf_8 (c_becomeCopyOf G d n ex h (hA) (oA) hN hN2 hA1 (by omega) (by omega)) sX2_29 ((hA).cell) rfl rfl (by simp only [g_rm]; omega) (by simp only [g_rm]; omega) (Nat.le_of_ble_eq_true rfl) ⟨Nat.le_of_ble_eq_true rfl, Nat.le_of_ble_eq_true rfl⟩ (fun h1 fr2 p3 => ?_)
  refine g_aload_n dX2_becomeCopyOf_11 rfl rfl ?_
  refine g_getf dX2_becomeCopyOf_12 fX2_18 (g_fr.at fr2 (by simp) hq) rfl ?_
  refine g_aload_n dX2_becomeCopyOf_15 rfl rfl ?_
  refine g_getf dX2_becomeCopyOf_16 fX2_18 (g_fr.at fr2 (by simp; omega) hq2) rfl ?_
  refine cVvE (st := []) dX2_becomeCopyOf_19 (c_becomeCopyOf G d n ex h1 ((hB).fr fr2 (by simp) (by simp)) ((oB).fr fr2 (by simp; omega) (by simp; omega)) hN hN2 hB1 (by omega) (by omega)) sX2_29 (((hB).fr fr2 (by simp) (by simp)).cell) rfl rfl (by simp only [g_rm]; omega) (by simp only [g_rm]; omega) (Nat.le_of_ble_eq_true rfl) ⟨Nat.le_of_ble_eq_true rfl, Nat.le_of_ble_eq_true rfl⟩ (fun h5 fr6 p7 => ?_)
  exact e_v dX2_becomeCopyOf_22 rfl (((g_fr.rf).tr fr2 (by simp)).tr fr6 (by simp)) ⟨g_fr.at fr6 (by simp) (g_fr.at fr2 (by simp) hq), (p3).fr fr6 (by simp) (by simp), p7⟩ (by decide) (by decide)
/-- a Pair p with its T behind it -/
def Pw (h : gH) (p w l vw vl : Nat) (sw : Int32) : Prop := h p = some (.inr (5, [.ref (p + 1), .int (nI w), .int (nI l), .int (nI vw), .int (nI vl), .int sw]))
theorem Pw.cell {h : gH} {p w l vw vl : Nat} {sw : Int32} (q : Pw h p w l vw vl sw) : ∃ fs, h p = some (.inr (5, fs)) := ⟨_, q⟩
set_option maxHeartbeats 4000000 in
set_option maxRecDepth 100000 in
theorem c_bothVotes (G : gG) (d n : Nat) (ex : Bool) (h : gH) {p w l vw vl : Nat} {sw : Int32} (hp : Pw h p w l vw vl sw) : g_M G mX5_bothVotes d 0 0 [.ref p] n ex h (q_i n ex [] h (fun r _ => r = nI (vw + vl))) := by
  refine g_enter (by decide) (Nat.le_of_ble_eq_true rfl) ?_
  show g_W G _ _ _ n ex h 0 0 0 [(0, .ref p)] []
  refine g_aload_n dX5_bothVotes_0 rfl rfl ?_
  refine g_getf dX5_bothVotes_1 fX5_27 hp rfl ?_
  refine g_aload_n dX5_bothVotes_4 rfl rfl ?_
  refine g_getf dX5_bothVotes_5 fX5_30 hp rfl ?_
  refine g_iaddN dX5_bothVotes_8 ?_
  exact e_i dX5_bothVotes_9 rfl rfl g_fr.rf rfl (by decide) (by decide)
set_option maxHeartbeats 4000000 in
set_option maxRecDepth 100000 in
theorem c_pmargin (G : gG) (d n : Nat) (ex : Bool) (h : gH) {p w l vw vl : Nat} {sw : Int32} (hp : Pw h p w l vw vl sw) (hv : vl ≤ vw) : g_M G mX5_margin d 0 0 [.ref p] n ex h (q_i n ex [] h (fun r _ => r = nI (vw - vl))) := by
  refine g_enter (by decide) (Nat.le_of_ble_eq_true rfl) ?_
  show g_W G _ _ _ n ex h 0 0 0 [(0, .ref p)] []
  refine g_aload_n dX5_margin_0 rfl rfl ?_
  refine g_getf dX5_margin_1 fX5_27 hp rfl ?_
  refine g_aload_n dX5_margin_4 rfl rfl ?_
  refine g_getf dX5_margin_5 fX5_30 hp rfl ?_
  refine g_isubN dX5_margin_8 (by omega) ?_
  exact e_i dX5_margin_9 rfl rfl g_fr.rf rfl (by decide) (by decide)
def p_lead (w l : Nat) (c : Int32) : Int32 := if c = nI w then 1 else if c = nI l then -1 else 0
set_option maxHeartbeats 4000000 in
set_option maxRecDepth 100000 in
theorem c_lead (G : gG) (d n : Nat) (ex : Bool) (h : gH) {p w l vw vl : Nat} {sw : Int32} (hp : Pw h p w l vw vl sw) {c : Int32} : g_M G mX5_lead d 0 0 [.ref p, .int c] n ex h (q_i n ex [] h (fun r _ => r = p_lead w l c)) := by
  refine g_enter (by decide) (Nat.le_of_ble_eq_true rfl) ?_
  show g_W G _ _ _ n ex h 0 0 0 [(0, .ref p), (1, .int c)] []
  refine g_iload_n dX5_lead_0 rfl rfl ?_
  refine g_aload_n dX5_lead_1 rfl rfl ?_
  refine g_getf dX5_lead_2 fX5_20 hp rfl ?_
  refine g_icmp_ne (tgt := 10) dX5_lead_5 (by decide) (fun c5 => ?_) (fun c5 => ?_)
  · refine g_iload_n dX5_lead_10 rfl rfl ?_
    refine g_aload_n dX5_lead_11 rfl rfl ?_
    refine g_getf dX5_lead_12 fX5_24 hp rfl ?_
    refine g_icmp_ne (tgt := 22) dX5_lead_15 (by decide) (fun c15 => ?_) (fun c15 => ?_)
    · refine g_iconst (v := nI 0) dX5_lead_22 (by decide) ?_
      exact e_i dX5_lead_23 rfl rfl g_fr.rf (by unfold p_lead; first | (rw [if_pos c5]; rfl) | (rw [if_neg c5, if_pos c15]) | (rw [if_neg c5, if_neg c15]; rfl)) (by decide) (by decide)
    · refine g_iconst (v := -1) dX5_lead_18 (by decide) ?_
      refine g_goto (tgt := 23) dX5_lead_19 (by decide) ?_
      exact e_i dX5_lead_23 rfl rfl g_fr.rf (by unfold p_lead; first | (rw [if_pos c5]; rfl) | (rw [if_neg c5, if_pos c15]) | (rw [if_neg c5, if_neg c15]; rfl)) (by decide) (by decide)
  · refine g_iconst (v := nI 1) dX5_lead_8 (by decide) ?_
    exact e_i dX5_lead_9 rfl rfl g_fr.rf (by unfold p_lead; first | (rw [if_pos c5]; rfl) | (rw [if_neg c5, if_pos c15]) | (rw [if_neg c5, if_neg c15]; rfl)) (by decide) (by decide)
set_option maxHeartbeats 4000000 in
set_option maxRecDepth 100000 in
theorem c_overstated (G : gG) (d n : Nat) (ex : Bool) (h : gH) {p w l vw vl : Nat} {sw : Int32} (hp : Pw h p w l vw vl sw) {a b : Int32} : g_M G mX5_overstated (d + 1) 0 0 [.ref p, .int a, .int b] n ex h (q_i n ex [] h (fun r _ => r = p_lead w l a - p_lead w l b)) := by
  refine g_enter (by decide) (Nat.le_of_ble_eq_true rfl) ?_
  show g_W G _ _ _ n ex h 0 0 0 [(0, .ref p), (1, .int a), (2, .int b)] []
  refine g_aload_n dX5_overstated_0 rfl rfl ?_
  refine g_iload_n dX5_overstated_1 rfl rfl ?_
  refine cVi (st := []) dX5_overstated_2 (c_lead G d n ex h hp (c := a)) sX5_49 hp rfl rfl (by simp only [g_rm]; omega) (by simp only [g_rm]; omega) (Nat.le_of_ble_eq_true rfl) ⟨Nat.le_of_ble_eq_true rfl, Nat.le_of_ble_eq_true rfl⟩ (fun r4 h1 fr2 p3 => ?_)
  cases g_fr0 fr2
  subst p3
  refine g_aload_n dX5_overstated_5 rfl rfl ?_
  refine g_iload_n dX5_overstated_6 rfl rfl ?_
  refine cVi (st := [.int (p_lead w l a)]) dX5_overstated_7 (c_lead G d n ex h hp (c := b)) sX5_49 hp rfl rfl (by simp only [g_rm]; omega) (by simp only [g_rm]; omega) (Nat.le_of_ble_eq_true rfl) ⟨Nat.le_of_ble_eq_true rfl, Nat.le_of_ble_eq_true rfl⟩ (fun r8 h5 fr6 p7 => ?_)
  cases g_fr0 fr6
  subst p7
  refine g_isub dX5_overstated_10 ?_
  exact e_i dX5_overstated_11 rfl rfl g_fr.rf rfl (by decide) (by decide)
set_option maxHeartbeats 4000000 in
set_option maxRecDepth 100000 in
theorem c_step (G : gG) (d n : Nat) (ex : Bool) (h : gH) {p w l vw vl : Nat} {sw : Int32} (hp : Pw h p w l vw vl sw) {q N A B b : Nat} (hF : Fr h q N A B) (hAB : Nat.gcd A B = 1) (hB : 1 ≤ B) (hN : N < 2 ^ 31) (hN1 : 1 ≤ N) (hb : b ≤ 1) (hvw : 1 ≤ vw) (hvw2 : vw ≤ 20000) (hvl2 : vl ≤ 20000) (hA1 : ¬ b = 0 → A * (2 * vw) < 2 ^ (32 * N)) (hA2 : b = 0 → A * (2 * vl) < 2 ^ (32 * N)) (hB1 : B * (vw + vl) < 2 ^ (32 * N)) : g_M G mX5_step (d + 3) 0 0 [.ref p, .ref q, .int (nI b)] n ex h (q_v n ex [q + 1, q + 2, q + 3, q + 4] h (fun h' => ∃ A' B', Fr h' q N A' B' ∧ Nat.gcd A' B' = 1 ∧ 1 ≤ B' ∧ A' * (B * (vw + vl)) = B' * (A * (2 * (if b = 0 then vl else vw))) ∧ A' ≤ A * (2 * (if b = 0 then vl else vw)) ∧ B' ≤ B * (vw + vl))) := by
  refine g_enter (by decide) (Nat.le_of_ble_eq_true rfl) ?_
  show g_W G _ _ _ n ex h 0 0 0 [(0, .ref p), (1, .ref q), (2, .int (nI b))] []
  refine g_aload_n dX5_step_0 rfl rfl ?_
  refine g_ldc2 dX5_step_1 kX5_40 rfl ?_
  refine g_topl (show (2 : Int64) = lN 2 by decide) ?_
  refine g_iload_n dX5_step_4 rfl rfl ?_
  refine g_if_eqN (tgt := 15) dX5_step_5 (by decide) (by omega) (fun c5 => ?_) (fun c5 => ?_)
  · refine g_aload_n dX5_step_15 rfl rfl ?_
    refine g_getf dX5_step_16 fX5_30 hp rfl ?_
    refine g_i2lN dX5_step_19 (by omega) ?_
    refine g_lmulN dX5_step_20 ?_
    refine g_aload_n dX5_step_21 rfl rfl ?_
    refine cVi (st := [.long (lN (2 * vl)), .ref q]) dX5_step_22 (c_bothVotes G (d + 2) n ex h hp) sX5_42 hp rfl rfl (by simp only [g_rm]; omega) (by simp only [g_rm]; omega) (Nat.le_of_ble_eq_true rfl) ⟨Nat.le_of_ble_eq_true rfl, Nat.le_of_ble_eq_true rfl⟩ (fun r4 h1 fr2 p3 => ?_)
    cases g_fr0 fr2
    subst p3
    refine g_i2lN dX5_step_25 (by omega) ?_
    refine cVvE (st := []) dX5_step_26 (c_times G d n ex h hF hAB hB hN hN1 (by omega) (by omega) (by omega) (hA2 (by omega)) hB1) sX5_46 hF.cell rfl rfl (by simp only [g_rm]; omega) (by simp only [g_rm]; omega) (Nat.le_of_ble_eq_true rfl) ⟨Nat.le_of_ble_eq_true rfl, Nat.le_of_ble_eq_true rfl⟩ (fun h5 fr6 p7 => ?_)
    exact e_v dX5_step_29 rfl ((g_fr.rf).tr fr6 (by simp)) (by first | (rw [if_neg c5]; exact p7) | (rw [if_pos c5]; exact p7)) (by decide) (by decide)
  · refine g_aload_n dX5_step_8 rfl rfl ?_
    refine g_getf dX5_step_9 fX5_27 hp rfl ?_
    refine g_goto (tgt := 19) dX5_step_12 (by decide) ?_
    refine g_i2lN dX5_step_19 (by omega) ?_
    refine g_lmulN dX5_step_20 ?_
    refine g_aload_n dX5_step_21 rfl rfl ?_
    refine cVi (st := [.long (lN (2 * vw)), .ref q]) dX5_step_22 (c_bothVotes G (d + 2) n ex h hp) sX5_42 hp rfl rfl (by simp only [g_rm]; omega) (by simp only [g_rm]; omega) (Nat.le_of_ble_eq_true rfl) ⟨Nat.le_of_ble_eq_true rfl, Nat.le_of_ble_eq_true rfl⟩ (fun r12 h9 fr10 p11 => ?_)
    cases g_fr0 fr10
    subst p11
    refine g_i2lN dX5_step_25 (by omega) ?_
    refine cVvE (st := []) dX5_step_26 (c_times G d n ex h hF hAB hB hN hN1 (by omega) (by omega) (by omega) (hA1 (by omega)) hB1) sX5_46 hF.cell rfl rfl (by simp only [g_rm]; omega) (by simp only [g_rm]; omega) (Nat.le_of_ble_eq_true rfl) ⟨Nat.le_of_ble_eq_true rfl, Nat.le_of_ble_eq_true rfl⟩ (fun h13 fr14 p15 => ?_)
    exact e_v dX5_step_29 rfl ((g_fr.rf).tr fr14 (by simp)) (by first | (rw [if_neg c5]; exact p15) | (rw [if_pos c5]; exact p15)) (by decide) (by decide)
