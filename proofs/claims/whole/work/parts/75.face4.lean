/-- the place of a ballot, if it was drawn -/
def plc (bl : Nat → Nat) (b : Nat) : Nat → Option Nat
  | 0 => none
  | D + 1 => match plc bl b D with
    | some k => some k
    | none => if bl D = b then some D else none
theorem plc_some {bl : Nat → Nat} {b : Nat} : ∀ {D k : Nat}, plc bl b D = some k → k < D ∧ bl k = b ∧ ∀ j, j < k → bl j ≠ b := by
  have key : ∀ D, (∀ k, plc bl b D = some k → k < D ∧ bl k = b ∧ ∀ j, j < k → bl j ≠ b) ∧ (plc bl b D = none → ∀ j, j < D → bl j ≠ b) := by
    intro D
    induction D with
    | zero => exact ⟨fun k h => (by cases h), fun _ j hj => absurd hj (by omega)⟩
    | succ D ih =>
      unfold plc
      cases hp : plc bl b D with
      | some k0 =>
        refine ⟨fun k h => ?_, fun h => (by cases h)⟩
        have e : k0 = k := Option.some.inj h
        subst e
        have := ih.1 k0 hp
        exact ⟨by omega, this.2⟩
      | none =>
        have hn := ih.2 hp
        by_cases q : bl D = b
        · refine ⟨fun k h => ?_, fun h => ?_⟩
          · have h2 : (if bl D = b then some D else none) = some k := h
            rw [if_pos q] at h2
            have e : D = k := Option.some.inj h2
            subst e
            exact ⟨by omega, q, hn⟩
          · have h2 : (if bl D = b then some D else none) = none := h
            rw [if_pos q] at h2; cases h2
        · refine ⟨fun k h => ?_, fun _ j hj => ?_⟩
          · have h2 : (if bl D = b then some D else none) = some k := h
            rw [if_neg q] at h2; cases h2
          · by_cases z : j = D
            · rw [z]; exact q
            · exact hn j (by omega)
  exact fun {D k} h => (key D).1 k h
theorem plc_none {bl : Nat → Nat} {b D : Nat} (h : plc bl b D = none) : ∀ j, j < D → bl j ≠ b := by
  induction D with
  | zero => exact fun j hj => absurd hj (by omega)
  | succ D ih =>
    unfold plc at h
    cases hp : plc bl b D with
    | some k0 => rw [hp] at h; cases h
    | none =>
      rw [hp] at h
      intro j hj
      by_cases z : j = D
      · rw [z]; intro q; have h2 : (if bl D = b then some D else none) = none := h; rw [if_pos q] at h2; cases h2
      · exact ih hp j (by omega)
theorem plc_of {bl : Nat → Nat} {b D k : Nat} (h1 : k < D) (h2 : bl k = b) (h3 : ∀ j, j < k → bl j ≠ b) : plc bl b D = some k := by
  cases hp : plc bl b D with
  | none => exact absurd h2 (plc_none hp k h1)
  | some k0 =>
    have := plc_some hp
    rcases Nat.lt_trichotomy k k0 with q | q | q
    · exact absurd h2 (this.2.2 k q)
    · rw [q]
    · exact absurd this.2.1 (h3 k0 q)
theorem plc_no {bl : Nat → Nat} {b D : Nat} (h : ∀ j, j < D → bl j ≠ b) : plc bl b D = none := by
  cases hp : plc bl b D with
  | none => rfl
  | some k0 => exact absurd (plc_some hp).2.1 (h k0 (plc_some hp).1)
def seC (bl : Nat → Nat) (se : Nat → Int32) (D b : Nat) : Int32 := match plc bl b D with
  | some k => se k
  | none => -2
def tiC (bl ti : Nat → Nat) (D b : Nat) : Nat := match plc bl b D with
  | some k => ti k
  | none => 0
theorem seC_s {bl : Nat → Nat} {se : Nat → Int32} {D b k : Nat} (h : plc bl b D = some k) : seC bl se D b = se k := by unfold seC; rw [h]
theorem seC_n {bl : Nat → Nat} {se : Nat → Int32} {D b : Nat} (h : plc bl b D = none) : seC bl se D b = -2 := by unfold seC; rw [h]
theorem tiC_s {bl ti : Nat → Nat} {D b k : Nat} (h : plc bl b D = some k) : tiC bl ti D b = ti k := by unfold tiC; rw [h]
theorem tiC_n {bl ti : Nat → Nat} {D b : Nat} (h : plc bl b D = none) : tiC bl ti D b = 0 := by unfold tiC; rw [h]
theorem po_plc {bl : Nat → Nat} {D b : Nat} {r : Int32} (h : po_P bl D b r) : (∃ k, r = nI k ∧ k < D ∧ plc bl b D = some k) ∨ (r = -1 ∧ plc bl b D = none) := by
  rcases h with ⟨k, h1, h2, h3, h4⟩ | ⟨h1, h2⟩
  · exact Or.inl ⟨k, h4, h1, plc_of h1 h2 h3⟩
  · exact Or.inr ⟨h2, plc_no h1⟩
set_option maxHeartbeats 4000000 in
set_option maxRecDepth 100000 in
theorem c_ballot (G : gG) (d n : Nat) (h : gH) {sg cm sd : Nat} (a0 : Au h sg cm sd) (hsg : sg < 2 ^ 31) {s v wn en rc : Nat → Nat} (hs : Su h s v wn en rc) {bl ti df : Nat → Nat} {se : Nat → Int32} {D dr bk : Nat} {x y : Int32} (hl : Dl h bl ti df se D dr bk) (hD : D ≤ 200) (hbl : ∀ k, bl k < 2 ^ 31) (h6 : s 6 ≤ 20000) (hB1 : 1 ≤ s 6 → 1 ≤ s 5) (hB : s 5 ≤ 64) (hen : ∀ k, en k < 2 ^ 31) : g_M G mX10_ballot (d + 7) 8 48 [.ref 0, .int x, .int y] n false h (q_t n [] h (fun r h' => k_two (s 6) 4 x y = 0 ∧ ∃ r', r = some (.int r') ∧ bAns (un y) r' (un x) (s 5) en (nI (rc (un x)) - nI 1) (seC bl se D (un x)) (tiC bl ti D (un x))) (x_of [xIB] (k_two (s 6) 4 x y))) := by
  have hs' := hs
  obtain ⟨z1, z2, z3, z4, z5⟩ := hs'
  have l1 := hl.1
  refine g_enter (by decide) (Nat.le_of_ble_eq_true rfl) ?_
  show g_W G _ _ _ n false h 0 0 0 [(0, .ref 0), (1, .int x), (2, .int y)] []
  refine g_iload_n dX10_ballot_0 rfl rfl ?_
  refine g_aload_n dX10_ballot_1 rfl rfl ?_
  refine g_getf dX10_ballot_2 fX10_12 a0 rfl ?_
  refine g_getf dX10_ballot_5 fX10_96 z1 rfl ?_
  refine cSn (st := []) dX10_ballot_8 (c_needIndex G d n h (x := x) (m := nI (s 6))) sX10_104 rfl (by simp only [g_rm]; omega) (by simp only [g_rm]; omega) (Nat.le_of_ble_eq_true rfl) ⟨Nat.le_of_ble_eq_true rfl, Nat.le_of_ble_eq_true rfl⟩ (fun p1 => ?_) (fun p1 => g_out rfl (Nat.le_of_ble_eq_true rfl) (Nat.le_of_ble_eq_true rfl) (x_t (by unfold x_of k_two; rw [if_pos p1]; exact ⟨by decide, rfl⟩)))
  obtain ⟨a, hab, rfl⟩ := nat_ix p1 (by first | decide | omega)
  have hau := un_nI (show a < 4294967296 by omega)
  refine g_iload_n dX10_ballot_11 rfl rfl ?_
  refine g_iconst (v := nI 4) dX10_ballot_12 (by decide) ?_
  refine cSn (st := []) dX10_ballot_13 (c_needIndex G d n h (x := y) (m := nI 4)) sX10_104 rfl (by simp only [g_rm]; omega) (by simp only [g_rm]; omega) (Nat.le_of_ble_eq_true rfl) ⟨Nat.le_of_ble_eq_true rfl, Nat.le_of_ble_eq_true rfl⟩ (fun p2 => ?_) (fun p2 => g_out rfl (Nat.le_of_ble_eq_true rfl) (Nat.le_of_ble_eq_true rfl) (x_t (by unfold x_of k_two; rw [if_neg (nn_ p1), if_pos p2]; exact ⟨by decide, rfl⟩)))
  obtain ⟨j, hjb, rfl⟩ := nat_ix p2 (by first | decide | omega)
  have hju := un_nI (show j < 4294967296 by omega)
  refine g_iload_n dX10_ballot_16 rfl rfl ?_
  have hsw : j = 0 ∨ j = 1 ∨ j = 2 ∨ j = 3 := by omega
  rcases hsw with rfl | rfl | rfl | rfl
  · refine g_tableIn (tgt := 44) dX10_ballot_17 (by decide) (by decide) rfl (by decide) ?_
    refine g_aload_n dX10_ballot_44 rfl rfl ?_
    refine g_getf dX10_ballot_45 fX10_12 a0 rfl ?_
    refine g_iload_n dX10_ballot_48 rfl rfl ?_
    refine cVi (st := []) dX10_ballot_49 (c_batchOf G (d + 6) n false h hs (hB1 (by omega)) hB (by omega) hen) sX10_269 z1 rfl rfl (by simp only [g_rm]; omega) (by simp only [g_rm]; omega) (Nat.le_of_ble_eq_true rfl) ⟨Nat.le_of_ble_eq_true rfl, Nat.le_of_ble_eq_true rfl⟩ (fun r6 h3 fr4 p5 => ?_)
    cases g_fr0 fr4
    obtain ⟨bb, rfl, hbb⟩ := p5
    exact e_ti dX10_ballot_52 rfl rfl g_fr.rf ⟨(by unfold k_two; rw [if_neg (nn_ p1), if_neg (nn_ p2)]), _, rfl, by rw [hau, un_nI (by decide)]; exact (show bAns 0 _ _ _ _ _ _ _ from ⟨bb, hbb, rfl⟩)⟩ (Nat.le_of_ble_eq_true rfl) (Nat.le_of_ble_eq_true rfl)
  · refine g_tableIn (tgt := 53) dX10_ballot_17 (by decide) (by decide) rfl (by decide) ?_
    refine g_aload_n dX10_ballot_53 rfl rfl ?_
    refine g_getf dX10_ballot_54 fX10_12 a0 rfl ?_
    refine g_iload_n dX10_ballot_57 rfl rfl ?_
    refine cVi (st := []) dX10_ballot_58 (c_readOf G (d + 6) n false h hs (by omega)) sX10_272 z1 rfl rfl (by simp only [g_rm]; omega) (by simp only [g_rm]; omega) (Nat.le_of_ble_eq_true rfl) ⟨Nat.le_of_ble_eq_true rfl, Nat.le_of_ble_eq_true rfl⟩ (fun r10 h7 fr8 p9 => ?_)
    cases g_fr0 fr8
    subst p9
    exact e_ti dX10_ballot_61 rfl rfl g_fr.rf ⟨(by unfold k_two; rw [if_neg (nn_ p1), if_neg (nn_ p2)]), _, rfl, by rw [hau, un_nI (by decide)]; exact (show bAns 1 _ _ _ _ _ _ _ from rfl)⟩ (Nat.le_of_ble_eq_true rfl) (Nat.le_of_ble_eq_true rfl)
  · refine g_tableIn (tgt := 62) dX10_ballot_17 (by decide) (by decide) rfl (by decide) ?_
    refine g_aload_n dX10_ballot_62 rfl rfl ?_
    refine g_getf dX10_ballot_63 fX10_33 a0 rfl ?_
    refine g_aload_n dX10_ballot_66 rfl rfl ?_
    refine g_getf dX10_ballot_67 fX10_33 a0 rfl ?_
    refine g_iload_n dX10_ballot_70 rfl rfl ?_
    refine cVi (st := [.ref 12]) dX10_ballot_71 (c_placeOf G (d + 6) n false h hl hD (by omega) hbl) sX10_275 l1 rfl rfl (by simp only [g_rm]; omega) (by simp only [g_rm]; omega) (Nat.le_of_ble_eq_true rfl) ⟨Nat.le_of_ble_eq_true rfl, Nat.le_of_ble_eq_true rfl⟩ (fun r14 h11 fr12 p13 => ?_)
    cases g_fr0 fr12
    rcases po_plc p13 with ⟨kp, rfl, hkp, hpl⟩ | ⟨rfl, hpl⟩
    · refine cVi (st := []) dX10_ballot_74 (c_seenAt G (d + 5) n false h hl hkp hD) sX10_199 l1 rfl rfl (by simp only [g_rm]; omega) (by simp only [g_rm]; omega) (Nat.le_of_ble_eq_true rfl) ⟨Nat.le_of_ble_eq_true rfl, Nat.le_of_ble_eq_true rfl⟩ (fun r18 h15 fr16 p17 => ?_)
      cases g_fr0 fr16
      subst p17
      exact e_ti dX10_ballot_77 rfl rfl g_fr.rf ⟨(by unfold k_two; rw [if_neg (nn_ p1), if_neg (nn_ p2)]), _, rfl, by rw [hau, un_nI (by decide)]; exact (show bAns 2 _ _ _ _ _ _ _ from (seC_s hpl).symm)⟩ (Nat.le_of_ble_eq_true rfl) (Nat.le_of_ble_eq_true rfl)
    · refine cVi (st := []) dX10_ballot_74 (c_seenNo G (d + 5) n false h hl) sX10_199 l1 rfl rfl (by simp only [g_rm]; omega) (by simp only [g_rm]; omega) (Nat.le_of_ble_eq_true rfl) ⟨Nat.le_of_ble_eq_true rfl, Nat.le_of_ble_eq_true rfl⟩ (fun r22 h19 fr20 p21 => ?_)
      cases g_fr0 fr20
      subst p21
      exact e_ti dX10_ballot_77 rfl rfl g_fr.rf ⟨(by unfold k_two; rw [if_neg (nn_ p1), if_neg (nn_ p2)]), _, rfl, by rw [hau, un_nI (by decide)]; exact (show bAns 2 _ _ _ _ _ _ _ from (seC_n hpl).symm)⟩ (Nat.le_of_ble_eq_true rfl) (Nat.le_of_ble_eq_true rfl)
  · refine g_tableOut (tgt := 78) dX10_ballot_17 (by decide) (by decide) ?_
    refine g_aload_n dX10_ballot_78 rfl rfl ?_
    refine g_getf dX10_ballot_79 fX10_33 a0 rfl ?_
    refine g_aload_n dX10_ballot_82 rfl rfl ?_
    refine g_getf dX10_ballot_83 fX10_33 a0 rfl ?_
    refine g_iload_n dX10_ballot_86 rfl rfl ?_
    refine cVi (st := [.ref 12]) dX10_ballot_87 (c_placeOf G (d + 6) n false h hl hD (by omega) hbl) sX10_275 l1 rfl rfl (by simp only [g_rm]; omega) (by simp only [g_rm]; omega) (Nat.le_of_ble_eq_true rfl) ⟨Nat.le_of_ble_eq_true rfl, Nat.le_of_ble_eq_true rfl⟩ (fun r26 h23 fr24 p25 => ?_)
    cases g_fr0 fr24
    rcases po_plc p25 with ⟨kp, rfl, hkp, hpl⟩ | ⟨rfl, hpl⟩
    · refine cVi (st := []) dX10_ballot_90 (c_timesAt G (d + 5) n false h hl hkp hD) sX10_278 l1 rfl rfl (by simp only [g_rm]; omega) (by simp only [g_rm]; omega) (Nat.le_of_ble_eq_true rfl) ⟨Nat.le_of_ble_eq_true rfl, Nat.le_of_ble_eq_true rfl⟩ (fun r30 h27 fr28 p29 => ?_)
      cases g_fr0 fr28
      subst p29
      exact e_ti dX10_ballot_93 rfl rfl g_fr.rf ⟨(by unfold k_two; rw [if_neg (nn_ p1), if_neg (nn_ p2)]), _, rfl, by rw [hau, un_nI (by decide)]; exact (show bAns 3 _ _ _ _ _ _ _ from (by rw [tiC_s hpl]; rfl))⟩ (Nat.le_of_ble_eq_true rfl) (Nat.le_of_ble_eq_true rfl)
    · refine cVi (st := []) dX10_ballot_90 (c_timesNo G (d + 5) n false h hl) sX10_278 l1 rfl rfl (by simp only [g_rm]; omega) (by simp only [g_rm]; omega) (Nat.le_of_ble_eq_true rfl) ⟨Nat.le_of_ble_eq_true rfl, Nat.le_of_ble_eq_true rfl⟩ (fun r34 h31 fr32 p33 => ?_)
      cases g_fr0 fr32
      subst p33
      exact e_ti dX10_ballot_93 rfl rfl g_fr.rf ⟨(by unfold k_two; rw [if_neg (nn_ p1), if_neg (nn_ p2)]), _, rfl, by rw [hau, un_nI (by decide)]; exact (show bAns 3 _ _ _ _ _ _ _ from (by rw [tiC_n hpl]; rfl))⟩ (Nat.le_of_ble_eq_true rfl) (Nat.le_of_ble_eq_true rfl)
set_option maxHeartbeats 4000000 in
set_option maxRecDepth 100000 in
theorem c_shownPart0 (G : gG) (d n : Nat) (ex : Bool) (h : gH) {sg cm sd A B : Nat} (a0 : Au h sg cm sd) (hF : Fr h 137 328 A B) : g_M G mX10_shownPart d 0 0 [.ref 0, .int (nI 0)] n ex h (q_r n ex [] h (fun r _ => r = 138)) := by
  have g1 := hF.1
  refine g_enter (by decide) (Nat.le_of_ble_eq_true rfl) ?_
  show g_W G _ _ _ n ex h 0 0 0 [(0, .ref 0), (1, .int (nI 0))] []
  refine g_iload_n dX10_shownPart_0 rfl rfl ?_
  refine g_if_neN (tgt := 14) dX10_shownPart_1 (by decide) (by decide) (fun c1 => ?_) (fun c1 => ?_)
  · exact absurd c1 (by decide)
  · refine g_aload_n dX10_shownPart_4 rfl rfl ?_
    refine g_getf dX10_shownPart_5 fX10_63 a0 rfl ?_
    refine g_getf dX10_shownPart_8 fX10_356 g1 rfl ?_
    refine g_goto (tgt := 21) dX10_shownPart_11 (by decide) ?_
    exact e_r dX10_shownPart_21 rfl g_fr.rf rfl (by decide) (by decide)
set_option maxHeartbeats 4000000 in
set_option maxRecDepth 100000 in
theorem c_shownPart1 (G : gG) (d n : Nat) (ex : Bool) (h : gH) {sg cm sd A B : Nat} (a0 : Au h sg cm sd) (hF : Fr h 137 328 A B) : g_M G mX10_shownPart d 0 0 [.ref 0, .int (nI 1)] n ex h (q_r n ex [] h (fun r _ => r = 140)) := by
  have g1 := hF.1
  refine g_enter (by decide) (Nat.le_of_ble_eq_true rfl) ?_
  show g_W G _ _ _ n ex h 0 0 0 [(0, .ref 0), (1, .int (nI 1))] []
  refine g_iload_n dX10_shownPart_0 rfl rfl ?_
  refine g_if_neN (tgt := 14) dX10_shownPart_1 (by decide) (by decide) (fun c1 => ?_) (fun c1 => ?_)
  · refine g_aload_n dX10_shownPart_14 rfl rfl ?_
    refine g_getf dX10_shownPart_15 fX10_63 a0 rfl ?_
    refine g_getf dX10_shownPart_18 fX10_359 g1 rfl ?_
    exact e_r dX10_shownPart_21 rfl g_fr.rf rfl (by decide) (by decide)
  · exact absurd c1 (by decide)
theorem nl_w {f : Nat → Int32} {u V : Nat} (hv : wv f u = V) (hn : u = 0 ∨ f (u - 1) ≠ 0) : u = nl V := by
  refine nl_eq ?_
  rcases Nat.eq_zero_or_pos u with q | q
  · subst q; exact Or.inl ⟨rfl, hv.symm⟩
  · refine Or.inr ⟨q, ?_, by rw [← hv]; exact wv_lt f u⟩
    rcases wv_norm.mp hn with z | z
    · omega
    · rw [hv] at z; exact z
theorem lb_w {f : Nat → Int32} {u V i : Nat} (hv : wv f u = V) (hi : i < u) : f i = nI (V / 2 ^ (32 * i) % 4294967296) := by
  have h1 := wv_digit (f := f) hi
  rw [hv] at h1
  have h2 := un_lt (f i)
  rw [show V / 2 ^ (32 * i) % 4294967296 = un (f i) by omega, nI_un]
set_option maxHeartbeats 4000000 in
set_option maxRecDepth 100000 in
theorem c_size (G : gG) (d n : Nat) (h : gH) {sg cm sd : Nat} (a0 : Au h sg cm sd) (hsg : sg < 2 ^ 31) {A B : Nat} {x : Int32} (hF : Fr h 137 328 A B) : g_M G mX10_size (d + 7) 8 48 [.ref 0, .int x] n false h (q_t n [] h (fun r h' => k_size x = 0 ∧ r = some (.int (nI (nl (if un x = 0 then A else B))))) (x_of [xIB] (k_size x))) := by
  have g1 := hF.1
  obtain ⟨u0, f0, w01, w02, w03, w04, w05⟩ := hF.2.1
  obtain ⟨u1, f1, w11, w12, w13, w14, w15⟩ := hF.2.2
  refine g_enter (by decide) (Nat.le_of_ble_eq_true rfl) ?_
  show g_W G _ _ _ n false h 0 0 0 [(0, .ref 0), (1, .int x)] []
  refine g_iload_n dX10_size_0 rfl rfl ?_
  refine g_iconst (v := nI 2) dX10_size_1 (by decide) ?_
  refine cSn (st := []) dX10_size_2 (c_needIndex G d n h (x := x) (m := nI 2)) sX10_104 rfl (by simp only [g_rm]; omega) (by simp only [g_rm]; omega) (Nat.le_of_ble_eq_true rfl) ⟨Nat.le_of_ble_eq_true rfl, Nat.le_of_ble_eq_true rfl⟩ (fun p1 => ?_) (fun p1 => g_out rfl (Nat.le_of_ble_eq_true rfl) (Nat.le_of_ble_eq_true rfl) (x_t (by unfold x_of k_size; rw [if_pos p1]; exact ⟨by decide, rfl⟩)))
  obtain ⟨j, hjb, rfl⟩ := nat_ix p1 (by first | decide | omega)
  have hju := un_nI (show j < 4294967296 by omega)
  rcases (show j = 0 ∨ j = 1 by omega) with rfl | rfl
  · refine g_aload_n dX10_size_5 rfl rfl ?_
    refine g_iload_n dX10_size_6 rfl rfl ?_
    refine cVr (st := []) dX10_size_7 (c_shownPart0 G (d + 6) n false h a0 hF) sX10_336 a0 rfl rfl (by simp only [g_rm]; omega) (by simp only [g_rm]; omega) (Nat.le_of_ble_eq_true rfl) ⟨Nat.le_of_ble_eq_true rfl, Nat.le_of_ble_eq_true rfl⟩ (fun r5 h2 fr3 p4 => ?_)
    cases g_fr0 fr3
    subst p4
    refine g_getf dX10_size_10 fX10_340 w01 rfl ?_
    exact e_ti dX10_size_13 rfl rfl g_fr.rf ⟨(by unfold k_size; rw [if_neg (nn_ p1)]), by rw [un_nI (by decide), if_pos rfl, ← nl_w w04 w05]⟩ (Nat.le_of_ble_eq_true rfl) (Nat.le_of_ble_eq_true rfl)
  · refine g_aload_n dX10_size_5 rfl rfl ?_
    refine g_iload_n dX10_size_6 rfl rfl ?_
    refine cVr (st := []) dX10_size_7 (c_shownPart1 G (d + 6) n false h a0 hF) sX10_336 a0 rfl rfl (by simp only [g_rm]; omega) (by simp only [g_rm]; omega) (Nat.le_of_ble_eq_true rfl) ⟨Nat.le_of_ble_eq_true rfl, Nat.le_of_ble_eq_true rfl⟩ (fun r9 h6 fr7 p8 => ?_)
    cases g_fr0 fr7
    subst p8
    refine g_getf dX10_size_10 fX10_340 w11 rfl ?_
    exact e_ti dX10_size_13 rfl rfl g_fr.rf ⟨(by unfold k_size; rw [if_neg (nn_ p1)]), by rw [un_nI (by decide), if_neg (by decide), ← nl_w w14 w15]⟩ (Nat.le_of_ble_eq_true rfl) (Nat.le_of_ble_eq_true rfl)
set_option maxHeartbeats 4000000 in
set_option maxRecDepth 100000 in
theorem c_limb (G : gG) (d n : Nat) (h : gH) {sg cm sd : Nat} (a0 : Au h sg cm sd) (hsg : sg < 2 ^ 31) {A B : Nat} {x y : Int32} (hF : Fr h 137 328 A B) : g_M G mX10_limb (d + 7) 8 48 [.ref 0, .int x, .int y] n false h (q_t n [] h (fun r h' => k_limb (nl (if un x = 0 then A else B)) x y = 0 ∧ r = some (.int (nI ((if un x = 0 then A else B) / 2 ^ (32 * un y) % 4294967296)))) (x_of [xIB] (k_limb (nl (if un x = 0 then A else B)) x y))) := by
  have g1 := hF.1
  obtain ⟨u0, f0, w01, w02, w03, w04, w05⟩ := hF.2.1
  obtain ⟨u1, f1, w11, w12, w13, w14, w15⟩ := hF.2.2
  refine g_enter (by decide) (Nat.le_of_ble_eq_true rfl) ?_
  show g_W G _ _ _ n false h 0 0 0 [(0, .ref 0), (1, .int x), (2, .int y)] []
  refine g_iload_n dX10_limb_0 rfl rfl ?_
  refine g_iconst (v := nI 2) dX10_limb_1 (by decide) ?_
  refine cSn (st := []) dX10_limb_2 (c_needIndex G d n h (x := x) (m := nI 2)) sX10_104 rfl (by simp only [g_rm]; omega) (by simp only [g_rm]; omega) (Nat.le_of_ble_eq_true rfl) ⟨Nat.le_of_ble_eq_true rfl, Nat.le_of_ble_eq_true rfl⟩ (fun p1 => ?_) (fun p1 => g_out rfl (Nat.le_of_ble_eq_true rfl) (Nat.le_of_ble_eq_true rfl) (x_t (by unfold x_of k_limb; rw [if_pos p1]; exact ⟨by decide, rfl⟩)))
  obtain ⟨j, hjb, rfl⟩ := nat_ix p1 (by first | decide | omega)
  have hju := un_nI (show j < 4294967296 by omega)
  rcases (show j = 0 ∨ j = 1 by omega) with rfl | rfl
  · refine g_aload_n dX10_limb_5 rfl rfl ?_
    refine g_iload_n dX10_limb_6 rfl rfl ?_
    refine cVr (st := []) dX10_limb_7 (c_shownPart0 G (d + 6) n false h a0 hF) sX10_336 a0 rfl rfl (by simp only [g_rm]; omega) (by simp only [g_rm]; omega) (Nat.le_of_ble_eq_true rfl) ⟨Nat.le_of_ble_eq_true rfl, Nat.le_of_ble_eq_true rfl⟩ (fun r5 h2 fr3 p4 => ?_)
    cases g_fr0 fr3
    subst p4
    refine g_astore_n (ls' := [(3, .ref 138), (0, .ref 0), (1, .int (nI 0)), (2, .int y)]) dX10_limb_10 rfl (by decide) rfl ?_
    refine g_iload_n dX10_limb_11 rfl rfl ?_
    refine g_aload_n dX10_limb_12 rfl rfl ?_
    refine g_getf dX10_limb_13 fX10_340 w01 rfl ?_
    refine cSn (st := []) dX10_limb_16 (c_needIndex G d n h (x := y) (m := nI u0)) sX10_104 rfl (by simp only [g_rm]; omega) (by simp only [g_rm]; omega) (Nat.le_of_ble_eq_true rfl) ⟨Nat.le_of_ble_eq_true rfl, Nat.le_of_ble_eq_true rfl⟩ (fun p6 => ?_) (fun p6 => g_out rfl (Nat.le_of_ble_eq_true rfl) (Nat.le_of_ble_eq_true rfl) (x_t (by have hnl : nl (if un (nI 0) = 0 then A else B) = u0 := (by rw [un_nI (by decide), if_pos rfl, ← nl_w w04 w05]); unfold x_of k_limb; rw [if_neg (nn_ p1), if_pos (by rw [hnl]; exact p6)]; exact ⟨by decide, rfl⟩)))
    have hnl : nl (if un (nI 0) = 0 then A else B) = u0 := by rw [un_nI (by decide), if_pos rfl, ← nl_w w04 w05]
    have hp9 := p6
    obtain ⟨i, hib, rfl⟩ := nat_ix p6 (by omega)
    have hiu := un_nI (show i < 4294967296 by omega)
    refine g_aload_n dX10_limb_19 rfl rfl ?_
    refine g_getf dX10_limb_20 fX10_345 w01 rfl ?_
    refine g_iload_n dX10_limb_23 rfl rfl ?_
    refine g_ialdN dX10_limb_24 w02 (by omega) (by decide) ?_
    exact e_ti dX10_limb_25 rfl rfl g_fr.rf ⟨(by unfold k_limb; rw [if_neg (nn_ p1), if_neg (nn_ (by rw [hnl]; exact p6))]), by rw [un_nI (show 0 < 4294967296 by decide), hiu, if_pos rfl, lb_w w04 hib]⟩ (Nat.le_of_ble_eq_true rfl) (Nat.le_of_ble_eq_true rfl)
  · refine g_aload_n dX10_limb_5 rfl rfl ?_
    refine g_iload_n dX10_limb_6 rfl rfl ?_
    refine cVr (st := []) dX10_limb_7 (c_shownPart1 G (d + 6) n false h a0 hF) sX10_336 a0 rfl rfl (by simp only [g_rm]; omega) (by simp only [g_rm]; omega) (Nat.le_of_ble_eq_true rfl) ⟨Nat.le_of_ble_eq_true rfl, Nat.le_of_ble_eq_true rfl⟩ (fun r10 h7 fr8 p9 => ?_)
    cases g_fr0 fr8
    subst p9
    refine g_astore_n (ls' := [(3, .ref 140), (0, .ref 0), (1, .int (nI 1)), (2, .int y)]) dX10_limb_10 rfl (by decide) rfl ?_
    refine g_iload_n dX10_limb_11 rfl rfl ?_
    refine g_aload_n dX10_limb_12 rfl rfl ?_
    refine g_getf dX10_limb_13 fX10_340 w11 rfl ?_
    refine cSn (st := []) dX10_limb_16 (c_needIndex G d n h (x := y) (m := nI u1)) sX10_104 rfl (by simp only [g_rm]; omega) (by simp only [g_rm]; omega) (Nat.le_of_ble_eq_true rfl) ⟨Nat.le_of_ble_eq_true rfl, Nat.le_of_ble_eq_true rfl⟩ (fun p11 => ?_) (fun p11 => g_out rfl (Nat.le_of_ble_eq_true rfl) (Nat.le_of_ble_eq_true rfl) (x_t (by have hnl : nl (if un (nI 1) = 0 then A else B) = u1 := (by rw [un_nI (by decide), if_neg (by decide), ← nl_w w14 w15]); unfold x_of k_limb; rw [if_neg (nn_ p1), if_pos (by rw [hnl]; exact p11)]; exact ⟨by decide, rfl⟩)))
    have hnl : nl (if un (nI 1) = 0 then A else B) = u1 := by rw [un_nI (by decide), if_neg (by decide), ← nl_w w14 w15]
    have hp9 := p11
    obtain ⟨i, hib, rfl⟩ := nat_ix p11 (by omega)
    have hiu := un_nI (show i < 4294967296 by omega)
    refine g_aload_n dX10_limb_19 rfl rfl ?_
    refine g_getf dX10_limb_20 fX10_345 w11 rfl ?_
    refine g_iload_n dX10_limb_23 rfl rfl ?_
    refine g_ialdN dX10_limb_24 w12 (by omega) (by decide) ?_
    exact e_ti dX10_limb_25 rfl rfl g_fr.rf ⟨(by unfold k_limb; rw [if_neg (nn_ p1), if_neg (nn_ (by rw [hnl]; exact p11))]), by rw [un_nI (show 1 < 4294967296 by decide), hiu, if_neg (by decide), lb_w w14 hib]⟩ (Nat.le_of_ble_eq_true rfl) (Nat.le_of_ble_eq_true rfl)
theorem tl_1 {h : gH} {fv ft : Nat → Nat} {m r c x : Nat} (hft : ∀ k, ft k ≤ 1) (h1 : (ft c = 0 ∧ Fc h (va_up fv c x) (va_up ft c 1) (m + 1) r) ∨ (¬ ft c = 0 ∧ Fc h (va_up fv c x) ft m r)) : ∃ fm1, fm1 = (if ft c = 0 then m + 1 else m) ∧ Fc h (va_up fv c x) (va_up ft c 1) fm1 r := by
  rcases h1 with ⟨q, z⟩ | ⟨q, z⟩
  · exact ⟨_, (if_pos q).symm, z⟩
  · refine ⟨_, (if_neg q).symm, ?_⟩
    have e : va_up ft c 1 = ft := by
      funext k
      unfold va_up
      by_cases y : k = c
      · rw [if_pos y, y]; have := hft c; omega
      · rw [if_neg y]
    rw [e]; exact z
set_option maxHeartbeats 4000000 in
set_option maxRecDepth 100000 in
theorem c_counted (G : gG) (d n : Nat) (h : gH) {sg cm sd : Nat} (a0 : Au h sg cm sd) (hsg : sg < 2 ^ 31) {s v wn en rc : Nat → Nat} (hs : Su h s v wn en rc) {w l ea eb fv ft : Nat → Nat} {sw : Nat → Int32} {mm sr lm fm fr : Nat} {x y : Int32} (hF : Fc h fv ft fm fr) (hT : Te h mm sr lm) (hK : Tk h mm w l v sw ea eb) (hmm : mm ≤ 16) (hwl : ∀ k, k < mm → w k < 8 ∧ l k < 8) (hft : ∀ k, ft k ≤ 1) (hfv : ∀ k, fv k < 2 ^ 31) (h4 : s 4 ≤ 8) (h6 : s 6 ≤ 20000) (hfm : fm ≤ 8) : g_M G mX10_counted (d + 7) 8 48 [.ref 0, .int x, .int y] n false h (q_t n [0, 120, 121, 122] h (fun r h' => k_counted s sg x y = 0 ∧ ∃ fm1 fr1, fm1 = (if ft (un x) = 0 then fm + 1 else fm) ∧ r = some (.int (nI fm1)) ∧ Fc h' (va_up fv (un x) (un y)) (va_up ft (un x) 1) fm1 fr1 ∧ ((fm1 < s 4 ∧ Au h' sg cm sd ∧ fr1 = fr) ∨ (s 4 ≤ fm1 ∧ Au h' 5 cm sd ∧ fr1 ≤ 1 ∧ (fr1 = 1 ↔ ∀ k, k < mm → (va_up fv (un x) (un y)) (l k) < (va_up fv (un x) (un y)) (w k))))) (x_of [xIB, xIA, xIS] (k_counted s sg x y))) := by
  have hs' := hs
  obtain ⟨z1, z2, z3, z4, z5⟩ := hs'
  have fc1 := hF.1
  have t1 := hT.1
  refine g_enter (by decide) (Nat.le_of_ble_eq_true rfl) ?_
  show g_W G _ _ _ n false h 0 0 0 [(0, .ref 0), (1, .int x), (2, .int y)] []
  refine g_iload_n dX10_counted_0 rfl rfl ?_
  refine g_aload_n dX10_counted_1 rfl rfl ?_
  refine g_getf dX10_counted_2 fX10_12 a0 rfl ?_
  refine g_getf dX10_counted_5 fX10_79 z1 rfl ?_
  refine cSn (st := []) dX10_counted_8 (c_needIndex G d n h (x := x) (m := nI (s 4))) sX10_104 rfl (by simp only [g_rm]; omega) (by simp only [g_rm]; omega) (Nat.le_of_ble_eq_true rfl) ⟨Nat.le_of_ble_eq_true rfl, Nat.le_of_ble_eq_true rfl⟩ (fun p1 => ?_) (fun p1 => g_out rfl (Nat.le_of_ble_eq_true rfl) (Nat.le_of_ble_eq_true rfl) (x_t (by unfold x_of k_counted; rw [if_pos p1]; exact ⟨by decide, rfl⟩)))
  obtain ⟨a, hab, rfl⟩ := nat_ix p1 (by first | decide | omega)
  have hau := un_nI (show a < 4294967296 by omega)
  refine g_iload_n dX10_counted_11 rfl rfl ?_
  refine g_iconst (v := nI 0) dX10_counted_12 (by decide) ?_
  refine g_aload_n dX10_counted_13 rfl rfl ?_
  refine g_getf dX10_counted_14 fX10_12 a0 rfl ?_
  refine g_getf dX10_counted_17 fX10_96 z1 rfl ?_
  refine cSn (st := []) dX10_counted_20 (c_needNumber G d n h (x := y) (a := nI 0) (b := nI (s 6))) sX10_72 rfl (by simp only [g_rm]; omega) (by simp only [g_rm]; omega) (Nat.le_of_ble_eq_true rfl) ⟨Nat.le_of_ble_eq_true rfl, Nat.le_of_ble_eq_true rfl⟩ (fun p2 => ?_) (fun p2 => g_out rfl (Nat.le_of_ble_eq_true rfl) (Nat.le_of_ble_eq_true rfl) (x_t (by unfold x_of k_counted; rw [if_neg (nn_ p1), if_pos p2]; exact ⟨by decide, rfl⟩)))
  obtain ⟨b, hba, hbb, rfl⟩ := nat_of (by first | decide | omega) p2 (by decide)
  have hbu := un_nI (show b < 4294967296 by omega)
  refine g_aload_n dX10_counted_23 rfl rfl ?_
  refine g_iconst (v := nI 4) dX10_counted_24 (by decide) ?_
  refine cVn (st := []) dX10_counted_25 (c_needStage G d n h (x := 4) (a0) hsg (by decide)) sX10_76 a0 rfl rfl (by simp only [g_rm]; omega) (by simp only [g_rm]; omega) (Nat.le_of_ble_eq_true rfl) ⟨Nat.le_of_ble_eq_true rfl, Nat.le_of_ble_eq_true rfl⟩ (fun p3 => ?_) (fun p3 => g_out rfl (Nat.le_of_ble_eq_true rfl) (Nat.le_of_ble_eq_true rfl) (x_t (by unfold x_of k_counted; rw [if_neg (nn_ p1), if_neg (nn_ p2), if_pos p3]; exact ⟨by decide, rfl⟩)))
  refine g_aload_n dX10_counted_28 rfl rfl ?_
  refine g_getf dX10_counted_29 fX10_47 a0 rfl ?_
  refine g_iload_n dX10_counted_32 rfl rfl ?_
  refine g_iload_n dX10_counted_33 rfl rfl ?_
  refine cVv (st := []) dX10_counted_34 (c_tell G (d + 6) n false h hF (c := a) (x := b) (by omega) (fun k => by have := hft k; omega)) sX10_205 fc1 rfl rfl (by simp only [g_rm]; omega) (by simp only [g_rm]; omega) (Nat.le_of_ble_eq_true rfl) ⟨Nat.le_of_ble_eq_true rfl, Nat.le_of_ble_eq_true rfl⟩ (fun h4 fr5 p6 => ?_)
  obtain ⟨fm1, efm, hF1⟩ := tl_1 hft p6
  have hfm1 : fm1 ≤ 9 := by rw [efm]; split <;> omega
  refine g_aload_n dX10_counted_37 rfl rfl ?_
  refine g_getf dX10_counted_38 fX10_47 (fr5.at (by intro q; simp only [List.mem_cons, List.not_mem_nil, or_false] at q; omega) a0) rfl ?_
  refine g_getf dX10_counted_41 fX10_208 hF1.1 rfl ?_
  refine g_aload_n dX10_counted_44 rfl rfl ?_
  refine g_getf dX10_counted_45 fX10_12 (fr5.at (by intro q; simp only [List.mem_cons, List.not_mem_nil, or_false] at q; omega) a0) rfl ?_
  refine g_getf dX10_counted_48 fX10_79 (fr5.at (by intro q; simp only [List.mem_cons, List.not_mem_nil, or_false] at q; omega) z1) rfl ?_
  refine g_icmp_ltN (tgt := 77) dX10_counted_51 (by decide) (by omega) (by omega) (fun c51 => ?_) (fun c51 => ?_)
  · refine g_aload_n dX10_counted_77 rfl rfl ?_
    refine g_getf dX10_counted_78 fX10_47 (fr5.at (by intro q; simp only [List.mem_cons, List.not_mem_nil, or_false] at q; omega) a0) rfl ?_
    refine g_getf dX10_counted_81 fX10_208 hF1.1 rfl ?_
    exact e_ti dX10_counted_84 rfl rfl ((g_fr.rf).tr fr5 (by simp)) ⟨(by unfold k_counted; rw [if_neg (nn_ p1), if_neg (nn_ p2), if_neg (nn_ p3)]), fm1, fr, by rw [hau]; exact efm, rfl, by rw [hau, hbu]; exact hF1, Or.inl ⟨by omega, fr5.at (by intro q; simp only [List.mem_cons, List.not_mem_nil, or_false] at q; omega) a0, rfl⟩⟩ (Nat.le_of_ble_eq_true rfl) (Nat.le_of_ble_eq_true rfl)
  · refine g_aload_n dX10_counted_54 rfl rfl ?_
    refine g_getf dX10_counted_55 fX10_47 (fr5.at (by intro q; simp only [List.mem_cons, List.not_mem_nil, or_false] at q; omega) a0) rfl ?_
    refine g_aload_n dX10_counted_58 rfl rfl ?_
    refine g_getf dX10_counted_59 fX10_40 (fr5.at (by intro q; simp only [List.mem_cons, List.not_mem_nil, or_false] at q; omega) a0) rfl ?_
    refine g_aload_n dX10_counted_62 rfl rfl ?_
    refine g_getf dX10_counted_63 fX10_47 (fr5.at (by intro q; simp only [List.mem_cons, List.not_mem_nil, or_false] at q; omega) a0) rfl ?_
    refine cVi (st := [.ref 120]) dX10_counted_66 (c_agree G (d + 6) n false h4 hmm hwl (fun k => by unfold va_up; split; omega; exact hfv k) (hT.fr fr5 (by simp) (by simp)) (hK.fr fr5 (by intro j q; simp only [List.mem_cons, List.not_mem_nil, or_false] at q; omega) hmm) hF1) sX10_209 (fr5.at (by intro q; simp only [List.mem_cons, List.not_mem_nil, or_false] at q; omega) t1) rfl rfl (by simp only [g_rm]; omega) (by simp only [g_rm]; omega) (Nat.le_of_ble_eq_true rfl) ⟨Nat.le_of_ble_eq_true rfl, Nat.le_of_ble_eq_true rfl⟩ (fun r11 h8 fr9 p10 => ?_)
    cases g_fr0 fr9
    obtain ⟨q9, rfl, hq1, hq2⟩ := p10
    refine g_put (fs' := [.ref 121, .ref 122, .int (nI fm1), .int (nI q9)]) dX10_counted_69 fX10_213 hF1.1 (Nat.le_of_ble_eq_true rfl) (nz q9 hq1) (nf q9 hq1) rfl ?_
    refine g_aload_n dX10_counted_72 rfl rfl ?_
    refine g_iconst (v := nI 5) dX10_counted_73 (by decide) ?_
    refine g_put (fs' := [.ref 1, .ref 6, .ref 8, .ref 12, .ref 17, .ref 120, .ref 123, .ref 137, .int (nI 5), .int (nI cm), .int (nI sd)]) dX10_counted_74 fX10_67 (g_ne (by decide) (fr5.at (by intro q; simp only [List.mem_cons, List.not_mem_nil, or_false] at q; omega) a0)) (Nat.le_of_ble_eq_true rfl) rfl rfl rfl ?_
    refine g_aload_n dX10_counted_77 rfl rfl ?_
    refine g_getf dX10_counted_78 fX10_47 g_eq rfl ?_
    refine g_getf dX10_counted_81 fX10_208 (g_ne (by decide) g_eq) rfl ?_
    exact e_ti dX10_counted_84 rfl rfl ((((g_fr.rf).tr fr5 (by simp)).up (by simp)).up (by simp)) ⟨(by unfold k_counted; rw [if_neg (nn_ p1), if_neg (nn_ p2), if_neg (nn_ p3)]), fm1, q9, by rw [hau]; exact efm, rfl, by rw [hau, hbu]; exact ⟨g_ne (by decide) g_eq, g_ne (by decide) (g_ne (by decide) hF1.2.1), g_ne (by decide) (g_ne (by decide) hF1.2.2)⟩, Or.inr ⟨by omega, g_eq, hq1, by rw [hau, hbu]; exact hq2⟩⟩ (Nat.le_of_ble_eq_true rfl) (Nat.le_of_ble_eq_true rfl)
