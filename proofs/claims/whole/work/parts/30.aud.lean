section GAU
variable {G : gG} {M : gM} {R : Room} {K : gK} {n : Nat} {h : gH} {k sl pc : Nat} {ls : List (Nat × Value)} {st : List Value}
theorem cVn {M' : gM} {d' mc' ms' idx i ci : Nat} {as st0 fs : List Value} {E : String} {P : Prop} (hd : decode M.2.1 pc = .ok (.invokevirtual idx, 3)) (hM : g_M G M' d' mc' ms' (.ref i :: as) n false h (q_n n h E P)) (hsite : g_site M' as.length [Cond.methodLink M.1.cls idx M'.1, Cond.instanceMethod M'.1, Cond.selects M'.1.cls M'.1 M'.1, Cond.initialized M'.1.cls]) (ho : h i = some (.inr (ci, fs))) (hci : vwCl[ci]?.map (fun q => q.1) = some M'.1.cls) (hst : st0 = as.reverse ++ .ref i :: st) (hf : d' + 1 ≤ R.frames) (hlo : 8 + (M'.2.2.1 + 11) + 41 * d' ≤ R.locals) (hrest : (st.map fun v => v.category).sum ≤ 8) (hc : k + mc' ≤ R.cells ∧ sl + ms' ≤ R.slots)
    (kk : P → g_W G M R K n false h (k + mc') (sl + ms') (pc + 3) ls st) (kx : ¬ P → g_X G M R K n false h (k + mc') (sl + ms') pc ls E) : g_W G M R K n false h k sl pc ls st0 :=
  g_callV hd hM hsite ho hci hst hf hlo hrest hc (fun v n' ex' h' q => by obtain ⟨rfl, rfl, rfl, ⟨q1, hp⟩ | ⟨q1, -⟩⟩ := q <;> cases q1; exact kk hp) (fun E' n' ex' h' q => by obtain ⟨rfl, rfl, rfl, ⟨q1, -⟩ | ⟨q1, hp⟩⟩ := q <;> cases q1; exact kx hp)
theorem cSn {M' : gM} {d' mc' ms' idx : Nat} {as st0 : List Value} {E : String} {P : Prop} (hd : decode M.2.1 pc = .ok (.invokestatic idx, 3)) (hM : g_M G M' d' mc' ms' as n false h (q_n n h E P)) (hsite : g_site M' as.length [Cond.methodLink M.1.cls idx M'.1, Cond.static M'.1, Cond.initialized M'.1.cls]) (hst : st0 = as.reverse ++ st) (hf : d' + 1 ≤ R.frames) (hlo : 8 + (M'.2.2.1 + 11) + 41 * d' ≤ R.locals) (hrest : (st.map fun v => v.category).sum ≤ 8) (hc : k + mc' ≤ R.cells ∧ sl + ms' ≤ R.slots)
    (kk : P → g_W G M R K n false h (k + mc') (sl + ms') (pc + 3) ls st) (kx : ¬ P → g_X G M R K n false h (k + mc') (sl + ms') pc ls E) : g_W G M R K n false h k sl pc ls st0 :=
  g_callS hd hM hsite hst hf hlo hrest hc (fun v n' ex' h' q => by obtain ⟨rfl, rfl, rfl, ⟨q1, hp⟩ | ⟨q1, -⟩⟩ := q <;> cases q1; exact kk hp) (fun E' n' ex' h' q => by obtain ⟨rfl, rfl, rfl, ⟨q1, -⟩ | ⟨q1, hp⟩⟩ := q <;> cases q1; exact kx hp)
/-- a method of the face: it answers, or it throws and nothing has changed -/
def q_t (n : Nat) (S : List Nat) (h : gH) (P : Option Value → gH → Prop) (X : String → Prop) : gQ := fun o n' ex' h' => n' = n ∧ ex' = false ∧ ((∃ v, o = .inl v ∧ g_fr S h h' ∧ P v h') ∨ (∃ E, o = .inr E ∧ h' = h ∧ X E))
theorem e_ti {mc ms : Nat} {S : List Nat} {h0 : gH} {P : Option Value → gH → Prop} {X : String → Prop} {v : Int32} {ty : FieldType} (hd : decode M.2.1 pc = .ok (.ireturn, 1)) (hr : M.2.2.2.1 = some ty) (hn : narrow ty (.int v) = .int v) (hf : g_fr S h0 h) (hP : P (some (.int v)) h) (hk : k ≤ mc) (hs : sl ≤ ms) : g_W G M R (g_K G (q_t n S h0 P X) mc ms) n false h k sl pc ls [.int v] := g_iret hd hr hn hk hs ⟨rfl, rfl, Or.inl ⟨_, rfl, hf, hP⟩⟩
theorem e_tv {mc ms : Nat} {S : List Nat} {h0 : gH} {P : Option Value → gH → Prop} {X : String → Prop} (hd : decode M.2.1 pc = .ok (.return_, 1)) (hr : M.2.2.2.1 = none) (hf : g_fr S h0 h) (hP : P none h) (hk : k ≤ mc) (hs : sl ≤ ms) : g_W G M R (g_K G (q_t n S h0 P X) mc ms) n false h k sl pc ls [] := g_vret hd hr hk hs ⟨rfl, rfl, Or.inl ⟨_, rfl, hf, hP⟩⟩
theorem x_t {S : List Nat} {h0 : gH} {P : Option Value → gH → Prop} {X : String → Prop} {E : String} (hX : X E) : q_t n S h0 P X (.inr E) n false h0 := ⟨rfl, rfl, Or.inr ⟨E, rfl, rfl, hX⟩⟩
end GAU
/-- the object: stage, comparing, seeded -/
def Au (h : gH) (sg cm sd : Nat) : Prop := h 0 = some (.inr (10, [.ref 1, .ref 6, .ref 8, .ref 12, .ref 17, .ref 120, .ref 123, .ref 137, .int (nI sg), .int (nI cm), .int (nI sd)]))
set_option maxHeartbeats 4000000 in
set_option maxRecDepth 100000 in
theorem c_needIndex (G : gG) (d n : Nat) (h : gH) {x m : Int32} : g_M G mX10_needIndex (d + 6) 1 6 [.int x, .int m] n false h (q_n n h xIB (0 ≤ x ∧ x < m)) := by
  refine g_enter (by decide) (Nat.le_of_ble_eq_true rfl) ?_
  show g_W G _ _ _ n false h 0 0 0 [(0, .int x), (1, .int m)] []
  refine g_iload_n dX10_needIndex_0 rfl rfl ?_
  refine g_if_lt (tgt := 9) dX10_needIndex_1 (by decide) (fun c1 => ?_) (fun c1 => ?_)
  · exact g_throwW (text := "there is no such one") (names := xUp) dX10_needIndex_9 dX10_needIndex_12 dX10_needIndex_13 dX10_needIndex_16 dX10_needIndex_19 rfl rfl (by decide) (by decide) tw_131_135 (by decide) (by show 2 + 3 < _; simp only [g_rm]; omega) (by show 0 + 82 ≤ _; simp only [g_rm]; omega) (Nat.le_of_ble_eq_true rfl) (Nat.le_of_ble_eq_true rfl) (Nat.le_of_ble_eq_true rfl) (Nat.le_of_ble_eq_true rfl) ⟨rfl, rfl, rfl, Or.inr ⟨rfl, by first | exact fun q => absurd c1 (Int32.not_lt.mpr q.1) | exact fun q => c6 q.2⟩⟩
  · refine g_iload_n dX10_needIndex_4 rfl rfl ?_
    refine g_iload_n dX10_needIndex_5 rfl rfl ?_
    refine g_icmp_lt (tgt := 20) dX10_needIndex_6 (by decide) (fun c6 => ?_) (fun c6 => ?_)
    · exact g_vret dX10_needIndex_20 rfl (Nat.le_of_ble_eq_true rfl) (Nat.le_of_ble_eq_true rfl) ⟨rfl, rfl, rfl, Or.inl ⟨rfl, ⟨Int32.not_lt.mp c1, c6⟩⟩⟩
    · exact g_throwW (text := "there is no such one") (names := xUp) dX10_needIndex_9 dX10_needIndex_12 dX10_needIndex_13 dX10_needIndex_16 dX10_needIndex_19 rfl rfl (by decide) (by decide) tw_131_135 (by decide) (by show 2 + 3 < _; simp only [g_rm]; omega) (by show 0 + 82 ≤ _; simp only [g_rm]; omega) (Nat.le_of_ble_eq_true rfl) (Nat.le_of_ble_eq_true rfl) (Nat.le_of_ble_eq_true rfl) (Nat.le_of_ble_eq_true rfl) ⟨rfl, rfl, rfl, Or.inr ⟨rfl, by first | exact fun q => absurd c1 (Int32.not_lt.mpr q.1) | exact fun q => c6 q.2⟩⟩
set_option maxHeartbeats 4000000 in
set_option maxRecDepth 100000 in
theorem c_needNumber (G : gG) (d n : Nat) (h : gH) {x a b : Int32} : g_M G mX10_needNumber (d + 6) 1 6 [.int x, .int a, .int b] n false h (q_n n h xIA (a ≤ x ∧ x ≤ b)) := by
  refine g_enter (by decide) (Nat.le_of_ble_eq_true rfl) ?_
  show g_W G _ _ _ n false h 0 0 0 [(0, .int x), (1, .int a), (2, .int b)] []
  refine g_iload_n dX10_needNumber_0 rfl rfl ?_
  refine g_iload_n dX10_needNumber_1 rfl rfl ?_
  refine g_icmp_lt (tgt := 10) dX10_needNumber_2 (by decide) (fun c2 => ?_) (fun c2 => ?_)
  · exact g_throwW (text := "the number is out of its range") (names := xUp) dX10_needNumber_10 dX10_needNumber_13 dX10_needNumber_14 dX10_needNumber_17 dX10_needNumber_20 rfl rfl (by decide) (by decide) tw_114_118 (by decide) (by show 2 + 3 < _; simp only [g_rm]; omega) (by show 0 + 82 ≤ _; simp only [g_rm]; omega) (Nat.le_of_ble_eq_true rfl) (Nat.le_of_ble_eq_true rfl) (Nat.le_of_ble_eq_true rfl) (Nat.le_of_ble_eq_true rfl) ⟨rfl, rfl, rfl, Or.inr ⟨rfl, by first | exact fun q => absurd c2 (Int32.not_lt.mpr q.1) | exact fun q => c7 q.2⟩⟩
  · refine g_iload_n dX10_needNumber_5 rfl rfl ?_
    refine g_iload_n dX10_needNumber_6 rfl rfl ?_
    refine g_icmp_le (tgt := 21) dX10_needNumber_7 (by decide) (fun c7 => ?_) (fun c7 => ?_)
    · exact g_vret dX10_needNumber_21 rfl (Nat.le_of_ble_eq_true rfl) (Nat.le_of_ble_eq_true rfl) ⟨rfl, rfl, rfl, Or.inl ⟨rfl, ⟨Int32.not_lt.mp c2, c7⟩⟩⟩
    · exact g_throwW (text := "the number is out of its range") (names := xUp) dX10_needNumber_10 dX10_needNumber_13 dX10_needNumber_14 dX10_needNumber_17 dX10_needNumber_20 rfl rfl (by decide) (by decide) tw_114_118 (by decide) (by show 2 + 3 < _; simp only [g_rm]; omega) (by show 0 + 82 ≤ _; simp only [g_rm]; omega) (Nat.le_of_ble_eq_true rfl) (Nat.le_of_ble_eq_true rfl) (Nat.le_of_ble_eq_true rfl) (Nat.le_of_ble_eq_true rfl) ⟨rfl, rfl, rfl, Or.inr ⟨rfl, by first | exact fun q => absurd c2 (Int32.not_lt.mpr q.1) | exact fun q => c7 q.2⟩⟩
set_option maxHeartbeats 4000000 in
set_option maxRecDepth 100000 in
theorem c_needStage (G : gG) (d n : Nat) (h : gH) {sg cm sd x : Nat} (a0 : Au h sg cm sd) (hsg : sg < 2 ^ 31) (hx : x < 2 ^ 31) : g_M G mX10_needStage (d + 6) 1 6 [.ref 0, .int (nI x)] n false h (q_n n h xIS (sg = x)) := by
  refine g_enter (by decide) (Nat.le_of_ble_eq_true rfl) ?_
  show g_W G _ _ _ n false h 0 0 0 [(0, .ref 0), (1, .int (nI x))] []
  refine g_aload_n dX10_needStage_0 rfl rfl ?_
  refine g_getf dX10_needStage_1 fX10_67 a0 rfl ?_
  refine g_iload_n dX10_needStage_4 rfl rfl ?_
  refine g_icmp_eqN (tgt := 19) dX10_needStage_5 (by decide) hsg hx (fun c5 => ?_) (fun c5 => ?_)
  · exact g_vret dX10_needStage_19 rfl (Nat.le_of_ble_eq_true rfl) (Nat.le_of_ble_eq_true rfl) ⟨rfl, rfl, rfl, Or.inl ⟨rfl, c5⟩⟩
  · exact g_throwW (text := "it is another stage") (names := xUp) dX10_needStage_8 dX10_needStage_11 dX10_needStage_12 dX10_needStage_15 dX10_needStage_18 rfl rfl (by decide) (by decide) tw_161_165 (by decide) (by show 2 + 3 < _; simp only [g_rm]; omega) (by show 0 + 82 ≤ _; simp only [g_rm]; omega) (Nat.le_of_ble_eq_true rfl) (Nat.le_of_ble_eq_true rfl) (Nat.le_of_ble_eq_true rfl) (Nat.le_of_ble_eq_true rfl) ⟨rfl, rfl, rfl, Or.inr ⟨rfl, c5⟩⟩
set_option maxHeartbeats 4000000 in
set_option maxRecDepth 100000 in
theorem c_needNotSetting (G : gG) (d n : Nat) (h : gH) {sg cm sd : Nat} (a0 : Au h sg cm sd) (hsg : sg < 2 ^ 31) : g_M G mX10_needNotSetting (d + 6) 1 6 [.ref 0] n false h (q_n n h xIS (¬ sg = 0)) := by
  refine g_enter (by decide) (Nat.le_of_ble_eq_true rfl) ?_
  show g_W G _ _ _ n false h 0 0 0 [(0, .ref 0)] []
  refine g_aload_n dX10_needNotSetting_0 rfl rfl ?_
  refine g_getf dX10_needNotSetting_1 fX10_67 a0 rfl ?_
  refine g_if_neN (tgt := 18) dX10_needNotSetting_4 (by decide) hsg (fun c4 => ?_) (fun c4 => ?_)
  · exact g_vret dX10_needNotSetting_18 rfl (Nat.le_of_ble_eq_true rfl) (Nat.le_of_ble_eq_true rfl) ⟨rfl, rfl, rfl, Or.inl ⟨rfl, c4⟩⟩
  · exact g_throwW (text := "it is SETTING") (names := xUp) dX10_needNotSetting_7 dX10_needNotSetting_10 dX10_needNotSetting_11 dX10_needNotSetting_14 dX10_needNotSetting_17 rfl rfl (by decide) (by decide) tw_161_165 (by decide) (by show 2 + 3 < _; simp only [g_rm]; omega) (by show 0 + 82 ≤ _; simp only [g_rm]; omega) (Nat.le_of_ble_eq_true rfl) (Nat.le_of_ble_eq_true rfl) (Nat.le_of_ble_eq_true rfl) (Nat.le_of_ble_eq_true rfl) ⟨rfl, rfl, rfl, Or.inr ⟨rfl, fun q => q c4⟩⟩
set_option maxHeartbeats 4000000 in
set_option maxRecDepth 100000 in
theorem c_needCand (G : gG) (d n : Nat) (h : gH) {sg cm sd : Nat} {s v wn en rc : Nat → Nat} {x : Int32} (a0 : Au h sg cm sd) (hs : Su h s v wn en rc) : g_M G mX10_needCandidateOrNone (d + 7) 1 6 [.ref 0, .int x] n false h (q_n n h xIB (x = -1 ∨ (0 ≤ x ∧ x < nI (s 4)))) := by
  obtain ⟨z1, z2, z3, z4, z5⟩ := hs
  refine g_enter (by decide) (Nat.le_of_ble_eq_true rfl) ?_
  show g_W G _ _ _ n false h 0 0 0 [(0, .ref 0), (1, .int x)] []
  refine g_iload_n dX10_needCandidateOrNone_0 rfl rfl ?_
  refine g_iconst (v := -1) dX10_needCandidateOrNone_1 (by decide) ?_
  refine g_icmp_eq (tgt := 16) dX10_needCandidateOrNone_2 (by decide) (fun c2 => ?_) (fun c2 => ?_)
  · exact g_vret dX10_needCandidateOrNone_16 rfl (Nat.le_of_ble_eq_true rfl) (Nat.le_of_ble_eq_true rfl) ⟨rfl, rfl, rfl, Or.inl ⟨rfl, by first | exact Or.inl c2 | exact Or.inr p1⟩⟩
  · refine g_iload_n dX10_needCandidateOrNone_5 rfl rfl ?_
    refine g_aload_n dX10_needCandidateOrNone_6 rfl rfl ?_
    refine g_getf dX10_needCandidateOrNone_7 fX10_12 a0 rfl ?_
    refine g_getf dX10_needCandidateOrNone_10 fX10_79 z1 rfl ?_
    refine cSn (st := []) dX10_needCandidateOrNone_13 (c_needIndex G d n h (x := x) (m := nI (s 4))) sX10_104 rfl (by simp only [g_rm]; omega) (by simp only [g_rm]; omega) (Nat.le_of_ble_eq_true rfl) ⟨Nat.le_of_ble_eq_true rfl, Nat.le_of_ble_eq_true rfl⟩ (fun p1 => ?_) (fun p1 => g_out rfl (Nat.le_of_ble_eq_true rfl) (Nat.le_of_ble_eq_true rfl) ⟨rfl, rfl, rfl, Or.inr ⟨rfl, fun q => q.elim c2 p1⟩⟩)
    exact g_vret dX10_needCandidateOrNone_16 rfl (Nat.le_of_ble_eq_true rfl) (Nat.le_of_ble_eq_true rfl) ⟨rfl, rfl, rfl, Or.inl ⟨rfl, by first | exact Or.inl c2 | exact Or.inr p1⟩⟩
theorem nn_ {p : Prop} (h : p) : ¬ ¬ p := fun q => q h
/-- which exception, in the order of the document's words: 0 none -/
def x_of (l : List String) (c : Nat) (E : String) : Prop := c ≠ 0 ∧ l[c - 1]? = some E
theorem nat_of {x : Int32} {a b : Nat} (hb : b < 2 ^ 31) (h : nI a ≤ x ∧ x ≤ nI b) (ha : a < 2 ^ 31) : ∃ j : Nat, a ≤ j ∧ j ≤ b ∧ x = nI j := by
  have h0 : ¬ x < 0 := fun q => by
    have := Int32.lt_of_le_of_lt h.1 q
    exact nI_pos ha this
  obtain ⟨j, hj, rfl⟩ := nI_of h0
  exact ⟨j, (nI_leI ha hj).mp h.1, (nI_leI hj hb).mp h.2, rfl⟩
def k_candidate (s : Nat → Nat) (sg : Nat) (x : Int32) : Nat := if ¬ (nI 0 ≤ x ∧ x ≤ nI 1000000) then 1 else if ¬ sg = 0 then 2 else if 8 ≤ s 4 then 3 else 0
set_option maxHeartbeats 4000000 in
set_option maxRecDepth 100000 in
theorem c_candidate (G : gG) (d n : Nat) (h : gH) {sg cm sd : Nat} {s v wn en rc : Nat → Nat} {x : Int32} (a0 : Au h sg cm sd) (hs : Su h s v wn en rc) (hsg : sg < 2 ^ 31) (h8 : s 4 < 2 ^ 31) : g_M G mX10_candidate (d + 7) 8 48 [.ref 0, .int x] n false h (q_t n [1, 2] h (fun r h' => k_candidate s sg x = 0 ∧ r = some (.int (nI (s 4))) ∧ ∃ y, x = nI y ∧ Su h' (va_up s 4 (s 4 + 1)) (va_up v (s 4) y) wn en rc) (x_of [xIA, xIS, xUO] (k_candidate s sg x))) := by
  have hs' := hs
  obtain ⟨z1, z2, z3, z4, z5⟩ := hs'
  refine g_enter (by decide) (Nat.le_of_ble_eq_true rfl) ?_
  show g_W G _ _ _ n false h 0 0 0 [(0, .ref 0), (1, .int x)] []
  refine g_iload_n dX10_candidate_0 rfl rfl ?_
  refine g_iconst (v := nI 0) dX10_candidate_1 (by decide) ?_
  refine g_ldc dX10_candidate_2 kX10_71 rfl ?_
  refine g_top (show (1000000 : Int32) = nI 1000000 by decide) ?_
  refine cSn (st := []) dX10_candidate_4 (c_needNumber G d n h (x := x) (a := nI 0) (b := nI 1000000)) sX10_72 rfl (by simp only [g_rm]; omega) (by simp only [g_rm]; omega) (Nat.le_of_ble_eq_true rfl) ⟨Nat.le_of_ble_eq_true rfl, Nat.le_of_ble_eq_true rfl⟩ (fun p1 => ?_) (fun p1 => g_out rfl (Nat.le_of_ble_eq_true rfl) (Nat.le_of_ble_eq_true rfl) (x_t (by unfold x_of k_candidate; rw [if_pos p1]; exact ⟨by decide, rfl⟩)))
  obtain ⟨y, hya, hyb, rfl⟩ := nat_of (by decide) p1 (by decide)
  refine g_aload_n dX10_candidate_7 rfl rfl ?_
  refine g_iconst (v := nI 0) dX10_candidate_8 (by decide) ?_
  refine cVn (st := []) dX10_candidate_9 (c_needStage G d n h (x := 0) a0 hsg (by decide)) sX10_76 a0 rfl rfl (by simp only [g_rm]; omega) (by simp only [g_rm]; omega) (Nat.le_of_ble_eq_true rfl) ⟨Nat.le_of_ble_eq_true rfl, Nat.le_of_ble_eq_true rfl⟩ (fun p2 => ?_) (fun p2 => g_out rfl (Nat.le_of_ble_eq_true rfl) (Nat.le_of_ble_eq_true rfl) (x_t (by unfold x_of k_candidate; rw [if_neg (nn_ p1)]; rw [if_pos p2]; exact ⟨by decide, rfl⟩)))
  refine g_aload_n dX10_candidate_12 rfl rfl ?_
  refine g_getf dX10_candidate_13 fX10_12 a0 rfl ?_
  refine g_getf dX10_candidate_16 fX10_79 z1 rfl ?_
  refine g_bipush (v := nI 8) dX10_candidate_19 (by decide) ?_
  refine g_icmp_ltN (tgt := 34) dX10_candidate_21 (by decide) h8 (by decide) (fun c21 => ?_) (fun c21 => ?_)
  · refine g_aload_n dX10_candidate_34 rfl rfl ?_
    refine g_getf dX10_candidate_35 fX10_12 a0 rfl ?_
    refine g_iload_n dX10_candidate_38 rfl rfl ?_
    refine cVi (st := []) dX10_candidate_39 (c_addCandidate G (d + 6) n false h hs c21 (x := y)) sX10_89 z1 rfl rfl (by simp only [g_rm]; omega) (by simp only [g_rm]; omega) (Nat.le_of_ble_eq_true rfl) ⟨Nat.le_of_ble_eq_true rfl, Nat.le_of_ble_eq_true rfl⟩ (fun r6 h3 fr4 p5 => ?_)
    obtain ⟨e1, hs2⟩ := p5
    subst e1
    exact e_ti dX10_candidate_42 rfl rfl ((g_fr.rf).tr fr4 (by simp)) ⟨by unfold k_candidate; rw [if_neg (nn_ p1), if_neg (nn_ p2), if_neg (by omega)], rfl, y, rfl, hs2⟩ (Nat.le_of_ble_eq_true rfl) (Nat.le_of_ble_eq_true rfl)
  · exact g_throw (text := "no room for a candidate more") (names := xUp) dX10_candidate_24 dX10_candidate_27 dX10_candidate_28 dX10_candidate_30 dX10_candidate_33 rfl rfl (by decide) (by decide) tw_82_86 (by decide) (by show 2 + 3 < _; simp only [g_rm]; omega) (by show 0 + 82 ≤ _; simp only [g_rm]; omega) (Nat.le_of_ble_eq_true rfl) (Nat.le_of_ble_eq_true rfl) (Nat.le_of_ble_eq_true rfl) (Nat.le_of_ble_eq_true rfl) (x_t (by unfold x_of k_candidate; rw [if_neg (nn_ p1), if_neg (nn_ p2), if_pos c21]; exact ⟨by decide, rfl⟩))
