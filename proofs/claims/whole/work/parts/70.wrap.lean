section GWR
variable {G : gG} {M : gM} {R : Room} {K : gK} {n : Nat} {h : gH} {k sl pc : Nat} {ls : List (Nat × Value)} {st : List Value}
theorem cVt {M' : gM} {d' mc' ms' idx i ci : Nat} {as st0 fs : List Value} {S : List Nat} {P : Option Value → gH → Prop} {X : String → Prop} (hd : decode M.2.1 pc = .ok (.invokevirtual idx, 3)) (hM : g_M G M' d' mc' ms' (.ref i :: as) n false h (q_t n S h P X)) (hsite : g_site M' as.length [Cond.methodLink M.1.cls idx M'.1, Cond.instanceMethod M'.1, Cond.selects M'.1.cls M'.1 M'.1, Cond.initialized M'.1.cls]) (ho : h i = some (.inr (ci, fs))) (hci : vwCl[ci]?.map (fun q => q.1) = some M'.1.cls) (hst : st0 = as.reverse ++ .ref i :: st) (hf : d' + 1 ≤ R.frames) (hlo : 8 + (M'.2.2.1 + 11) + 41 * d' ≤ R.locals) (hrest : (st.map fun v => v.category).sum ≤ 8) (hc : k + mc' ≤ R.cells ∧ sl + ms' ≤ R.slots)
    (kk : ∀ (v : Option Value) (h' : gH), g_fr S h h' → P v h' → g_W G M R K n false h' (k + mc') (sl + ms') (pc + 3) ls (v.toList ++ st)) (kx : ∀ E, X E → g_X G M R K n false h (k + mc') (sl + ms') pc ls E) : g_W G M R K n false h k sl pc ls st0 :=
  g_callV hd hM hsite ho hci hst hf hlo hrest hc (fun v n' ex' h' q => by obtain ⟨rfl, rfl, ⟨v', q1, hf, hp⟩ | ⟨E, q1, -⟩⟩ := q <;> cases q1; exact kk _ _ hf hp) (fun E' n' ex' h' q => by obtain ⟨rfl, rfl, ⟨v', q1, -⟩ | ⟨E, q1, rfl, hx⟩⟩ := q <;> cases q1; exact kx _ hx)
theorem x_1 {a E : String} {c : Nat} (q : x_of [a] c E) : c = 1 ∧ E = a := by
  obtain ⟨q1, q2⟩ := q
  match c, q1, q2 with
  | 1, _, q2 => exact ⟨rfl, (Option.some.inj q2).symm⟩
  | 0, q1, _ => exact absurd rfl q1
  | c + 2, _, q2 => simp at q2
theorem x_2 {a b E : String} {c : Nat} (q : x_of [a, b] c E) : (c = 1 ∧ E = a) ∨ (c = 2 ∧ E = b) := by
  obtain ⟨q1, q2⟩ := q
  match c, q1, q2 with
  | 1, _, q2 => exact Or.inl ⟨rfl, (Option.some.inj q2).symm⟩
  | 2, _, q2 => exact Or.inr ⟨rfl, (Option.some.inj q2).symm⟩
  | 0, q1, _ => exact absurd rfl q1
  | c + 3, _, q2 => simp at q2
theorem x_3 {a b e E : String} {c : Nat} (q : x_of [a, b, e] c E) : (c = 1 ∧ E = a) ∨ (c = 2 ∧ E = b) ∨ (c = 3 ∧ E = e) := by
  obtain ⟨q1, q2⟩ := q
  match c, q1, q2 with
  | 1, _, q2 => exact Or.inl ⟨rfl, (Option.some.inj q2).symm⟩
  | 2, _, q2 => exact Or.inr (Or.inl ⟨rfl, (Option.some.inj q2).symm⟩)
  | 3, _, q2 => exact Or.inr (Or.inr ⟨rfl, (Option.some.inj q2).symm⟩)
  | 0, q1, _ => exact absurd rfl q1
  | c + 4, _, q2 => simp at q2
end GWR
theorem lk_13 : Cond.classLink RL 13 xIA ∈ lw_tbl := (List.mem_of_getElem? (i := 429) (by decide +kernel))
theorem lk_15 : Cond.classLink RL 15 xIS ∈ lw_tbl := (List.mem_of_getElem? (i := 430) (by decide +kernel))
theorem lk_17 : Cond.classLink RL 17 xUO ∈ lw_tbl := (List.mem_of_getElem? (i := 431) (by decide +kernel))
theorem lk_26 : Cond.classLink RL 26 xIB ∈ lw_tbl := (List.mem_of_getElem? (i := 563) (by decide +kernel))
theorem cc_xIA : Cond.castable xIA xIA ∈ lw_tbl := (List.mem_of_getElem? (i := 442) (by decide +kernel))
theorem cc_xIS : Cond.castable xIS xIS ∈ lw_tbl := (List.mem_of_getElem? (i := 514) (by decide +kernel))
theorem cc_xIB : Cond.castable xIB xIB ∈ lw_tbl := (List.mem_of_getElem? (i := 573) (by decide +kernel))
theorem cc_xUO : Cond.castable xUO xUO ∈ lw_tbl := (List.mem_of_getElem? (i := 530) (by decide +kernel))
set_option maxHeartbeats 4000000 in
set_option maxRecDepth 100000 in
theorem w_candidate (G : gG) (d n : Nat) (h : gH) {sg cm sd : Nat} {s v wn en rc : Nat → Nat} {ou : Nat → Int64} {x : Int32} (a0 : Au h sg cm sd) (hs : Su h s v wn en rc) (hsg : sg < 2 ^ 31) (h8 : s 4 < 2 ^ 31) (o1 : h 167 = some (.inl (3, 1, .inr (.inl ou)))) : g_M G mL_candidate (d + 8) 8 48 [.ref 0, .int x, .ref 167] n false h (q_i n false [1, 2, 167] h (fun r h' => r = nI (k_candidate s sg x) ∧ (k_candidate s sg x = 0 → ∃ y, x = nI y ∧ Su h' (va_up s 4 (s 4 + 1)) (va_up v (s 4) y) wn en rc ∧ Au h' sg cm sd ∧ h' 167 = some (.inl (3, 1, .inr (.inl (vp_updL ou 0 (lN (s 4))))))) ∧ (k_candidate s sg x ≠ 0 → h' = h))) := by
  refine g_enter (by decide) (Nat.le_of_ble_eq_true rfl) ?_
  show g_W G _ _ _ n false h 0 0 0 [(0, .ref 0), (1, .int x), (2, .ref 167)] []
  refine g_aload_n dL_candidate_0 rfl rfl ?_
  refine g_iconst (v := nI 0) dL_candidate_1 (by decide) ?_
  refine g_aload_n dL_candidate_2 rfl rfl ?_
  refine g_iload_n dL_candidate_3 rfl rfl ?_
  refine cVt (st := [.int (nI 0), .ref 167]) dL_candidate_4 (c_candidate G d n h (x := x) a0 hs hsg h8) sL_7 a0 rfl rfl (by simp only [g_rm]; omega) (by simp only [g_rm]; omega) (Nat.le_of_ble_eq_true rfl) ⟨Nat.le_of_ble_eq_true rfl, Nat.le_of_ble_eq_true rfl⟩ (fun v4 h1 fr2 p3 => ?_) (fun E X5 => ?_)
  · obtain ⟨hk, rfl, y, rfl, hs2⟩ := p3
    refine g_i2lN dL_candidate_7 (by omega) ?_
    refine g_lastN dL_candidate_8 (g_fr.at fr2 (by decide) o1) (by decide) (by decide) ?_
    refine g_goto (tgt := 21) dL_candidate_9 (by decide) ?_
    refine g_iconst (v := nI 0) dL_candidate_21 (by decide) ?_
    exact e_i dL_candidate_22 rfl rfl (((g_fr.rf).tr fr2 (by simp)).up (by simp)) ⟨by rw [hk], fun _ => ⟨y, rfl, hs2.fr (g_fr.up g_fr.rf (S := [167]) (by simp)) (by decide), g_ne (by decide) (g_fr.at fr2 (by decide) a0), g_eq⟩, fun q => absurd hk q⟩ (Nat.le_of_ble_eq_true rfl) (Nat.le_of_ble_eq_true rfl)
  · rcases x_3 X5 with ⟨hk, rfl⟩ | ⟨hk, rfl⟩ | ⟨hk, rfl⟩
    · refine g_catch (pre := []) (x := ⟨0, 9, 12, 13⟩) (suf := [⟨0, 9, 15, 15⟩, ⟨0, 9, 18, 17⟩]) (ls' := [(0, .ref 0), (1, .int x), (2, .ref 167)]) (i := 3) rfl (fun z hz => by cases hz) (by decide) (by decide) (by decide) lk_13 rfl cc_xIA (by decide) (Or.inl ⟨3, rfl, dL_candidate_12, rfl⟩) rfl ?_
      refine g_iconst (v := nI 1) dL_candidate_13 (by decide) ?_
      exact e_i dL_candidate_14 rfl rfl g_fr.rf ⟨by rw [hk], fun q => absurd q (by rw [hk]; decide), fun _ => rfl⟩ (Nat.le_of_ble_eq_true rfl) (Nat.le_of_ble_eq_true rfl)
    · refine g_catch (pre := [⟨0, 9, 12, 13⟩]) (x := ⟨0, 9, 15, 15⟩) (suf := [⟨0, 9, 18, 17⟩]) (ls' := [(0, .ref 0), (1, .int x), (2, .ref 167)]) (i := 3) rfl (List.forall_mem_cons.mpr ⟨Or.inr ⟨by decide, xIA, by decide, by decide, lk_13, rfl⟩, fun z hz => by cases hz⟩) (by decide) (by decide) (by decide) lk_15 rfl cc_xIS (by decide) (Or.inl ⟨3, rfl, dL_candidate_15, rfl⟩) rfl ?_
      refine g_iconst (v := nI 2) dL_candidate_16 (by decide) ?_
      exact e_i dL_candidate_17 rfl rfl g_fr.rf ⟨by rw [hk], fun q => absurd q (by rw [hk]; decide), fun _ => rfl⟩ (Nat.le_of_ble_eq_true rfl) (Nat.le_of_ble_eq_true rfl)
    · refine g_catch (pre := [⟨0, 9, 12, 13⟩, ⟨0, 9, 15, 15⟩]) (x := ⟨0, 9, 18, 17⟩) (suf := []) (ls' := [(0, .ref 0), (1, .int x), (2, .ref 167)]) (i := 3) rfl (List.forall_mem_cons.mpr ⟨Or.inr ⟨by decide, xIA, by decide, by decide, lk_13, rfl⟩, List.forall_mem_cons.mpr ⟨Or.inr ⟨by decide, xIS, by decide, by decide, lk_15, rfl⟩, fun z hz => by cases hz⟩⟩) (by decide) (by decide) (by decide) lk_17 rfl cc_xUO (by decide) (Or.inl ⟨3, rfl, dL_candidate_18, rfl⟩) rfl ?_
      refine g_iconst (v := nI 3) dL_candidate_19 (by decide) ?_
      exact e_i dL_candidate_20 rfl rfl g_fr.rf ⟨by rw [hk], fun q => absurd q (by rw [hk]; decide), fun _ => rfl⟩ (Nat.le_of_ble_eq_true rfl) (Nat.le_of_ble_eq_true rfl)
