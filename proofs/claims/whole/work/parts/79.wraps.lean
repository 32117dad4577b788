section GWR
variable {G : gG} {M : gM} {R : Room} {K : gK} {n : Nat} {h : gH} {k sl pc : Nat} {ls : List (Nat × Value)} {st : List Value}
theorem cVt {M' : gM} {d' mc' ms' idx i ci : Nat} {as st0 fs : List Value} {S : List Nat} {P : Option Value → gH → Prop} {X : String → Prop} (hd : decode M.2.1 pc = .ok (.invokevirtual idx, 3)) (hM : g_M G M' d' mc' ms' (.ref i :: as) n false h (q_t n S h P X)) (hsite : g_site M' as.length [Cond.methodLink M.1.cls idx M'.1, Cond.instanceMethod M'.1, Cond.selects M'.1.cls M'.1 M'.1, Cond.initialized M'.1.cls]) (ho : h i = some (.inr (ci, fs))) (hci : vwCl[ci]?.map (fun q => q.1) = some M'.1.cls) (hst : st0 = as.reverse ++ .ref i :: st) (hf : d' + 1 ≤ R.frames) (hlo : 8 + (M'.2.2.1 + 11) + 41 * d' ≤ R.locals) (hrest : (st.map fun v => v.category).sum ≤ 8) (hc : k + mc' ≤ R.cells ∧ sl + ms' ≤ R.slots)
    (kk : ∀ (v : Option Value) (h' : gH), g_fr S h h' → P v h' → g_W G M R K n false h' (k + mc') (sl + ms') (pc + 3) ls (v.toList ++ st)) (kx : ∀ E, X E → g_X G M R K n false h (k + mc') (sl + ms') pc ls E) : g_W G M R K n false h k sl pc ls st0 :=
  g_callV hd hM hsite ho hci hst hf hlo hrest hc (fun v n' ex' h' q => by obtain ⟨rfl, rfl, ⟨v', q1, hf, hp⟩ | ⟨E, q1, -⟩⟩ := q <;> cases q1; exact kk _ _ hf hp) (fun E' n' ex' h' q => by obtain ⟨rfl, rfl, ⟨v', q1, -⟩ | ⟨E, q1, rfl, hx⟩⟩ := q <;> cases q1; exact kx _ hx)
theorem x_1 {a E : String} {c : Nat} (q : x_of [a] c E) : c = 1 ∧ E = a := by
  obtain ⟨q1, q2⟩ := q
  match c, q1, q2 with
  | 1, _, q2 => exact ⟨rfl, (Option.some.inj q2).symm⟩
  | 0, q1, _ => exact absurd rfl q1
  | c + 2, _, q2 => simp at q2
theorem x_2 {a b E : String} {c : Nat} (q : x_of [a, b] c E) : (c = 1 ∧ E = a) ∨ (c = 2 ∧ E = b) := by
  obtain ⟨q1, q2⟩ := q
  match c, q1, q2 with
  | 1, _, q2 => exact Or.inl ⟨rfl, (Option.some.inj q2).symm⟩
  | 2, _, q2 => exact Or.inr ⟨rfl, (Option.some.inj q2).symm⟩
  | 0, q1, _ => exact absurd rfl q1
  | c + 3, _, q2 => simp at q2
theorem x_3 {a b e E : String} {c : Nat} (q : x_of [a, b, e] c E) : (c = 1 ∧ E = a) ∨ (c = 2 ∧ E = b) ∨ (c = 3 ∧ E = e) := by
  obtain ⟨q1, q2⟩ := q
  match c, q1, q2 with
  | 1, _, q2 => exact Or.inl ⟨rfl, (Option.some.inj q2).symm⟩
  | 2, _, q2 => exact Or.inr (Or.inl ⟨rfl, (Option.some.inj q2).symm⟩)
  | 3, _, q2 => exact Or.inr (Or.inr ⟨rfl, (Option.some.inj q2).symm⟩)
  | 0, q1, _ => exact absurd rfl q1
  | c + 4, _, q2 => simp at q2
end GWR
theorem lk_13 : Cond.classLink RL 13 xIA ∈ lw_tbl := (List.mem_of_getElem? (i := 429) (by decide +kernel))
theorem lk_15 : Cond.classLink RL 15 xIS ∈ lw_tbl := (List.mem_of_getElem? (i := 430) (by decide +kernel))
theorem lk_17 : Cond.classLink RL 17 xUO ∈ lw_tbl := (List.mem_of_getElem? (i := 431) (by decide +kernel))
theorem lk_26 : Cond.classLink RL 26 xIB ∈ lw_tbl := (List.mem_of_getElem? (i := 563) (by decide +kernel))
theorem cc_xIA : Cond.castable xIA xIA ∈ lw_tbl := (List.mem_of_getElem? (i := 442) (by decide +kernel))
theorem cc_xIS : Cond.castable xIS xIS ∈ lw_tbl := (List.mem_of_getElem? (i := 514) (by decide +kernel))
theorem cc_xIB : Cond.castable xIB xIB ∈ lw_tbl := (List.mem_of_getElem? (i := 573) (by decide +kernel))
theorem cc_xUO : Cond.castable xUO xUO ∈ lw_tbl := (List.mem_of_getElem? (i := 530) (by decide +kernel))
section GSH
variable {G : gG} {M : gM} {R : Room} {K : gK} {n : Nat} {ex : Bool} {h : gH} {k sl pc : Nat} {ls : List (Nat × Value)} {st : List Value}
def g_siteH (M' : gM) (nA : Nat) (ws : List Cond) : Prop := g_cw M' = .codeWith M'.1 M'.2.1 M'.2.2.1 M'.2.2.2.1 M'.2.2.2.2 ∧ (∀ w ∈ g_cw M' :: ws, w ∈ lw_tbl ∧ goodWord w = true) ∧ (M'.1.cls ≠ "java/lang/invoke/MethodHandle" ∧ M'.1.cls ≠ "java/lang/invoke/VarHandle" ∧ (parseMethodDescriptor M'.1.desc).map (fun d => d.parameters.length) = some nA)
theorem g_callSH {M' : gM} {Q' : gQ} {d' mc' ms' idx : Nat} {as st0 : List Value} (hd : decode M.2.1 pc = .ok (.invokestatic idx, 3)) (hM : g_M G M' d' mc' ms' as n ex h Q') (hsite : g_siteH M' as.length [Cond.methodLink M.1.cls idx M'.1, Cond.static M'.1, Cond.initialized M'.1.cls])
    (hst : st0 = as.reverse ++ st) (hf : d' + 1 ≤ R.frames) (hlo : 8 + (M'.2.2.1 + 11) + 41 * d' ≤ R.locals) (hrest : (st.map fun v => v.category).sum ≤ 8) (hc : k + mc' ≤ R.cells ∧ sl + ms' ≤ R.slots)
    (kr : ∀ v n' ex' h', Q' (.inl v) n' ex' h' → g_W G M R K n' ex' h' (k + mc') (sl + ms') (pc + 3) ls (v.toList ++ st)) (kx : ∀ E n' ex' h', Q' (.inr E) n' ex' h' → g_X G M R K n' ex' h' (k + mc') (sl + ms') pc ls E) : g_W G M R K n ex h k sl pc ls st0 := by
  intro p l e s m args below meth c H locs Ls C hR hS hl
  have hE := C.env
  have hb : ∀ w ∈ g_cw M' :: [Cond.methodLink M.1.cls idx M'.1, Cond.static M'.1, Cond.initialized M'.1.cls], w.before args s = true := fun w hw => g_word hE (hsite.2.1 w hw).1 (g_keep_of (hsite.2.1 w hw).2) args
  have cb : vx_CSW R s args M.1.cls idx M'.1 M'.2.1 M'.2.2.1 M'.2.2.2.1 M'.2.2.2.2 [g_cw M'] (g_rm d' mc' ms') mc' ms' as.length := by
    refine vx_cwSW (ws' := []) as.length (Ts := va_wsS M.1.cls idx M'.1 [g_cw M']) (fun w hw => ?_) (fun w hw => ⟨hw, ?_⟩) (by rw [hsite.1]) rfl rfl hsite.2.2 ⟨hf, hlo⟩
    · refine hb w ?_
      simp only [va_wsS, List.mem_append, List.mem_cons, List.not_mem_nil, or_false] at hw ⊢
      grind
    · refine good_of_word (hsite.2.1 w ?_).2
      simp only [va_wsS, List.mem_append, List.mem_cons, List.not_mem_nil, or_false] at hw ⊢
      grind
  refine g_after C hS hl (vx_runSX (As := as.map (g_v G)) (rest := st.map (g_v G)) (Ts := []) (own := M.1.cls) ⟨C.1, C.2.2.1, C.2.2.2.1, C.own, fun w hw => by cases hw⟩ (hM l C.2.1) cb ⟨g_blind, fun U hU hW => g_pre (M' := M') (as := as) hE hR hS U hU hW⟩ rfl (by rw [List.length_map]) hl.1 ?_ ?_ hd hc) kr kx
  · show st0.map (g_v G) = _
    rw [hst, List.map_append, List.map_reverse]
  · show 2 * 0 + _ ≤ 8
    rw [g_cats]
    omega
theorem cSiH {M' : gM} {d' mc' ms' idx : Nat} {as st0 : List Value} {S : List Nat} {P : Int32 → gH → Prop} (hd : decode M.2.1 pc = .ok (.invokestatic idx, 3)) (hM : g_M G M' d' mc' ms' as n ex h (q_i n ex S h P)) (hsite : g_siteH M' as.length [Cond.methodLink M.1.cls idx M'.1, Cond.static M'.1, Cond.initialized M'.1.cls]) (hst : st0 = as.reverse ++ st) (hf : d' + 1 ≤ R.frames) (hlo : 8 + (M'.2.2.1 + 11) + 41 * d' ≤ R.locals) (hrest : (st.map fun v => v.category).sum ≤ 8) (hc : k + mc' ≤ R.cells ∧ sl + ms' ≤ R.slots) (kk : ∀ (r : Int32) (h' : gH), g_fr S h h' → P r h' → g_W G M R K n ex h' (k + mc') (sl + ms') (pc + 3) ls (.int r :: st)) : g_W G M R K n ex h k sl pc ls st0 :=
  g_callSH hd hM hsite hst hf hlo hrest hc (fun v n' ex' h' q => by obtain ⟨r, q1, rfl, rfl, hf, hp⟩ := q; cases q1; exact kk r h' hf hp) (fun E n' ex' h' q => by obtain ⟨_, q, -⟩ := q; cases q)
end GSH
set_option maxRecDepth 100000 in
theorem sH_candidate : g_siteH mL_candidate 3 [Cond.methodLink RL 88 yL_candidate, Cond.static yL_candidate, Cond.initialized RL] := ⟨rfl, List.forall_mem_cons.mpr ⟨⟨List.mem_of_getElem? (i := 428) rfl, rfl⟩, List.forall_mem_cons.mpr ⟨⟨List.mem_of_getElem? (i := 426) (by decide +kernel), rfl⟩, List.forall_mem_cons.mpr ⟨⟨List.mem_of_getElem? (i := 427) (by decide +kernel), rfl⟩, List.forall_mem_cons.mpr ⟨⟨List.mem_of_getElem? (i := 48) (by decide +kernel), rfl⟩, fun _ z => by cases z⟩⟩⟩⟩, by decide +kernel⟩
set_option maxRecDepth 100000 in
theorem sH_batch : g_siteH mL_batch 3 [Cond.methodLink RL 97 yL_batch, Cond.static yL_batch, Cond.initialized RL] := ⟨rfl, List.forall_mem_cons.mpr ⟨⟨List.mem_of_getElem? (i := 550) rfl, rfl⟩, List.forall_mem_cons.mpr ⟨⟨List.mem_of_getElem? (i := 548) (by decide +kernel), rfl⟩, List.forall_mem_cons.mpr ⟨⟨List.mem_of_getElem? (i := 549) (by decide +kernel), rfl⟩, List.forall_mem_cons.mpr ⟨⟨List.mem_of_getElem? (i := 48) (by decide +kernel), rfl⟩, fun _ z => by cases z⟩⟩⟩⟩, by decide +kernel⟩
set_option maxRecDepth 100000 in
theorem sH_set : g_siteH mL_set 4 [Cond.methodLink RL 100 yL_set, Cond.static yL_set, Cond.initialized RL] := ⟨rfl, List.forall_mem_cons.mpr ⟨⟨List.mem_of_getElem? (i := 562) rfl, rfl⟩, List.forall_mem_cons.mpr ⟨⟨List.mem_of_getElem? (i := 560) (by decide +kernel), rfl⟩, List.forall_mem_cons.mpr ⟨⟨List.mem_of_getElem? (i := 561) (by decide +kernel), rfl⟩, List.forall_mem_cons.mpr ⟨⟨List.mem_of_getElem? (i := 48) (by decide +kernel), rfl⟩, fun _ z => by cases z⟩⟩⟩⟩, by decide +kernel⟩
set_option maxRecDepth 100000 in
theorem sH_fraction : g_siteH mL_fraction 4 [Cond.methodLink RL 104 yL_fraction, Cond.static yL_fraction, Cond.initialized RL] := ⟨rfl, List.forall_mem_cons.mpr ⟨⟨List.mem_of_getElem? (i := 589) rfl, rfl⟩, List.forall_mem_cons.mpr ⟨⟨List.mem_of_getElem? (i := 587) (by decide +kernel), rfl⟩, List.forall_mem_cons.mpr ⟨⟨List.mem_of_getElem? (i := 588) (by decide +kernel), rfl⟩, List.forall_mem_cons.mpr ⟨⟨List.mem_of_getElem? (i := 48) (by decide +kernel), rfl⟩, fun _ z => by cases z⟩⟩⟩⟩, by decide +kernel⟩
set_option maxRecDepth 100000 in
theorem sH_record : g_siteH mL_record 4 [Cond.methodLink RL 108 yL_record, Cond.static yL_record, Cond.initialized RL] := ⟨rfl, List.forall_mem_cons.mpr ⟨⟨List.mem_of_getElem? (i := 597) rfl, rfl⟩, List.forall_mem_cons.mpr ⟨⟨List.mem_of_getElem? (i := 595) (by decide +kernel), rfl⟩, List.forall_mem_cons.mpr ⟨⟨List.mem_of_getElem? (i := 596) (by decide +kernel), rfl⟩, List.forall_mem_cons.mpr ⟨⟨List.mem_of_getElem? (i := 48) (by decide +kernel), rfl⟩, fun _ z => by cases z⟩⟩⟩⟩, by decide +kernel⟩
set_option maxRecDepth 100000 in
theorem sH_digit : g_siteH mL_digit 3 [Cond.methodLink RL 111 yL_digit, Cond.static yL_digit, Cond.initialized RL] := ⟨rfl, List.forall_mem_cons.mpr ⟨⟨List.mem_of_getElem? (i := 613) rfl, rfl⟩, List.forall_mem_cons.mpr ⟨⟨List.mem_of_getElem? (i := 611) (by decide +kernel), rfl⟩, List.forall_mem_cons.mpr ⟨⟨List.mem_of_getElem? (i := 612) (by decide +kernel), rfl⟩, List.forall_mem_cons.mpr ⟨⟨List.mem_of_getElem? (i := 48) (by decide +kernel), rfl⟩, fun _ z => by cases z⟩⟩⟩⟩, by decide +kernel⟩
set_option maxRecDepth 100000 in
theorem sH_coins : g_siteH mL_coins 4 [Cond.methodLink RL 114 yL_coins, Cond.static yL_coins, Cond.initialized RL] := ⟨rfl, List.forall_mem_cons.mpr ⟨⟨List.mem_of_getElem? (i := 625) rfl, rfl⟩, List.forall_mem_cons.mpr ⟨⟨List.mem_of_getElem? (i := 623) (by decide +kernel), rfl⟩, List.forall_mem_cons.mpr ⟨⟨List.mem_of_getElem? (i := 624) (by decide +kernel), rfl⟩, List.forall_mem_cons.mpr ⟨⟨List.mem_of_getElem? (i := 48) (by decide +kernel), rfl⟩, fun _ z => by cases z⟩⟩⟩⟩, by decide +kernel⟩
set_option maxRecDepth 100000 in
theorem sH_start : g_siteH mL_start 3 [Cond.methodLink RL 117 yL_start, Cond.static yL_start, Cond.initialized RL] := ⟨rfl, List.forall_mem_cons.mpr ⟨⟨List.mem_of_getElem? (i := 637) rfl, rfl⟩, List.forall_mem_cons.mpr ⟨⟨List.mem_of_getElem? (i := 635) (by decide +kernel), rfl⟩, List.forall_mem_cons.mpr ⟨⟨List.mem_of_getElem? (i := 636) (by decide +kernel), rfl⟩, List.forall_mem_cons.mpr ⟨⟨List.mem_of_getElem? (i := 48) (by decide +kernel), rfl⟩, fun _ z => by cases z⟩⟩⟩⟩, by decide +kernel⟩
set_option maxRecDepth 100000 in
theorem sH_draw : g_siteH mL_draw 2 [Cond.methodLink RL 121 yL_draw, Cond.static yL_draw, Cond.initialized RL] := ⟨rfl, List.forall_mem_cons.mpr ⟨⟨List.mem_of_getElem? (i := 699) rfl, rfl⟩, List.forall_mem_cons.mpr ⟨⟨List.mem_of_getElem? (i := 697) (by decide +kernel), rfl⟩, List.forall_mem_cons.mpr ⟨⟨List.mem_of_getElem? (i := 698) (by decide +kernel), rfl⟩, List.forall_mem_cons.mpr ⟨⟨List.mem_of_getElem? (i := 48) (by decide +kernel), rfl⟩, fun _ z => by cases z⟩⟩⟩⟩, by decide +kernel⟩
set_option maxRecDepth 100000 in
theorem sH_see : g_siteH mL_see 3 [Cond.methodLink RL 125 yL_see, Cond.static yL_see, Cond.initialized RL] := ⟨rfl, List.forall_mem_cons.mpr ⟨⟨List.mem_of_getElem? (i := 834) rfl, rfl⟩, List.forall_mem_cons.mpr ⟨⟨List.mem_of_getElem? (i := 832) (by decide +kernel), rfl⟩, List.forall_mem_cons.mpr ⟨⟨List.mem_of_getElem? (i := 833) (by decide +kernel), rfl⟩, List.forall_mem_cons.mpr ⟨⟨List.mem_of_getElem? (i := 48) (by decide +kernel), rfl⟩, fun _ z => by cases z⟩⟩⟩⟩, by decide +kernel⟩
set_option maxRecDepth 100000 in
theorem sH_counted : g_siteH mL_counted 4 [Cond.methodLink RL 128 yL_counted, Cond.static yL_counted, Cond.initialized RL] := ⟨rfl, List.forall_mem_cons.mpr ⟨⟨List.mem_of_getElem? (i := 845) rfl, rfl⟩, List.forall_mem_cons.mpr ⟨⟨List.mem_of_getElem? (i := 843) (by decide +kernel), rfl⟩, List.forall_mem_cons.mpr ⟨⟨List.mem_of_getElem? (i := 844) (by decide +kernel), rfl⟩, List.forall_mem_cons.mpr ⟨⟨List.mem_of_getElem? (i := 48) (by decide +kernel), rfl⟩, fun _ z => by cases z⟩⟩⟩⟩, by decide +kernel⟩
set_option maxRecDepth 100000 in
theorem sH_told : g_siteH mL_told 3 [Cond.methodLink RL 135 yL_told, Cond.static yL_told, Cond.initialized RL] := ⟨rfl, List.forall_mem_cons.mpr ⟨⟨List.mem_of_getElem? (i := 860) rfl, rfl⟩, List.forall_mem_cons.mpr ⟨⟨List.mem_of_getElem? (i := 858) (by decide +kernel), rfl⟩, List.forall_mem_cons.mpr ⟨⟨List.mem_of_getElem? (i := 859) (by decide +kernel), rfl⟩, List.forall_mem_cons.mpr ⟨⟨List.mem_of_getElem? (i := 48) (by decide +kernel), rfl⟩, fun _ z => by cases z⟩⟩⟩⟩, by decide +kernel⟩
set_option maxRecDepth 100000 in
theorem sH_of : g_siteH mL_of 4 [Cond.methodLink RL 138 yL_of, Cond.static yL_of, Cond.initialized RL] := ⟨rfl, List.forall_mem_cons.mpr ⟨⟨List.mem_of_getElem? (i := 871) rfl, rfl⟩, List.forall_mem_cons.mpr ⟨⟨List.mem_of_getElem? (i := 869) (by decide +kernel), rfl⟩, List.forall_mem_cons.mpr ⟨⟨List.mem_of_getElem? (i := 870) (by decide +kernel), rfl⟩, List.forall_mem_cons.mpr ⟨⟨List.mem_of_getElem? (i := 48) (by decide +kernel), rfl⟩, fun _ z => by cases z⟩⟩⟩⟩, by decide +kernel⟩
set_option maxRecDepth 100000 in
theorem sH_pair : g_siteH mL_pair 4 [Cond.methodLink RL 141 yL_pair, Cond.static yL_pair, Cond.initialized RL] := ⟨rfl, List.forall_mem_cons.mpr ⟨⟨List.mem_of_getElem? (i := 882) rfl, rfl⟩, List.forall_mem_cons.mpr ⟨⟨List.mem_of_getElem? (i := 880) (by decide +kernel), rfl⟩, List.forall_mem_cons.mpr ⟨⟨List.mem_of_getElem? (i := 881) (by decide +kernel), rfl⟩, List.forall_mem_cons.mpr ⟨⟨List.mem_of_getElem? (i := 48) (by decide +kernel), rfl⟩, fun _ z => by cases z⟩⟩⟩⟩, by decide +kernel⟩
set_option maxRecDepth 100000 in
theorem sH_ballot : g_siteH mL_ballot 4 [Cond.methodLink RL 144 yL_ballot, Cond.static yL_ballot, Cond.initialized RL] := ⟨rfl, List.forall_mem_cons.mpr ⟨⟨List.mem_of_getElem? (i := 889) rfl, rfl⟩, List.forall_mem_cons.mpr ⟨⟨List.mem_of_getElem? (i := 887) (by decide +kernel), rfl⟩, List.forall_mem_cons.mpr ⟨⟨List.mem_of_getElem? (i := 888) (by decide +kernel), rfl⟩, List.forall_mem_cons.mpr ⟨⟨List.mem_of_getElem? (i := 48) (by decide +kernel), rfl⟩, fun _ z => by cases z⟩⟩⟩⟩, by decide +kernel⟩
set_option maxRecDepth 100000 in
theorem sH_digest : g_siteH mL_digest 4 [Cond.methodLink RL 147 yL_digest, Cond.static yL_digest, Cond.initialized RL] := ⟨rfl, List.forall_mem_cons.mpr ⟨⟨List.mem_of_getElem? (i := 905) rfl, rfl⟩, List.forall_mem_cons.mpr ⟨⟨List.mem_of_getElem? (i := 903) (by decide +kernel), rfl⟩, List.forall_mem_cons.mpr ⟨⟨List.mem_of_getElem? (i := 904) (by decide +kernel), rfl⟩, List.forall_mem_cons.mpr ⟨⟨List.mem_of_getElem? (i := 48) (by decide +kernel), rfl⟩, fun _ z => by cases z⟩⟩⟩⟩, by decide +kernel⟩
set_option maxRecDepth 100000 in
theorem sH_risk : g_siteH mL_risk 7 [Cond.methodLink RL 150 yL_risk, Cond.static yL_risk, Cond.initialized RL] := ⟨rfl, List.forall_mem_cons.mpr ⟨⟨List.mem_of_getElem? (i := 918) rfl, rfl⟩, List.forall_mem_cons.mpr ⟨⟨List.mem_of_getElem? (i := 916) (by decide +kernel), rfl⟩, List.forall_mem_cons.mpr ⟨⟨List.mem_of_getElem? (i := 917) (by decide +kernel), rfl⟩, List.forall_mem_cons.mpr ⟨⟨List.mem_of_getElem? (i := 48) (by decide +kernel), rfl⟩, fun _ z => by cases z⟩⟩⟩⟩, by decide +kernel⟩
set_option maxRecDepth 100000 in
theorem sH_show : g_siteH mL_show 4 [Cond.methodLink RL 154 yL_show, Cond.static yL_show, Cond.initialized RL] := ⟨rfl, List.forall_mem_cons.mpr ⟨⟨List.mem_of_getElem? (i := 967) rfl, rfl⟩, List.forall_mem_cons.mpr ⟨⟨List.mem_of_getElem? (i := 965) (by decide +kernel), rfl⟩, List.forall_mem_cons.mpr ⟨⟨List.mem_of_getElem? (i := 966) (by decide +kernel), rfl⟩, List.forall_mem_cons.mpr ⟨⟨List.mem_of_getElem? (i := 48) (by decide +kernel), rfl⟩, fun _ z => by cases z⟩⟩⟩⟩, by decide +kernel⟩
set_option maxRecDepth 100000 in
theorem sH_size : g_siteH mL_size 3 [Cond.methodLink RL 157 yL_size, Cond.static yL_size, Cond.initialized RL] := ⟨rfl, List.forall_mem_cons.mpr ⟨⟨List.mem_of_getElem? (i := 980) rfl, rfl⟩, List.forall_mem_cons.mpr ⟨⟨List.mem_of_getElem? (i := 978) (by decide +kernel), rfl⟩, List.forall_mem_cons.mpr ⟨⟨List.mem_of_getElem? (i := 979) (by decide +kernel), rfl⟩, List.forall_mem_cons.mpr ⟨⟨List.mem_of_getElem? (i := 48) (by decide +kernel), rfl⟩, fun _ z => by cases z⟩⟩⟩⟩, by decide +kernel⟩
set_option maxRecDepth 100000 in
theorem sH_limb : g_siteH mL_limb 4 [Cond.methodLink RL 160 yL_limb, Cond.static yL_limb, Cond.initialized RL] := ⟨rfl, List.forall_mem_cons.mpr ⟨⟨List.mem_of_getElem? (i := 991) rfl, rfl⟩, List.forall_mem_cons.mpr ⟨⟨List.mem_of_getElem? (i := 989) (by decide +kernel), rfl⟩, List.forall_mem_cons.mpr ⟨⟨List.mem_of_getElem? (i := 990) (by decide +kernel), rfl⟩, List.forall_mem_cons.mpr ⟨⟨List.mem_of_getElem? (i := 48) (by decide +kernel), rfl⟩, fun _ z => by cases z⟩⟩⟩⟩, by decide +kernel⟩
set_option maxHeartbeats 4000000 in
set_option maxRecDepth 100000 in
theorem w_candidate (G : gG) (d n : Nat) (h : gH) {x0 : Int32} {fs : List Value} {S : List Nat} {P : Option Value → gH → Prop} {kk : Nat} (hM : g_M G mX10_candidate (d + 8) 8 48 [.ref 0, .int x0] n false h (q_t n S h P (x_of [xIA, xIS, xUO] kk))) (hP : ∀ v h', P v h' → kk = 0 ∧ ∃ r, v = some (.int r)) (a0 : h 0 = some (.inr (10, fs))) {ou : Nat → Int64} (o1 : h 167 = some (.inl (3, 1, .inr (.inl ou)))) (hS : 167 ∉ S) : g_M G mL_candidate (d + 9) 8 48 [.ref 0, .int x0, .ref 167] n false h (q_i n false (167 :: S) h (fun r h' => r = nI kk ∧ ((kk = 0 ∧ ∃ h1 v0, P (some (.int v0)) h1 ∧ g_fr S h h1 ∧ h' = g_up h1 167 (.inl (3, 1, .inr (.inl (vp_updL ou 0 v0.toInt64))))) ∨ (¬ kk = 0 ∧ h' = h)))) := by
  refine g_enter (by decide) (Nat.le_of_ble_eq_true rfl) ?_
  show g_W G _ _ _ n false h 0 0 0 [(0, .ref 0), (1, .int x0), (2, .ref 167)] []
  refine g_aload_n dL_candidate_0 rfl rfl ?_
  refine g_iconst (v := nI 0) dL_candidate_1 (by decide) ?_
  refine g_aload_n dL_candidate_2 rfl rfl ?_
  refine g_iload_n dL_candidate_3 rfl rfl ?_
  refine cVt (st := [.int (nI 0), .ref 167]) dL_candidate_4 (hM) sL_7 a0 rfl rfl (by simp only [g_rm]; omega) (by simp only [g_rm]; omega) (Nat.le_of_ble_eq_true rfl) ⟨Nat.le_of_ble_eq_true rfl, Nat.le_of_ble_eq_true rfl⟩ (fun v4 h1 fr2 p3 => ?_) (fun E X5 => ?_)
  · obtain ⟨hk, r0, ev⟩ := hP _ _ p3
    subst ev
    refine g_i2l dL_candidate_7 ?_
    refine g_lastN dL_candidate_8 (fr2.at hS o1) (by decide) (by decide) ?_
    refine g_goto (tgt := 21) dL_candidate_9 (by decide) ?_
    refine g_iconst (v := nI 0) dL_candidate_21 (by decide) ?_
    exact e_i dL_candidate_22 rfl rfl ((fr2.mono (fun i hi => List.mem_cons_of_mem _ hi)).up List.mem_cons_self) ⟨by rw [hk], Or.inl ⟨hk, _, _, p3, fr2, rfl⟩⟩ (Nat.le_of_ble_eq_true rfl) (Nat.le_of_ble_eq_true rfl)
  · rcases x_3 X5 with ⟨hk, rfl⟩ | ⟨hk, rfl⟩ | ⟨hk, rfl⟩
    · refine g_catch (pre := []) (x := ⟨0, 9, 12, 13⟩) (suf := [⟨0, 9, 15, 15⟩, ⟨0, 9, 18, 17⟩]) (ls' := [(0, .ref 0), (1, .int x0), (2, .ref 167)]) (i := 3) rfl (fun z hz => by cases hz) (by decide) (by decide) (by decide) lk_13 rfl cc_xIA (by decide) (Or.inl ⟨3, rfl, dL_candidate_12, rfl⟩) rfl ?_
      refine g_iconst (v := nI 1) dL_candidate_13 (by decide) ?_
      exact e_i dL_candidate_14 rfl rfl g_fr.rf ⟨by rw [hk], Or.inr ⟨by rw [hk]; decide, rfl⟩⟩ (Nat.le_of_ble_eq_true rfl) (Nat.le_of_ble_eq_true rfl)
    · refine g_catch (pre := [⟨0, 9, 12, 13⟩]) (x := ⟨0, 9, 15, 15⟩) (suf := [⟨0, 9, 18, 17⟩]) (ls' := [(0, .ref 0), (1, .int x0), (2, .ref 167)]) (i := 3) rfl (List.forall_mem_cons.mpr ⟨Or.inr ⟨by decide, xIA, by decide, by decide, lk_13, rfl⟩, fun z hz => by cases hz⟩) (by decide) (by decide) (by decide) lk_15 rfl cc_xIS (by decide) (Or.inl ⟨3, rfl, dL_candidate_15, rfl⟩) rfl ?_
      refine g_iconst (v := nI 2) dL_candidate_16 (by decide) ?_
      exact e_i dL_candidate_17 rfl rfl g_fr.rf ⟨by rw [hk], Or.inr ⟨by rw [hk]; decide, rfl⟩⟩ (Nat.le_of_ble_eq_true rfl) (Nat.le_of_ble_eq_true rfl)
    · refine g_catch (pre := [⟨0, 9, 12, 13⟩, ⟨0, 9, 15, 15⟩]) (x := ⟨0, 9, 18, 17⟩) (suf := []) (ls' := [(0, .ref 0), (1, .int x0), (2, .ref 167)]) (i := 3) rfl (List.forall_mem_cons.mpr ⟨Or.inr ⟨by decide, xIA, by decide, by decide, lk_13, rfl⟩, List.forall_mem_cons.mpr ⟨Or.inr ⟨by decide, xIS, by decide, by decide, lk_15, rfl⟩, fun z hz => by cases hz⟩⟩) (by decide) (by decide) (by decide) lk_17 rfl cc_xUO (by decide) (Or.inl ⟨3, rfl, dL_candidate_18, rfl⟩) rfl ?_
      refine g_iconst (v := nI 3) dL_candidate_19 (by decide) ?_
      exact e_i dL_candidate_20 rfl rfl g_fr.rf ⟨by rw [hk], Or.inr ⟨by rw [hk]; decide, rfl⟩⟩ (Nat.le_of_ble_eq_true rfl) (Nat.le_of_ble_eq_true rfl)
set_option maxHeartbeats 4000000 in
set_option maxRecDepth 100000 in
theorem w_batch (G : gG) (d n : Nat) (h : gH) {x0 : Int32} {fs : List Value} {S : List Nat} {P : Option Value → gH → Prop} {kk : Nat} (hM : g_M G mX10_batch (d + 8) 8 48 [.ref 0, .int x0] n false h (q_t n S h P (x_of [xIA, xIS, xUO] kk))) (hP : ∀ v h', P v h' → kk = 0 ∧ ∃ r, v = some (.int r)) (a0 : h 0 = some (.inr (10, fs))) {ou : Nat → Int64} (o1 : h 167 = some (.inl (3, 1, .inr (.inl ou)))) (hS : 167 ∉ S) : g_M G mL_batch (d + 9) 8 48 [.ref 0, .int x0, .ref 167] n false h (q_i n false (167 :: S) h (fun r h' => r = nI kk ∧ ((kk = 0 ∧ ∃ h1 v0, P (some (.int v0)) h1 ∧ g_fr S h h1 ∧ h' = g_up h1 167 (.inl (3, 1, .inr (.inl (vp_updL ou 0 v0.toInt64))))) ∨ (¬ kk = 0 ∧ h' = h)))) := by
  refine g_enter (by decide) (Nat.le_of_ble_eq_true rfl) ?_
  show g_W G _ _ _ n false h 0 0 0 [(0, .ref 0), (1, .int x0), (2, .ref 167)] []
  refine g_aload_n dL_batch_0 rfl rfl ?_
  refine g_iconst (v := nI 0) dL_batch_1 (by decide) ?_
  refine g_aload_n dL_batch_2 rfl rfl ?_
  refine g_iload_n dL_batch_3 rfl rfl ?_
  refine cVt (st := [.int (nI 0), .ref 167]) dL_batch_4 (hM) sL_19 a0 rfl rfl (by simp only [g_rm]; omega) (by simp only [g_rm]; omega) (Nat.le_of_ble_eq_true rfl) ⟨Nat.le_of_ble_eq_true rfl, Nat.le_of_ble_eq_true rfl⟩ (fun v4 h1 fr2 p3 => ?_) (fun E X5 => ?_)
  · obtain ⟨hk, r0, ev⟩ := hP _ _ p3
    subst ev
    refine g_i2l dL_batch_7 ?_
    refine g_lastN dL_batch_8 (fr2.at hS o1) (by decide) (by decide) ?_
    refine g_goto (tgt := 21) dL_batch_9 (by decide) ?_
    refine g_iconst (v := nI 0) dL_batch_21 (by decide) ?_
    exact e_i dL_batch_22 rfl rfl ((fr2.mono (fun i hi => List.mem_cons_of_mem _ hi)).up List.mem_cons_self) ⟨by rw [hk], Or.inl ⟨hk, _, _, p3, fr2, rfl⟩⟩ (Nat.le_of_ble_eq_true rfl) (Nat.le_of_ble_eq_true rfl)
  · rcases x_3 X5 with ⟨hk, rfl⟩ | ⟨hk, rfl⟩ | ⟨hk, rfl⟩
    · refine g_catch (pre := []) (x := ⟨0, 9, 12, 13⟩) (suf := [⟨0, 9, 15, 15⟩, ⟨0, 9, 18, 17⟩]) (ls' := [(0, .ref 0), (1, .int x0), (2, .ref 167)]) (i := 3) rfl (fun z hz => by cases hz) (by decide) (by decide) (by decide) lk_13 rfl cc_xIA (by decide) (Or.inl ⟨3, rfl, dL_batch_12, rfl⟩) rfl ?_
      refine g_iconst (v := nI 1) dL_batch_13 (by decide) ?_
      exact e_i dL_batch_14 rfl rfl g_fr.rf ⟨by rw [hk], Or.inr ⟨by rw [hk]; decide, rfl⟩⟩ (Nat.le_of_ble_eq_true rfl) (Nat.le_of_ble_eq_true rfl)
    · refine g_catch (pre := [⟨0, 9, 12, 13⟩]) (x := ⟨0, 9, 15, 15⟩) (suf := [⟨0, 9, 18, 17⟩]) (ls' := [(0, .ref 0), (1, .int x0), (2, .ref 167)]) (i := 3) rfl (List.forall_mem_cons.mpr ⟨Or.inr ⟨by decide, xIA, by decide, by decide, lk_13, rfl⟩, fun z hz => by cases hz⟩) (by decide) (by decide) (by decide) lk_15 rfl cc_xIS (by decide) (Or.inl ⟨3, rfl, dL_batch_15, rfl⟩) rfl ?_
      refine g_iconst (v := nI 2) dL_batch_16 (by decide) ?_
      exact e_i dL_batch_17 rfl rfl g_fr.rf ⟨by rw [hk], Or.inr ⟨by rw [hk]; decide, rfl⟩⟩ (Nat.le_of_ble_eq_true rfl) (Nat.le_of_ble_eq_true rfl)
    · refine g_catch (pre := [⟨0, 9, 12, 13⟩, ⟨0, 9, 15, 15⟩]) (x := ⟨0, 9, 18, 17⟩) (suf := []) (ls' := [(0, .ref 0), (1, .int x0), (2, .ref 167)]) (i := 3) rfl (List.forall_mem_cons.mpr ⟨Or.inr ⟨by decide, xIA, by decide, by decide, lk_13, rfl⟩, List.forall_mem_cons.mpr ⟨Or.inr ⟨by decide, xIS, by decide, by decide, lk_15, rfl⟩, fun z hz => by cases hz⟩⟩) (by decide) (by decide) (by decide) lk_17 rfl cc_xUO (by decide) (Or.inl ⟨3, rfl, dL_batch_18, rfl⟩) rfl ?_
      refine g_iconst (v := nI 3) dL_batch_19 (by decide) ?_
      exact e_i dL_batch_20 rfl rfl g_fr.rf ⟨by rw [hk], Or.inr ⟨by rw [hk]; decide, rfl⟩⟩ (Nat.le_of_ble_eq_true rfl) (Nat.le_of_ble_eq_true rfl)
set_option maxHeartbeats 4000000 in
set_option maxRecDepth 100000 in
theorem w_set (G : gG) (d n : Nat) (h : gH) {x0 x1 : Int32} {fs : List Value} {S : List Nat} {P : Option Value → gH → Prop} {kk : Nat} (hM : g_M G mX10_set (d + 8) 8 48 [.ref 0, .int x0, .int x1] n false h (q_t n S h P (x_of [xIB, xIA, xIS] kk))) (hP : ∀ v h', P v h' → kk = 0 ∧ ∃ r, v = some (.int r)) (a0 : h 0 = some (.inr (10, fs))) {ou : Nat → Int64} (o1 : h 167 = some (.inl (3, 1, .inr (.inl ou)))) (hS : 167 ∉ S) : g_M G mL_set (d + 9) 8 48 [.ref 0, .int x0, .int x1, .ref 167] n false h (q_i n false (167 :: S) h (fun r h' => r = nI kk ∧ ((kk = 0 ∧ ∃ h1 v0, P (some (.int v0)) h1 ∧ g_fr S h h1 ∧ h' = g_up h1 167 (.inl (3, 1, .inr (.inl (vp_updL ou 0 v0.toInt64))))) ∨ (¬ kk = 0 ∧ h' = h)))) := by
  refine g_enter (by decide) (Nat.le_of_ble_eq_true rfl) ?_
  show g_W G _ _ _ n false h 0 0 0 [(0, .ref 0), (1, .int x0), (2, .int x1), (3, .ref 167)] []
  refine g_aload_n dL_set_0 rfl rfl ?_
  refine g_iconst (v := nI 0) dL_set_1 (by decide) ?_
  refine g_aload_n dL_set_2 rfl rfl ?_
  refine g_iload_n dL_set_3 rfl rfl ?_
  refine g_iload_n dL_set_4 rfl rfl ?_
  refine cVt (st := [.int (nI 0), .ref 167]) dL_set_5 (hM) sL_22 a0 rfl rfl (by simp only [g_rm]; omega) (by simp only [g_rm]; omega) (Nat.le_of_ble_eq_true rfl) ⟨Nat.le_of_ble_eq_true rfl, Nat.le_of_ble_eq_true rfl⟩ (fun v4 h1 fr2 p3 => ?_) (fun E X5 => ?_)
  · obtain ⟨hk, r0, ev⟩ := hP _ _ p3
    subst ev
    refine g_i2l dL_set_8 ?_
    refine g_lastN dL_set_9 (fr2.at hS o1) (by decide) (by decide) ?_
    refine g_goto (tgt := 25) dL_set_10 (by decide) ?_
    refine g_iconst (v := nI 0) dL_set_25 (by decide) ?_
    exact e_i dL_set_26 rfl rfl ((fr2.mono (fun i hi => List.mem_cons_of_mem _ hi)).up List.mem_cons_self) ⟨by rw [hk], Or.inl ⟨hk, _, _, p3, fr2, rfl⟩⟩ (Nat.le_of_ble_eq_true rfl) (Nat.le_of_ble_eq_true rfl)
  · rcases x_3 X5 with ⟨hk, rfl⟩ | ⟨hk, rfl⟩ | ⟨hk, rfl⟩
    · refine g_catch (pre := []) (x := ⟨0, 10, 13, 26⟩) (suf := [⟨0, 10, 17, 13⟩, ⟨0, 10, 21, 15⟩]) (ls' := [(0, .ref 0), (1, .int x0), (2, .int x1), (3, .ref 167)]) (i := 4) rfl (fun z hz => by cases hz) (by decide) (by decide) (by decide) lk_26 rfl cc_xIB (by decide) (Or.inr ⟨dL_set_13, rfl⟩) rfl ?_
      refine g_iconst (v := nI 1) dL_set_15 (by decide) ?_
      exact e_i dL_set_16 rfl rfl g_fr.rf ⟨by rw [hk], Or.inr ⟨by rw [hk]; decide, rfl⟩⟩ (Nat.le_of_ble_eq_true rfl) (Nat.le_of_ble_eq_true rfl)
    · refine g_catch (pre := [⟨0, 10, 13, 26⟩]) (x := ⟨0, 10, 17, 13⟩) (suf := [⟨0, 10, 21, 15⟩]) (ls' := [(0, .ref 0), (1, .int x0), (2, .int x1), (3, .ref 167)]) (i := 4) rfl (List.forall_mem_cons.mpr ⟨Or.inr ⟨by decide, xIB, by decide, by decide, lk_26, rfl⟩, fun z hz => by cases hz⟩) (by decide) (by decide) (by decide) lk_13 rfl cc_xIA (by decide) (Or.inr ⟨dL_set_17, rfl⟩) rfl ?_
      refine g_iconst (v := nI 2) dL_set_19 (by decide) ?_
      exact e_i dL_set_20 rfl rfl g_fr.rf ⟨by rw [hk], Or.inr ⟨by rw [hk]; decide, rfl⟩⟩ (Nat.le_of_ble_eq_true rfl) (Nat.le_of_ble_eq_true rfl)
    · refine g_catch (pre := [⟨0, 10, 13, 26⟩, ⟨0, 10, 17, 13⟩]) (x := ⟨0, 10, 21, 15⟩) (suf := []) (ls' := [(0, .ref 0), (1, .int x0), (2, .int x1), (3, .ref 167)]) (i := 4) rfl (List.forall_mem_cons.mpr ⟨Or.inr ⟨by decide, xIB, by decide, by decide, lk_26, rfl⟩, List.forall_mem_cons.mpr ⟨Or.inr ⟨by decide, xIA, by decide, by decide, lk_13, rfl⟩, fun z hz => by cases hz⟩⟩) (by decide) (by decide) (by decide) lk_15 rfl cc_xIS (by decide) (Or.inr ⟨dL_set_21, rfl⟩) rfl ?_
      refine g_iconst (v := nI 3) dL_set_23 (by decide) ?_
      exact e_i dL_set_24 rfl rfl g_fr.rf ⟨by rw [hk], Or.inr ⟨by rw [hk]; decide, rfl⟩⟩ (Nat.le_of_ble_eq_true rfl) (Nat.le_of_ble_eq_true rfl)
set_option maxHeartbeats 4000000 in
set_option maxRecDepth 100000 in
theorem w_fraction (G : gG) (d n : Nat) (h : gH) {x0 x1 x2 : Int32} {fs : List Value} {S : List Nat} {P : Option Value → gH → Prop} {kk : Nat} (hM : g_M G mX10_fraction (d + 8) 8 48 [.ref 0, .int x0, .int x1, .int x2] n false h (q_t n S h P (x_of [xIB, xIA, xIS] kk))) (hP : ∀ v h', P v h' → kk = 0 ∧ v = none) (a0 : h 0 = some (.inr (10, fs))) : g_M G mL_fraction (d + 9) 8 48 [.ref 0, .int x0, .int x1, .int x2] n false h (q_i n false S h (fun r h' => r = nI kk ∧ ((kk = 0 ∧ P none h' ∧ g_fr S h h') ∨ (¬ kk = 0 ∧ h' = h)))) := by
  refine g_enter (by decide) (Nat.le_of_ble_eq_true rfl) ?_
  show g_W G _ _ _ n false h 0 0 0 [(0, .ref 0), (1, .int x0), (2, .int x1), (3, .int x2)] []
  refine g_aload_n dL_fraction_0 rfl rfl ?_
  refine g_iload_n dL_fraction_1 rfl rfl ?_
  refine g_iload_n dL_fraction_2 rfl rfl ?_
  refine g_iload_n dL_fraction_3 rfl rfl ?_
  refine cVt (st := []) dL_fraction_4 (hM) sL_28 a0 rfl rfl (by simp only [g_rm]; omega) (by simp only [g_rm]; omega) (Nat.le_of_ble_eq_true rfl) ⟨Nat.le_of_ble_eq_true rfl, Nat.le_of_ble_eq_true rfl⟩ (fun v4 h1 fr2 p3 => ?_) (fun E X5 => ?_)
  · obtain ⟨hk, ev⟩ := hP _ _ p3
    subst ev
    refine g_goto (tgt := 22) dL_fraction_7 (by decide) ?_
    refine g_iconst (v := nI 0) dL_fraction_22 (by decide) ?_
    exact e_i dL_fraction_23 rfl rfl fr2 ⟨by rw [hk], Or.inl ⟨hk, p3, fr2⟩⟩ (Nat.le_of_ble_eq_true rfl) (Nat.le_of_ble_eq_true rfl)
  · rcases x_3 X5 with ⟨hk, rfl⟩ | ⟨hk, rfl⟩ | ⟨hk, rfl⟩
    · refine g_catch (pre := []) (x := ⟨0, 7, 10, 26⟩) (suf := [⟨0, 7, 14, 13⟩, ⟨0, 7, 18, 15⟩]) (ls' := [(0, .ref 0), (1, .int x0), (2, .int x1), (3, .int x2)]) (i := 4) rfl (fun z hz => by cases hz) (by decide) (by decide) (by decide) lk_26 rfl cc_xIB (by decide) (Or.inr ⟨dL_fraction_10, rfl⟩) rfl ?_
      refine g_iconst (v := nI 1) dL_fraction_12 (by decide) ?_
      exact e_i dL_fraction_13 rfl rfl g_fr.rf ⟨by rw [hk], Or.inr ⟨by rw [hk]; decide, rfl⟩⟩ (Nat.le_of_ble_eq_true rfl) (Nat.le_of_ble_eq_true rfl)
    · refine g_catch (pre := [⟨0, 7, 10, 26⟩]) (x := ⟨0, 7, 14, 13⟩) (suf := [⟨0, 7, 18, 15⟩]) (ls' := [(0, .ref 0), (1, .int x0), (2, .int x1), (3, .int x2)]) (i := 4) rfl (List.forall_mem_cons.mpr ⟨Or.inr ⟨by decide, xIB, by decide, by decide, lk_26, rfl⟩, fun z hz => by cases hz⟩) (by decide) (by decide) (by decide) lk_13 rfl cc_xIA (by decide) (Or.inr ⟨dL_fraction_14, rfl⟩) rfl ?_
      refine g_iconst (v := nI 2) dL_fraction_16 (by decide) ?_
      exact e_i dL_fraction_17 rfl rfl g_fr.rf ⟨by rw [hk], Or.inr ⟨by rw [hk]; decide, rfl⟩⟩ (Nat.le_of_ble_eq_true rfl) (Nat.le_of_ble_eq_true rfl)
    · refine g_catch (pre := [⟨0, 7, 10, 26⟩, ⟨0, 7, 14, 13⟩]) (x := ⟨0, 7, 18, 15⟩) (suf := []) (ls' := [(0, .ref 0), (1, .int x0), (2, .int x1), (3, .int x2)]) (i := 4) rfl (List.forall_mem_cons.mpr ⟨Or.inr ⟨by decide, xIB, by decide, by decide, lk_26, rfl⟩, List.forall_mem_cons.mpr ⟨Or.inr ⟨by decide, xIA, by decide, by decide, lk_13, rfl⟩, fun z hz => by cases hz⟩⟩) (by decide) (by decide) (by decide) lk_15 rfl cc_xIS (by decide) (Or.inr ⟨dL_fraction_18, rfl⟩) rfl ?_
      refine g_iconst (v := nI 3) dL_fraction_20 (by decide) ?_
      exact e_i dL_fraction_21 rfl rfl g_fr.rf ⟨by rw [hk], Or.inr ⟨by rw [hk]; decide, rfl⟩⟩ (Nat.le_of_ble_eq_true rfl) (Nat.le_of_ble_eq_true rfl)
set_option maxHeartbeats 4000000 in
set_option maxRecDepth 100000 in
theorem w_record (G : gG) (d n : Nat) (h : gH) {x0 x1 x2 : Int32} {fs : List Value} {S : List Nat} {P : Option Value → gH → Prop} {kk : Nat} (hM : g_M G mX10_record (d + 8) 8 48 [.ref 0, .int x0, .int x1, .int x2] n false h (q_t n S h P (x_of [xIB, xIS] kk))) (hP : ∀ v h', P v h' → kk = 0 ∧ v = none) (a0 : h 0 = some (.inr (10, fs))) : g_M G mL_record (d + 9) 8 48 [.ref 0, .int x0, .int x1, .int x2] n false h (q_i n false S h (fun r h' => r = nI kk ∧ ((kk = 0 ∧ P none h' ∧ g_fr S h h') ∨ (¬ kk = 0 ∧ h' = h)))) := by
  refine g_enter (by decide) (Nat.le_of_ble_eq_true rfl) ?_
  show g_W G _ _ _ n false h 0 0 0 [(0, .ref 0), (1, .int x0), (2, .int x1), (3, .int x2)] []
  refine g_aload_n dL_record_0 rfl rfl ?_
  refine g_iload_n dL_record_1 rfl rfl ?_
  refine g_iload_n dL_record_2 rfl rfl ?_
  refine g_iload_n dL_record_3 rfl rfl ?_
  refine cVt (st := []) dL_record_4 (hM) sL_32 a0 rfl rfl (by simp only [g_rm]; omega) (by simp only [g_rm]; omega) (Nat.le_of_ble_eq_true rfl) ⟨Nat.le_of_ble_eq_true rfl, Nat.le_of_ble_eq_true rfl⟩ (fun v4 h1 fr2 p3 => ?_) (fun E X5 => ?_)
  · obtain ⟨hk, ev⟩ := hP _ _ p3
    subst ev
    refine g_goto (tgt := 18) dL_record_7 (by decide) ?_
    refine g_iconst (v := nI 0) dL_record_18 (by decide) ?_
    exact e_i dL_record_19 rfl rfl fr2 ⟨by rw [hk], Or.inl ⟨hk, p3, fr2⟩⟩ (Nat.le_of_ble_eq_true rfl) (Nat.le_of_ble_eq_true rfl)
  · rcases x_2 X5 with ⟨hk, rfl⟩ | ⟨hk, rfl⟩
    · refine g_catch (pre := []) (x := ⟨0, 7, 10, 26⟩) (suf := [⟨0, 7, 14, 15⟩]) (ls' := [(0, .ref 0), (1, .int x0), (2, .int x1), (3, .int x2)]) (i := 4) rfl (fun z hz => by cases hz) (by decide) (by decide) (by decide) lk_26 rfl cc_xIB (by decide) (Or.inr ⟨dL_record_10, rfl⟩) rfl ?_
      refine g_iconst (v := nI 1) dL_record_12 (by decide) ?_
      exact e_i dL_record_13 rfl rfl g_fr.rf ⟨by rw [hk], Or.inr ⟨by rw [hk]; decide, rfl⟩⟩ (Nat.le_of_ble_eq_true rfl) (Nat.le_of_ble_eq_true rfl)
    · refine g_catch (pre := [⟨0, 7, 10, 26⟩]) (x := ⟨0, 7, 14, 15⟩) (suf := []) (ls' := [(0, .ref 0), (1, .int x0), (2, .int x1), (3, .int x2)]) (i := 4) rfl (List.forall_mem_cons.mpr ⟨Or.inr ⟨by decide, xIB, by decide, by decide, lk_26, rfl⟩, fun z hz => by cases hz⟩) (by decide) (by decide) (by decide) lk_15 rfl cc_xIS (by decide) (Or.inr ⟨dL_record_14, rfl⟩) rfl ?_
      refine g_iconst (v := nI 2) dL_record_16 (by decide) ?_
      exact e_i dL_record_17 rfl rfl g_fr.rf ⟨by rw [hk], Or.inr ⟨by rw [hk]; decide, rfl⟩⟩ (Nat.le_of_ble_eq_true rfl) (Nat.le_of_ble_eq_true rfl)
set_option maxHeartbeats 4000000 in
set_option maxRecDepth 100000 in
theorem w_digit (G : gG) (d n : Nat) (h : gH) {x0 : Int32} {fs : List Value} {S : List Nat} {P : Option Value → gH → Prop} {kk : Nat} (hM : g_M G mX10_digit (d + 8) 8 48 [.ref 0, .int x0] n false h (q_t n S h P (x_of [xIA, xIS, xUO] kk))) (hP : ∀ v h', P v h' → kk = 0 ∧ ∃ r, v = some (.int r)) (a0 : h 0 = some (.inr (10, fs))) {ou : Nat → Int64} (o1 : h 167 = some (.inl (3, 1, .inr (.inl ou)))) (hS : 167 ∉ S) : g_M G mL_digit (d + 9) 8 48 [.ref 0, .int x0, .ref 167] n false h (q_i n false (167 :: S) h (fun r h' => r = nI kk ∧ ((kk = 0 ∧ ∃ h1 v0, P (some (.int v0)) h1 ∧ g_fr S h h1 ∧ h' = g_up h1 167 (.inl (3, 1, .inr (.inl (vp_updL ou 0 v0.toInt64))))) ∨ (¬ kk = 0 ∧ h' = h)))) := by
  refine g_enter (by decide) (Nat.le_of_ble_eq_true rfl) ?_
  show g_W G _ _ _ n false h 0 0 0 [(0, .ref 0), (1, .int x0), (2, .ref 167)] []
  refine g_aload_n dL_digit_0 rfl rfl ?_
  refine g_iconst (v := nI 0) dL_digit_1 (by decide) ?_
  refine g_aload_n dL_digit_2 rfl rfl ?_
  refine g_iload_n dL_digit_3 rfl rfl ?_
  refine cVt (st := [.int (nI 0), .ref 167]) dL_digit_4 (hM) sL_35 a0 rfl rfl (by simp only [g_rm]; omega) (by simp only [g_rm]; omega) (Nat.le_of_ble_eq_true rfl) ⟨Nat.le_of_ble_eq_true rfl, Nat.le_of_ble_eq_true rfl⟩ (fun v4 h1 fr2 p3 => ?_) (fun E X5 => ?_)
  · obtain ⟨hk, r0, ev⟩ := hP _ _ p3
    subst ev
    refine g_i2l dL_digit_7 ?_
    refine g_lastN dL_digit_8 (fr2.at hS o1) (by decide) (by decide) ?_
    refine g_goto (tgt := 21) dL_digit_9 (by decide) ?_
    refine g_iconst (v := nI 0) dL_digit_21 (by decide) ?_
    exact e_i dL_digit_22 rfl rfl ((fr2.mono (fun i hi => List.mem_cons_of_mem _ hi)).up List.mem_cons_self) ⟨by rw [hk], Or.inl ⟨hk, _, _, p3, fr2, rfl⟩⟩ (Nat.le_of_ble_eq_true rfl) (Nat.le_of_ble_eq_true rfl)
  · rcases x_3 X5 with ⟨hk, rfl⟩ | ⟨hk, rfl⟩ | ⟨hk, rfl⟩
    · refine g_catch (pre := []) (x := ⟨0, 9, 12, 13⟩) (suf := [⟨0, 9, 15, 15⟩, ⟨0, 9, 18, 17⟩]) (ls' := [(0, .ref 0), (1, .int x0), (2, .ref 167)]) (i := 3) rfl (fun z hz => by cases hz) (by decide) (by decide) (by decide) lk_13 rfl cc_xIA (by decide) (Or.inl ⟨3, rfl, dL_digit_12, rfl⟩) rfl ?_
      refine g_iconst (v := nI 1) dL_digit_13 (by decide) ?_
      exact e_i dL_digit_14 rfl rfl g_fr.rf ⟨by rw [hk], Or.inr ⟨by rw [hk]; decide, rfl⟩⟩ (Nat.le_of_ble_eq_true rfl) (Nat.le_of_ble_eq_true rfl)
    · refine g_catch (pre := [⟨0, 9, 12, 13⟩]) (x := ⟨0, 9, 15, 15⟩) (suf := [⟨0, 9, 18, 17⟩]) (ls' := [(0, .ref 0), (1, .int x0), (2, .ref 167)]) (i := 3) rfl (List.forall_mem_cons.mpr ⟨Or.inr ⟨by decide, xIA, by decide, by decide, lk_13, rfl⟩, fun z hz => by cases hz⟩) (by decide) (by decide) (by decide) lk_15 rfl cc_xIS (by decide) (Or.inl ⟨3, rfl, dL_digit_15, rfl⟩) rfl ?_
      refine g_iconst (v := nI 2) dL_digit_16 (by decide) ?_
      exact e_i dL_digit_17 rfl rfl g_fr.rf ⟨by rw [hk], Or.inr ⟨by rw [hk]; decide, rfl⟩⟩ (Nat.le_of_ble_eq_true rfl) (Nat.le_of_ble_eq_true rfl)
    · refine g_catch (pre := [⟨0, 9, 12, 13⟩, ⟨0, 9, 15, 15⟩]) (x := ⟨0, 9, 18, 17⟩) (suf := []) (ls' := [(0, .ref 0), (1, .int x0), (2, .ref 167)]) (i := 3) rfl (List.forall_mem_cons.mpr ⟨Or.inr ⟨by decide, xIA, by decide, by decide, lk_13, rfl⟩, List.forall_mem_cons.mpr ⟨Or.inr ⟨by decide, xIS, by decide, by decide, lk_15, rfl⟩, fun z hz => by cases hz⟩⟩) (by decide) (by decide) (by decide) lk_17 rfl cc_xUO (by decide) (Or.inl ⟨3, rfl, dL_digit_18, rfl⟩) rfl ?_
      refine g_iconst (v := nI 3) dL_digit_19 (by decide) ?_
      exact e_i dL_digit_20 rfl rfl g_fr.rf ⟨by rw [hk], Or.inr ⟨by rw [hk]; decide, rfl⟩⟩ (Nat.le_of_ble_eq_true rfl) (Nat.le_of_ble_eq_true rfl)
set_option maxHeartbeats 4000000 in
set_option maxRecDepth 100000 in
theorem w_coins (G : gG) (d n : Nat) (h : gH) {x0 x1 : Int32} {fs : List Value} {S : List Nat} {P : Option Value → gH → Prop} {kk : Nat} (hM : g_M G mX10_coins (d + 8) 8 48 [.ref 0, .int x0, .int x1] n false h (q_t n S h P (x_of [xIA, xUO] kk))) (hP : ∀ v h', P v h' → kk = 0 ∧ ∃ r, v = some (.int r)) (a0 : h 0 = some (.inr (10, fs))) {ou : Nat → Int64} (o1 : h 167 = some (.inl (3, 1, .inr (.inl ou)))) (hS : 167 ∉ S) : g_M G mL_coins (d + 9) 8 48 [.ref 0, .int x0, .int x1, .ref 167] n false h (q_i n false (167 :: S) h (fun r h' => r = nI kk ∧ ((kk = 0 ∧ ∃ h1 v0, P (some (.int v0)) h1 ∧ g_fr S h h1 ∧ h' = g_up h1 167 (.inl (3, 1, .inr (.inl (vp_updL ou 0 v0.toInt64))))) ∨ (¬ kk = 0 ∧ h' = h)))) := by
  refine g_enter (by decide) (Nat.le_of_ble_eq_true rfl) ?_
  show g_W G _ _ _ n false h 0 0 0 [(0, .ref 0), (1, .int x0), (2, .int x1), (3, .ref 167)] []
  refine g_aload_n dL_coins_0 rfl rfl ?_
  refine g_iconst (v := nI 0) dL_coins_1 (by decide) ?_
  refine g_aload_n dL_coins_2 rfl rfl ?_
  refine g_iload_n dL_coins_3 rfl rfl ?_
  refine g_iload_n dL_coins_4 rfl rfl ?_
  refine cVt (st := [.int (nI 0), .ref 167]) dL_coins_5 (hM) sL_38 a0 rfl rfl (by simp only [g_rm]; omega) (by simp only [g_rm]; omega) (Nat.le_of_ble_eq_true rfl) ⟨Nat.le_of_ble_eq_true rfl, Nat.le_of_ble_eq_true rfl⟩ (fun v4 h1 fr2 p3 => ?_) (fun E X5 => ?_)
  · obtain ⟨hk, r0, ev⟩ := hP _ _ p3
    subst ev
    refine g_i2l dL_coins_8 ?_
    refine g_lastN dL_coins_9 (fr2.at hS o1) (by decide) (by decide) ?_
    refine g_goto (tgt := 21) dL_coins_10 (by decide) ?_
    refine g_iconst (v := nI 0) dL_coins_21 (by decide) ?_
    exact e_i dL_coins_22 rfl rfl ((fr2.mono (fun i hi => List.mem_cons_of_mem _ hi)).up List.mem_cons_self) ⟨by rw [hk], Or.inl ⟨hk, _, _, p3, fr2, rfl⟩⟩ (Nat.le_of_ble_eq_true rfl) (Nat.le_of_ble_eq_true rfl)
  · rcases x_2 X5 with ⟨hk, rfl⟩ | ⟨hk, rfl⟩
    · refine g_catch (pre := []) (x := ⟨0, 10, 13, 13⟩) (suf := [⟨0, 10, 17, 17⟩]) (ls' := [(0, .ref 0), (1, .int x0), (2, .int x1), (3, .ref 167)]) (i := 4) rfl (fun z hz => by cases hz) (by decide) (by decide) (by decide) lk_13 rfl cc_xIA (by decide) (Or.inr ⟨dL_coins_13, rfl⟩) rfl ?_
      refine g_iconst (v := nI 1) dL_coins_15 (by decide) ?_
      exact e_i dL_coins_16 rfl rfl g_fr.rf ⟨by rw [hk], Or.inr ⟨by rw [hk]; decide, rfl⟩⟩ (Nat.le_of_ble_eq_true rfl) (Nat.le_of_ble_eq_true rfl)
    · refine g_catch (pre := [⟨0, 10, 13, 13⟩]) (x := ⟨0, 10, 17, 17⟩) (suf := []) (ls' := [(0, .ref 0), (1, .int x0), (2, .int x1), (3, .ref 167)]) (i := 4) rfl (List.forall_mem_cons.mpr ⟨Or.inr ⟨by decide, xIA, by decide, by decide, lk_13, rfl⟩, fun z hz => by cases hz⟩) (by decide) (by decide) (by decide) lk_17 rfl cc_xUO (by decide) (Or.inr ⟨dL_coins_17, rfl⟩) rfl ?_
      refine g_iconst (v := nI 2) dL_coins_19 (by decide) ?_
      exact e_i dL_coins_20 rfl rfl g_fr.rf ⟨by rw [hk], Or.inr ⟨by rw [hk]; decide, rfl⟩⟩ (Nat.le_of_ble_eq_true rfl) (Nat.le_of_ble_eq_true rfl)
set_option maxHeartbeats 4000000 in
set_option maxRecDepth 100000 in
theorem w_start (G : gG) (d n : Nat) (h : gH) {x0 x1 : Int32} {fs : List Value} {S : List Nat} {P : Option Value → gH → Prop} {kk : Nat} (hM : g_M G mX10_start (d + 8) 8 48 [.ref 0, .int x0, .int x1] n false h (q_t n S h P (x_of [xIS] kk))) (hP : ∀ v h', P v h' → kk = 0 ∧ v = none) (a0 : h 0 = some (.inr (10, fs))) : g_M G mL_start (d + 9) 8 48 [.ref 0, .int x0, .int x1] n false h (q_i n false S h (fun r h' => r = nI kk ∧ ((kk = 0 ∧ P none h' ∧ g_fr S h h') ∨ (¬ kk = 0 ∧ h' = h)))) := by
  refine g_enter (by decide) (Nat.le_of_ble_eq_true rfl) ?_
  show g_W G _ _ _ n false h 0 0 0 [(0, .ref 0), (1, .int x0), (2, .int x1)] []
  refine g_aload_n dL_start_0 rfl rfl ?_
  refine g_iload_n dL_start_1 rfl rfl ?_
  refine g_iload_n dL_start_2 rfl rfl ?_
  refine cVt (st := []) dL_start_3 (hM) sL_41 a0 rfl rfl (by simp only [g_rm]; omega) (by simp only [g_rm]; omega) (Nat.le_of_ble_eq_true rfl) ⟨Nat.le_of_ble_eq_true rfl, Nat.le_of_ble_eq_true rfl⟩ (fun v4 h1 fr2 p3 => ?_) (fun E X5 => ?_)
  · obtain ⟨hk, ev⟩ := hP _ _ p3
    subst ev
    refine g_goto (tgt := 12) dL_start_6 (by decide) ?_
    refine g_iconst (v := nI 0) dL_start_12 (by decide) ?_
    exact e_i dL_start_13 rfl rfl fr2 ⟨by rw [hk], Or.inl ⟨hk, p3, fr2⟩⟩ (Nat.le_of_ble_eq_true rfl) (Nat.le_of_ble_eq_true rfl)
  · obtain ⟨hk, rfl⟩ := x_1 X5
    refine g_catch (pre := []) (x := ⟨0, 6, 9, 15⟩) (suf := []) (ls' := [(0, .ref 0), (1, .int x0), (2, .int x1)]) (i := 3) rfl (fun z hz => by cases hz) (by decide) (by decide) (by decide) lk_15 rfl cc_xIS (by decide) (Or.inl ⟨3, rfl, dL_start_9, rfl⟩) rfl ?_
    refine g_iconst (v := nI 1) dL_start_10 (by decide) ?_
    exact e_i dL_start_11 rfl rfl g_fr.rf ⟨by rw [hk], Or.inr ⟨by rw [hk]; decide, rfl⟩⟩ (Nat.le_of_ble_eq_true rfl) (Nat.le_of_ble_eq_true rfl)
set_option maxHeartbeats 4000000 in
set_option maxRecDepth 100000 in
theorem w_draw (G : gG) (d n : Nat) (h : gH) {fs : List Value} {S : List Nat} {P : Option Value → gH → Prop} {kk : Nat} (hM : g_M G mX10_draw (d + 8) 8 48 [.ref 0] n false h (q_t n S h P (x_of [xIS] kk))) (hP : ∀ v h', P v h' → kk = 0 ∧ ∃ r, v = some (.int r)) (a0 : h 0 = some (.inr (10, fs))) {ou : Nat → Int64} (o1 : h 167 = some (.inl (3, 1, .inr (.inl ou)))) (hS : 167 ∉ S) : g_M G mL_draw (d + 9) 8 48 [.ref 0, .ref 167] n false h (q_i n false (167 :: S) h (fun r h' => r = nI kk ∧ ((kk = 0 ∧ ∃ h1 v0, P (some (.int v0)) h1 ∧ g_fr S h h1 ∧ h' = g_up h1 167 (.inl (3, 1, .inr (.inl (vp_updL ou 0 v0.toInt64))))) ∨ (¬ kk = 0 ∧ h' = h)))) := by
  refine g_enter (by decide) (Nat.le_of_ble_eq_true rfl) ?_
  show g_W G _ _ _ n false h 0 0 0 [(0, .ref 0), (1, .ref 167)] []
  refine g_aload_n dL_draw_0 rfl rfl ?_
  refine g_iconst (v := nI 0) dL_draw_1 (by decide) ?_
  refine g_aload_n dL_draw_2 rfl rfl ?_
  refine cVt (st := [.int (nI 0), .ref 167]) dL_draw_3 (hM) sL_45 a0 rfl rfl (by simp only [g_rm]; omega) (by simp only [g_rm]; omega) (Nat.le_of_ble_eq_true rfl) ⟨Nat.le_of_ble_eq_true rfl, Nat.le_of_ble_eq_true rfl⟩ (fun v4 h1 fr2 p3 => ?_) (fun E X5 => ?_)
  · obtain ⟨hk, r0, ev⟩ := hP _ _ p3
    subst ev
    refine g_i2l dL_draw_6 ?_
    refine g_lastN dL_draw_7 (fr2.at hS o1) (by decide) (by decide) ?_
    refine g_goto (tgt := 14) dL_draw_8 (by decide) ?_
    refine g_iconst (v := nI 0) dL_draw_14 (by decide) ?_
    exact e_i dL_draw_15 rfl rfl ((fr2.mono (fun i hi => List.mem_cons_of_mem _ hi)).up List.mem_cons_self) ⟨by rw [hk], Or.inl ⟨hk, _, _, p3, fr2, rfl⟩⟩ (Nat.le_of_ble_eq_true rfl) (Nat.le_of_ble_eq_true rfl)
  · obtain ⟨hk, rfl⟩ := x_1 X5
    refine g_catch (pre := []) (x := ⟨0, 8, 11, 15⟩) (suf := []) (ls' := [(0, .ref 0), (1, .ref 167)]) (i := 2) rfl (fun z hz => by cases hz) (by decide) (by decide) (by decide) lk_15 rfl cc_xIS (by decide) (Or.inl ⟨2, rfl, dL_draw_11, rfl⟩) rfl ?_
    refine g_iconst (v := nI 1) dL_draw_12 (by decide) ?_
    exact e_i dL_draw_13 rfl rfl g_fr.rf ⟨by rw [hk], Or.inr ⟨by rw [hk]; decide, rfl⟩⟩ (Nat.le_of_ble_eq_true rfl) (Nat.le_of_ble_eq_true rfl)
set_option maxHeartbeats 4000000 in
set_option maxRecDepth 100000 in
theorem w_see (G : gG) (d n : Nat) (h : gH) {x0 : Int32} {fs : List Value} {S : List Nat} {P : Option Value → gH → Prop} {kk : Nat} (hM : g_M G mX10_see (d + 8) 8 48 [.ref 0, .int x0] n false h (q_t n S h P (x_of [xIB, xIS] kk))) (hP : ∀ v h', P v h' → kk = 0 ∧ ∃ r, v = some (.int r)) (a0 : h 0 = some (.inr (10, fs))) {ou : Nat → Int64} (o1 : h 167 = some (.inl (3, 1, .inr (.inl ou)))) (hS : 167 ∉ S) : g_M G mL_see (d + 9) 8 48 [.ref 0, .int x0, .ref 167] n false h (q_i n false (167 :: S) h (fun r h' => r = nI kk ∧ ((kk = 0 ∧ ∃ h1 v0, P (some (.int v0)) h1 ∧ g_fr S h h1 ∧ h' = g_up h1 167 (.inl (3, 1, .inr (.inl (vp_updL ou 0 v0.toInt64))))) ∨ (¬ kk = 0 ∧ h' = h)))) := by
  refine g_enter (by decide) (Nat.le_of_ble_eq_true rfl) ?_
  show g_W G _ _ _ n false h 0 0 0 [(0, .ref 0), (1, .int x0), (2, .ref 167)] []
  refine g_aload_n dL_see_0 rfl rfl ?_
  refine g_iconst (v := nI 0) dL_see_1 (by decide) ?_
  refine g_aload_n dL_see_2 rfl rfl ?_
  refine g_iload_n dL_see_3 rfl rfl ?_
  refine cVt (st := [.int (nI 0), .ref 167]) dL_see_4 (hM) sL_49 a0 rfl rfl (by simp only [g_rm]; omega) (by simp only [g_rm]; omega) (Nat.le_of_ble_eq_true rfl) ⟨Nat.le_of_ble_eq_true rfl, Nat.le_of_ble_eq_true rfl⟩ (fun v4 h1 fr2 p3 => ?_) (fun E X5 => ?_)
  · obtain ⟨hk, r0, ev⟩ := hP _ _ p3
    subst ev
    refine g_i2l dL_see_7 ?_
    refine g_lastN dL_see_8 (fr2.at hS o1) (by decide) (by decide) ?_
    refine g_goto (tgt := 18) dL_see_9 (by decide) ?_
    refine g_iconst (v := nI 0) dL_see_18 (by decide) ?_
    exact e_i dL_see_19 rfl rfl ((fr2.mono (fun i hi => List.mem_cons_of_mem _ hi)).up List.mem_cons_self) ⟨by rw [hk], Or.inl ⟨hk, _, _, p3, fr2, rfl⟩⟩ (Nat.le_of_ble_eq_true rfl) (Nat.le_of_ble_eq_true rfl)
  · rcases x_2 X5 with ⟨hk, rfl⟩ | ⟨hk, rfl⟩
    · refine g_catch (pre := []) (x := ⟨0, 9, 12, 26⟩) (suf := [⟨0, 9, 15, 15⟩]) (ls' := [(0, .ref 0), (1, .int x0), (2, .ref 167)]) (i := 3) rfl (fun z hz => by cases hz) (by decide) (by decide) (by decide) lk_26 rfl cc_xIB (by decide) (Or.inl ⟨3, rfl, dL_see_12, rfl⟩) rfl ?_
      refine g_iconst (v := nI 1) dL_see_13 (by decide) ?_
      exact e_i dL_see_14 rfl rfl g_fr.rf ⟨by rw [hk], Or.inr ⟨by rw [hk]; decide, rfl⟩⟩ (Nat.le_of_ble_eq_true rfl) (Nat.le_of_ble_eq_true rfl)
    · refine g_catch (pre := [⟨0, 9, 12, 26⟩]) (x := ⟨0, 9, 15, 15⟩) (suf := []) (ls' := [(0, .ref 0), (1, .int x0), (2, .ref 167)]) (i := 3) rfl (List.forall_mem_cons.mpr ⟨Or.inr ⟨by decide, xIB, by decide, by decide, lk_26, rfl⟩, fun z hz => by cases hz⟩) (by decide) (by decide) (by decide) lk_15 rfl cc_xIS (by decide) (Or.inl ⟨3, rfl, dL_see_15, rfl⟩) rfl ?_
      refine g_iconst (v := nI 2) dL_see_16 (by decide) ?_
      exact e_i dL_see_17 rfl rfl g_fr.rf ⟨by rw [hk], Or.inr ⟨by rw [hk]; decide, rfl⟩⟩ (Nat.le_of_ble_eq_true rfl) (Nat.le_of_ble_eq_true rfl)
set_option maxHeartbeats 4000000 in
set_option maxRecDepth 100000 in
theorem w_counted (G : gG) (d n : Nat) (h : gH) {x0 x1 : Int32} {fs : List Value} {S : List Nat} {P : Option Value → gH → Prop} {kk : Nat} (hM : g_M G mX10_counted (d + 8) 8 48 [.ref 0, .int x0, .int x1] n false h (q_t n S h P (x_of [xIB, xIA, xIS] kk))) (hP : ∀ v h', P v h' → kk = 0 ∧ ∃ r, v = some (.int r)) (a0 : h 0 = some (.inr (10, fs))) {ou : Nat → Int64} (o1 : h 167 = some (.inl (3, 1, .inr (.inl ou)))) (hS : 167 ∉ S) : g_M G mL_counted (d + 9) 8 48 [.ref 0, .int x0, .int x1, .ref 167] n false h (q_i n false (167 :: S) h (fun r h' => r = nI kk ∧ ((kk = 0 ∧ ∃ h1 v0, P (some (.int v0)) h1 ∧ g_fr S h h1 ∧ h' = g_up h1 167 (.inl (3, 1, .inr (.inl (vp_updL ou 0 v0.toInt64))))) ∨ (¬ kk = 0 ∧ h' = h)))) := by
  refine g_enter (by decide) (Nat.le_of_ble_eq_true rfl) ?_
  show g_W G _ _ _ n false h 0 0 0 [(0, .ref 0), (1, .int x0), (2, .int x1), (3, .ref 167)] []
  refine g_aload_n dL_counted_0 rfl rfl ?_
  refine g_iconst (v := nI 0) dL_counted_1 (by decide) ?_
  refine g_aload_n dL_counted_2 rfl rfl ?_
  refine g_iload_n dL_counted_3 rfl rfl ?_
  refine g_iload_n dL_counted_4 rfl rfl ?_
  refine cVt (st := [.int (nI 0), .ref 167]) dL_counted_5 (hM) sL_52 a0 rfl rfl (by simp only [g_rm]; omega) (by simp only [g_rm]; omega) (Nat.le_of_ble_eq_true rfl) ⟨Nat.le_of_ble_eq_true rfl, Nat.le_of_ble_eq_true rfl⟩ (fun v4 h1 fr2 p3 => ?_) (fun E X5 => ?_)
  · obtain ⟨hk, r0, ev⟩ := hP _ _ p3
    subst ev
    refine g_i2l dL_counted_8 ?_
    refine g_lastN dL_counted_9 (fr2.at hS o1) (by decide) (by decide) ?_
    refine g_goto (tgt := 25) dL_counted_10 (by decide) ?_
    refine g_iconst (v := nI 0) dL_counted_25 (by decide) ?_
    exact e_i dL_counted_26 rfl rfl ((fr2.mono (fun i hi => List.mem_cons_of_mem _ hi)).up List.mem_cons_self) ⟨by rw [hk], Or.inl ⟨hk, _, _, p3, fr2, rfl⟩⟩ (Nat.le_of_ble_eq_true rfl) (Nat.le_of_ble_eq_true rfl)
  · rcases x_3 X5 with ⟨hk, rfl⟩ | ⟨hk, rfl⟩ | ⟨hk, rfl⟩
    · refine g_catch (pre := []) (x := ⟨0, 10, 13, 26⟩) (suf := [⟨0, 10, 17, 13⟩, ⟨0, 10, 21, 15⟩]) (ls' := [(0, .ref 0), (1, .int x0), (2, .int x1), (3, .ref 167)]) (i := 4) rfl (fun z hz => by cases hz) (by decide) (by decide) (by decide) lk_26 rfl cc_xIB (by decide) (Or.inr ⟨dL_counted_13, rfl⟩) rfl ?_
      refine g_iconst (v := nI 1) dL_counted_15 (by decide) ?_
      exact e_i dL_counted_16 rfl rfl g_fr.rf ⟨by rw [hk], Or.inr ⟨by rw [hk]; decide, rfl⟩⟩ (Nat.le_of_ble_eq_true rfl) (Nat.le_of_ble_eq_true rfl)
    · refine g_catch (pre := [⟨0, 10, 13, 26⟩]) (x := ⟨0, 10, 17, 13⟩) (suf := [⟨0, 10, 21, 15⟩]) (ls' := [(0, .ref 0), (1, .int x0), (2, .int x1), (3, .ref 167)]) (i := 4) rfl (List.forall_mem_cons.mpr ⟨Or.inr ⟨by decide, xIB, by decide, by decide, lk_26, rfl⟩, fun z hz => by cases hz⟩) (by decide) (by decide) (by decide) lk_13 rfl cc_xIA (by decide) (Or.inr ⟨dL_counted_17, rfl⟩) rfl ?_
      refine g_iconst (v := nI 2) dL_counted_19 (by decide) ?_
      exact e_i dL_counted_20 rfl rfl g_fr.rf ⟨by rw [hk], Or.inr ⟨by rw [hk]; decide, rfl⟩⟩ (Nat.le_of_ble_eq_true rfl) (Nat.le_of_ble_eq_true rfl)
    · refine g_catch (pre := [⟨0, 10, 13, 26⟩, ⟨0, 10, 17, 13⟩]) (x := ⟨0, 10, 21, 15⟩) (suf := []) (ls' := [(0, .ref 0), (1, .int x0), (2, .int x1), (3, .ref 167)]) (i := 4) rfl (List.forall_mem_cons.mpr ⟨Or.inr ⟨by decide, xIB, by decide, by decide, lk_26, rfl⟩, List.forall_mem_cons.mpr ⟨Or.inr ⟨by decide, xIA, by decide, by decide, lk_13, rfl⟩, fun z hz => by cases hz⟩⟩) (by decide) (by decide) (by decide) lk_15 rfl cc_xIS (by decide) (Or.inr ⟨dL_counted_21, rfl⟩) rfl ?_
      refine g_iconst (v := nI 3) dL_counted_23 (by decide) ?_
      exact e_i dL_counted_24 rfl rfl g_fr.rf ⟨by rw [hk], Or.inr ⟨by rw [hk]; decide, rfl⟩⟩ (Nat.le_of_ble_eq_true rfl) (Nat.le_of_ble_eq_true rfl)
set_option maxHeartbeats 4000000 in
set_option maxRecDepth 100000 in
theorem w_told (G : gG) (d n : Nat) (h : gH) {x0 : Int32} {fs : List Value} {S : List Nat} {P : Option Value → gH → Prop} {kk : Nat} (hM : g_M G mX10_told (d + 8) 8 48 [.ref 0, .int x0] n false h (q_t n S h P (x_of [xIB] kk))) (hP : ∀ v h', P v h' → kk = 0 ∧ ∃ r, v = some (.int r)) (a0 : h 0 = some (.inr (10, fs))) {ou : Nat → Int64} (o1 : h 167 = some (.inl (3, 1, .inr (.inl ou)))) (hS : 167 ∉ S) : g_M G mL_told (d + 9) 8 48 [.ref 0, .int x0, .ref 167] n false h (q_i n false (167 :: S) h (fun r h' => r = nI kk ∧ ((kk = 0 ∧ ∃ h1 v0, P (some (.int v0)) h1 ∧ g_fr S h h1 ∧ h' = g_up h1 167 (.inl (3, 1, .inr (.inl (vp_updL ou 0 v0.toInt64))))) ∨ (¬ kk = 0 ∧ h' = h)))) := by
  refine g_enter (by decide) (Nat.le_of_ble_eq_true rfl) ?_
  show g_W G _ _ _ n false h 0 0 0 [(0, .ref 0), (1, .int x0), (2, .ref 167)] []
  refine g_aload_n dL_told_0 rfl rfl ?_
  refine g_iconst (v := nI 0) dL_told_1 (by decide) ?_
  refine g_aload_n dL_told_2 rfl rfl ?_
  refine g_iload_n dL_told_3 rfl rfl ?_
  refine cVt (st := [.int (nI 0), .ref 167]) dL_told_4 (hM) sL_55 a0 rfl rfl (by simp only [g_rm]; omega) (by simp only [g_rm]; omega) (Nat.le_of_ble_eq_true rfl) ⟨Nat.le_of_ble_eq_true rfl, Nat.le_of_ble_eq_true rfl⟩ (fun v4 h1 fr2 p3 => ?_) (fun E X5 => ?_)
  · obtain ⟨hk, r0, ev⟩ := hP _ _ p3
    subst ev
    refine g_i2l dL_told_7 ?_
    refine g_lastN dL_told_8 (fr2.at hS o1) (by decide) (by decide) ?_
    refine g_goto (tgt := 15) dL_told_9 (by decide) ?_
    refine g_iconst (v := nI 0) dL_told_15 (by decide) ?_
    exact e_i dL_told_16 rfl rfl ((fr2.mono (fun i hi => List.mem_cons_of_mem _ hi)).up List.mem_cons_self) ⟨by rw [hk], Or.inl ⟨hk, _, _, p3, fr2, rfl⟩⟩ (Nat.le_of_ble_eq_true rfl) (Nat.le_of_ble_eq_true rfl)
  · obtain ⟨hk, rfl⟩ := x_1 X5
    refine g_catch (pre := []) (x := ⟨0, 9, 12, 26⟩) (suf := []) (ls' := [(0, .ref 0), (1, .int x0), (2, .ref 167)]) (i := 3) rfl (fun z hz => by cases hz) (by decide) (by decide) (by decide) lk_26 rfl cc_xIB (by decide) (Or.inl ⟨3, rfl, dL_told_12, rfl⟩) rfl ?_
    refine g_iconst (v := nI 1) dL_told_13 (by decide) ?_
    exact e_i dL_told_14 rfl rfl g_fr.rf ⟨by rw [hk], Or.inr ⟨by rw [hk]; decide, rfl⟩⟩ (Nat.le_of_ble_eq_true rfl) (Nat.le_of_ble_eq_true rfl)
set_option maxHeartbeats 4000000 in
set_option maxRecDepth 100000 in
theorem w_of (G : gG) (d n : Nat) (h : gH) {x0 x1 : Int32} {fs : List Value} {S : List Nat} {P : Option Value → gH → Prop} {kk : Nat} (hM : g_M G mX10_of (d + 8) 8 48 [.ref 0, .int x0, .int x1] n false h (q_t n S h P (x_of [xIB] kk))) (hP : ∀ v h', P v h' → kk = 0 ∧ ∃ r, v = some (.int r)) (a0 : h 0 = some (.inr (10, fs))) {ou : Nat → Int64} (o1 : h 167 = some (.inl (3, 1, .inr (.inl ou)))) (hS : 167 ∉ S) : g_M G mL_of (d + 9) 8 48 [.ref 0, .int x0, .int x1, .ref 167] n false h (q_i n false (167 :: S) h (fun r h' => r = nI kk ∧ ((kk = 0 ∧ ∃ h1 v0, P (some (.int v0)) h1 ∧ g_fr S h h1 ∧ h' = g_up h1 167 (.inl (3, 1, .inr (.inl (vp_updL ou 0 v0.toInt64))))) ∨ (¬ kk = 0 ∧ h' = h)))) := by
  refine g_enter (by decide) (Nat.le_of_ble_eq_true rfl) ?_
  show g_W G _ _ _ n false h 0 0 0 [(0, .ref 0), (1, .int x0), (2, .int x1), (3, .ref 167)] []
  refine g_aload_n dL_of_0 rfl rfl ?_
  refine g_iconst (v := nI 0) dL_of_1 (by decide) ?_
  refine g_aload_n dL_of_2 rfl rfl ?_
  refine g_iload_n dL_of_3 rfl rfl ?_
  refine g_iload_n dL_of_4 rfl rfl ?_
  refine cVt (st := [.int (nI 0), .ref 167]) dL_of_5 (hM) sL_58 a0 rfl rfl (by simp only [g_rm]; omega) (by simp only [g_rm]; omega) (Nat.le_of_ble_eq_true rfl) ⟨Nat.le_of_ble_eq_true rfl, Nat.le_of_ble_eq_true rfl⟩ (fun v4 h1 fr2 p3 => ?_) (fun E X5 => ?_)
  · obtain ⟨hk, r0, ev⟩ := hP _ _ p3
    subst ev
    refine g_i2l dL_of_8 ?_
    refine g_lastN dL_of_9 (fr2.at hS o1) (by decide) (by decide) ?_
    refine g_goto (tgt := 17) dL_of_10 (by decide) ?_
    refine g_iconst (v := nI 0) dL_of_17 (by decide) ?_
    exact e_i dL_of_18 rfl rfl ((fr2.mono (fun i hi => List.mem_cons_of_mem _ hi)).up List.mem_cons_self) ⟨by rw [hk], Or.inl ⟨hk, _, _, p3, fr2, rfl⟩⟩ (Nat.le_of_ble_eq_true rfl) (Nat.le_of_ble_eq_true rfl)
  · obtain ⟨hk, rfl⟩ := x_1 X5
    refine g_catch (pre := []) (x := ⟨0, 10, 13, 26⟩) (suf := []) (ls' := [(0, .ref 0), (1, .int x0), (2, .int x1), (3, .ref 167)]) (i := 4) rfl (fun z hz => by cases hz) (by decide) (by decide) (by decide) lk_26 rfl cc_xIB (by decide) (Or.inr ⟨dL_of_13, rfl⟩) rfl ?_
    refine g_iconst (v := nI 1) dL_of_15 (by decide) ?_
    exact e_i dL_of_16 rfl rfl g_fr.rf ⟨by rw [hk], Or.inr ⟨by rw [hk]; decide, rfl⟩⟩ (Nat.le_of_ble_eq_true rfl) (Nat.le_of_ble_eq_true rfl)
set_option maxHeartbeats 4000000 in
set_option maxRecDepth 100000 in
theorem w_pair (G : gG) (d n : Nat) (h : gH) {x0 x1 : Int32} {fs : List Value} {S : List Nat} {P : Option Value → gH → Prop} {kk : Nat} (hM : g_M G mX10_pair (d + 8) 8 48 [.ref 0, .int x0, .int x1] n false h (q_t n S h P (x_of [xIB] kk))) (hP : ∀ v h', P v h' → kk = 0 ∧ ∃ r, v = some (.int r)) (a0 : h 0 = some (.inr (10, fs))) {ou : Nat → Int64} (o1 : h 167 = some (.inl (3, 1, .inr (.inl ou)))) (hS : 167 ∉ S) : g_M G mL_pair (d + 9) 8 48 [.ref 0, .int x0, .int x1, .ref 167] n false h (q_i n false (167 :: S) h (fun r h' => r = nI kk ∧ ((kk = 0 ∧ ∃ h1 v0, P (some (.int v0)) h1 ∧ g_fr S h h1 ∧ h' = g_up h1 167 (.inl (3, 1, .inr (.inl (vp_updL ou 0 v0.toInt64))))) ∨ (¬ kk = 0 ∧ h' = h)))) := by
  refine g_enter (by decide) (Nat.le_of_ble_eq_true rfl) ?_
  show g_W G _ _ _ n false h 0 0 0 [(0, .ref 0), (1, .int x0), (2, .int x1), (3, .ref 167)] []
  refine g_aload_n dL_pair_0 rfl rfl ?_
  refine g_iconst (v := nI 0) dL_pair_1 (by decide) ?_
  refine g_aload_n dL_pair_2 rfl rfl ?_
  refine g_iload_n dL_pair_3 rfl rfl ?_
  refine g_iload_n dL_pair_4 rfl rfl ?_
  refine cVt (st := [.int (nI 0), .ref 167]) dL_pair_5 (hM) sL_61 a0 rfl rfl (by simp only [g_rm]; omega) (by simp only [g_rm]; omega) (Nat.le_of_ble_eq_true rfl) ⟨Nat.le_of_ble_eq_true rfl, Nat.le_of_ble_eq_true rfl⟩ (fun v4 h1 fr2 p3 => ?_) (fun E X5 => ?_)
  · obtain ⟨hk, r0, ev⟩ := hP _ _ p3
    subst ev
    refine g_i2l dL_pair_8 ?_
    refine g_lastN dL_pair_9 (fr2.at hS o1) (by decide) (by decide) ?_
    refine g_goto (tgt := 17) dL_pair_10 (by decide) ?_
    refine g_iconst (v := nI 0) dL_pair_17 (by decide) ?_
    exact e_i dL_pair_18 rfl rfl ((fr2.mono (fun i hi => List.mem_cons_of_mem _ hi)).up List.mem_cons_self) ⟨by rw [hk], Or.inl ⟨hk, _, _, p3, fr2, rfl⟩⟩ (Nat.le_of_ble_eq_true rfl) (Nat.le_of_ble_eq_true rfl)
  · obtain ⟨hk, rfl⟩ := x_1 X5
    refine g_catch (pre := []) (x := ⟨0, 10, 13, 26⟩) (suf := []) (ls' := [(0, .ref 0), (1, .int x0), (2, .int x1), (3, .ref 167)]) (i := 4) rfl (fun z hz => by cases hz) (by decide) (by decide) (by decide) lk_26 rfl cc_xIB (by decide) (Or.inr ⟨dL_pair_13, rfl⟩) rfl ?_
    refine g_iconst (v := nI 1) dL_pair_15 (by decide) ?_
    exact e_i dL_pair_16 rfl rfl g_fr.rf ⟨by rw [hk], Or.inr ⟨by rw [hk]; decide, rfl⟩⟩ (Nat.le_of_ble_eq_true rfl) (Nat.le_of_ble_eq_true rfl)
set_option maxHeartbeats 4000000 in
set_option maxRecDepth 100000 in
theorem w_ballot (G : gG) (d n : Nat) (h : gH) {x0 x1 : Int32} {fs : List Value} {S : List Nat} {P : Option Value → gH → Prop} {kk : Nat} (hM : g_M G mX10_ballot (d + 8) 8 48 [.ref 0, .int x0, .int x1] n false h (q_t n S h P (x_of [xIB] kk))) (hP : ∀ v h', P v h' → kk = 0 ∧ ∃ r, v = some (.int r)) (a0 : h 0 = some (.inr (10, fs))) {ou : Nat → Int64} (o1 : h 167 = some (.inl (3, 1, .inr (.inl ou)))) (hS : 167 ∉ S) : g_M G mL_ballot (d + 9) 8 48 [.ref 0, .int x0, .int x1, .ref 167] n false h (q_i n false (167 :: S) h (fun r h' => r = nI kk ∧ ((kk = 0 ∧ ∃ h1 v0, P (some (.int v0)) h1 ∧ g_fr S h h1 ∧ h' = g_up h1 167 (.inl (3, 1, .inr (.inl (vp_updL ou 0 v0.toInt64))))) ∨ (¬ kk = 0 ∧ h' = h)))) := by
  refine g_enter (by decide) (Nat.le_of_ble_eq_true rfl) ?_
  show g_W G _ _ _ n false h 0 0 0 [(0, .ref 0), (1, .int x0), (2, .int x1), (3, .ref 167)] []
  refine g_aload_n dL_ballot_0 rfl rfl ?_
  refine g_iconst (v := nI 0) dL_ballot_1 (by decide) ?_
  refine g_aload_n dL_ballot_2 rfl rfl ?_
  refine g_iload_n dL_ballot_3 rfl rfl ?_
  refine g_iload_n dL_ballot_4 rfl rfl ?_
  refine cVt (st := [.int (nI 0), .ref 167]) dL_ballot_5 (hM) sL_64 a0 rfl rfl (by simp only [g_rm]; omega) (by simp only [g_rm]; omega) (Nat.le_of_ble_eq_true rfl) ⟨Nat.le_of_ble_eq_true rfl, Nat.le_of_ble_eq_true rfl⟩ (fun v4 h1 fr2 p3 => ?_) (fun E X5 => ?_)
  · obtain ⟨hk, r0, ev⟩ := hP _ _ p3
    subst ev
    refine g_i2l dL_ballot_8 ?_
    refine g_lastN dL_ballot_9 (fr2.at hS o1) (by decide) (by decide) ?_
    refine g_goto (tgt := 17) dL_ballot_10 (by decide) ?_
    refine g_iconst (v := nI 0) dL_ballot_17 (by decide) ?_
    exact e_i dL_ballot_18 rfl rfl ((fr2.mono (fun i hi => List.mem_cons_of_mem _ hi)).up List.mem_cons_self) ⟨by rw [hk], Or.inl ⟨hk, _, _, p3, fr2, rfl⟩⟩ (Nat.le_of_ble_eq_true rfl) (Nat.le_of_ble_eq_true rfl)
  · obtain ⟨hk, rfl⟩ := x_1 X5
    refine g_catch (pre := []) (x := ⟨0, 10, 13, 26⟩) (suf := []) (ls' := [(0, .ref 0), (1, .int x0), (2, .int x1), (3, .ref 167)]) (i := 4) rfl (fun z hz => by cases hz) (by decide) (by decide) (by decide) lk_26 rfl cc_xIB (by decide) (Or.inr ⟨dL_ballot_13, rfl⟩) rfl ?_
    refine g_iconst (v := nI 1) dL_ballot_15 (by decide) ?_
    exact e_i dL_ballot_16 rfl rfl g_fr.rf ⟨by rw [hk], Or.inr ⟨by rw [hk]; decide, rfl⟩⟩ (Nat.le_of_ble_eq_true rfl) (Nat.le_of_ble_eq_true rfl)
set_option maxHeartbeats 4000000 in
set_option maxRecDepth 100000 in
theorem w_digest (G : gG) (d n : Nat) (h : gH) {x0 x1 : Int32} {fs : List Value} {S : List Nat} {P : Option Value → gH → Prop} {kk : Nat} (hM : g_M G mX10_digest (d + 8) 8 48 [.ref 0, .int x0, .int x1] n false h (q_t n S h P (x_of [xIB, xIA] kk))) (hP : ∀ v h', P v h' → kk = 0 ∧ ∃ r, v = some (.int r)) (a0 : h 0 = some (.inr (10, fs))) {ou : Nat → Int64} (o1 : h 167 = some (.inl (3, 1, .inr (.inl ou)))) (hS : 167 ∉ S) : g_M G mL_digest (d + 9) 8 48 [.ref 0, .int x0, .int x1, .ref 167] n false h (q_i n false (167 :: S) h (fun r h' => r = nI kk ∧ ((kk = 0 ∧ ∃ h1 v0, P (some (.int v0)) h1 ∧ g_fr S h h1 ∧ h' = g_up h1 167 (.inl (3, 1, .inr (.inl (vp_updL ou 0 v0.toInt64))))) ∨ (¬ kk = 0 ∧ h' = h)))) := by
  refine g_enter (by decide) (Nat.le_of_ble_eq_true rfl) ?_
  show g_W G _ _ _ n false h 0 0 0 [(0, .ref 0), (1, .int x0), (2, .int x1), (3, .ref 167)] []
  refine g_aload_n dL_digest_0 rfl rfl ?_
  refine g_iconst (v := nI 0) dL_digest_1 (by decide) ?_
  refine g_aload_n dL_digest_2 rfl rfl ?_
  refine g_iload_n dL_digest_3 rfl rfl ?_
  refine g_iload_n dL_digest_4 rfl rfl ?_
  refine cVt (st := [.int (nI 0), .ref 167]) dL_digest_5 (hM) sL_67 a0 rfl rfl (by simp only [g_rm]; omega) (by simp only [g_rm]; omega) (Nat.le_of_ble_eq_true rfl) ⟨Nat.le_of_ble_eq_true rfl, Nat.le_of_ble_eq_true rfl⟩ (fun v4 h1 fr2 p3 => ?_) (fun E X5 => ?_)
  · obtain ⟨hk, r0, ev⟩ := hP _ _ p3
    subst ev
    refine g_i2l dL_digest_8 ?_
    refine g_lastN dL_digest_9 (fr2.at hS o1) (by decide) (by decide) ?_
    refine g_goto (tgt := 21) dL_digest_10 (by decide) ?_
    refine g_iconst (v := nI 0) dL_digest_21 (by decide) ?_
    exact e_i dL_digest_22 rfl rfl ((fr2.mono (fun i hi => List.mem_cons_of_mem _ hi)).up List.mem_cons_self) ⟨by rw [hk], Or.inl ⟨hk, _, _, p3, fr2, rfl⟩⟩ (Nat.le_of_ble_eq_true rfl) (Nat.le_of_ble_eq_true rfl)
  · rcases x_2 X5 with ⟨hk, rfl⟩ | ⟨hk, rfl⟩
    · refine g_catch (pre := []) (x := ⟨0, 10, 13, 26⟩) (suf := [⟨0, 10, 17, 13⟩]) (ls' := [(0, .ref 0), (1, .int x0), (2, .int x1), (3, .ref 167)]) (i := 4) rfl (fun z hz => by cases hz) (by decide) (by decide) (by decide) lk_26 rfl cc_xIB (by decide) (Or.inr ⟨dL_digest_13, rfl⟩) rfl ?_
      refine g_iconst (v := nI 1) dL_digest_15 (by decide) ?_
      exact e_i dL_digest_16 rfl rfl g_fr.rf ⟨by rw [hk], Or.inr ⟨by rw [hk]; decide, rfl⟩⟩ (Nat.le_of_ble_eq_true rfl) (Nat.le_of_ble_eq_true rfl)
    · refine g_catch (pre := [⟨0, 10, 13, 26⟩]) (x := ⟨0, 10, 17, 13⟩) (suf := []) (ls' := [(0, .ref 0), (1, .int x0), (2, .int x1), (3, .ref 167)]) (i := 4) rfl (List.forall_mem_cons.mpr ⟨Or.inr ⟨by decide, xIB, by decide, by decide, lk_26, rfl⟩, fun z hz => by cases hz⟩) (by decide) (by decide) (by decide) lk_13 rfl cc_xIA (by decide) (Or.inr ⟨dL_digest_17, rfl⟩) rfl ?_
      refine g_iconst (v := nI 2) dL_digest_19 (by decide) ?_
      exact e_i dL_digest_20 rfl rfl g_fr.rf ⟨by rw [hk], Or.inr ⟨by rw [hk]; decide, rfl⟩⟩ (Nat.le_of_ble_eq_true rfl) (Nat.le_of_ble_eq_true rfl)
set_option maxHeartbeats 4000000 in
set_option maxRecDepth 100000 in
theorem w_risk (G : gG) (d n : Nat) (h : gH) {x0 x1 x2 x3 x4 : Int32} {fs : List Value} {S : List Nat} {P : Option Value → gH → Prop} {kk : Nat} (hM : g_M G mX10_risk (d + 8) 8 48 [.ref 0, .int x0, .int x1, .int x2, .int x3, .int x4] n false h (q_t n S h P (x_of [xIS, xIB, xIA] kk))) (hP : ∀ v h', P v h' → kk = 0 ∧ ∃ r, v = some (.int r)) (a0 : h 0 = some (.inr (10, fs))) {ou : Nat → Int64} (o1 : h 167 = some (.inl (3, 1, .inr (.inl ou)))) (hS : 167 ∉ S) : g_M G mL_risk (d + 9) 8 48 [.ref 0, .int x0, .int x1, .int x2, .int x3, .int x4, .ref 167] n false h (q_i n false (167 :: S) h (fun r h' => r = nI kk ∧ ((kk = 0 ∧ ∃ h1 v0, P (some (.int v0)) h1 ∧ g_fr S h h1 ∧ h' = g_up h1 167 (.inl (3, 1, .inr (.inl (vp_updL ou 0 v0.toInt64))))) ∨ (¬ kk = 0 ∧ h' = h)))) := by
  refine g_enter (by decide) (Nat.le_of_ble_eq_true rfl) ?_
  show g_W G _ _ _ n false h 0 0 0 [(0, .ref 0), (1, .int x0), (2, .int x1), (3, .int x2), (4, .int x3), (5, .int x4), (6, .ref 167)] []
  refine g_aload dL_risk_0 rfl ?_
  refine g_iconst (v := nI 0) dL_risk_2 (by decide) ?_
  refine g_aload_n dL_risk_3 rfl rfl ?_
  refine g_iload_n dL_risk_4 rfl rfl ?_
  refine g_iload_n dL_risk_5 rfl rfl ?_
  refine g_iload_n dL_risk_6 rfl rfl ?_
  refine g_iload dL_risk_7 rfl ?_
  refine g_iload dL_risk_9 rfl ?_
  refine cVt (st := [.int (nI 0), .ref 167]) dL_risk_11 (hM) sL_70 a0 rfl rfl (by simp only [g_rm]; omega) (by simp only [g_rm]; omega) (Nat.le_of_ble_eq_true rfl) ⟨Nat.le_of_ble_eq_true rfl, Nat.le_of_ble_eq_true rfl⟩ (fun v4 h1 fr2 p3 => ?_) (fun E X5 => ?_)
  · obtain ⟨hk, r0, ev⟩ := hP _ _ p3
    subst ev
    refine g_i2l dL_risk_14 ?_
    refine g_lastN dL_risk_15 (fr2.at hS o1) (by decide) (by decide) ?_
    refine g_goto (tgt := 31) dL_risk_16 (by decide) ?_
    refine g_iconst (v := nI 0) dL_risk_31 (by decide) ?_
    exact e_i dL_risk_32 rfl rfl ((fr2.mono (fun i hi => List.mem_cons_of_mem _ hi)).up List.mem_cons_self) ⟨by rw [hk], Or.inl ⟨hk, _, _, p3, fr2, rfl⟩⟩ (Nat.le_of_ble_eq_true rfl) (Nat.le_of_ble_eq_true rfl)
  · rcases x_3 X5 with ⟨hk, rfl⟩ | ⟨hk, rfl⟩ | ⟨hk, rfl⟩
    · refine g_catch (pre := []) (x := ⟨0, 16, 19, 15⟩) (suf := [⟨0, 16, 23, 26⟩, ⟨0, 16, 27, 13⟩]) (ls' := [(0, .ref 0), (1, .int x0), (2, .int x1), (3, .int x2), (4, .int x3), (5, .int x4), (6, .ref 167)]) (i := 7) rfl (fun z hz => by cases hz) (by decide) (by decide) (by decide) lk_15 rfl cc_xIS (by decide) (Or.inr ⟨dL_risk_19, rfl⟩) rfl ?_
      refine g_iconst (v := nI 1) dL_risk_21 (by decide) ?_
      exact e_i dL_risk_22 rfl rfl g_fr.rf ⟨by rw [hk], Or.inr ⟨by rw [hk]; decide, rfl⟩⟩ (Nat.le_of_ble_eq_true rfl) (Nat.le_of_ble_eq_true rfl)
    · refine g_catch (pre := [⟨0, 16, 19, 15⟩]) (x := ⟨0, 16, 23, 26⟩) (suf := [⟨0, 16, 27, 13⟩]) (ls' := [(0, .ref 0), (1, .int x0), (2, .int x1), (3, .int x2), (4, .int x3), (5, .int x4), (6, .ref 167)]) (i := 7) rfl (List.forall_mem_cons.mpr ⟨Or.inr ⟨by decide, xIS, by decide, by decide, lk_15, rfl⟩, fun z hz => by cases hz⟩) (by decide) (by decide) (by decide) lk_26 rfl cc_xIB (by decide) (Or.inr ⟨dL_risk_23, rfl⟩) rfl ?_
      refine g_iconst (v := nI 2) dL_risk_25 (by decide) ?_
      exact e_i dL_risk_26 rfl rfl g_fr.rf ⟨by rw [hk], Or.inr ⟨by rw [hk]; decide, rfl⟩⟩ (Nat.le_of_ble_eq_true rfl) (Nat.le_of_ble_eq_true rfl)
    · refine g_catch (pre := [⟨0, 16, 19, 15⟩, ⟨0, 16, 23, 26⟩]) (x := ⟨0, 16, 27, 13⟩) (suf := []) (ls' := [(0, .ref 0), (1, .int x0), (2, .int x1), (3, .int x2), (4, .int x3), (5, .int x4), (6, .ref 167)]) (i := 7) rfl (List.forall_mem_cons.mpr ⟨Or.inr ⟨by decide, xIS, by decide, by decide, lk_15, rfl⟩, List.forall_mem_cons.mpr ⟨Or.inr ⟨by decide, xIB, by decide, by decide, lk_26, rfl⟩, fun z hz => by cases hz⟩⟩) (by decide) (by decide) (by decide) lk_13 rfl cc_xIA (by decide) (Or.inr ⟨dL_risk_27, rfl⟩) rfl ?_
      refine g_iconst (v := nI 3) dL_risk_29 (by decide) ?_
      exact e_i dL_risk_30 rfl rfl g_fr.rf ⟨by rw [hk], Or.inr ⟨by rw [hk]; decide, rfl⟩⟩ (Nat.le_of_ble_eq_true rfl) (Nat.le_of_ble_eq_true rfl)
set_option maxHeartbeats 4000000 in
set_option maxRecDepth 100000 in
theorem w_show (G : gG) (d n : Nat) (h : gH) {x0 x1 : Int32} {fs : List Value} {S : List Nat} {P : Option Value → gH → Prop} {kk : Nat} (hM : g_M G mX10_show (d + 8) 8 48 [.ref 0, .int x0, .int x1] n false h (q_t n S h P (x_of [xIB, xIS] kk))) (hP : ∀ v h', P v h' → kk = 0 ∧ ∃ b, v = some (.int (nI b)) ∧ b ≤ 1) (a0 : h 0 = some (.inr (10, fs))) {ou : Nat → Int64} (o1 : h 167 = some (.inl (3, 1, .inr (.inl ou)))) (hS : 167 ∉ S) : g_M G mL_show (d + 9) 8 48 [.ref 0, .int x0, .int x1, .ref 167] n false h (q_i n false (167 :: S) h (fun r h' => r = nI kk ∧ ((kk = 0 ∧ ∃ h1 b, P (some (.int (nI b))) h1 ∧ b ≤ 1 ∧ g_fr S h h1 ∧ h' = g_up h1 167 (.inl (3, 1, .inr (.inl (vp_updL ou 0 (lN b)))))) ∨ (¬ kk = 0 ∧ h' = h)))) := by
  refine g_enter (by decide) (Nat.le_of_ble_eq_true rfl) ?_
  show g_W G _ _ _ n false h 0 0 0 [(0, .ref 0), (1, .int x0), (2, .int x1), (3, .ref 167)] []
  refine g_aload_n dL_show_0 rfl rfl ?_
  refine g_iconst (v := nI 0) dL_show_1 (by decide) ?_
  refine g_aload_n dL_show_2 rfl rfl ?_
  refine g_iload_n dL_show_3 rfl rfl ?_
  refine g_iload_n dL_show_4 rfl rfl ?_
  refine cVt (st := [.int (nI 0), .ref 167]) dL_show_5 (hM) sL_74 a0 rfl rfl (by simp only [g_rm]; omega) (by simp only [g_rm]; omega) (Nat.le_of_ble_eq_true rfl) ⟨Nat.le_of_ble_eq_true rfl, Nat.le_of_ble_eq_true rfl⟩ (fun v4 h1 fr2 p3 => ?_) (fun E X5 => ?_)
  · obtain ⟨hk, b, ev, hb⟩ := hP _ _ p3
    subst ev
    refine g_if_eqN (tgt := 15) dL_show_8 (by decide) (by omega) (fun c8 => ?_) (fun c8 => ?_)
    · refine g_lconst (v := lN 0) dL_show_15 (by decide) ?_
      refine g_lastN dL_show_16 (fr2.at hS o1) (by decide) (by decide) ?_
      refine g_goto (tgt := 28) dL_show_17 (by decide) ?_
      refine g_iconst (v := nI 0) dL_show_28 (by decide) ?_
      have eb : b = 0 := by omega
      subst eb
      exact e_i dL_show_29 rfl rfl ((fr2.mono (fun i hi => List.mem_cons_of_mem _ hi)).up List.mem_cons_self) ⟨by rw [hk], Or.inl ⟨hk, _, _, p3, hb, fr2, rfl⟩⟩ (Nat.le_of_ble_eq_true rfl) (Nat.le_of_ble_eq_true rfl)
    · refine g_lconst (v := lN 1) dL_show_11 (by decide) ?_
      refine g_goto (tgt := 16) dL_show_12 (by decide) ?_
      refine g_lastN dL_show_16 (fr2.at hS o1) (by decide) (by decide) ?_
      refine g_goto (tgt := 28) dL_show_17 (by decide) ?_
      refine g_iconst (v := nI 0) dL_show_28 (by decide) ?_
      have eb : b = 1 := by omega
      subst eb
      exact e_i dL_show_29 rfl rfl ((fr2.mono (fun i hi => List.mem_cons_of_mem _ hi)).up List.mem_cons_self) ⟨by rw [hk], Or.inl ⟨hk, _, _, p3, hb, fr2, rfl⟩⟩ (Nat.le_of_ble_eq_true rfl) (Nat.le_of_ble_eq_true rfl)
  · rcases x_2 X5 with ⟨hk, rfl⟩ | ⟨hk, rfl⟩
    · refine g_catch (pre := []) (x := ⟨0, 17, 20, 26⟩) (suf := [⟨0, 17, 24, 15⟩]) (ls' := [(0, .ref 0), (1, .int x0), (2, .int x1), (3, .ref 167)]) (i := 4) rfl (fun z hz => by cases hz) (by decide) (by decide) (by decide) lk_26 rfl cc_xIB (by decide) (Or.inr ⟨dL_show_20, rfl⟩) rfl ?_
      refine g_iconst (v := nI 1) dL_show_22 (by decide) ?_
      exact e_i dL_show_23 rfl rfl g_fr.rf ⟨by rw [hk], Or.inr ⟨by rw [hk]; decide, rfl⟩⟩ (Nat.le_of_ble_eq_true rfl) (Nat.le_of_ble_eq_true rfl)
    · refine g_catch (pre := [⟨0, 17, 20, 26⟩]) (x := ⟨0, 17, 24, 15⟩) (suf := []) (ls' := [(0, .ref 0), (1, .int x0), (2, .int x1), (3, .ref 167)]) (i := 4) rfl (List.forall_mem_cons.mpr ⟨Or.inr ⟨by decide, xIB, by decide, by decide, lk_26, rfl⟩, fun z hz => by cases hz⟩) (by decide) (by decide) (by decide) lk_15 rfl cc_xIS (by decide) (Or.inr ⟨dL_show_24, rfl⟩) rfl ?_
      refine g_iconst (v := nI 2) dL_show_26 (by decide) ?_
      exact e_i dL_show_27 rfl rfl g_fr.rf ⟨by rw [hk], Or.inr ⟨by rw [hk]; decide, rfl⟩⟩ (Nat.le_of_ble_eq_true rfl) (Nat.le_of_ble_eq_true rfl)
set_option maxHeartbeats 4000000 in
set_option maxRecDepth 100000 in
theorem w_size (G : gG) (d n : Nat) (h : gH) {x0 : Int32} {fs : List Value} {S : List Nat} {P : Option Value → gH → Prop} {kk : Nat} (hM : g_M G mX10_size (d + 8) 8 48 [.ref 0, .int x0] n false h (q_t n S h P (x_of [xIB] kk))) (hP : ∀ v h', P v h' → kk = 0 ∧ ∃ r, v = some (.int r)) (a0 : h 0 = some (.inr (10, fs))) {ou : Nat → Int64} (o1 : h 167 = some (.inl (3, 1, .inr (.inl ou)))) (hS : 167 ∉ S) : g_M G mL_size (d + 9) 8 48 [.ref 0, .int x0, .ref 167] n false h (q_i n false (167 :: S) h (fun r h' => r = nI kk ∧ ((kk = 0 ∧ ∃ h1 v0, P (some (.int v0)) h1 ∧ g_fr S h h1 ∧ h' = g_up h1 167 (.inl (3, 1, .inr (.inl (vp_updL ou 0 v0.toInt64))))) ∨ (¬ kk = 0 ∧ h' = h)))) := by
  refine g_enter (by decide) (Nat.le_of_ble_eq_true rfl) ?_
  show g_W G _ _ _ n false h 0 0 0 [(0, .ref 0), (1, .int x0), (2, .ref 167)] []
  refine g_aload_n dL_size_0 rfl rfl ?_
  refine g_iconst (v := nI 0) dL_size_1 (by decide) ?_
  refine g_aload_n dL_size_2 rfl rfl ?_
  refine g_iload_n dL_size_3 rfl rfl ?_
  refine cVt (st := [.int (nI 0), .ref 167]) dL_size_4 (hM) sL_78 a0 rfl rfl (by simp only [g_rm]; omega) (by simp only [g_rm]; omega) (Nat.le_of_ble_eq_true rfl) ⟨Nat.le_of_ble_eq_true rfl, Nat.le_of_ble_eq_true rfl⟩ (fun v4 h1 fr2 p3 => ?_) (fun E X5 => ?_)
  · obtain ⟨hk, r0, ev⟩ := hP _ _ p3
    subst ev
    refine g_i2l dL_size_7 ?_
    refine g_lastN dL_size_8 (fr2.at hS o1) (by decide) (by decide) ?_
    refine g_goto (tgt := 15) dL_size_9 (by decide) ?_
    refine g_iconst (v := nI 0) dL_size_15 (by decide) ?_
    exact e_i dL_size_16 rfl rfl ((fr2.mono (fun i hi => List.mem_cons_of_mem _ hi)).up List.mem_cons_self) ⟨by rw [hk], Or.inl ⟨hk, _, _, p3, fr2, rfl⟩⟩ (Nat.le_of_ble_eq_true rfl) (Nat.le_of_ble_eq_true rfl)
  · obtain ⟨hk, rfl⟩ := x_1 X5
    refine g_catch (pre := []) (x := ⟨0, 9, 12, 26⟩) (suf := []) (ls' := [(0, .ref 0), (1, .int x0), (2, .ref 167)]) (i := 3) rfl (fun z hz => by cases hz) (by decide) (by decide) (by decide) lk_26 rfl cc_xIB (by decide) (Or.inl ⟨3, rfl, dL_size_12, rfl⟩) rfl ?_
    refine g_iconst (v := nI 1) dL_size_13 (by decide) ?_
    exact e_i dL_size_14 rfl rfl g_fr.rf ⟨by rw [hk], Or.inr ⟨by rw [hk]; decide, rfl⟩⟩ (Nat.le_of_ble_eq_true rfl) (Nat.le_of_ble_eq_true rfl)
set_option maxHeartbeats 4000000 in
set_option maxRecDepth 100000 in
theorem w_limb (G : gG) (d n : Nat) (h : gH) {x0 x1 : Int32} {fs : List Value} {S : List Nat} {P : Option Value → gH → Prop} {kk : Nat} (hM : g_M G mX10_limb (d + 8) 8 48 [.ref 0, .int x0, .int x1] n false h (q_t n S h P (x_of [xIB] kk))) (hP : ∀ v h', P v h' → kk = 0 ∧ ∃ r, v = some (.int r)) (a0 : h 0 = some (.inr (10, fs))) {ou : Nat → Int64} (o1 : h 167 = some (.inl (3, 1, .inr (.inl ou)))) (hS : 167 ∉ S) : g_M G mL_limb (d + 9) 8 48 [.ref 0, .int x0, .int x1, .ref 167] n false h (q_i n false (167 :: S) h (fun r h' => r = nI kk ∧ ((kk = 0 ∧ ∃ h1 v0, P (some (.int v0)) h1 ∧ g_fr S h h1 ∧ h' = g_up h1 167 (.inl (3, 1, .inr (.inl (vp_updL ou 0 v0.toInt64))))) ∨ (¬ kk = 0 ∧ h' = h)))) := by
  refine g_enter (by decide) (Nat.le_of_ble_eq_true rfl) ?_
  show g_W G _ _ _ n false h 0 0 0 [(0, .ref 0), (1, .int x0), (2, .int x1), (3, .ref 167)] []
  refine g_aload_n dL_limb_0 rfl rfl ?_
  refine g_iconst (v := nI 0) dL_limb_1 (by decide) ?_
  refine g_aload_n dL_limb_2 rfl rfl ?_
  refine g_iload_n dL_limb_3 rfl rfl ?_
  refine g_iload_n dL_limb_4 rfl rfl ?_
  refine cVt (st := [.int (nI 0), .ref 167]) dL_limb_5 (hM) sL_81 a0 rfl rfl (by simp only [g_rm]; omega) (by simp only [g_rm]; omega) (Nat.le_of_ble_eq_true rfl) ⟨Nat.le_of_ble_eq_true rfl, Nat.le_of_ble_eq_true rfl⟩ (fun v4 h1 fr2 p3 => ?_) (fun E X5 => ?_)
  · obtain ⟨hk, r0, ev⟩ := hP _ _ p3
    subst ev
    refine g_i2l dL_limb_8 ?_
    refine g_lastN dL_limb_9 (fr2.at hS o1) (by decide) (by decide) ?_
    refine g_goto (tgt := 17) dL_limb_10 (by decide) ?_
    refine g_iconst (v := nI 0) dL_limb_17 (by decide) ?_
    exact e_i dL_limb_18 rfl rfl ((fr2.mono (fun i hi => List.mem_cons_of_mem _ hi)).up List.mem_cons_self) ⟨by rw [hk], Or.inl ⟨hk, _, _, p3, fr2, rfl⟩⟩ (Nat.le_of_ble_eq_true rfl) (Nat.le_of_ble_eq_true rfl)
  · obtain ⟨hk, rfl⟩ := x_1 X5
    refine g_catch (pre := []) (x := ⟨0, 10, 13, 26⟩) (suf := []) (ls' := [(0, .ref 0), (1, .int x0), (2, .int x1), (3, .ref 167)]) (i := 4) rfl (fun z hz => by cases hz) (by decide) (by decide) (by decide) lk_26 rfl cc_xIB (by decide) (Or.inr ⟨dL_limb_13, rfl⟩) rfl ?_
    refine g_iconst (v := nI 1) dL_limb_15 (by decide) ?_
    exact e_i dL_limb_16 rfl rfl g_fr.rf ⟨by rw [hk], Or.inr ⟨by rw [hk]; decide, rfl⟩⟩ (Nat.le_of_ble_eq_true rfl) (Nat.le_of_ble_eq_true rfl)
