section GMM
variable {G : gG} {M : gM} {R : Room} {K : gK} {n : Nat} {ex : Bool} {h : gH} {k sl pc : Nat} {ls : List (Nat × Value)} {st : List Value}
theorem g_mmax {idx x y : Nat} (hd : decode M.2.1 pc = .ok (.invokestatic idx, 3)) (hsite : g_site mJ9_max_7cf53 2 [Cond.methodLink M.1.cls idx yJ9_max_7cf53, Cond.static yJ9_max_7cf53, Cond.initialized RJ9]) (hx : x < 2 ^ 31) (hy : y < 2 ^ 31) (hf : 1 ≤ R.frames) (hlo : 21 ≤ R.locals) (hrest : (st.map fun v => v.category).sum ≤ 8) (hk : k ≤ R.cells) (hs : sl ≤ R.slots) (kk : g_W G M R K n ex h k sl (pc + 3) ls (.int (nI (max x y)) :: st)) : g_W G M R K n ex h k sl pc ls (.int (nI y) :: .int (nI x) :: st) := by
  intro p l e s m args below meth c H locs Ls C hR hS hl
  have hb : ∀ w ∈ g_cw mJ9_max_7cf53 :: [Cond.methodLink M.1.cls idx yJ9_max_7cf53, Cond.static yJ9_max_7cf53, Cond.initialized RJ9], w.before args s = true := fun w hw => g_word C.env (hsite.2.1 w hw).1 (g_keep_of (hsite.2.1 w hw).2) args
  refine va_mmax C.1 C.2.2.1 (by rw [C.2.2.2.1]; exact hl.1.symm) C.own (hb _ (List.mem_cons_of_mem _ List.mem_cons_self)) (hb _ (List.mem_cons_of_mem _ (List.mem_cons_of_mem _ List.mem_cons_self))) (hb _ (List.mem_cons_of_mem _ (List.mem_cons_of_mem _ (List.mem_cons_of_mem _ List.mem_cons_self)))) (hb _ List.mem_cons_self) hf (by rw [g_cats]; omega) hk hs hd ?_
  have e1 : (if nI x < nI y then nI y else nI x) = nI (max x y) := by
    by_cases q : x < y
    · rw [if_pos ((nI_ltI hx hy).mpr q), Nat.max_eq_right (by omega)]
    · rw [if_neg (fun z => q ((nI_ltI hx hy).mp z)), Nat.max_eq_left (by omega)]
  rw [e1]
  exact kk p l e s m args below meth c H locs Ls C hR hS hl
theorem g_mmin {idx x y : Nat} (hd : decode M.2.1 pc = .ok (.invokestatic idx, 3)) (hsite : g_site mJ9_min_7cf53 2 [Cond.methodLink M.1.cls idx yJ9_min_7cf53, Cond.static yJ9_min_7cf53, Cond.initialized RJ9]) (hx : x < 2 ^ 31) (hy : y < 2 ^ 31) (hf : 1 ≤ R.frames) (hlo : 21 ≤ R.locals) (hrest : (st.map fun v => v.category).sum ≤ 8) (hk : k ≤ R.cells) (hs : sl ≤ R.slots) (kk : g_W G M R K n ex h k sl (pc + 3) ls (.int (nI (min x y)) :: st)) : g_W G M R K n ex h k sl pc ls (.int (nI y) :: .int (nI x) :: st) := by
  intro p l e s m args below meth c H locs Ls C hR hS hl
  have hb : ∀ w ∈ g_cw mJ9_min_7cf53 :: [Cond.methodLink M.1.cls idx yJ9_min_7cf53, Cond.static yJ9_min_7cf53, Cond.initialized RJ9], w.before args s = true := fun w hw => g_word C.env (hsite.2.1 w hw).1 (g_keep_of (hsite.2.1 w hw).2) args
  refine va_mmin C.1 C.2.2.1 (by rw [C.2.2.2.1]; exact hl.1.symm) C.own (hb _ (List.mem_cons_of_mem _ List.mem_cons_self)) (hb _ (List.mem_cons_of_mem _ (List.mem_cons_of_mem _ List.mem_cons_self))) (hb _ (List.mem_cons_of_mem _ (List.mem_cons_of_mem _ (List.mem_cons_of_mem _ List.mem_cons_self)))) (hb _ List.mem_cons_self) hf (by rw [g_cats]; omega) hk hs hd ?_
  have e1 : (if nI y < nI x then nI y else nI x) = nI (min x y) := by
    by_cases q : y < x
    · rw [if_pos ((nI_ltI hy hx).mpr q), Nat.min_eq_right (by omega)]
    · rw [if_neg (fun z => q ((nI_ltI hy hx).mp z)), Nat.min_eq_left (by omega)]
  rw [e1]
  exact kk p l e s m args below meth c H locs Ls C hR hS hl
theorem g_pick (ks : List Nat) {ls' : List (Nat × Value)} (hp : lv_pick ls ks = ls') (kk : g_W G M R K n ex h k sl pc ls' st) : g_W G M R K n ex h k sl pc ls st := by
  refine g_loc (fun q hq => ?_) kk
  rw [← hp] at hq
  obtain ⟨i, -, hi⟩ := List.mem_filterMap.mp hq
  exact List.mem_of_getElem? hi
theorem nI_dec (a : Nat) : nI a + Int32.ofInt (-1) = nI a - nI 1 := by
  rw [Int32.sub_eq_add_neg]
  rfl
theorem nI_pr (a : Nat) : nI (a + 1) - nI 1 = nI a := nI_pred a
end GMM
set_option maxHeartbeats 4000000 in
set_option maxRecDepth 100000 in
theorem c_limbOrZero (G : gG) (d n : Nat) (ex : Bool) (h : gH) {w a N u i : Nat} {f : Nat → Int32} (hw : h w = some (.inr (9, [.ref a, .int (nI u)]))) (ha : h a = some (.inl (0, N, .inl f))) (hu : u ≤ N) (hN : N < 2 ^ 31) (hi : i < 2 ^ 31) : g_M G mX9_limbOrZero d 0 0 [.ref w, .int (nI i)] n ex h (q_l n ex [] h (fun r _ => r = lN (if i < u then un (f i) else 0))) := by
  refine g_enter (by decide) (Nat.le_of_ble_eq_true rfl) ?_
  show g_W G _ _ _ n ex h 0 0 0 [(0, .ref w), (1, .int (nI i))] []
  have ne_w_a : w ≠ a := g_ap hw ha (by intro q; cases q)
  refine g_iload_n dX9_limbOrZero_0 rfl rfl ?_
  refine g_aload_n dX9_limbOrZero_1 rfl rfl ?_
  refine g_getf dX9_limbOrZero_2 fX9_15 hw rfl ?_
  refine g_icmp_geN (tgt := 22) dX9_limbOrZero_5 (by decide) (by omega) (by omega) (fun c5 => ?_) (fun c5 => ?_)
  · refine g_lconst (v := lN 0) dX9_limbOrZero_22 (by decide) ?_
    exact e_l dX9_limbOrZero_23 rfl g_fr.rf (by first | rw [if_pos c5] | rw [if_neg (by omega)]) (by decide) (by decide)
  · refine g_aload_n dX9_limbOrZero_8 rfl rfl ?_
    refine g_getf dX9_limbOrZero_9 fX9_9 hw rfl ?_
    refine g_iload_n dX9_limbOrZero_12 rfl rfl ?_
    refine g_ialdN dX9_limbOrZero_13 ha (by omega) (by omega) ?_
    refine g_i2l dX9_limbOrZero_14 ?_
    refine g_ldc2 dX9_limbOrZero_15 kX9_40 rfl ?_
    refine g_topl (show (4294967295 : Int64) = lN 4294967295 by decide) ?_
    refine g_land dX9_limbOrZero_18 ?_
    refine g_topl (show ((f i).toInt64) &&& (lN 4294967295) = lN (un (f i)) from un_mask _) ?_
    refine g_goto (tgt := 23) dX9_limbOrZero_19 (by decide) ?_
    exact e_l dX9_limbOrZero_23 rfl g_fr.rf (by first | rw [if_pos c5] | rw [if_neg (by omega)]) (by decide) (by decide)
/-- what append leaves -/
def ap_P (N L u : Nat) (f : Nat → Int32) (u' : Nat) (f' : Nat → Int32) : Prop := u ≤ u' ∧ u' ≤ N ∧ (∀ j, j < u → f' j = f j) ∧ wv f' u' = wv f u + L * 2 ^ (32 * u) ∧ (L = 0 → u' = u) ∧ (L ≠ 0 → u < u' ∧ f' (u' - 1) ≠ 0)
theorem ap_0 {N u : Nat} {f : Nat → Int32} (hu : u ≤ N) : ap_P N 0 u f u f := ⟨Nat.le_refl _, hu, fun _ _ => rfl, by omega, fun _ => rfl, fun z => absurd rfl z⟩
theorem ap_s {N L u u' : Nat} {f f' : Nat → Int32} (hL : L ≠ 0) (hP : ap_P N (L / 4294967296) (u + 1) (upd f u (nI L)) u' f') : ap_P N L u f u' f' := by
  obtain ⟨h1, h2, h3, h4, h5, h6⟩ := hP
  refine ⟨by omega, h2, fun j hj => by rw [h3 j (by omega), pk_un (by omega)], ?_, fun z => absurd z hL, fun _ => ⟨by omega, ?_⟩⟩
  · rw [h4, wv_put, un_nIm, p32]
    have e1 : L / 4294967296 * (2 ^ (32 * u) * 4294967296) = (L / 4294967296 * 4294967296) * 2 ^ (32 * u) := by
      rw [Nat.mul_comm (2 ^ (32 * u)) 4294967296, ← Nat.mul_assoc]
    rw [e1, Nat.add_assoc, ← Nat.add_mul]
    congr 2
    omega
  · by_cases hz : L / 4294967296 = 0
    · rw [h5 hz]
      show f' u ≠ 0
      rw [h3 u (by omega), pk_us]
      intro q
      have q2 : un (nI L) = 0 := by rw [q]; rfl
      rw [un_nIm] at q2
      omega
    · exact (h6 hz).2
theorem ap_room {N L u : Nat} (h : L < 2 ^ (32 * (N - u))) (hL : L ≠ 0) : u < N ∧ L / 4294967296 < 2 ^ (32 * (N - (u + 1))) := by
  have h1 : u < N := by
    rcases Nat.lt_or_ge u N with q | q
    · exact q
    · rw [show N - u = 0 by omega] at h
      omega
  refine ⟨h1, ?_⟩
  rw [show N - u = (N - (u + 1)) + 1 by omega, p32] at h
  exact Nat.div_lt_of_lt_mul (by rw [Nat.mul_comm]; exact h)
set_option maxHeartbeats 4000000 in
set_option maxRecDepth 100000 in
theorem lp_append (G : gG) (R : Room) (n : Nat) (ex : Bool) (h0 : gH) {w a N V : Nat} {P : gH → Prop} (hN : N < 2 ^ 31) : ∀ (m L u : Nat) (f : Nat → Int32) (h : gH), L < m → u ≤ N → L < 2 ^ (32 * (N - u)) → L < 2 ^ 63 → h w = some (.inr (9, [.ref a, .int (nI u)])) → h a = some (.inl (0, N, .inl f)) → g_fr [w, a] h0 h →
    (∀ (u' : Nat) (f' : Nat → Int32) (h' : gH), h' w = some (.inr (9, [.ref a, .int (nI u')])) → h' a = some (.inl (0, N, .inl f')) → ap_P N L u f u' f' → P h') → g_W G mX9_append R (g_K G (q_v n ex [w, a] h0 P) 0 0) n ex h 0 0 2 [(3, .long (lN L)), (0, .ref w), (1, .long (lN V))] [] := by
  intro m
  induction m with
  | zero => intro L u f h hm; exact absurd hm (by omega)
  | succ m ih =>
    intro L u f h hm hu hr hL hw ha hf hP
    have ne_w_a : w ≠ a := g_ap hw ha (by intro q; cases q)
    refine g_lload_n dX9_append_2 rfl rfl ?_
    refine g_lconst (v := lN 0) dX9_append_3 (by decide) ?_
    refine g_lc_eqN (tgt := 49) dX9_append_4 dX9_append_5 (by decide) (by omega) (by omega) (fun c4 => ?_) (fun c4 => ?_)
    · exact e_v dX9_append_49 rfl hf (hP u f _ hw ha (by rw [c4]; exact ap_0 hu)) (by decide) (by decide)
    · refine g_aload_n dX9_append_8 rfl rfl ?_
      refine g_getf dX9_append_9 fX9_15 hw rfl ?_
      refine g_aload_n dX9_append_12 rfl rfl ?_
      refine g_getf dX9_append_13 fX9_9 hw rfl ?_
      refine g_aleni dX9_append_16 (by decide) ha ?_
      refine g_icmp_geN (tgt := 49) dX9_append_17 (by decide) (by omega) (by omega) (fun c17 => ?_) (fun c17 => ?_)
      · exact absurd c17 (by have := (ap_room hr c4).1; omega)
      · refine g_aload_n dX9_append_20 rfl rfl ?_
        refine g_getf dX9_append_21 fX9_9 hw rfl ?_
        refine g_aload_n dX9_append_24 rfl rfl ?_
        refine g_getf dX9_append_25 fX9_15 hw rfl ?_
        refine g_lload_n dX9_append_28 rfl rfl ?_
        refine g_l2iN dX9_append_29 ?_
        refine g_iastN dX9_append_30 ha (by omega) (by omega) ?_
        refine g_aload_n dX9_append_31 rfl rfl ?_
        refine g_dup dX9_append_32 rfl ?_
        refine g_getf dX9_append_33 fX9_15 (g_ne ne_w_a hw) rfl ?_
        refine g_iconst (v := nI 1) dX9_append_36 (by decide) ?_
        refine g_iaddN dX9_append_37 ?_
        refine g_put (fs' := [.ref a, .int (nI (u + 1))]) dX9_append_38 fX9_15 (g_ne ne_w_a hw) (Nat.le_of_ble_eq_true rfl) rfl rfl rfl ?_
        refine g_lload_n dX9_append_41 rfl rfl ?_
        refine g_bipush (v := nI 32) dX9_append_42 (by decide) ?_
        refine g_lushr dX9_append_44 ?_
        refine g_topl (show ((lN L).toUInt64 >>> ((nI 32).toInt64.toUInt64 &&& Int64.toUInt64 63)).toInt64 = lN (L / 4294967296) from lN_sh32 (by omega)) ?_
        refine g_lstore_n (ls' := [(3, .long (lN (L / 4294967296))), (0, .ref w), (1, .long (lN V))]) dX9_append_45 rfl (by decide) rfl ?_
        refine g_goto (tgt := 2) dX9_append_46 (by decide) ?_
        refine ih (L / 4294967296) (u + 1) (upd f u (nI L)) _ (by omega) (by omega) (ap_room hr c4).2 (by omega) g_eq (g_ne (Ne.symm ne_w_a) g_eq) ((hf.up (by simp)).up (by simp)) (fun u' f' h' q1 q2 q3 => hP u' f' h' q1 q2 (ap_s c4 q3))
set_option maxHeartbeats 4000000 in
set_option maxRecDepth 100000 in
theorem c_append (G : gG) (d n : Nat) (ex : Bool) (h : gH) {w a N u V : Nat} {f : Nat → Int32} (hw : h w = some (.inr (9, [.ref a, .int (nI u)]))) (ha : h a = some (.inl (0, N, .inl f))) (hu : u ≤ N) (hN : N < 2 ^ 31) (hV : V < 2 ^ 63) (hr : V < 2 ^ (32 * (N - u))) : g_M G mX9_append d 0 0 [.ref w, .long (lN V)] n ex h (q_v n ex [w, a] h (fun h' => ∃ u' f', h' w = some (.inr (9, [.ref a, .int (nI u')])) ∧ h' a = some (.inl (0, N, .inl f')) ∧ ap_P N V u f u' f')) := by
  refine g_enter (by decide) (Nat.le_of_ble_eq_true rfl) ?_
  show g_W G _ _ _ n ex h 0 0 0 [(0, .ref w), (1, .long (lN V))] []
  have ne_w_a : w ≠ a := g_ap hw ha (by intro q; cases q)
  refine g_lload_n dX9_append_0 rfl rfl ?_
  refine g_lstore_n (ls' := [(3, .long (lN V)), (0, .ref w), (1, .long (lN V))]) dX9_append_1 rfl (by decide) rfl ?_
  exact lp_append G _ n ex h hN (V + 1) V u f h (by omega) hu hr hV hw ha g_fr.rf (fun u' f' h' q1 q2 q3 => ⟨u', f', q1, q2, q3⟩)
/-- a Whole w with its limbs a of room N: its value is V / it may hold anything -/
def Wh (h : gH) (w a N V : Nat) : Prop := ∃ u f, h w = some (.inr (9, [.ref a, .int (nI u)])) ∧ h a = some (.inl (0, N, .inl f)) ∧ u ≤ N ∧ wv f u = V ∧ (u = 0 ∨ f (u - 1) ≠ 0)
def Wr (h : gH) (w a N : Nat) : Prop := ∃ x f, h w = some (.inr (9, [.ref a, .int x])) ∧ h a = some (.inl (0, N, .inl f))
theorem Wh.r {h : gH} {w a N V : Nat} (q : Wh h w a N V) : Wr h w a N := by obtain ⟨u, f, h1, h2, -⟩ := q; exact ⟨_, f, h1, h2⟩
theorem Wh.fr {h h' : gH} {S : List Nat} {w a N V : Nat} (q : Wh h w a N V) (hf : g_fr S h h') (hw : w ∉ S) (ha : a ∉ S) : Wh h' w a N V := by
  obtain ⟨u, f, h1, h2, h3⟩ := q
  exact ⟨u, f, hf.at hw h1, hf.at ha h2, h3⟩
theorem Wr.fr {h h' : gH} {S : List Nat} {w a N : Nat} (q : Wr h w a N) (hf : g_fr S h h') (hw : w ∉ S) (ha : a ∉ S) : Wr h' w a N := by
  obtain ⟨u, f, h1, h2⟩ := q
  exact ⟨u, f, hf.at hw h1, hf.at ha h2⟩
theorem un_0 {x : Int32} : un x = 0 ↔ x = 0 := ⟨fun q => un_inj q, fun q => by rw [q]; rfl⟩
theorem wv_top {f : Nat → Int32} {u : Nat} : f u ≠ 0 ↔ 2 ^ (32 * u) ≤ wv f (u + 1) := by
  show _ ↔ _ ≤ wv f u + un (f u) * 2 ^ (32 * u)
  have h1 := wv_lt f u
  constructor
  · intro q
    have : un (f u) ≠ 0 := fun z => q (un_0.mp z)
    have h2 : 1 * 2 ^ (32 * u) ≤ un (f u) * 2 ^ (32 * u) := Nat.mul_le_mul_right _ (by omega)
    omega
  · intro q z
    rw [z] at q
    have : un (0 : Int32) = 0 := rfl
    rw [this] at q
    omega
theorem wv_norm {f : Nat → Int32} {u : Nat} : (u = 0 ∨ f (u - 1) ≠ 0) ↔ (u = 0 ∨ 2 ^ (32 * (u - 1)) ≤ wv f u) := by
  cases u with
  | zero => exact ⟨fun _ => Or.inl rfl, fun _ => Or.inl rfl⟩
  | succ u =>
    show (_ ∨ f u ≠ 0) ↔ (_ ∨ 2 ^ (32 * u) ≤ wv f (u + 1))
    rw [wv_top]
theorem p32_mono {a b : Nat} (h : a ≤ b) : 2 ^ (32 * a) ≤ 2 ^ (32 * b) := Nat.pow_le_pow_right (by decide) (by omega)
theorem wv_used {f : Nat → Int32} {u N : Nat} (hn : u = 0 ∨ f (u - 1) ≠ 0) (hV : wv f u < 2 ^ (32 * N)) : u ≤ N := by
  rcases wv_norm.mp hn with q | q
  · omega
  · rcases Nat.lt_or_ge N u with z | z
    · have := p32_mono (show N ≤ u - 1 by omega)
      omega
    · exact z
theorem Wh.lt {h : gH} {w a N V : Nat} (q : Wh h w a N V) : V < 2 ^ (32 * N) := by
  obtain ⟨u, f, h1, h2, h3, h4, h5⟩ := q
  rw [← h4]
  exact Nat.lt_of_lt_of_le (wv_lt f u) (p32_mono h3)
theorem bc_ok {h : gH} {w a N V u' : Nat} {f f' : Nat → Int32} (q1 : h w = some (.inr (9, [.ref a, .int (nI u')]))) (q2 : h a = some (.inl (0, N, .inl f'))) (q3 : ap_P N V 0 f u' f') : Wh h w a N V := by
  obtain ⟨z1, z2, z3, z4, z5, z6⟩ := q3
  refine ⟨u', f', q1, q2, z2, ?_, ?_⟩
  · rw [z4]; show 0 + V * 1 = V; omega
  · by_cases hz : V = 0
    · exact Or.inl (z5 hz)
    · exact Or.inr (z6 hz).2
set_option maxHeartbeats 4000000 in
set_option maxRecDepth 100000 in
theorem c_become (G : gG) (d n : Nat) (ex : Bool) (h : gH) {w a N V : Nat} {x : Int32} {f : Nat → Int32} (hw : h w = some (.inr (9, [.ref a, .int x]))) (ha : h a = some (.inl (0, N, .inl f))) (hN : N < 2 ^ 31) (hV : V < 2 ^ 63) (hr : V < 2 ^ (32 * N)) : g_M G mX9_become (d + 1) 0 0 [.ref w, .long (lN V)] n ex h (q_v n ex [w, a] h (fun h' => Wh h' w a N V)) := by
  refine g_enter (by decide) (Nat.le_of_ble_eq_true rfl) ?_
  show g_W G _ _ _ n ex h 0 0 0 [(0, .ref w), (1, .long (lN V))] []
  have ne_w_a : w ≠ a := g_ap hw ha (by intro q; cases q)
  refine g_aload_n dX9_become_0 rfl rfl ?_
  refine g_iconst (v := nI 0) dX9_become_1 (by decide) ?_
  refine g_put (fs' := [.ref a, .int (nI 0)]) dX9_become_2 fX9_15 hw (Nat.le_of_ble_eq_true rfl) rfl rfl rfl ?_
  refine g_aload_n dX9_become_5 rfl rfl ?_
  refine g_lload_n dX9_become_6 rfl rfl ?_
  refine cVv (st := []) dX9_become_7 (c_append G d n ex (g_up h w (.inr (9, [.ref a, .int (nI 0)]))) g_eq (g_ne (Ne.symm ne_w_a) ha) (Nat.zero_le _) hN hV hr) sX9_19 g_eq rfl rfl (by simp only [g_rm]; omega) (by simp only [g_rm]; omega) (Nat.le_of_ble_eq_true rfl) ⟨Nat.le_of_ble_eq_true rfl, Nat.le_of_ble_eq_true rfl⟩ (fun h1 fr2 p3 => ?_)
  obtain ⟨u', f', q1, q2, q3⟩ := p3
  exact e_v dX9_become_10 rfl ((g_fr.rf.up (by simp)).tr fr2 (fun _ q => q)) (bc_ok q1 q2 q3) (by decide) (by decide)
theorem wv_same {f g : Nat → Int32} {u V : Nat} (h : ∀ j, j < u → g j = f j) (hV : wv f u = V) (hn : u = 0 ∨ f (u - 1) ≠ 0) : wv g u = V ∧ (u = 0 ∨ g (u - 1) ≠ 0) := by
  have e := wv_congr h
  refine ⟨e.trans hV, ?_⟩
  rcases hn with q | q
  · exact Or.inl q
  · rcases Nat.eq_zero_or_pos u with z | z
    · exact Or.inl z
    · exact Or.inr (by rw [h (u - 1) (by omega)]; exact q)
set_option maxHeartbeats 4000000 in
set_option maxRecDepth 100000 in
theorem lp_copy (G : gG) (R : Room) (n : Nat) (ex : Bool) (h0 : gH) {w a N w2 a2 N2 u V : Nat} {f : Nat → Int32} (hN : N < 2 ^ 31) (hN2 : N2 < 2 ^ 31) (hu : u ≤ N) (hu2 : u ≤ N2) (hV : wv f u = V) (hn : u = 0 ∨ f (u - 1) ≠ 0) (hww : w ≠ w2) (haa : a ≠ a2) : ∀ (m i : Nat) (g : Nat → Int32) (h : gH), u - i < m → i ≤ u → (∀ j, j < i → g j = f j) → h w = some (.inr (9, [.ref a, .int (nI u)])) → h a = some (.inl (0, N, .inl g)) → h w2 = some (.inr (9, [.ref a2, .int (nI u)])) → h a2 = some (.inl (0, N2, .inl f)) → g_fr [w, a] h0 h →
    g_W G mX9_becomeCopyOf R (g_K G (q_v n ex [w, a] h0 (fun h' => Wh h' w a N V)) 0 0) n ex h 0 0 18 [(2, .int (nI i)), (0, .ref w), (1, .ref w2)] [] := by
  intro m
  induction m with
  | zero => intro i g h hm; exact absurd hm (by omega)
  | succ m ih =>
    intro i g h hm hi hg hw ha hw2 ha2 hf
    have ne_w_a : w ≠ a := g_ap hw ha (by intro q; cases q)
    have ne_w_a2 : w ≠ a2 := g_ap hw ha2 (by intro q; cases q)
    have ne_a_w2 : a ≠ w2 := g_ap ha hw2 (by intro q; cases q)
    have ne_w2_a2 : w2 ≠ a2 := g_ap hw2 ha2 (by intro q; cases q)
    refine g_iload_n dX9_becomeCopyOf_18 rfl rfl ?_
    refine g_aload_n dX9_becomeCopyOf_19 rfl rfl ?_
    refine g_getf dX9_becomeCopyOf_20 fX9_15 hw rfl ?_
    refine g_icmp_geN (tgt := 44) dX9_becomeCopyOf_23 (by decide) (by omega) (by omega) (fun c23 => ?_) (fun c23 => ?_)
    · exact e_v dX9_becomeCopyOf_44 rfl hf ⟨u, g, hw, ha, hu, wv_same (fun j hj => hg j (by omega)) hV hn⟩ (by decide) (by decide)
    · refine g_aload_n dX9_becomeCopyOf_26 rfl rfl ?_
      refine g_getf dX9_becomeCopyOf_27 fX9_9 hw rfl ?_
      refine g_iload_n dX9_becomeCopyOf_30 rfl rfl ?_
      refine g_aload_n dX9_becomeCopyOf_31 rfl rfl ?_
      refine g_getf dX9_becomeCopyOf_32 fX9_9 hw2 rfl ?_
      refine g_iload_n dX9_becomeCopyOf_35 rfl rfl ?_
      refine g_ialdN dX9_becomeCopyOf_36 ha2 (by omega) (by omega) ?_
      refine g_iastN dX9_becomeCopyOf_37 ha (by omega) (by omega) ?_
      refine g_iincN (z := 1) (ls' := [(2, .int (nI (i + 1))), (0, .ref w), (1, .ref w2)]) dX9_becomeCopyOf_38 rfl (by decide) rfl ?_
      refine g_goto (tgt := 18) dX9_becomeCopyOf_41 (by decide) ?_
      exact ih (i + 1) (upd g i (f i)) _ (by omega) (by omega) (fun j hj => by by_cases q : j = i; (subst q; exact pk_us); (rw [pk_un q]; exact hg j (by omega))) (g_ne ne_w_a hw) g_eq (g_ne (Ne.symm ne_a_w2) hw2) (g_ne (Ne.symm haa) ha2) (hf.up (by simp))
set_option maxHeartbeats 4000000 in
set_option maxRecDepth 100000 in
theorem c_becomeCopyOf (G : gG) (d n : Nat) (ex : Bool) (h : gH) {w a N w2 a2 N2 V : Nat} (hr : Wr h w a N) (hq : Wh h w2 a2 N2 V) (hN : N < 2 ^ 31) (hN2 : N2 < 2 ^ 31) (hVN : V < 2 ^ (32 * N)) (hww : w ≠ w2) (haa : a ≠ a2) : g_M G mX9_becomeCopyOf (d + 1) 0 0 [.ref w, .ref w2] n ex h (q_v n ex [w, a] h (fun h' => Wh h' w a N V)) := by
  obtain ⟨x, g, hw, ha⟩ := hr
  obtain ⟨u, f, hw2, ha2, hu2, hV, hn⟩ := hq
  have hu : u ≤ N := wv_used hn (by rw [hV]; exact hVN)
  refine g_enter (by decide) (Nat.le_of_ble_eq_true rfl) ?_
  show g_W G _ _ _ n ex h 0 0 0 [(0, .ref w), (1, .ref w2)] []
  have ne_w_a : w ≠ a := g_ap hw ha (by intro q; cases q)
  have ne_w_a2 : w ≠ a2 := g_ap hw ha2 (by intro q; cases q)
  have ne_a_w2 : a ≠ w2 := g_ap ha hw2 (by intro q; cases q)
  have ne_w2_a2 : w2 ≠ a2 := g_ap hw2 ha2 (by intro q; cases q)
  refine g_aload_n dX9_becomeCopyOf_0 rfl rfl ?_
  refine g_aload_n dX9_becomeCopyOf_1 rfl rfl ?_
  refine g_getf dX9_becomeCopyOf_2 fX9_15 hw2 rfl ?_
  refine g_aload_n dX9_becomeCopyOf_5 rfl rfl ?_
  refine g_getf dX9_becomeCopyOf_6 fX9_9 hw rfl ?_
  refine g_aleni dX9_becomeCopyOf_9 (by decide) ha ?_
  refine g_mmin dX9_becomeCopyOf_10 sX9_23 (by omega) (by omega) (by simp only [g_rm]; omega) (by simp only [g_rm]; omega) (Nat.le_of_ble_eq_true rfl) (Nat.zero_le _) (Nat.zero_le _) ?_
  refine g_top (show nI (min u N) = nI u from by rw [Nat.min_eq_left hu]) ?_
  refine g_put (fs' := [.ref a, .int (nI u)]) dX9_becomeCopyOf_13 fX9_15 hw (Nat.le_of_ble_eq_true rfl) rfl rfl rfl ?_
  refine g_iconst (v := nI 0) dX9_becomeCopyOf_16 (by decide) ?_
  refine g_istore_n (ls' := [(2, .int (nI 0)), (0, .ref w), (1, .ref w2)]) dX9_becomeCopyOf_17 rfl (by decide) rfl ?_
  exact lp_copy G _ n ex h hN hN2 hu hu2 hV hn hww haa (u + 1) 0 g _ (by omega) (Nat.zero_le _) (fun j hj => absurd hj (by omega)) g_eq (g_ne (Ne.symm ne_w_a) ha) (g_ne (Ne.symm hww) hw2) (g_ne (Ne.symm ne_w_a2) ha2) (g_fr.rf.up (by simp))
theorem or_aux (a b : Nat) : (b % 281474976710656 * 65536 + a) % 4294967296 = (b * 65536 + a) % 4294967296 := by
  have h : b = 281474976710656 * (b / 281474976710656) + b % 281474976710656 := (Nat.div_add_mod b 281474976710656).symm
  generalize b / 281474976710656 = q at h
  generalize b % 281474976710656 = r at h
  subst h
  rw [show (281474976710656 * q + r) * 65536 + a = (r * 65536 + a) + 4294967296 * (4294967296 * q) by omega, Nat.add_mul_mod_self_left]
theorem or_l2i (b : Nat) {a : Nat} (ha : a < 65536) : (lN (b * 65536) ||| lN a).toInt32 = nI (b * 65536 + a) := by
  have e0 : b * 65536 % 2 ^ 64 = b % 281474976710656 * 65536 % 2 ^ 64 := by omega
  have e1 : lN (b * 65536) = lN (b % 281474976710656 * 65536) := by
    rw [wb_mod (b * 65536), e0, ← wb_mod]
  rw [e1, g_or (k := 16) (p := 65536) (by decide) ha (by omega), lN_i]
  apply un_inj
  rw [un_nIm, un_nIm]
  exact or_aux a b
theorem mul_T (x F c : Nat) : (x / 65536 * F + (x % 65536 * F + c) / 65536) * 65536 + (x % 65536 * F + c) % 65536 = x * F + c := by
  have e : x * F = 65536 * (x / 65536 * F) + x % 65536 * F := by rw [← Nat.mul_assoc, ← Nat.add_mul, Nat.div_add_mod]
  omega
theorem mul_step {f g : Nat → Int32} {i c F : Nat} (hx : g i = f i) (hc : c < F) (hI : wv g i + c * 2 ^ (32 * i) = F * wv f i) : let T := un (g i) * F + c
    T / 4294967296 < F ∧ wv (upd g i (nI T)) (i + 1) + T / 4294967296 * 2 ^ (32 * (i + 1)) = F * wv f (i + 1) := by
  intro T
  have h1 := un_lt (g i)
  have h2 : un (g i) * F ≤ 4294967295 * F := Nat.mul_le_mul_right _ (by omega)
  refine ⟨Nat.div_lt_of_lt_mul (by show un (g i) * F + c < _; omega), ?_⟩
  rw [wv_put, un_nIm, p32]
  have e1 : T / 4294967296 * (2 ^ (32 * i) * 4294967296) = (T / 4294967296 * 4294967296) * 2 ^ (32 * i) := by
    rw [Nat.mul_comm (2 ^ (32 * i)) 4294967296, ← Nat.mul_assoc]
  rw [e1, Nat.add_assoc, ← Nat.add_mul, show T % 4294967296 + T / 4294967296 * 4294967296 = T by omega]
  show wv g i + (un (g i) * F + c) * 2 ^ (32 * i) = F * (wv f i + un (f i) * 2 ^ (32 * i))
  rw [Nat.add_mul, Nat.mul_add, ← hI, hx]
  have e2 : un (f i) * F * 2 ^ (32 * i) = F * (un (f i) * 2 ^ (32 * i)) := by rw [Nat.mul_comm (un (f i)) F, Nat.mul_assoc]
  omega
theorem mul_end {f g f' : Nat → Int32} {u u' c F V N : Nat} (hF : 1 ≤ F) (hV : wv f u = V) (hn : u = 0 ∨ f (u - 1) ≠ 0) (hI : wv g u + c * 2 ^ (32 * u) = F * wv f u) (hP : ap_P N c u g u' f') : wv f' u' = V * F ∧ (u' = 0 ∨ f' (u' - 1) ≠ 0) := by
  obtain ⟨h1, h2, h3, h4, h5, h6⟩ := hP
  have e1 : wv f' u' = V * F := by rw [h4, hI, hV, Nat.mul_comm]
  refine ⟨e1, ?_⟩
  by_cases hc : c = 0
  · have hu := h5 hc
    rw [hu]
    refine wv_norm.mpr ?_
    rw [hu] at e1
    rw [e1]
    rcases wv_norm.mp hn with q | q
    · exact Or.inl q
    · refine Or.inr (Nat.le_trans q ?_)
      rw [hV]
      exact Nat.le_mul_of_pos_right V hF
  · exact Or.inr (h6 hc).2
theorem room_of {A c u N : Nat} (hu : u ≤ N) (h : A + c * 2 ^ (32 * u) < 2 ^ (32 * N)) : c < 2 ^ (32 * (N - u)) := by
  rcases Nat.lt_or_ge c (2 ^ (32 * (N - u))) with q | q
  · exact q
  · have h1 : 2 ^ (32 * (N - u)) * 2 ^ (32 * u) ≤ c * 2 ^ (32 * u) := Nat.mul_le_mul_right _ q
    rw [← Nat.pow_add, show 32 * (N - u) + 32 * u = 32 * N by omega] at h1
    omega
set_option maxHeartbeats 4000000 in
set_option maxRecDepth 100000 in
theorem lp_mul (G : gG) (d n : Nat) (ex : Bool) (h0 : gH) {w a N u V F : Nat} {f : Nat → Int32} (hN : N < 2 ^ 31) (hu : u ≤ N) (hV : wv f u = V) (hn : u = 0 ∨ f (u - 1) ≠ 0) (hF : 1 ≤ F) (hF2 : F < 70368744177664) (hVF : V * F < 2 ^ (32 * N)) : ∀ (m i c : Nat) (g : Nat → Int32) (h : gH), u - i < m → i ≤ u → c < F → wv g i + c * 2 ^ (32 * i) = F * wv f i → (∀ j, i ≤ j → g j = f j) → h w = some (.inr (9, [.ref a, .int (nI u)])) → h a = some (.inl (0, N, .inl g)) → g_fr [w, a] h0 h →
    g_W G mX9_multiplyBy (g_rm (d + 1) 0 0) (g_K G (q_v n ex [w, a] h0 (fun h' => Wh h' w a N (V * F))) 0 0) n ex h 0 0 17 [(5, .int (nI i)), (3, .long (lN c)), (0, .ref w), (1, .long (lN F))] [] := by
  intro m
  induction m with
  | zero => intro i c g h hm; exact absurd hm (by omega)
  | succ m ih =>
    intro i c g h hm hi hc hI hg hw ha hf
    have ne_w_a : w ≠ a := g_ap hw ha (by intro q; cases q)
    have hx := un_lt (g i)
    have b1 : un (g i) % 65536 * F ≤ 65535 * F := Nat.mul_le_mul_right _ (by omega)
    have b2 : un (g i) / 65536 * F ≤ 65535 * F := Nat.mul_le_mul_right _ (by omega)
    refine g_iload dX9_multiplyBy_17 rfl ?_
    refine g_aload_n dX9_multiplyBy_19 rfl rfl ?_
    refine g_getf dX9_multiplyBy_20 fX9_15 hw rfl ?_
    refine g_icmp_geN (tgt := 97) dX9_multiplyBy_23 (by decide) (by omega) (by omega) (fun c23 => ?_) (fun c23 => ?_)
    · have hiu : u = i := by omega
      subst hiu
      refine g_aload_n dX9_multiplyBy_97 rfl rfl ?_
      refine g_lload_n dX9_multiplyBy_98 rfl rfl ?_
      refine cVv (st := []) dX9_multiplyBy_99 (c_append G d n ex h hw ha hu hN (by omega) (room_of hu (A := wv g u) (by rw [hI, hV, Nat.mul_comm]; exact hVF))) sX9_19 hw rfl rfl (by simp only [g_rm]; omega) (by simp only [g_rm]; omega) (Nat.le_of_ble_eq_true rfl) ⟨Nat.le_of_ble_eq_true rfl, Nat.le_of_ble_eq_true rfl⟩ (fun h1 fr2 p3 => ?_)
      obtain ⟨u', f', q1, q2, q3⟩ := p3
      obtain ⟨q4, q5⟩ := mul_end hF hV hn hI q3
      exact e_v dX9_multiplyBy_102 rfl ((hf).tr fr2 (fun _ q => q)) ⟨u', f', q1, q2, q3.2.1, q4, q5⟩ (by decide) (by decide)
    · refine g_aload_n dX9_multiplyBy_26 rfl rfl ?_
      refine g_getf dX9_multiplyBy_27 fX9_9 hw rfl ?_
      refine g_iload dX9_multiplyBy_30 rfl ?_
      refine g_ialdN dX9_multiplyBy_32 ha (by omega) (by omega) ?_
      refine g_i2l dX9_multiplyBy_33 ?_
      refine g_ldc2 dX9_multiplyBy_34 kX9_36 rfl ?_
      refine g_topl (show (65535 : Int64) = lN 65535 by decide) ?_
      refine g_land dX9_multiplyBy_37 ?_
      refine g_topl (show ((g i).toInt64) &&& (lN 65535) = lN (un (g i) % 65536) from un_low16 _) ?_
      refine g_lload_n dX9_multiplyBy_38 rfl rfl ?_
      refine g_lmulN dX9_multiplyBy_39 ?_
      refine g_lload_n dX9_multiplyBy_40 rfl rfl ?_
      refine g_laddN dX9_multiplyBy_41 ?_
      refine g_lstore (ls' := [(6, .long (lN (((un (g i) % 65536) * F) + c))), (5, .int (nI i)), (3, .long (lN c)), (0, .ref w), (1, .long (lN F))]) dX9_multiplyBy_42 (by decide) rfl ?_
      refine g_aload_n dX9_multiplyBy_44 rfl rfl ?_
      refine g_getf dX9_multiplyBy_45 fX9_9 hw rfl ?_
      refine g_iload dX9_multiplyBy_48 rfl ?_
      refine g_ialdN dX9_multiplyBy_50 ha (by omega) (by omega) ?_
      refine g_bipush (v := nI 16) dX9_multiplyBy_51 (by decide) ?_
      refine g_iushr dX9_multiplyBy_53 ?_
      refine g_top (show ((g i).toUInt32 >>> ((nI 16).toUInt32 &&& Int32.toUInt32 31)).toInt32 = nI (un (g i) / 65536) from un_hi16 _) ?_
      refine g_i2lN dX9_multiplyBy_54 (by omega) ?_
      refine g_lload_n dX9_multiplyBy_55 rfl rfl ?_
      refine g_lmulN dX9_multiplyBy_56 ?_
      refine g_lload dX9_multiplyBy_57 rfl ?_
      refine g_bipush (v := nI 16) dX9_multiplyBy_59 (by decide) ?_
      refine g_lushr dX9_multiplyBy_61 ?_
      refine g_topl (show ((lN (((un (g i) % 65536) * F) + c)).toUInt64 >>> ((nI 16).toInt64.toUInt64 &&& Int64.toUInt64 63)).toInt64 = lN ((un (g i) % 65536 * F + c) / 65536) from lN_sh16 (by omega)) ?_
      refine g_laddN dX9_multiplyBy_62 ?_
      refine g_lstore (ls' := [(8, .long (lN (((un (g i) / 65536) * F) + ((un (g i) % 65536 * F + c) / 65536)))), (6, .long (lN (((un (g i) % 65536) * F) + c))), (5, .int (nI i)), (3, .long (lN c)), (0, .ref w), (1, .long (lN F))]) dX9_multiplyBy_63 (by decide) rfl ?_
      refine g_aload_n dX9_multiplyBy_65 rfl rfl ?_
      refine g_getf dX9_multiplyBy_66 fX9_9 hw rfl ?_
      refine g_iload dX9_multiplyBy_69 rfl ?_
      refine g_lload dX9_multiplyBy_71 rfl ?_
      refine g_bipush (v := nI 16) dX9_multiplyBy_73 (by decide) ?_
      refine g_lshl dX9_multiplyBy_75 ?_
      refine g_topl (show (lN (((un (g i) / 65536) * F) + ((un (g i) % 65536 * F + c) / 65536))) <<< ((nI 16).toInt64 &&& 63) = lN ((un (g i) / 65536 * F + (un (g i) % 65536 * F + c) / 65536) * 65536) from wb_shl _ (by decide)) ?_
      refine g_lload dX9_multiplyBy_76 rfl ?_
      refine g_ldc2 dX9_multiplyBy_78 kX9_36 rfl ?_
      refine g_topl (show (65535 : Int64) = lN 65535 by decide) ?_
      refine g_land dX9_multiplyBy_81 ?_
      refine g_topl (show (lN (((un (g i) % 65536) * F) + c)) &&& (lN 65535) = lN ((un (g i) % 65536 * F + c) % 65536) from wb_mask (k := 16) (by omega) (by decide)) ?_
      refine g_lor dX9_multiplyBy_82 ?_
      refine g_l2i dX9_multiplyBy_83 ?_
      refine g_top (show ((lN ((un (g i) / 65536 * F + (un (g i) % 65536 * F + c) / 65536) * 65536)) ||| (lN ((un (g i) % 65536 * F + c) % 65536))).toInt32 = nI ((un (g i) / 65536 * F + (un (g i) % 65536 * F + c) / 65536) * 65536 + (un (g i) % 65536 * F + c) % 65536) from or_l2i _ (by omega)) ?_
      refine g_iastN dX9_multiplyBy_84 ha (by omega) (by omega) ?_
      refine g_lload dX9_multiplyBy_85 rfl ?_
      refine g_bipush (v := nI 16) dX9_multiplyBy_87 (by decide) ?_
      refine g_lushr dX9_multiplyBy_89 ?_
      refine g_topl (show ((lN (((un (g i) / 65536) * F) + ((un (g i) % 65536 * F + c) / 65536))).toUInt64 >>> ((nI 16).toInt64.toUInt64 &&& Int64.toUInt64 63)).toInt64 = lN ((un (g i) / 65536 * F + (un (g i) % 65536 * F + c) / 65536) / 65536) from lN_sh16 (by omega)) ?_
      refine g_lstore_n (ls' := [(3, .long (lN ((un (g i) / 65536 * F + (un (g i) % 65536 * F + c) / 65536) / 65536))), (8, .long (lN (((un (g i) / 65536) * F) + ((un (g i) % 65536 * F + c) / 65536)))), (6, .long (lN (((un (g i) % 65536) * F) + c))), (5, .int (nI i)), (0, .ref w), (1, .long (lN F))]) dX9_multiplyBy_90 rfl (by decide) rfl ?_
      refine g_iincN (z := 1) (ls' := [(5, .int (nI (i + 1))), (3, .long (lN ((un (g i) / 65536 * F + (un (g i) % 65536 * F + c) / 65536) / 65536))), (8, .long (lN (((un (g i) / 65536) * F) + ((un (g i) % 65536 * F + c) / 65536)))), (6, .long (lN (((un (g i) % 65536) * F) + c))), (0, .ref w), (1, .long (lN F))]) dX9_multiplyBy_91 rfl (by decide) rfl ?_
      refine g_goto (tgt := 17) dX9_multiplyBy_94 (by decide) ?_
      refine g_pick [0, 1, 4, 5] (ls' := [(5, .int (nI (i + 1))), (3, .long (lN ((un (g i) / 65536 * F + (un (g i) % 65536 * F + c) / 65536) / 65536))), (0, .ref w), (1, .long (lN F))]) rfl ?_
      obtain ⟨st1, st2⟩ := mul_step (hg i (Nat.le_refl _)) hc hI
      have eT := mul_T (un (g i)) F c
      have e1 : (un (g i) / 65536 * F + (un (g i) % 65536 * F + c) / 65536) / 65536 = (un (g i) * F + c) / 4294967296 := by omega
      refine g_heap (h' := g_up h a (.inl (0, N, .inl (upd g i (nI (un (g i) * F + c)))))) (by rw [eT]) ?_
      rw [e1]
      exact ih (i + 1) ((un (g i) * F + c) / 4294967296) (upd g i (nI (un (g i) * F + c))) _ (by omega) (by omega) st1 st2 (fun j hj => by rw [pk_un (by omega)]; exact hg j (by omega)) (g_ne ne_w_a hw) g_eq (hf.up (by simp))
set_option maxHeartbeats 4000000 in
set_option maxRecDepth 100000 in
theorem c_multiplyBy (G : gG) (d n : Nat) (ex : Bool) (h : gH) {w a N V F : Nat} (hq : Wh h w a N V) (hN : N < 2 ^ 31) (hF2 : F < 70368744177664) (hVF : V * F < 2 ^ (32 * N)) : g_M G mX9_multiplyBy (d + 1) 0 0 [.ref w, .long (lN F)] n ex h (q_v n ex [w, a] h (fun h' => Wh h' w a N (V * F))) := by
  obtain ⟨u, f, hw, ha, hu, hV, hn⟩ := hq
  refine g_enter (by decide) (Nat.le_of_ble_eq_true rfl) ?_
  show g_W G _ _ _ n ex h 0 0 0 [(0, .ref w), (1, .long (lN F))] []
  have ne_w_a : w ≠ a := g_ap hw ha (by intro q; cases q)
  refine g_lload_n dX9_multiplyBy_0 rfl rfl ?_
  refine g_lconst (v := lN 1) dX9_multiplyBy_1 (by decide) ?_
  refine g_lc_geN (tgt := 12) dX9_multiplyBy_2 dX9_multiplyBy_3 (by decide) (by omega) (by omega) (fun c2 => ?_) (fun c2 => ?_)
  · refine g_lconst (v := lN 0) dX9_multiplyBy_12 (by decide) ?_
    refine g_lstore_n (ls' := [(3, .long (lN 0)), (0, .ref w), (1, .long (lN F))]) dX9_multiplyBy_13 rfl (by decide) rfl ?_
    refine g_iconst (v := nI 0) dX9_multiplyBy_14 (by decide) ?_
    refine g_istore (ls' := [(5, .int (nI 0)), (3, .long (lN 0)), (0, .ref w), (1, .long (lN F))]) dX9_multiplyBy_15 (by decide) rfl ?_
    refine g_pick [0, 1, 2, 3] (ls' := [(5, .int (nI 0)), (3, .long (lN 0)), (0, .ref w), (1, .long (lN F))]) rfl ?_
    exact lp_mul G d n ex h hN hu hV hn c2 hF2 hVF (u + 1) 0 0 f h (by omega) (Nat.zero_le _) c2 rfl (fun _ _ => rfl) hw ha g_fr.rf
  · refine g_aload_n dX9_multiplyBy_6 rfl rfl ?_
    refine g_iconst (v := nI 0) dX9_multiplyBy_7 (by decide) ?_
    refine g_put (fs' := [.ref a, .int (nI 0)]) dX9_multiplyBy_8 fX9_15 hw (Nat.le_of_ble_eq_true rfl) rfl rfl rfl ?_
    have z0 : F = 0 := by omega
    subst z0
    exact e_v dX9_multiplyBy_11 rfl (g_fr.rf.up (by simp)) ⟨0, f, g_eq, g_ne (Ne.symm ne_w_a) ha, Nat.zero_le _, rfl, Or.inl rfl⟩ (by decide) (by decide)
