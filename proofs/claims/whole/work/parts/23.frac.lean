section GOE
variable {G : gG} {M : gM} {R : Room} {K : gK} {n : Nat} {ex : Bool} {h : gH} {k sl pc : Nat} {ls : List (Nat × Value)} {st : List Value}
theorem cVvE {M' : gM} {d' mc' ms' idx i ci : Nat} {as st0 : List Value} {S : List Nat} {P : gH → Prop} (hd : decode M.2.1 pc = .ok (.invokevirtual idx, 3)) (hM : g_M G M' d' mc' ms' (.ref i :: as) n ex h (q_v n ex S h P)) (hsite : g_site M' as.length [Cond.methodLink M.1.cls idx M'.1, Cond.instanceMethod M'.1, Cond.selects M'.1.cls M'.1 M'.1, Cond.initialized M'.1.cls]) (ho : ∃ fs, h i = some (.inr (ci, fs))) (hci : vwCl[ci]?.map (fun q => q.1) = some M'.1.cls) (hst : st0 = as.reverse ++ .ref i :: st) (hf : d' + 1 ≤ R.frames) (hlo : 8 + (M'.2.2.1 + 11) + 41 * d' ≤ R.locals) (hrest : (st.map fun v => v.category).sum ≤ 8) (hc : k + mc' ≤ R.cells ∧ sl + ms' ≤ R.slots) (kk : ∀ (h' : gH), g_fr S h h' → P h' → g_W G M R K n ex h' (k + mc') (sl + ms') (pc + 3) ls st) : g_W G M R K n ex h k sl pc ls st0 := by
  obtain ⟨fs, ho⟩ := ho
  exact cVv hd hM hsite ho hci hst hf hlo hrest hc kk
theorem cViE {M' : gM} {d' mc' ms' idx i ci : Nat} {as st0 : List Value} {S : List Nat} {P : Int32 → gH → Prop} (hd : decode M.2.1 pc = .ok (.invokevirtual idx, 3)) (hM : g_M G M' d' mc' ms' (.ref i :: as) n ex h (q_i n ex S h P)) (hsite : g_site M' as.length [Cond.methodLink M.1.cls idx M'.1, Cond.instanceMethod M'.1, Cond.selects M'.1.cls M'.1 M'.1, Cond.initialized M'.1.cls]) (ho : ∃ fs, h i = some (.inr (ci, fs))) (hci : vwCl[ci]?.map (fun q => q.1) = some M'.1.cls) (hst : st0 = as.reverse ++ .ref i :: st) (hf : d' + 1 ≤ R.frames) (hlo : 8 + (M'.2.2.1 + 11) + 41 * d' ≤ R.locals) (hrest : (st.map fun v => v.category).sum ≤ 8) (hc : k + mc' ≤ R.cells ∧ sl + ms' ≤ R.slots) (kk : ∀ (r : Int32) (h' : gH), g_fr S h h' → P r h' → g_W G M R K n ex h' (k + mc') (sl + ms') (pc + 3) ls (.int r :: st)) : g_W G M R K n ex h k sl pc ls st0 := by
  obtain ⟨fs, ho⟩ := ho
  exact cVi hd hM hsite ho hci hst hf hlo hrest hc kk
theorem cVlE {M' : gM} {d' mc' ms' idx i ci : Nat} {as st0 : List Value} {S : List Nat} {P : Int64 → gH → Prop} (hd : decode M.2.1 pc = .ok (.invokevirtual idx, 3)) (hM : g_M G M' d' mc' ms' (.ref i :: as) n ex h (q_l n ex S h P)) (hsite : g_site M' as.length [Cond.methodLink M.1.cls idx M'.1, Cond.instanceMethod M'.1, Cond.selects M'.1.cls M'.1 M'.1, Cond.initialized M'.1.cls]) (ho : ∃ fs, h i = some (.inr (ci, fs))) (hci : vwCl[ci]?.map (fun q => q.1) = some M'.1.cls) (hst : st0 = as.reverse ++ .ref i :: st) (hf : d' + 1 ≤ R.frames) (hlo : 8 + (M'.2.2.1 + 11) + 41 * d' ≤ R.locals) (hrest : (st.map fun v => v.category).sum ≤ 8) (hc : k + mc' ≤ R.cells ∧ sl + ms' ≤ R.slots) (kk : ∀ (r : Int64) (h' : gH), g_fr S h h' → P r h' → g_W G M R K n ex h' (k + mc') (sl + ms') (pc + 3) ls (.long r :: st)) : g_W G M R K n ex h k sl pc ls st0 := by
  obtain ⟨fs, ho⟩ := ho
  exact cVl hd hM hsite ho hci hst hf hlo hrest hc kk
theorem cVrE {M' : gM} {d' mc' ms' idx i ci : Nat} {as st0 : List Value} {S : List Nat} {P : Nat → gH → Prop} (hd : decode M.2.1 pc = .ok (.invokevirtual idx, 3)) (hM : g_M G M' d' mc' ms' (.ref i :: as) n ex h (q_r n ex S h P)) (hsite : g_site M' as.length [Cond.methodLink M.1.cls idx M'.1, Cond.instanceMethod M'.1, Cond.selects M'.1.cls M'.1 M'.1, Cond.initialized M'.1.cls]) (ho : ∃ fs, h i = some (.inr (ci, fs))) (hci : vwCl[ci]?.map (fun q => q.1) = some M'.1.cls) (hst : st0 = as.reverse ++ .ref i :: st) (hf : d' + 1 ≤ R.frames) (hlo : 8 + (M'.2.2.1 + 11) + 41 * d' ≤ R.locals) (hrest : (st.map fun v => v.category).sum ≤ 8) (hc : k + mc' ≤ R.cells ∧ sl + ms' ≤ R.slots) (kk : ∀ (r : Nat) (h' : gH), g_fr S h h' → P r h' → g_W G M R K n ex h' (k + mc') (sl + ms') (pc + 3) ls (.ref r :: st)) : g_W G M R K n ex h k sl pc ls st0 := by
  obtain ⟨fs, ho⟩ := ho
  exact cVr hd hM hsite ho hci hst hf hlo hrest hc kk
theorem g_lcG {x y : Int64} : 0 < lg_cmp x y ↔ y < x := by
  unfold lg_cmp
  split
  · rename_i q; exact ⟨fun _ => q, fun _ => by decide⟩
  · rename_i q1
    split
    · rename_i q; subst q; exact ⟨fun z => absurd z (by decide), fun z => absurd z Int64.lt_irrefl⟩
    · exact ⟨fun z => absurd z (by decide), fun z => absurd z q1⟩
theorem g_lc_gtN {a b : Nat} {off : Int} {tgt : Nat} (hd : decode M.2.1 pc = .ok (.lcmp, 1)) (hd2 : decode M.2.1 (pc + 1) = .ok (.ifCond .gt off, 3)) (ht : ((pc + 1 : Nat) : Int) + off = (tgt : Int)) (ha : a < 2 ^ 63) (hb : b < 2 ^ 63) (kt : b < a → g_W G M R K n ex h k sl tgt ls st) (kf : a ≤ b → g_W G M R K n ex h k sl (pc + 4) ls st) : g_W G M R K n ex h k sl pc ls (.long (lN b) :: .long (lN a) :: st) := g_lcmp hd (g_if_gt hd2 ht (fun z => kt ((pk_lLT hb ha).mp (g_lcG.mp z))) (fun z => kf (Nat.not_lt.mp (fun q => z (g_lcG.mpr ((pk_lLT hb ha).mpr q))))))
theorem g_lc_leN {a b : Nat} {off : Int} {tgt : Nat} (hd : decode M.2.1 pc = .ok (.lcmp, 1)) (hd2 : decode M.2.1 (pc + 1) = .ok (.ifCond .le off, 3)) (ht : ((pc + 1 : Nat) : Int) + off = (tgt : Int)) (ha : a < 2 ^ 63) (hb : b < 2 ^ 63) (kt : a ≤ b → g_W G M R K n ex h k sl tgt ls st) (kf : b < a → g_W G M R K n ex h k sl (pc + 4) ls st) : g_W G M R K n ex h k sl pc ls (.long (lN b) :: .long (lN a) :: st) := g_lcmp hd (g_if_le hd2 ht (fun z => kt (Nat.not_lt.mp (fun q => absurd (g_lcG.mpr ((pk_lLT hb ha).mpr q)) (Int32.not_lt.mpr z)))) (fun z => kf ((pk_lLT hb ha).mp (g_lcG.mp (Int32.not_le.mp z)))))
end GOE
/-- Euclid's steps -/
def eu : Nat → Nat → Nat → Prop
  | 0, _, b => b = 0
  | n + 1, a, b => b = 0 ∨ eu n b (a % b)
theorem eu_0 : ∀ (n a : Nat), eu n a 0
  | 0, _ => rfl
  | _ + 1, _ => Or.inl rfl
theorem eu_bound : ∀ (k a b : Nat), b < 2 ^ k → eu (2 * k) a b := by
  intro k
  induction k with
  | zero => intro a b h; show b = 0; omega
  | succ k ih =>
    intro a b h
    show b = 0 ∨ (a % b = 0 ∨ eu (2 * k) (a % b) (b % (a % b)))
    by_cases hb : b = 0
    · exact Or.inl hb
    · right
      by_cases hr : a % b = 0
      · exact Or.inl hr
      · right
        apply ih
        have h1 : a % b < b := Nat.mod_lt _ (by omega)
        generalize a % b = r at h1 hr
        have h2 : b % r < r := Nat.mod_lt _ (by omega)
        have h3 : r * (b / r) + b % r = b := Nat.div_add_mod b r
        have h4 : 1 ≤ b / r := (Nat.one_le_div_iff (by omega)).mpr (by omega)
        have h5 : r * 1 ≤ r * (b / r) := Nat.mul_le_mul_left r h4
        rw [Nat.pow_succ] at h
        omega
theorem eu_s {n a b : Nat} (h : eu n a b) : b = 0 ∨ ∃ m, n = m + 1 ∧ eu m b (a % b) := by
  cases n with
  | zero => exact Or.inl h
  | succ m =>
    rcases h with q | q
    · exact Or.inl q
    · exact Or.inr ⟨m, rfl, q⟩
set_option maxHeartbeats 4000000 in
set_option maxRecDepth 100000 in
theorem lp_gcd (G : gG) (R : Room) (n : Nat) (ex : Bool) (h : gH) {x y g : Nat} : ∀ (m s a b : Nat), s + m ≤ 100 → a < 2 ^ 63 → b < 2 ^ 63 → Nat.gcd a b = g → eu m a b →
    g_W G mX2_commonDivisor R (g_K G (q_l n ex [] h (fun r _ => r = lN g)) 0 0) n ex h 0 0 9 [(8, .int (nI s)), (6, .long (lN b)), (4, .long (lN a)), (0, .long (lN x)), (2, .long (lN y))] [] := by
  intro m
  induction m using Nat.strongRecOn with
  | _ m ih =>
    intro s a b hs ha hb hg he
    have he := eu_s he
    refine g_iload dX2_commonDivisor_9 rfl ?_
    refine g_bipush (v := nI 100) dX2_commonDivisor_11 (by decide) ?_
    refine g_icmp_geN (tgt := 44) dX2_commonDivisor_13 (by decide) (by omega) (by omega) (fun c13 => ?_) (fun c13 => ?_)
    · have hbz : b = 0 := by rcases he with q | ⟨m, rfl, q⟩; (exact q); (omega)
      refine g_lload dX2_commonDivisor_44 rfl ?_
      exact e_l dX2_commonDivisor_46 rfl g_fr.rf (by rw [← hg, show b = 0 by omega, Nat.gcd_zero_right]) (by decide) (by decide)
    · refine g_lload dX2_commonDivisor_16 rfl ?_
      refine g_lconst (v := lN 0) dX2_commonDivisor_18 (by decide) ?_
      refine g_lc_leN (tgt := 44) dX2_commonDivisor_19 dX2_commonDivisor_20 (by decide) (by omega) (by omega) (fun c19 => ?_) (fun c19 => ?_)
      · refine g_lload dX2_commonDivisor_44 rfl ?_
        exact e_l dX2_commonDivisor_46 rfl g_fr.rf (by rw [← hg, show b = 0 by omega, Nat.gcd_zero_right]) (by decide) (by decide)
      · refine g_lload dX2_commonDivisor_23 rfl ?_
        refine g_lload dX2_commonDivisor_25 rfl ?_
        refine g_lremN dX2_commonDivisor_27 (by omega) (by omega) (by omega) ?_
        refine g_lstore (ls' := [(9, .long (lN (a % b))), (8, .int (nI s)), (6, .long (lN b)), (4, .long (lN a)), (0, .long (lN x)), (2, .long (lN y))]) dX2_commonDivisor_28 (by decide) rfl ?_
        refine g_lload dX2_commonDivisor_30 rfl ?_
        refine g_lstore (ls' := [(4, .long (lN b)), (9, .long (lN (a % b))), (8, .int (nI s)), (6, .long (lN b)), (0, .long (lN x)), (2, .long (lN y))]) dX2_commonDivisor_32 (by decide) rfl ?_
        refine g_lload dX2_commonDivisor_34 rfl ?_
        refine g_lstore (ls' := [(6, .long (lN (a % b))), (4, .long (lN b)), (9, .long (lN (a % b))), (8, .int (nI s)), (0, .long (lN x)), (2, .long (lN y))]) dX2_commonDivisor_36 (by decide) rfl ?_
        refine g_iincN (z := 1) (ls' := [(8, .int (nI (s + 1))), (6, .long (lN (a % b))), (4, .long (lN b)), (9, .long (lN (a % b))), (0, .long (lN x)), (2, .long (lN y))]) dX2_commonDivisor_38 rfl (by decide) rfl ?_
        refine g_goto (tgt := 9) dX2_commonDivisor_41 (by decide) ?_
        refine g_pick [0, 1, 2, 4, 5] (ls' := [(8, .int (nI (s + 1))), (6, .long (lN (a % b))), (4, .long (lN b)), (0, .long (lN x)), (2, .long (lN y))]) rfl ?_
        rcases he with q | ⟨m, rfl, q⟩
        · exact absurd q (by omega)
        · exact ih m (by omega) (s + 1) b (a % b) (by omega) hb (by have := Nat.mod_lt a c19; omega) (by rw [← hg, Nat.gcd_comm a b, Nat.gcd_rec b a]; exact Nat.gcd_comm _ _) q
set_option maxHeartbeats 4000000 in
set_option maxRecDepth 100000 in
theorem c_gcd (G : gG) (d n : Nat) (ex : Bool) (h : gH) {x y : Nat} (hx : x < 2 ^ 63) (hy : y < 2 ^ 46) : g_M G mX2_commonDivisor d 0 0 [.long (lN x), .long (lN y)] n ex h (q_l n ex [] h (fun r _ => r = lN (Nat.gcd x y))) := by
  refine g_enter (by decide) (Nat.le_of_ble_eq_true rfl) ?_
  show g_W G _ _ _ n ex h 0 0 0 [(0, .long (lN x)), (2, .long (lN y))] []
  refine g_lload_n dX2_commonDivisor_0 rfl rfl ?_
  refine g_lstore (ls' := [(4, .long (lN x)), (0, .long (lN x)), (2, .long (lN y))]) dX2_commonDivisor_1 (by decide) rfl ?_
  refine g_lload_n dX2_commonDivisor_3 rfl rfl ?_
  refine g_lstore (ls' := [(6, .long (lN y)), (4, .long (lN x)), (0, .long (lN x)), (2, .long (lN y))]) dX2_commonDivisor_4 (by decide) rfl ?_
  refine g_iconst (v := nI 0) dX2_commonDivisor_6 (by decide) ?_
  refine g_istore (ls' := [(8, .int (nI 0)), (6, .long (lN y)), (4, .long (lN x)), (0, .long (lN x)), (2, .long (lN y))]) dX2_commonDivisor_7 (by decide) rfl ?_
  refine g_pick [0, 1, 2, 3, 4] (ls' := [(8, .int (nI 0)), (6, .long (lN y)), (4, .long (lN x)), (0, .long (lN x)), (2, .long (lN y))]) rfl ?_
  exact lp_gcd G _ n ex h (2 * 46) 0 x y (by decide) hx (Nat.lt_trans hy (by decide)) rfl (eu_bound 46 x y hy)
theorem Wh.cell {h : gH} {w a N V : Nat} (q : Wh h w a N V) : ∃ fs, h w = some (.inr (9, fs)) := by obtain ⟨u, f, h1, -⟩ := q; exact ⟨_, h1⟩
/-- a Fraction q, its parts behind it: A / B -/
def Fr (h : gH) (q N A B : Nat) : Prop := h q = some (.inr (2, [.ref (q + 1), .ref (q + 3)])) ∧ Wh h (q + 1) (q + 2) N A ∧ Wh h (q + 3) (q + 4) N B
theorem Fr.fr {h h' : gH} {S : List Nat} {q N A B : Nat} (z : Fr h q N A B) (hf : g_fr S h h') (h0 : q ∉ S) (h1 : q + 1 ∉ S) (h2 : q + 2 ∉ S) (h3 : q + 3 ∉ S) (h4 : q + 4 ∉ S) : Fr h' q N A B := ⟨hf.at h0 z.1, z.2.1.fr hf h1 h2, z.2.2.fr hf h3 h4⟩
theorem Fr.cell {h : gH} {q N A B : Nat} (z : Fr h q N A B) : ∃ fs, h q = some (.inr (2, fs)) := ⟨_, z.1⟩
theorem ft_gcd (l A : Nat) : Nat.gcd l (A % l) = Nat.gcd l A := by rw [Nat.gcd_comm l (A % l), ← Nat.gcd_rec]
/-- what times divides out -/
theorem ft_facts {A B up low c nu nl fa fb : Nat} (hAB : Nat.gcd A B = 1) (hu : 1 ≤ up) (hl : 1 ≤ low) (hc : c = Nat.gcd up low) (hnu : nu = up / c) (hnl : nl = low / c) (hfa : fa = Nat.gcd nl (A % nl)) (hfb : fb = Nat.gcd nu (B % nu)) :
    1 ≤ c ∧ c ≤ up ∧ c ≤ low ∧ 1 ≤ nu ∧ nu ≤ up ∧ 1 ≤ nl ∧ nl ≤ low ∧ 1 ≤ fa ∧ fa ≤ nl ∧ 1 ≤ fb ∧ fb ≤ nu ∧ 1 ≤ nu / fb ∧ nu / fb ≤ up ∧ 1 ≤ nl / fa ∧ nl / fa ≤ low ∧ A / fa * (nu / fb) ≤ A * up ∧ B / fb * (nl / fa) ≤ B * low ∧ (1 ≤ B → 1 ≤ B / fb * (nl / fa)) ∧
    Nat.gcd (A / fa * (nu / fb)) (B / fb * (nl / fa)) = 1 ∧ A / fa * (nu / fb) * (B * low) = B / fb * (nl / fa) * (A * up) := by
  have c1 : 1 ≤ c := by rw [hc]; exact Nat.gcd_pos_of_pos_left _ hu
  have du : c ∣ up := by rw [hc]; exact Nat.gcd_dvd_left _ _
  have dl : c ∣ low := by rw [hc]; exact Nat.gcd_dvd_right _ _
  have c2 : c ≤ up := Nat.le_of_dvd (by omega) du
  have c3 : c ≤ low := Nat.le_of_dvd (by omega) dl
  have n1 : 1 ≤ nu := by rw [hnu]; exact (Nat.one_le_div_iff (by omega)).mpr c2
  have n2 : nu ≤ up := by rw [hnu]; exact Nat.div_le_self _ _
  have n3 : 1 ≤ nl := by rw [hnl]; exact (Nat.one_le_div_iff (by omega)).mpr c3
  have n4 : nl ≤ low := by rw [hnl]; exact Nat.div_le_self _ _
  rw [ft_gcd] at hfa hfb
  have f1 : 1 ≤ fa := by rw [hfa]; exact Nat.gcd_pos_of_pos_left _ n3
  have dfn : fa ∣ nl := by rw [hfa]; exact Nat.gcd_dvd_left _ _
  have dfA : fa ∣ A := by rw [hfa]; exact Nat.gcd_dvd_right _ _
  have f2 : fa ≤ nl := Nat.le_of_dvd (by omega) dfn
  have f3 : 1 ≤ fb := by rw [hfb]; exact Nat.gcd_pos_of_pos_left _ n1
  have dfu : fb ∣ nu := by rw [hfb]; exact Nat.gcd_dvd_left _ _
  have dfB : fb ∣ B := by rw [hfb]; exact Nat.gcd_dvd_right _ _
  have f4 : fb ≤ nu := Nat.le_of_dvd (by omega) dfu
  have q1 : 1 ≤ nu / fb := (Nat.one_le_div_iff (by omega)).mpr f4
  have q2 : nu / fb ≤ up := Nat.le_trans (Nat.div_le_self _ _) n2
  have q3 : 1 ≤ nl / fa := (Nat.one_le_div_iff (by omega)).mpr f2
  have q4 : nl / fa ≤ low := Nat.le_trans (Nat.div_le_self _ _) n4
  have cun : Nat.Coprime nu nl := by rw [hnu, hnl, hc]; exact Nat.coprime_div_gcd_div_gcd (by rw [← hc]; exact c1)
  have cA : Nat.Coprime (nl / fa) (A / fa) := by rw [hfa]; exact Nat.coprime_div_gcd_div_gcd (by rw [← hfa]; exact f1)
  have cB : Nat.Coprime (nu / fb) (B / fb) := by rw [hfb]; exact Nat.coprime_div_gcd_div_gcd (by rw [← hfb]; exact f3)
  have cAB : Nat.Coprime (A / fa) (B / fb) := Nat.Coprime.coprime_div_right (Nat.Coprime.coprime_div_left hAB dfA) dfB
  have cul : Nat.Coprime (nu / fb) (nl / fa) := Nat.Coprime.coprime_div_right (Nat.Coprime.coprime_div_left cun dfu) dfn
  refine ⟨c1, c2, c3, n1, n2, n3, n4, f1, f2, f3, f4, q1, q2, q3, q4, Nat.mul_le_mul (Nat.div_le_self _ _) q2, Nat.mul_le_mul (Nat.div_le_self _ _) q4, fun hB => ?_, ?_, ?_⟩
  · have : 1 ≤ B / fb := (Nat.one_le_div_iff (by omega)).mpr (Nat.le_of_dvd (by omega) dfB)
    exact Nat.mul_le_mul this q3
  · exact Nat.Coprime.mul_left (Nat.Coprime.mul_right cAB cA.symm) (Nat.Coprime.mul_right cB cul)
  · have e1 : A = fa * (A / fa) := (Nat.mul_div_cancel' dfA).symm
    have e2 : B = fb * (B / fb) := (Nat.mul_div_cancel' dfB).symm
    have e3 : up = c * (fb * (nu / fb)) := by rw [Nat.mul_div_cancel' dfu, hnu, Nat.mul_div_cancel' du]
    have e4 : low = c * (fa * (nl / fa)) := by rw [Nat.mul_div_cancel' dfn, hnl, Nat.mul_div_cancel' dl]
    generalize A / fa = a1 at *
    generalize B / fb = b1 at *
    generalize nu / fb = u1 at *
    generalize nl / fa = l1 at *
    rw [e1, e2, e3, e4]
    ac_rfl
set_option maxHeartbeats 4000000 in
set_option maxRecDepth 100000 in
theorem c_times (G : gG) (d n : Nat) (ex : Bool) (h : gH) {q N A B up low : Nat} (hF : Fr h q N A B) (hAB : Nat.gcd A B = 1) (hB : 1 ≤ B) (hN : N < 2 ^ 31) (hN1 : 1 ≤ N) (hl : 1 ≤ low) (hup : up < 70368744177664) (hlow : low < 70368744177664) (hA1 : A * up < 2 ^ (32 * N)) (hB1 : B * low < 2 ^ (32 * N)) : g_M G mX2_times (d + 2) 0 0 [.ref q, .long (lN up), .long (lN low)] n ex h (q_v n ex [q + 1, q + 2, q + 3, q + 4] h (fun h' => ∃ A' B', Fr h' q N A' B' ∧ Nat.gcd A' B' = 1 ∧ 1 ≤ B' ∧ A' * (B * low) = B' * (A * up) ∧ A' ≤ A * up ∧ B' ≤ B * low)) := by
  obtain ⟨hq, hA, hB0⟩ := hF
  refine g_enter (by decide) (Nat.le_of_ble_eq_true rfl) ?_
  show g_W G _ _ _ n ex h 0 0 0 [(0, .ref q), (1, .long (lN up)), (3, .long (lN low))] []
  refine g_lload_n dX2_times_0 rfl rfl ?_
  refine g_lconst (v := lN 1) dX2_times_1 (by decide) ?_
  refine g_lc_ltN (tgt := 12) dX2_times_2 dX2_times_3 (by decide) (by omega) (by omega) (fun c2 => ?_) (fun c2 => ?_)
  · have hBl : 1 ≤ B * low := Nat.mul_le_mul hB hl
    refine g_aload_n dX2_times_12 rfl rfl ?_
    refine g_getf dX2_times_13 fX2_12 hq rfl ?_
    refine g_lconst (v := lN 0) dX2_times_16 (by decide) ?_
    obtain ⟨xz1, fz1, hwz1, haz1⟩ := (hA).r
    refine cVvE (st := []) dX2_times_17 (c_become G d n ex h hwz1 haz1 hN (by decide) (Nat.lt_of_lt_of_le (show 0 < 2 ^ 1 by decide) (Nat.pow_le_pow_right (by decide) (by omega)))) sX2_21 ((hA).cell) rfl rfl (by simp only [g_rm]; omega) (by simp only [g_rm]; omega) (Nat.le_of_ble_eq_true rfl) ⟨Nat.le_of_ble_eq_true rfl, Nat.le_of_ble_eq_true rfl⟩ (fun h2 fr3 p4 => ?_)
    refine g_aload_n dX2_times_20 rfl rfl ?_
    refine g_getf dX2_times_21 fX2_18 (g_fr.at fr3 (by simp) hq) rfl ?_
    refine g_lconst (v := lN 1) dX2_times_24 (by decide) ?_
    obtain ⟨xz6, fz6, hwz6, haz6⟩ := ((hB0).fr fr3 (by simp) (by simp)).r
    refine cVvE (st := []) dX2_times_25 (c_become G d n ex h2 hwz6 haz6 hN (by decide) (Nat.lt_of_lt_of_le (show 1 < 2 ^ 1 by decide) (Nat.pow_le_pow_right (by decide) (by omega)))) sX2_21 (((hB0).fr fr3 (by simp) (by simp)).cell) rfl rfl (by simp only [g_rm]; omega) (by simp only [g_rm]; omega) (Nat.le_of_ble_eq_true rfl) ⟨Nat.le_of_ble_eq_true rfl, Nat.le_of_ble_eq_true rfl⟩ (fun h7 fr8 p9 => ?_)
    have zu : up = 0 := by omega
    exact e_v dX2_times_28 rfl (((g_fr.rf).tr fr3 (by simp)).tr fr8 (by simp)) ⟨0, 1, ⟨g_fr.at fr8 (by simp) (g_fr.at fr3 (by simp) hq), (p4).fr fr8 (by simp) (by simp), p9⟩, by decide, by decide, by rw [zu]; omega, Nat.zero_le _, hBl⟩ (by decide) (by decide)
  · refine g_lload_n dX2_times_6 rfl rfl ?_
    refine g_lconst (v := lN 1) dX2_times_7 (by decide) ?_
    refine g_lc_geN (tgt := 29) dX2_times_8 dX2_times_9 (by decide) (by omega) (by omega) (fun c8 => ?_) (fun c8 => ?_)
    · obtain ⟨c, hc⟩ : ∃ z, z = Nat.gcd up low := ⟨_, rfl⟩
      obtain ⟨nu, hnu⟩ : ∃ z, z = up / c := ⟨_, rfl⟩
      obtain ⟨nl, hnl⟩ : ∃ z, z = low / c := ⟨_, rfl⟩
      obtain ⟨fa, hfa⟩ : ∃ z, z = Nat.gcd nl (A % nl) := ⟨_, rfl⟩
      obtain ⟨fb, hfb⟩ : ∃ z, z = Nat.gcd nu (B % nu) := ⟨_, rfl⟩
      have F := ft_facts hAB c2 hl hc hnu hnl hfa hfb
      have hAm : A % nl < nl := Nat.mod_lt _ (by omega)
      have hBm : B % nu < nu := Nat.mod_lt _ (by omega)
      refine g_lload_n dX2_times_29 rfl rfl ?_
      refine g_lload_n dX2_times_30 rfl rfl ?_
      refine cSl (st := []) dX2_times_31 (c_gcd G (d + 1) n ex h (by omega) (by omega)) sX2_33 rfl (by simp only [g_rm]; omega) (by simp only [g_rm]; omega) (Nat.le_of_ble_eq_true rfl) ⟨Nat.le_of_ble_eq_true rfl, Nat.le_of_ble_eq_true rfl⟩ (fun r14 h11 fr12 p13 => ?_)
      cases g_fr0 fr12
      rw [← hc] at p13
      subst p13
      refine g_lstore (ls' := [(5, .long (lN c)), (0, .ref q), (1, .long (lN up)), (3, .long (lN low))]) dX2_times_34 (by decide) rfl ?_
      refine g_lload_n dX2_times_36 rfl rfl ?_
      refine g_lload dX2_times_37 rfl ?_
      refine g_ldivN dX2_times_39 (by omega) (by omega) (by omega) ?_
      refine g_topl (show lN (up / c) = lN nu from by rw [hnu]) ?_
      refine g_lstore (ls' := [(7, .long (lN nu)), (5, .long (lN c)), (0, .ref q), (1, .long (lN up)), (3, .long (lN low))]) dX2_times_40 (by decide) rfl ?_
      refine g_lload_n dX2_times_42 rfl rfl ?_
      refine g_lload dX2_times_43 rfl ?_
      refine g_ldivN dX2_times_45 (by omega) (by omega) (by omega) ?_
      refine g_topl (show lN (low / c) = lN nl from by rw [hnl]) ?_
      refine g_lstore (ls' := [(9, .long (lN nl)), (7, .long (lN nu)), (5, .long (lN c)), (0, .ref q), (1, .long (lN up)), (3, .long (lN low))]) dX2_times_46 (by decide) rfl ?_
      refine g_lload dX2_times_48 rfl ?_
      refine g_aload_n dX2_times_50 rfl rfl ?_
      refine g_getf dX2_times_51 fX2_12 hq rfl ?_
      refine g_lload dX2_times_54 rfl ?_
      refine cVlE (st := [.long (lN nl)]) dX2_times_56 (c_remainderBy G (d + 1) n ex h (hA) hN (by omega) (by omega)) sX2_37 ((hA).cell) rfl rfl (by simp only [g_rm]; omega) (by simp only [g_rm]; omega) (Nat.le_of_ble_eq_true rfl) ⟨Nat.le_of_ble_eq_true rfl, Nat.le_of_ble_eq_true rfl⟩ (fun r18 h15 fr16 p17 => ?_)
      cases g_fr0 fr16
      subst p17
      refine cSl (st := []) dX2_times_59 (c_gcd G (d + 1) n ex h (by omega) (by omega)) sX2_33 rfl (by simp only [g_rm]; omega) (by simp only [g_rm]; omega) (Nat.le_of_ble_eq_true rfl) ⟨Nat.le_of_ble_eq_true rfl, Nat.le_of_ble_eq_true rfl⟩ (fun r22 h19 fr20 p21 => ?_)
      cases g_fr0 fr20
      rw [← hfa] at p21
      subst p21
      refine g_lstore (ls' := [(11, .long (lN fa)), (9, .long (lN nl)), (7, .long (lN nu)), (5, .long (lN c)), (0, .ref q), (1, .long (lN up)), (3, .long (lN low))]) dX2_times_62 (by decide) rfl ?_
      refine g_lload dX2_times_64 rfl ?_
      refine g_aload_n dX2_times_66 rfl rfl ?_
      refine g_getf dX2_times_67 fX2_18 hq rfl ?_
      refine g_lload dX2_times_70 rfl ?_
      refine cVlE (st := [.long (lN nu)]) dX2_times_72 (c_remainderBy G (d + 1) n ex h (hB0) hN (by omega) (by omega)) sX2_37 ((hB0).cell) rfl rfl (by simp only [g_rm]; omega) (by simp only [g_rm]; omega) (Nat.le_of_ble_eq_true rfl) ⟨Nat.le_of_ble_eq_true rfl, Nat.le_of_ble_eq_true rfl⟩ (fun r26 h23 fr24 p25 => ?_)
      cases g_fr0 fr24
      subst p25
      refine cSl (st := []) dX2_times_75 (c_gcd G (d + 1) n ex h (by omega) (by omega)) sX2_33 rfl (by simp only [g_rm]; omega) (by simp only [g_rm]; omega) (Nat.le_of_ble_eq_true rfl) ⟨Nat.le_of_ble_eq_true rfl, Nat.le_of_ble_eq_true rfl⟩ (fun r30 h27 fr28 p29 => ?_)
      cases g_fr0 fr28
      rw [← hfb] at p29
      subst p29
      refine g_lstore (ls' := [(13, .long (lN fb)), (11, .long (lN fa)), (9, .long (lN nl)), (7, .long (lN nu)), (5, .long (lN c)), (0, .ref q), (1, .long (lN up)), (3, .long (lN low))]) dX2_times_78 (by decide) rfl ?_
      refine g_aload_n dX2_times_80 rfl rfl ?_
      refine g_getf dX2_times_81 fX2_12 hq rfl ?_
      refine g_lload dX2_times_84 rfl ?_
      refine cVvE (st := []) dX2_times_86 (c_divideBy G (d + 1) n ex h (hA) hN (by omega) (by omega)) sX2_41 ((hA).cell) rfl rfl (by simp only [g_rm]; omega) (by simp only [g_rm]; omega) (Nat.le_of_ble_eq_true rfl) ⟨Nat.le_of_ble_eq_true rfl, Nat.le_of_ble_eq_true rfl⟩ (fun h31 fr32 p33 => ?_)
      refine g_aload_n dX2_times_89 rfl rfl ?_
      refine g_getf dX2_times_90 fX2_18 (g_fr.at fr32 (by simp) hq) rfl ?_
      refine g_lload dX2_times_93 rfl ?_
      refine cVvE (st := []) dX2_times_95 (c_divideBy G (d + 1) n ex h31 ((hB0).fr fr32 (by simp) (by simp)) hN (by omega) (by omega)) sX2_41 (((hB0).fr fr32 (by simp) (by simp)).cell) rfl rfl (by simp only [g_rm]; omega) (by simp only [g_rm]; omega) (Nat.le_of_ble_eq_true rfl) ⟨Nat.le_of_ble_eq_true rfl, Nat.le_of_ble_eq_true rfl⟩ (fun h35 fr36 p37 => ?_)
      refine g_aload_n dX2_times_98 rfl rfl ?_
      refine g_getf dX2_times_99 fX2_12 (g_fr.at fr36 (by simp) (g_fr.at fr32 (by simp) hq)) rfl ?_
      refine g_lload dX2_times_102 rfl ?_
      refine g_lload dX2_times_104 rfl ?_
      refine g_ldivN dX2_times_106 (by omega) (by omega) (by omega) ?_
      refine cVvE (st := []) dX2_times_107 (c_multiplyBy G d n ex h35 ((p33).fr fr36 (by simp) (by simp)) hN (by omega) (by omega)) sX2_44 (((p33).fr fr36 (by simp) (by simp)).cell) rfl rfl (by simp only [g_rm]; omega) (by simp only [g_rm]; omega) (Nat.le_of_ble_eq_true rfl) ⟨Nat.le_of_ble_eq_true rfl, Nat.le_of_ble_eq_true rfl⟩ (fun h39 fr40 p41 => ?_)
      refine g_aload_n dX2_times_110 rfl rfl ?_
      refine g_getf dX2_times_111 fX2_18 (g_fr.at fr40 (by simp) (g_fr.at fr36 (by simp) (g_fr.at fr32 (by simp) hq))) rfl ?_
      refine g_lload dX2_times_114 rfl ?_
      refine g_lload dX2_times_116 rfl ?_
      refine g_ldivN dX2_times_118 (by omega) (by omega) (by omega) ?_
      refine cVvE (st := []) dX2_times_119 (c_multiplyBy G d n ex h39 ((p37).fr fr40 (by simp) (by simp)) hN (by omega) (by omega)) sX2_44 (((p37).fr fr40 (by simp) (by simp)).cell) rfl rfl (by simp only [g_rm]; omega) (by simp only [g_rm]; omega) (Nat.le_of_ble_eq_true rfl) ⟨Nat.le_of_ble_eq_true rfl, Nat.le_of_ble_eq_true rfl⟩ (fun h43 fr44 p45 => ?_)
      exact e_v dX2_times_122 rfl (((((g_fr.rf).tr fr32 (by simp)).tr fr36 (by simp)).tr fr40 (by simp)).tr fr44 (by simp)) ⟨_, _, ⟨g_fr.at fr44 (by simp) (g_fr.at fr40 (by simp) (g_fr.at fr36 (by simp) (g_fr.at fr32 (by simp) hq))), (p41).fr fr44 (by simp) (by simp), p45⟩, F.2.2.2.2.2.2.2.2.2.2.2.2.2.2.2.2.2.2.1, F.2.2.2.2.2.2.2.2.2.2.2.2.2.2.2.2.2.1 hB, F.2.2.2.2.2.2.2.2.2.2.2.2.2.2.2.2.2.2.2, F.2.2.2.2.2.2.2.2.2.2.2.2.2.2.2.1, F.2.2.2.2.2.2.2.2.2.2.2.2.2.2.2.2.1⟩ (by decide) (by decide)
    · exact absurd c8 (by omega)
