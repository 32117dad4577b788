/-- the pairs' sure draws behind a draw, as the model finds them -/
def swm (v w l df : Nat → Nat) (lu ll dr : Nat) (sw : Nat → Int32) (k : Nat) : Int32 := if sw k = -1 ∧ t_ge v lu ll (w k) (l k) (df (w k)) (df (l k)) then nI dr else sw k
theorem swm_n {v w l df : Nat → Nat} {lu ll dr k : Nat} {sw : Nat → Int32} (h : ¬ sw k = -1) : swm v w l df lu ll dr sw k = sw k := if_neg (fun q => h q.1)
theorem mx_u {sw sv : Nat → Int32} {i : Nat} {x : Int32} (h : x = sv i) : upd (mx i sw sv) i x = mx (i + 1) sw sv := by
  funext k
  unfold upd mx
  by_cases q : k = i
  · rw [if_pos q, if_pos (by omega), h, q]
  · rw [if_neg q]
    by_cases z : k < i
    · rw [if_pos z, if_pos (by omega)]
    · rw [if_neg z, if_neg (by omega)]
theorem mx_e {sw sv : Nat → Int32} {i : Nat} (h : sv i = sw i) : mx i sw sv = mx (i + 1) sw sv := by
  rw [← mx_u (sw := sw) (sv := sv) (i := i) rfl, h]
  funext k
  unfold upd mx
  by_cases q : k = i
  · rw [if_pos q, if_neg (by omega), q]
  · rw [if_neg q]
set_option maxHeartbeats 4000000 in
set_option maxRecDepth 100000 in
theorem lp_count (G : gG) (d : Nat) (KK : gK) (n : Nat) (ex : Bool) (h0 : gH) {cd wt : Int32} {s : Nat → Nat} {k m sg cm sd mm dr dd bk rt : Nat} {v w l df : Nat → Nat} {sw : Nat → Int32} {V : Nat → Option Nat} {bx sv : Int32} (hmm : mm ≤ 16) (hwl : ∀ k, k < mm → w k < 8 ∧ l k < 8) (hV : ∀ k, k < mm → v (l k) < v (w k) ∧ v (w k) ≤ 20000) (hdf : ∀ c, df c ≤ 200) (hcm : cm = 0) (hl1 : s 9 ≤ 1000000) (hl2 : s 10 ≤ 1000000) (hdr : dr ≤ 200)
    (kk : ∀ (h : gH) (al : Nat) (V1 : Nat → Option Nat), al ≤ 1 → (al = 1 ↔ ∀ k, k < mm → ¬ (swm v w l df (s 9) (s 10) dr sw) k = -1) → Bn h (MX cd s k m sg cm sd mm dr dd bk rt wt) V1 → (∀ u, ¬ u = 2 → ¬ u = 3 → V1 u = V u) → h 143 = some (.inl (0, 8, .inl (fun k => nI (v k)))) → h 149 = some (.inl (0, 16, .inl (fun k => nI (w k)))) → h 150 = some (.inl (0, 16, .inl (fun k => nI (l k)))) → h 151 = some (.inl (0, 16, .inl (mx mm sw (swm v w l df (s 9) (s 10) dr sw)))) → h 152 = some (.inl (0, 8, .inl (fun k => nI (df k)))) → g_fr [142, 151, 152, 156, 157] h0 h → g_W G mX11_count (g_rm (d + 4) 0 0) KK n ex h 0 0 198 [(4, .int (nI mm)), (3, .int (nI al)), (0, .ref 142), (1, .int bx), (2, .int sv)] []) : ∀ (t i al : Nat) (V1 : Nat → Option Nat) (h : gH), mm - i < t → i ≤ mm → al ≤ 1 → (al = 1 ↔ ∀ k, k < i → ¬ (swm v w l df (s 9) (s 10) dr sw) k = -1) → Bn h (MX cd s k m sg cm sd mm dr dd bk rt wt) V1 → (∀ u, ¬ u = 2 → ¬ u = 3 → V1 u = V u) → h 143 = some (.inl (0, 8, .inl (fun k => nI (v k)))) → h 149 = some (.inl (0, 16, .inl (fun k => nI (w k)))) → h 150 = some (.inl (0, 16, .inl (fun k => nI (l k)))) → h 151 = some (.inl (0, 16, .inl (mx i sw (swm v w l df (s 9) (s 10) dr sw)))) → h 152 = some (.inl (0, 8, .inl (fun k => nI (df k)))) → g_fr [142, 151, 152, 156, 157] h0 h →
    g_W G mX11_count (g_rm (d + 4) 0 0) KK n ex h 0 0 99 [(4, .int (nI i)), (3, .int (nI al)), (0, .ref 142), (1, .int bx), (2, .int sv)] [] := by
  intro t
  induction t with
  | zero => intro i al V1 h hm; exact absurd hm (by omega)
  | succ t ih =>
    intro i al V1 h ht hi hal1 hal2 hN hVV a3 a9 a10 a11 a12 hf
    have m0 : Mc h cd s k m sg cm sd mm dr dd bk rt wt := hN.cell
    refine g_iload dX11_count_99 rfl ?_
    refine g_aload_n dX11_count_101 rfl rfl ?_
    refine g_getf (v := .int (nI mm)) dX11_count_102 fX11_250 m0 rfl ?_
    refine g_icmp_geN (tgt := 198) dX11_count_105 (by decide) (by omega) (by omega) (fun c105 => ?_) (fun c105 => ?_)
    · refine g_pick [0, 1, 2, 3, 4] (ls' := [(4, .int (nI i)), (3, .int (nI al)), (0, .ref 142), (1, .int bx), (2, .int sv)]) rfl ?_
      have e : i = mm := by omega
      subst e
      exact kk _ al V1 hal1 hal2 hN hVV a3 a9 a10 a11 a12 hf
    · have hw9 := hwl i (by omega)
      have hv9 := hV i (by omega)
      have hd1 := hdf (w i)
      have hd2 := hdf (l i)
      have ra : RA v df (w i) (l i) ≤ 40000 ^ (0 + 200 + 200) := by
        have := pr_mul (pr_mul (x := 1) (a := 0) (by decide) (show 2 * v (w i) ≤ 40000 by omega) hd1) (show 2 * v (l i) ≤ 40000 by omega) hd2
        rw [Nat.one_mul] at this; exact this
      have rb : RB v df (w i) (l i) ≤ 40000 ^ (0 + 400) := by
        have := pr_mul (x := 1) (a := 0) (by decide) (show v (w i) + v (l i) ≤ 40000 by omega) (show df (w i) + df (l i) ≤ 400 by omega)
        rw [Nat.one_mul] at this; exact this
      have rm1 : RA v df (w i) (l i) * s 9 < RM := pr_room (e := 0 + 200 + 200 + 2) (by rw [Nat.pow_add]; exact Nat.mul_le_mul ra (by omega)) (by decide)
      have rm2 : RB v df (w i) (l i) * s 10 < RM := pr_room (e := 0 + 400 + 2) (by rw [Nat.pow_add]; exact Nat.mul_le_mul rb (by omega)) (by decide)
      refine g_aload_n dX11_count_108 rfl rfl ?_
      refine g_getf (v := .ref 151) dX11_count_109 fX11_58 m0 rfl ?_
      refine g_iload dX11_count_112 rfl ?_
      refine g_ialdN dX11_count_114 a11 (by omega) (by decide) ?_
      refine g_top (show (mx i sw (swm v w l df (s 9) (s 10) dr sw)) i = sw i from mx_o) ?_
      refine g_iconst (v := -1) dX11_count_115 (by decide) ?_
      refine g_icmp_ne (tgt := 171) dX11_count_116 (by decide) (fun c116 => ?_) (fun c116 => ?_)
      · refine g_iload_n dX11_count_171 rfl rfl ?_
        refine g_if_eqN (tgt := 190) dX11_count_172 (by decide) (by omega) (fun c172 => ?_) (fun c172 => ?_)
        · refine g_iconst (v := nI 0) dX11_count_190 (by decide) ?_
          refine g_istore_n (ls' := [(3, .int (nI 0)), (4, .int (nI i)), (0, .ref 142), (1, .int bx), (2, .int sv)]) dX11_count_191 rfl (by decide) rfl ?_
          refine g_iincN (z := 1) (ls' := [(4, .int (nI (i + 1))), (3, .int (nI 0)), (0, .ref 142), (1, .int bx), (2, .int sv)]) dX11_count_192 rfl (by decide) rfl ?_
          refine g_goto (tgt := 99) dX11_count_195 (by decide) ?_
          refine g_pick [0, 1, 2, 3, 4] (ls' := [(4, .int (nI (i + 1))), (3, .int (nI 0)), (0, .ref 142), (1, .int bx), (2, .int sv)]) rfl ?_
          exact ih (i + 1) 0 _ _ (by omega) (by omega) (by decide) ⟨fun z => absurd z (by decide), fun z => by have := hal2.mpr (fun k hk => z k (by omega)); omega⟩ hN hVV a3 a9 a10 (by rw [← mx_e (swm_n c116)]; exact a11) a12 (hf)
        · refine g_aload_n dX11_count_175 rfl rfl ?_
          refine g_getf (v := .ref 151) dX11_count_176 fX11_58 m0 rfl ?_
          refine g_iload dX11_count_179 rfl ?_
          refine g_ialdN dX11_count_181 a11 (by omega) (by decide) ?_
          refine g_top (show (mx i sw (swm v w l df (s 9) (s 10) dr sw)) i = sw i from mx_o) ?_
          refine g_iconst (v := -1) dX11_count_182 (by decide) ?_
          refine g_icmp_eq (tgt := 190) dX11_count_183 (by decide) (fun c183 => ?_) (fun c183 => ?_)
          · exact absurd c183 c116
          · have hnew : ¬ (swm v w l df (s 9) (s 10) dr sw) i = -1 := by rw [swm_n c116]; exact c116
            refine g_iconst (v := nI 1) dX11_count_186 (by decide) ?_
            refine g_goto (tgt := 191) dX11_count_187 (by decide) ?_
            refine g_istore_n (ls' := [(3, .int (nI 1)), (4, .int (nI i)), (0, .ref 142), (1, .int bx), (2, .int sv)]) dX11_count_191 rfl (by decide) rfl ?_
            refine g_iincN (z := 1) (ls' := [(4, .int (nI (i + 1))), (3, .int (nI 1)), (0, .ref 142), (1, .int bx), (2, .int sv)]) dX11_count_192 rfl (by decide) rfl ?_
            refine g_goto (tgt := 99) dX11_count_195 (by decide) ?_
            refine g_pick [0, 1, 2, 3, 4] (ls' := [(4, .int (nI (i + 1))), (3, .int (nI 1)), (0, .ref 142), (1, .int bx), (2, .int sv)]) rfl ?_
            exact ih (i + 1) 1 _ _ (by omega) (by omega) (by decide) ⟨fun _ k hk => by by_cases q : k = i; (subst q; exact hnew); exact hal2.mp (by omega) k (by omega), fun _ => rfl⟩ hN hVV a3 a9 a10 (by rw [← mx_e (swm_n c116)]; exact a11) a12 (hf)
      · refine g_aload_n dX11_count_119 rfl rfl ?_
        refine g_iload dX11_count_120 rfl ?_
        refine g_iconst (v := nI 2) dX11_count_122 (by decide) ?_
        refine g_iconst (v := nI 3) dX11_count_123 (by decide) ?_
        refine cVv (st := []) dX11_count_124 (c_ratio G d n ex h hN a3 a9 a10 a12 hmm hwl hV (i := i) (by omega) (p := 2) (q := 3) (by decide) (by decide) (by decide) hdf (by omega)) sX11_284 m0 rfl rfl (by simp only [g_rm]; omega) (by simp only [g_rm]; omega) (Nat.le_of_ble_eq_true rfl) ⟨Nat.le_of_ble_eq_true rfl, Nat.le_of_ble_eq_true rfl⟩ (fun h1 fr2 p3 => ?_)
        have hN1 := p3
        rw [if_pos hcm, if_pos hcm] at hN1
        refine g_aload_n dX11_count_127 rfl rfl ?_
        refine g_iconst (v := nI 2) dX11_count_128 (by decide) ?_
        refine g_aload_n dX11_count_129 rfl rfl ?_
        refine g_getf (v := .int (nI (s 9))) dX11_count_130 fX11_30 (fr2.at (by intro q; simp only [List.mem_cons, List.not_mem_nil, or_false] at q; omega) m0) rfl ?_
        refine g_i2lN dX11_count_133 (by omega) ?_
        refine cVv (st := []) dX11_count_134 (c_mtimes G (d + 2) n ex h1 hN1 (s := 2) (F := (s 9)) (by decide) ((va_n (by decide)).trans va_s) (by omega) rm1) sX11_192 (fr2.at (by intro q; simp only [List.mem_cons, List.not_mem_nil, or_false] at q; omega) m0) rfl rfl (by simp only [g_rm]; omega) (by simp only [g_rm]; omega) (Nat.le_of_ble_eq_true rfl) ⟨Nat.le_of_ble_eq_true rfl, Nat.le_of_ble_eq_true rfl⟩ (fun h5 fr6 p7 => ?_)
        have hN9 := p7
        refine g_aload_n dX11_count_137 rfl rfl ?_
        refine g_iconst (v := nI 3) dX11_count_138 (by decide) ?_
        refine g_aload_n dX11_count_139 rfl rfl ?_
        refine g_getf (v := .int (nI (s 10))) dX11_count_140 fX11_33 (fr6.at (by intro q; simp only [List.mem_cons, List.not_mem_nil, or_false] at q; omega) (fr2.at (by intro q; simp only [List.mem_cons, List.not_mem_nil, or_false] at q; omega) m0)) rfl ?_
        refine g_i2lN dX11_count_143 (by omega) ?_
        refine cVv (st := []) dX11_count_144 (c_mtimes G (d + 2) n ex h5 hN9 (s := 3) (F := (s 10)) (by decide) ((va_n (by decide)).trans va_s) (by omega) rm2) sX11_192 (fr6.at (by intro q; simp only [List.mem_cons, List.not_mem_nil, or_false] at q; omega) (fr2.at (by intro q; simp only [List.mem_cons, List.not_mem_nil, or_false] at q; omega) m0)) rfl rfl (by simp only [g_rm]; omega) (by simp only [g_rm]; omega) (Nat.le_of_ble_eq_true rfl) ⟨Nat.le_of_ble_eq_true rfl, Nat.le_of_ble_eq_true rfl⟩ (fun h10 fr11 p12 => ?_)
        have hN14 := p12
        refine g_aload_n dX11_count_147 rfl rfl ?_
        refine g_getf (v := .ref 151) dX11_count_148 fX11_58 (fr11.at (by intro q; simp only [List.mem_cons, List.not_mem_nil, or_false] at q; omega) (fr6.at (by intro q; simp only [List.mem_cons, List.not_mem_nil, or_false] at q; omega) (fr2.at (by intro q; simp only [List.mem_cons, List.not_mem_nil, or_false] at q; omega) m0))) rfl ?_
        refine g_iload dX11_count_151 rfl ?_
        refine g_aload_n dX11_count_153 rfl rfl ?_
        refine g_iconst (v := nI 2) dX11_count_154 (by decide) ?_
        refine g_iconst (v := nI 3) dX11_count_155 (by decide) ?_
        refine cVi (st := [.int (nI i), .ref 151]) dX11_count_156 (c_mcompare G (d + 3) n ex h10 hN14 (by decide) (by decide) ((va_n (by decide)).trans va_s) va_s) sX11_203 (fr11.at (by intro q; simp only [List.mem_cons, List.not_mem_nil, or_false] at q; omega) (fr6.at (by intro q; simp only [List.mem_cons, List.not_mem_nil, or_false] at q; omega) (fr2.at (by intro q; simp only [List.mem_cons, List.not_mem_nil, or_false] at q; omega) m0))) rfl rfl (by simp only [g_rm]; omega) (by simp only [g_rm]; omega) (Nat.le_of_ble_eq_true rfl) ⟨Nat.le_of_ble_eq_true rfl, Nat.le_of_ble_eq_true rfl⟩ (fun r18 h15 fr16 p17 => ?_)
        cases g_fr0 fr16
        subst p17
        refine g_if_lt (tgt := 169) dX11_count_159 (by decide) (fun c159 => ?_) (fun c159 => ?_)
        · have hsv : (swm v w l df (s 9) (s 10) dr sw) i = -1 := (if_neg (fun q => absurd q.2 (Nat.not_le.mpr (cp_lt.mp c159)))).trans c116
          refine g_iconst (v := -1) dX11_count_169 (by decide) ?_
          refine g_iastN dX11_count_170 (fr11.at (by intro q; simp only [List.mem_cons, List.not_mem_nil, or_false] at q; omega) (fr6.at (by intro q; simp only [List.mem_cons, List.not_mem_nil, or_false] at q; omega) (fr2.at (by intro q; simp only [List.mem_cons, List.not_mem_nil, or_false] at q; omega) a11))) (by omega) (by decide) ?_
          refine g_iload_n dX11_count_171 rfl rfl ?_
          refine g_if_eqN (tgt := 190) dX11_count_172 (by decide) (by omega) (fun c172 => ?_) (fun c172 => ?_)
          · refine g_iconst (v := nI 0) dX11_count_190 (by decide) ?_
            refine g_istore_n (ls' := [(3, .int (nI 0)), (4, .int (nI i)), (0, .ref 142), (1, .int bx), (2, .int sv)]) dX11_count_191 rfl (by decide) rfl ?_
            refine g_iincN (z := 1) (ls' := [(4, .int (nI (i + 1))), (3, .int (nI 0)), (0, .ref 142), (1, .int bx), (2, .int sv)]) dX11_count_192 rfl (by decide) rfl ?_
            refine g_goto (tgt := 99) dX11_count_195 (by decide) ?_
            refine g_pick [0, 1, 2, 3, 4] (ls' := [(4, .int (nI (i + 1))), (3, .int (nI 0)), (0, .ref 142), (1, .int bx), (2, .int sv)]) rfl ?_
            exact ih (i + 1) 0 _ _ (by omega) (by omega) (by decide) ⟨fun z => absurd z (by decide), fun z => by have := hal2.mpr (fun k hk => z k (by omega)); omega⟩ hN14 (fun u h2 h3 => by rw [va_n h3, va_n h2, va_n h3, va_n h2]; exact hVV u h2 h3) (g_ne (by decide) (fr11.at (by intro q; simp only [List.mem_cons, List.not_mem_nil, or_false] at q; omega) (fr6.at (by intro q; simp only [List.mem_cons, List.not_mem_nil, or_false] at q; omega) (fr2.at (by intro q; simp only [List.mem_cons, List.not_mem_nil, or_false] at q; omega) a3)))) (g_ne (by decide) (fr11.at (by intro q; simp only [List.mem_cons, List.not_mem_nil, or_false] at q; omega) (fr6.at (by intro q; simp only [List.mem_cons, List.not_mem_nil, or_false] at q; omega) (fr2.at (by intro q; simp only [List.mem_cons, List.not_mem_nil, or_false] at q; omega) a9)))) (g_ne (by decide) (fr11.at (by intro q; simp only [List.mem_cons, List.not_mem_nil, or_false] at q; omega) (fr6.at (by intro q; simp only [List.mem_cons, List.not_mem_nil, or_false] at q; omega) (fr2.at (by intro q; simp only [List.mem_cons, List.not_mem_nil, or_false] at q; omega) a10)))) (by rw [← mx_u hsv.symm]; exact g_eq) (g_ne (by decide) (fr11.at (by intro q; simp only [List.mem_cons, List.not_mem_nil, or_false] at q; omega) (fr6.at (by intro q; simp only [List.mem_cons, List.not_mem_nil, or_false] at q; omega) (fr2.at (by intro q; simp only [List.mem_cons, List.not_mem_nil, or_false] at q; omega) a12)))) (((((hf).tr fr2 (by simp)).tr fr6 (by simp)).tr fr11 (by simp)).up (by simp))
          · refine g_aload_n dX11_count_175 rfl rfl ?_
            refine g_getf (v := .ref 151) dX11_count_176 fX11_58 (g_ne (by decide) (fr11.at (by intro q; simp only [List.mem_cons, List.not_mem_nil, or_false] at q; omega) (fr6.at (by intro q; simp only [List.mem_cons, List.not_mem_nil, or_false] at q; omega) (fr2.at (by intro q; simp only [List.mem_cons, List.not_mem_nil, or_false] at q; omega) m0)))) rfl ?_
            refine g_iload dX11_count_179 rfl ?_
            refine g_ialdN dX11_count_181 g_eq (by omega) (by decide) ?_
            refine g_top (show (upd (mx i sw (swm v w l df (s 9) (s 10) dr sw)) i (-1)) i = (-1) from pk_us) ?_
            refine g_iconst (v := -1) dX11_count_182 (by decide) ?_
            refine g_icmp_eq (tgt := 190) dX11_count_183 (by decide) (fun c183 => ?_) (fun c183 => ?_)
            · have hnew : (swm v w l df (s 9) (s 10) dr sw) i = -1 := hsv
              refine g_iconst (v := nI 0) dX11_count_190 (by decide) ?_
              refine g_istore_n (ls' := [(3, .int (nI 0)), (4, .int (nI i)), (0, .ref 142), (1, .int bx), (2, .int sv)]) dX11_count_191 rfl (by decide) rfl ?_
              refine g_iincN (z := 1) (ls' := [(4, .int (nI (i + 1))), (3, .int (nI 0)), (0, .ref 142), (1, .int bx), (2, .int sv)]) dX11_count_192 rfl (by decide) rfl ?_
              refine g_goto (tgt := 99) dX11_count_195 (by decide) ?_
              refine g_pick [0, 1, 2, 3, 4] (ls' := [(4, .int (nI (i + 1))), (3, .int (nI 0)), (0, .ref 142), (1, .int bx), (2, .int sv)]) rfl ?_
              exact ih (i + 1) 0 _ _ (by omega) (by omega) (by decide) ⟨fun z => absurd z (by decide), fun z => absurd hnew (z i (by omega))⟩ hN14 (fun u h2 h3 => by rw [va_n h3, va_n h2, va_n h3, va_n h2]; exact hVV u h2 h3) (g_ne (by decide) (fr11.at (by intro q; simp only [List.mem_cons, List.not_mem_nil, or_false] at q; omega) (fr6.at (by intro q; simp only [List.mem_cons, List.not_mem_nil, or_false] at q; omega) (fr2.at (by intro q; simp only [List.mem_cons, List.not_mem_nil, or_false] at q; omega) a3)))) (g_ne (by decide) (fr11.at (by intro q; simp only [List.mem_cons, List.not_mem_nil, or_false] at q; omega) (fr6.at (by intro q; simp only [List.mem_cons, List.not_mem_nil, or_false] at q; omega) (fr2.at (by intro q; simp only [List.mem_cons, List.not_mem_nil, or_false] at q; omega) a9)))) (g_ne (by decide) (fr11.at (by intro q; simp only [List.mem_cons, List.not_mem_nil, or_false] at q; omega) (fr6.at (by intro q; simp only [List.mem_cons, List.not_mem_nil, or_false] at q; omega) (fr2.at (by intro q; simp only [List.mem_cons, List.not_mem_nil, or_false] at q; omega) a10)))) (by rw [← mx_u hsv.symm]; exact g_eq) (g_ne (by decide) (fr11.at (by intro q; simp only [List.mem_cons, List.not_mem_nil, or_false] at q; omega) (fr6.at (by intro q; simp only [List.mem_cons, List.not_mem_nil, or_false] at q; omega) (fr2.at (by intro q; simp only [List.mem_cons, List.not_mem_nil, or_false] at q; omega) a12)))) (((((hf).tr fr2 (by simp)).tr fr6 (by simp)).tr fr11 (by simp)).up (by simp))
            · exact absurd rfl c183
        · have hsv : (swm v w l df (s 9) (s 10) dr sw) i = nI dr := if_pos ⟨c116, Nat.not_lt.mp (fun q => c159 (cp_lt.mpr q))⟩
          refine g_aload_n dX11_count_162 rfl rfl ?_
          refine g_getf (v := .int (nI dr)) dX11_count_163 fX11_288 (fr11.at (by intro q; simp only [List.mem_cons, List.not_mem_nil, or_false] at q; omega) (fr6.at (by intro q; simp only [List.mem_cons, List.not_mem_nil, or_false] at q; omega) (fr2.at (by intro q; simp only [List.mem_cons, List.not_mem_nil, or_false] at q; omega) m0))) rfl ?_
          refine g_goto (tgt := 170) dX11_count_166 (by decide) ?_
          refine g_iastN dX11_count_170 (fr11.at (by intro q; simp only [List.mem_cons, List.not_mem_nil, or_false] at q; omega) (fr6.at (by intro q; simp only [List.mem_cons, List.not_mem_nil, or_false] at q; omega) (fr2.at (by intro q; simp only [List.mem_cons, List.not_mem_nil, or_false] at q; omega) a11))) (by omega) (by decide) ?_
          refine g_iload_n dX11_count_171 rfl rfl ?_
          refine g_if_eqN (tgt := 190) dX11_count_172 (by decide) (by omega) (fun c172 => ?_) (fun c172 => ?_)
          · refine g_iconst (v := nI 0) dX11_count_190 (by decide) ?_
            refine g_istore_n (ls' := [(3, .int (nI 0)), (4, .int (nI i)), (0, .ref 142), (1, .int bx), (2, .int sv)]) dX11_count_191 rfl (by decide) rfl ?_
            refine g_iincN (z := 1) (ls' := [(4, .int (nI (i + 1))), (3, .int (nI 0)), (0, .ref 142), (1, .int bx), (2, .int sv)]) dX11_count_192 rfl (by decide) rfl ?_
            refine g_goto (tgt := 99) dX11_count_195 (by decide) ?_
            refine g_pick [0, 1, 2, 3, 4] (ls' := [(4, .int (nI (i + 1))), (3, .int (nI 0)), (0, .ref 142), (1, .int bx), (2, .int sv)]) rfl ?_
            exact ih (i + 1) 0 _ _ (by omega) (by omega) (by decide) ⟨fun z => absurd z (by decide), fun z => by have := hal2.mpr (fun k hk => z k (by omega)); omega⟩ hN14 (fun u h2 h3 => by rw [va_n h3, va_n h2, va_n h3, va_n h2]; exact hVV u h2 h3) (g_ne (by decide) (fr11.at (by intro q; simp only [List.mem_cons, List.not_mem_nil, or_false] at q; omega) (fr6.at (by intro q; simp only [List.mem_cons, List.not_mem_nil, or_false] at q; omega) (fr2.at (by intro q; simp only [List.mem_cons, List.not_mem_nil, or_false] at q; omega) a3)))) (g_ne (by decide) (fr11.at (by intro q; simp only [List.mem_cons, List.not_mem_nil, or_false] at q; omega) (fr6.at (by intro q; simp only [List.mem_cons, List.not_mem_nil, or_false] at q; omega) (fr2.at (by intro q; simp only [List.mem_cons, List.not_mem_nil, or_false] at q; omega) a9)))) (g_ne (by decide) (fr11.at (by intro q; simp only [List.mem_cons, List.not_mem_nil, or_false] at q; omega) (fr6.at (by intro q; simp only [List.mem_cons, List.not_mem_nil, or_false] at q; omega) (fr2.at (by intro q; simp only [List.mem_cons, List.not_mem_nil, or_false] at q; omega) a10)))) (by rw [← mx_u hsv.symm]; exact g_eq) (g_ne (by decide) (fr11.at (by intro q; simp only [List.mem_cons, List.not_mem_nil, or_false] at q; omega) (fr6.at (by intro q; simp only [List.mem_cons, List.not_mem_nil, or_false] at q; omega) (fr2.at (by intro q; simp only [List.mem_cons, List.not_mem_nil, or_false] at q; omega) a12)))) (((((hf).tr fr2 (by simp)).tr fr6 (by simp)).tr fr11 (by simp)).up (by simp))
          · refine g_aload_n dX11_count_175 rfl rfl ?_
            refine g_getf (v := .ref 151) dX11_count_176 fX11_58 (g_ne (by decide) (fr11.at (by intro q; simp only [List.mem_cons, List.not_mem_nil, or_false] at q; omega) (fr6.at (by intro q; simp only [List.mem_cons, List.not_mem_nil, or_false] at q; omega) (fr2.at (by intro q; simp only [List.mem_cons, List.not_mem_nil, or_false] at q; omega) m0)))) rfl ?_
            refine g_iload dX11_count_179 rfl ?_
            refine g_ialdN dX11_count_181 g_eq (by omega) (by decide) ?_
            refine g_top (show (upd (mx i sw (swm v w l df (s 9) (s 10) dr sw)) i (nI dr)) i = nI dr from pk_us) ?_
            refine g_iconst (v := -1) dX11_count_182 (by decide) ?_
            refine g_icmp_eq (tgt := 190) dX11_count_183 (by decide) (fun c183 => ?_) (fun c183 => ?_)
            · exact absurd c183 (ne_m1 (by omega))
            · have hnew : ¬ (swm v w l df (s 9) (s 10) dr sw) i = -1 := by rw [hsv]; exact ne_m1 (by omega)
              refine g_iconst (v := nI 1) dX11_count_186 (by decide) ?_
              refine g_goto (tgt := 191) dX11_count_187 (by decide) ?_
              refine g_istore_n (ls' := [(3, .int (nI 1)), (4, .int (nI i)), (0, .ref 142), (1, .int bx), (2, .int sv)]) dX11_count_191 rfl (by decide) rfl ?_
              refine g_iincN (z := 1) (ls' := [(4, .int (nI (i + 1))), (3, .int (nI 1)), (0, .ref 142), (1, .int bx), (2, .int sv)]) dX11_count_192 rfl (by decide) rfl ?_
              refine g_goto (tgt := 99) dX11_count_195 (by decide) ?_
              refine g_pick [0, 1, 2, 3, 4] (ls' := [(4, .int (nI (i + 1))), (3, .int (nI 1)), (0, .ref 142), (1, .int bx), (2, .int sv)]) rfl ?_
              exact ih (i + 1) 1 _ _ (by omega) (by omega) (by decide) ⟨fun _ k hk => by by_cases q : k = i; (subst q; exact hnew); exact hal2.mp (by omega) k (by omega), fun _ => rfl⟩ hN14 (fun u h2 h3 => by rw [va_n h3, va_n h2, va_n h3, va_n h2]; exact hVV u h2 h3) (g_ne (by decide) (fr11.at (by intro q; simp only [List.mem_cons, List.not_mem_nil, or_false] at q; omega) (fr6.at (by intro q; simp only [List.mem_cons, List.not_mem_nil, or_false] at q; omega) (fr2.at (by intro q; simp only [List.mem_cons, List.not_mem_nil, or_false] at q; omega) a3)))) (g_ne (by decide) (fr11.at (by intro q; simp only [List.mem_cons, List.not_mem_nil, or_false] at q; omega) (fr6.at (by intro q; simp only [List.mem_cons, List.not_mem_nil, or_false] at q; omega) (fr2.at (by intro q; simp only [List.mem_cons, List.not_mem_nil, or_false] at q; omega) a9)))) (g_ne (by decide) (fr11.at (by intro q; simp only [List.mem_cons, List.not_mem_nil, or_false] at q; omega) (fr6.at (by intro q; simp only [List.mem_cons, List.not_mem_nil, or_false] at q; omega) (fr2.at (by intro q; simp only [List.mem_cons, List.not_mem_nil, or_false] at q; omega) a10)))) (by rw [← mx_u hsv.symm]; exact g_eq) (g_ne (by decide) (fr11.at (by intro q; simp only [List.mem_cons, List.not_mem_nil, or_false] at q; omega) (fr6.at (by intro q; simp only [List.mem_cons, List.not_mem_nil, or_false] at q; omega) (fr2.at (by intro q; simp only [List.mem_cons, List.not_mem_nil, or_false] at q; omega) a12)))) (((((hf).tr fr2 (by simp)).tr fr6 (by simp)).tr fr11 (by simp)).up (by simp))
set_option maxHeartbeats 4000000 in
set_option maxRecDepth 100000 in
theorem c_mcountP (G : gG) (d n : Nat) (ex : Bool) (h : gH) {cd wt : Int32} {s : Nat → Nat} {k m sg cm sd mm dr dd bk rt : Nat} {v w l df : Nat → Nat} {rI sI sw : Nat → Int32} {V : Nat → Option Nat} {bx sv : Int32} {pn pd : Nat} (hN : Bn h (MX cd s k m sg cm sd mm dr dd bk rt wt) V) (a3 : h 143 = some (.inl (0, 8, .inl (fun k => nI (v k))))) (a9 : h 149 = some (.inl (0, 16, .inl (fun k => nI (w k))))) (a10 : h 150 = some (.inl (0, 16, .inl (fun k => nI (l k))))) (a5 : h 145 = some (.inl (1, 20000, .inl rI))) (a11 : h 151 = some (.inl (0, 16, .inl sw))) (a12 : h 152 = some (.inl (0, 8, .inl (fun k => nI (df k))))) (a13 : h 153 = some (.inl (1, 20000, .inl sI))) (hmm : mm ≤ 16) (hwl : ∀ k, k < mm → w k < 8 ∧ l k < 8) (hV : ∀ k, k < mm → v (l k) < v (w k) ∧ v (w k) ≤ 20000) (hdf : ∀ c, df c ≤ 199) (hl1 : s 9 ≤ 1000000) (hl2 : s 10 ≤ 1000000) (hdr : dr ≤ s 8) (hcap : s 8 ≤ 200) (hbx : (bx = -2 ∧ sv = -2) ∨ ∃ b, b < 20000 ∧ bx = nI b ∧ sv = sI b ∧ s_ok (sI b)) (hcm : cm = 0) : g_M G mX11_count (d + 5) 0 0 [.ref 142, .int bx] n ex h (q_v n ex [142, 151, 152, 156, 157] h (fun h' => ∃ V', Mc h' cd s k m (stP (cs_ (swm v w l (cdf df sv) (s 9) (s 10) dr sw) mm = mm) (s 8) dr) cm sd mm dr dd bk rt wt ∧ h' 151 = some (.inl (0, 16, .inl (mx mm sw (swm v w l (cdf df sv) (s 9) (s 10) dr sw)))) ∧ h' 152 = some (.inl (0, 8, .inl (fun k => nI (cdf df sv k)))) ∧ Bv h' V' ∧ ∀ u, ¬ u = 2 → ¬ u = 3 → V' u = V u)) := by
  have m0 : Mc h cd s k m sg cm sd mm dr dd bk rt wt := hN.cell
  refine g_enter (by decide) (Nat.le_of_ble_eq_true rfl) ?_
  show g_W G _ _ _ n ex h 0 0 0 [(0, .ref 142), (1, .int bx)] []
  rcases hbx with ⟨rfl, rfl⟩ | ⟨b, hb, rfl, rfl, hok⟩
  · skip
    refine g_bipush (v := -2) dX11_count_0 (by decide) ?_
    refine g_istore_n (ls' := [(2, .int (-2)), (0, .ref 142), (1, .int (-2))]) dX11_count_2 rfl (by decide) rfl ?_
    refine g_iload_n dX11_count_3 rfl rfl ?_
    refine g_bipush (v := -2) dX11_count_4 (by decide) ?_
    refine g_icmp_eq (tgt := 30) dX11_count_6 (by decide) (fun c6 => ?_) (fun c6 => ?_)
    · refine g_iconst (v := nI 1) dX11_count_30 (by decide) ?_
      refine g_istore_n (ls' := [(3, .int (nI 1)), (2, .int (-2)), (0, .ref 142), (1, .int (-2))]) dX11_count_31 rfl (by decide) rfl ?_
      refine g_aload_n dX11_count_32 rfl rfl ?_
      refine g_getf (v := .int (nI cm)) dX11_count_33 fX11_257 m0 rfl ?_
      refine g_if_eqN (tgt := 96) dX11_count_36 (by decide) (by omega) (fun c36 => ?_) (fun c36 => ?_)
      · refine g_iconst (v := nI 0) dX11_count_96 (by decide) ?_
        refine g_istore (ls' := [(4, .int (nI 0)), (3, .int (nI 1)), (2, .int (-2)), (0, .ref 142), (1, .int (-2))]) dX11_count_97 (by decide) rfl ?_
        refine g_pick [0, 1, 3, 4, 2] (ls' := [(4, .int (nI 0)), (3, .int (nI 1)), (0, .ref 142), (1, .int (-2)), (2, .int (-2))]) rfl ?_
        have ecd : cdf df (-2) = df := (cdf_2 df)
        refine lp_count G (d + 1) _ n ex h (V := V) (df := df) (sw := sw) hmm hwl hV (fun c9 => by have h8 := hdf c9; omega) hcm hl1 hl2 (by omega) (fun h9 al V9 xal1 xal2 xN xVV xa3 xa9 xa10 xa11 xa12 xf => ?_) (mm + 1) 0 1 V h (by omega) (by omega) (by decide) ⟨fun _ k hk => absurd hk (by omega), fun _ => rfl⟩ hN (fun _ _ _ => rfl) a3 a9 a10 (by rw [mx_0]; exact a11) a12 (g_fr.rf)
        refine g_aload_n dX11_count_198 rfl rfl ?_
        refine g_iload_n dX11_count_199 rfl rfl ?_
        refine g_if_eqN (tgt := 207) dX11_count_200 (by decide) (by omega) (fun c200 => ?_) (fun c200 => ?_)
        · have hno : ¬ cs_ (swm v w l (df) (s 9) (s 10) dr sw) mm = mm := fun q => by have := xal2.mpr (cs_all.mp q); omega
          refine g_aload_n dX11_count_207 rfl rfl ?_
          refine g_getf (v := .int (nI dr)) dX11_count_208 fX11_288 xN.cell rfl ?_
          refine g_aload_n dX11_count_211 rfl rfl ?_
          refine g_getf (v := .int (nI (s 8))) dX11_count_212 fX11_20 xN.cell rfl ?_
          refine g_icmp_neN (tgt := 222) dX11_count_215 (by decide) (by omega) (by omega) (fun c215 => ?_) (fun c215 => ?_)
          · refine g_iconst (v := nI 1) dX11_count_222 (by decide) ?_
            refine g_put (fs' := [.int cd, .ref 143, .int (nI (s 4)), .int (nI (s 7)), .int (nI (s 8)), .ref 144, .int (nI (s 5)), .int (nI (s 6)), .ref 145, .int (nI (s 9)), .int (nI (s 10)), .int (nI (s 11)), .int (nI (s 12)), .ref 146, .int (nI k), .ref 147, .int (nI m), .int (nI 1), .int (nI cm), .int (nI sd), .ref 148, .ref 149, .ref 150, .ref 151, .int (nI mm), .ref 152, .ref 153, .ref 154, .int (nI dr), .int (nI dd), .int (nI bk), .int wt, .ref 155, .int (nI rt), .ref 156, .ref 157, .ref 158, .ref 159, .ref 160, .ref 161, .ref 162, .ref 163, .ref 164, .ref 165, .ref 166]) dX11_count_223 fX11_231 xN.cell (Nat.le_of_ble_eq_true rfl) rfl rfl rfl ?_
            exact e_v dX11_count_226 rfl (xf.up (by simp)) ⟨V9, (by unfold stP; rw [ecd, if_neg hno, if_neg (by omega)]; exact g_eq), (by rw [ecd]; exact g_ne (by decide) xa11), (by rw [ecd]; exact g_ne (by decide) xa12), g_Bv xN (g_ne (by decide) rfl) (g_ne (by decide) rfl), xVV⟩ (by decide) (by decide)
          · refine g_iconst (v := nI 4) dX11_count_218 (by decide) ?_
            refine g_goto (tgt := 223) dX11_count_219 (by decide) ?_
            refine g_put (fs' := [.int cd, .ref 143, .int (nI (s 4)), .int (nI (s 7)), .int (nI (s 8)), .ref 144, .int (nI (s 5)), .int (nI (s 6)), .ref 145, .int (nI (s 9)), .int (nI (s 10)), .int (nI (s 11)), .int (nI (s 12)), .ref 146, .int (nI k), .ref 147, .int (nI m), .int (nI 4), .int (nI cm), .int (nI sd), .ref 148, .ref 149, .ref 150, .ref 151, .int (nI mm), .ref 152, .ref 153, .ref 154, .int (nI dr), .int (nI dd), .int (nI bk), .int wt, .ref 155, .int (nI rt), .ref 156, .ref 157, .ref 158, .ref 159, .ref 160, .ref 161, .ref 162, .ref 163, .ref 164, .ref 165, .ref 166]) dX11_count_223 fX11_231 xN.cell (Nat.le_of_ble_eq_true rfl) rfl rfl rfl ?_
            exact e_v dX11_count_226 rfl (xf.up (by simp)) ⟨V9, (by unfold stP; rw [ecd, if_neg hno, if_pos (by omega)]; exact g_eq), (by rw [ecd]; exact g_ne (by decide) xa11), (by rw [ecd]; exact g_ne (by decide) xa12), g_Bv xN (g_ne (by decide) rfl) (g_ne (by decide) rfl), xVV⟩ (by decide) (by decide)
        · have hyes : cs_ (swm v w l (df) (s 9) (s 10) dr sw) mm = mm := cs_all.mpr (xal2.mp (by omega))
          refine g_iconst (v := nI 3) dX11_count_203 (by decide) ?_
          refine g_goto (tgt := 223) dX11_count_204 (by decide) ?_
          refine g_put (fs' := [.int cd, .ref 143, .int (nI (s 4)), .int (nI (s 7)), .int (nI (s 8)), .ref 144, .int (nI (s 5)), .int (nI (s 6)), .ref 145, .int (nI (s 9)), .int (nI (s 10)), .int (nI (s 11)), .int (nI (s 12)), .ref 146, .int (nI k), .ref 147, .int (nI m), .int (nI 3), .int (nI cm), .int (nI sd), .ref 148, .ref 149, .ref 150, .ref 151, .int (nI mm), .ref 152, .ref 153, .ref 154, .int (nI dr), .int (nI dd), .int (nI bk), .int wt, .ref 155, .int (nI rt), .ref 156, .ref 157, .ref 158, .ref 159, .ref 160, .ref 161, .ref 162, .ref 163, .ref 164, .ref 165, .ref 166]) dX11_count_223 fX11_231 xN.cell (Nat.le_of_ble_eq_true rfl) rfl rfl rfl ?_
          exact e_v dX11_count_226 rfl (xf.up (by simp)) ⟨V9, (by unfold stP; rw [ecd, if_pos hyes]; exact g_eq), (by rw [ecd]; exact g_ne (by decide) xa11), (by rw [ecd]; exact g_ne (by decide) xa12), g_Bv xN (g_ne (by decide) rfl) (g_ne (by decide) rfl), xVV⟩ (by decide) (by decide)
      · exact absurd hcm c36
    · exact absurd rfl c6
  rcases hok with hq | ⟨c, hc, hq⟩
  rotate_left
  · rw [hq]
    have hd9 := hdf c
    refine g_bipush (v := -2) dX11_count_0 (by decide) ?_
    refine g_istore_n (ls' := [(2, .int (-2)), (0, .ref 142), (1, .int (nI b))]) dX11_count_2 rfl (by decide) rfl ?_
    refine g_iload_n dX11_count_3 rfl rfl ?_
    refine g_bipush (v := -2) dX11_count_4 (by decide) ?_
    refine g_icmp_eq (tgt := 30) dX11_count_6 (by decide) (fun c6 => ?_) (fun c6 => ?_)
    · exact absurd c6 (ne_m2 (by omega))
    · refine g_aload_n dX11_count_9 rfl rfl ?_
      refine g_getf (v := .ref 153) dX11_count_10 fX11_64 m0 rfl ?_
      refine g_iload_n dX11_count_13 rfl rfl ?_
      refine g_baldN dX11_count_14 a13 (by omega) (by decide) ?_
      refine g_top (show sI b = nI c from hq) ?_
      refine g_istore_n (ls' := [(2, .int (nI c)), (0, .ref 142), (1, .int (nI b))]) dX11_count_15 rfl (by decide) rfl ?_
      refine g_iload_n dX11_count_16 rfl rfl ?_
      refine g_if_ltN (tgt := 30) dX11_count_17 (by decide) (by omega) (fun c17 => ?_) (fun c17 => ?_)
      · exact c17.elim
      · refine g_aload_n dX11_count_20 rfl rfl ?_
        refine g_getf (v := .ref 152) dX11_count_21 fX11_61 m0 rfl ?_
        refine g_iload_n dX11_count_24 rfl rfl ?_
        refine g_dup2_11 dX11_count_25 rfl rfl ?_
        refine g_ialdN dX11_count_26 a12 (by omega) (by decide) ?_
        refine g_iconst (v := nI 1) dX11_count_27 (by decide) ?_
        refine g_iaddN dX11_count_28 ?_
        refine g_iastN dX11_count_29 a12 (by omega) (by decide) ?_
        rw [upd_nI]
        refine g_iconst (v := nI 1) dX11_count_30 (by decide) ?_
        refine g_istore_n (ls' := [(3, .int (nI 1)), (2, .int (nI c)), (0, .ref 142), (1, .int (nI b))]) dX11_count_31 rfl (by decide) rfl ?_
        refine g_aload_n dX11_count_32 rfl rfl ?_
        refine g_getf (v := .int (nI cm)) dX11_count_33 fX11_257 (g_ne (by decide) m0) rfl ?_
        refine g_if_eqN (tgt := 96) dX11_count_36 (by decide) (by omega) (fun c36 => ?_) (fun c36 => ?_)
        · refine g_iconst (v := nI 0) dX11_count_96 (by decide) ?_
          refine g_istore (ls' := [(4, .int (nI 0)), (3, .int (nI 1)), (2, .int (nI c)), (0, .ref 142), (1, .int (nI b))]) dX11_count_97 (by decide) rfl ?_
          refine g_pick [0, 1, 3, 4, 2] (ls' := [(4, .int (nI 0)), (3, .int (nI 1)), (0, .ref 142), (1, .int (nI b)), (2, .int (nI c))]) rfl ?_
          have ecd : cdf df (nI c) = va_up df c (df c + 1) := (cdf_c df hc).symm
          refine lp_count G (d + 1) _ n ex h (V := V) (df := va_up df c (df c + 1)) (sw := sw) hmm hwl hV (fun c9 => by have h8 := hdf c9; unfold va_up; have h7 := hdf c; split <;> omega) hcm hl1 hl2 (by omega) (fun h9 al V9 xal1 xal2 xN xVV xa3 xa9 xa10 xa11 xa12 xf => ?_) (mm + 1) 0 1 V (g_up h 152 (.inl (0, 8, .inl (fun k => nI ((va_up df c ((df c) + 1)) k))))) (by omega) (by omega) (by decide) ⟨fun _ k hk => absurd hk (by omega), fun _ => rfl⟩ (hN.x (h' := (g_up h 152 (.inl (0, 8, .inl (fun k => nI ((va_up df c ((df c) + 1)) k)))))) (g_ne (by decide) m0) (g_ne (by decide) rfl) (g_ne (by decide) rfl)) (fun _ _ _ => rfl) (g_ne (by decide) a3) (g_ne (by decide) a9) (g_ne (by decide) a10) (by rw [mx_0]; exact g_ne (by decide) a11) g_eq (g_fr.rf.up (by simp))
          refine g_aload_n dX11_count_198 rfl rfl ?_
          refine g_iload_n dX11_count_199 rfl rfl ?_
          refine g_if_eqN (tgt := 207) dX11_count_200 (by decide) (by omega) (fun c200 => ?_) (fun c200 => ?_)
          · have hno : ¬ cs_ (swm v w l (va_up df c (df c + 1)) (s 9) (s 10) dr sw) mm = mm := fun q => by have := xal2.mpr (cs_all.mp q); omega
            refine g_aload_n dX11_count_207 rfl rfl ?_
            refine g_getf (v := .int (nI dr)) dX11_count_208 fX11_288 xN.cell rfl ?_
            refine g_aload_n dX11_count_211 rfl rfl ?_
            refine g_getf (v := .int (nI (s 8))) dX11_count_212 fX11_20 xN.cell rfl ?_
            refine g_icmp_neN (tgt := 222) dX11_count_215 (by decide) (by omega) (by omega) (fun c215 => ?_) (fun c215 => ?_)
            · refine g_iconst (v := nI 1) dX11_count_222 (by decide) ?_
              refine g_put (fs' := [.int cd, .ref 143, .int (nI (s 4)), .int (nI (s 7)), .int (nI (s 8)), .ref 144, .int (nI (s 5)), .int (nI (s 6)), .ref 145, .int (nI (s 9)), .int (nI (s 10)), .int (nI (s 11)), .int (nI (s 12)), .ref 146, .int (nI k), .ref 147, .int (nI m), .int (nI 1), .int (nI cm), .int (nI sd), .ref 148, .ref 149, .ref 150, .ref 151, .int (nI mm), .ref 152, .ref 153, .ref 154, .int (nI dr), .int (nI dd), .int (nI bk), .int wt, .ref 155, .int (nI rt), .ref 156, .ref 157, .ref 158, .ref 159, .ref 160, .ref 161, .ref 162, .ref 163, .ref 164, .ref 165, .ref 166]) dX11_count_223 fX11_231 xN.cell (Nat.le_of_ble_eq_true rfl) rfl rfl rfl ?_
              exact e_v dX11_count_226 rfl (xf.up (by simp)) ⟨V9, (by unfold stP; rw [ecd, if_neg hno, if_neg (by omega)]; exact g_eq), (by rw [ecd]; exact g_ne (by decide) xa11), (by rw [ecd]; exact g_ne (by decide) xa12), g_Bv xN (g_ne (by decide) rfl) (g_ne (by decide) rfl), xVV⟩ (by decide) (by decide)
            · refine g_iconst (v := nI 4) dX11_count_218 (by decide) ?_
              refine g_goto (tgt := 223) dX11_count_219 (by decide) ?_
              refine g_put (fs' := [.int cd, .ref 143, .int (nI (s 4)), .int (nI (s 7)), .int (nI (s 8)), .ref 144, .int (nI (s 5)), .int (nI (s 6)), .ref 145, .int (nI (s 9)), .int (nI (s 10)), .int (nI (s 11)), .int (nI (s 12)), .ref 146, .int (nI k), .ref 147, .int (nI m), .int (nI 4), .int (nI cm), .int (nI sd), .ref 148, .ref 149, .ref 150, .ref 151, .int (nI mm), .ref 152, .ref 153, .ref 154, .int (nI dr), .int (nI dd), .int (nI bk), .int wt, .ref 155, .int (nI rt), .ref 156, .ref 157, .ref 158, .ref 159, .ref 160, .ref 161, .ref 162, .ref 163, .ref 164, .ref 165, .ref 166]) dX11_count_223 fX11_231 xN.cell (Nat.le_of_ble_eq_true rfl) rfl rfl rfl ?_
              exact e_v dX11_count_226 rfl (xf.up (by simp)) ⟨V9, (by unfold stP; rw [ecd, if_neg hno, if_pos (by omega)]; exact g_eq), (by rw [ecd]; exact g_ne (by decide) xa11), (by rw [ecd]; exact g_ne (by decide) xa12), g_Bv xN (g_ne (by decide) rfl) (g_ne (by decide) rfl), xVV⟩ (by decide) (by decide)
          · have hyes : cs_ (swm v w l (va_up df c (df c + 1)) (s 9) (s 10) dr sw) mm = mm := cs_all.mpr (xal2.mp (by omega))
            refine g_iconst (v := nI 3) dX11_count_203 (by decide) ?_
            refine g_goto (tgt := 223) dX11_count_204 (by decide) ?_
            refine g_put (fs' := [.int cd, .ref 143, .int (nI (s 4)), .int (nI (s 7)), .int (nI (s 8)), .ref 144, .int (nI (s 5)), .int (nI (s 6)), .ref 145, .int (nI (s 9)), .int (nI (s 10)), .int (nI (s 11)), .int (nI (s 12)), .ref 146, .int (nI k), .ref 147, .int (nI m), .int (nI 3), .int (nI cm), .int (nI sd), .ref 148, .ref 149, .ref 150, .ref 151, .int (nI mm), .ref 152, .ref 153, .ref 154, .int (nI dr), .int (nI dd), .int (nI bk), .int wt, .ref 155, .int (nI rt), .ref 156, .ref 157, .ref 158, .ref 159, .ref 160, .ref 161, .ref 162, .ref 163, .ref 164, .ref 165, .ref 166]) dX11_count_223 fX11_231 xN.cell (Nat.le_of_ble_eq_true rfl) rfl rfl rfl ?_
            exact e_v dX11_count_226 rfl (xf.up (by simp)) ⟨V9, (by unfold stP; rw [ecd, if_pos hyes]; exact g_eq), (by rw [ecd]; exact g_ne (by decide) xa11), (by rw [ecd]; exact g_ne (by decide) xa12), g_Bv xN (g_ne (by decide) rfl) (g_ne (by decide) rfl), xVV⟩ (by decide) (by decide)
        · exact absurd hcm c36
  · rw [hq]
    refine g_bipush (v := -2) dX11_count_0 (by decide) ?_
    refine g_istore_n (ls' := [(2, .int (-2)), (0, .ref 142), (1, .int (nI b))]) dX11_count_2 rfl (by decide) rfl ?_
    refine g_iload_n dX11_count_3 rfl rfl ?_
    refine g_bipush (v := -2) dX11_count_4 (by decide) ?_
    refine g_icmp_eq (tgt := 30) dX11_count_6 (by decide) (fun c6 => ?_) (fun c6 => ?_)
    · exact absurd c6 (ne_m2 (by omega))
    · refine g_aload_n dX11_count_9 rfl rfl ?_
      refine g_getf (v := .ref 153) dX11_count_10 fX11_64 m0 rfl ?_
      refine g_iload_n dX11_count_13 rfl rfl ?_
      refine g_baldN dX11_count_14 a13 (by omega) (by decide) ?_
      refine g_top (show sI b = (-1) from hq) ?_
      refine g_istore_n (ls' := [(2, .int (-1)), (0, .ref 142), (1, .int (nI b))]) dX11_count_15 rfl (by decide) rfl ?_
      refine g_iload_n dX11_count_16 rfl rfl ?_
      refine g_if_lt (tgt := 30) dX11_count_17 (by decide) (fun c17 => ?_) (fun c17 => ?_)
      · refine g_iconst (v := nI 1) dX11_count_30 (by decide) ?_
        refine g_istore_n (ls' := [(3, .int (nI 1)), (2, .int (-1)), (0, .ref 142), (1, .int (nI b))]) dX11_count_31 rfl (by decide) rfl ?_
        refine g_aload_n dX11_count_32 rfl rfl ?_
        refine g_getf (v := .int (nI cm)) dX11_count_33 fX11_257 m0 rfl ?_
        refine g_if_eqN (tgt := 96) dX11_count_36 (by decide) (by omega) (fun c36 => ?_) (fun c36 => ?_)
        · refine g_iconst (v := nI 0) dX11_count_96 (by decide) ?_
          refine g_istore (ls' := [(4, .int (nI 0)), (3, .int (nI 1)), (2, .int (-1)), (0, .ref 142), (1, .int (nI b))]) dX11_count_97 (by decide) rfl ?_
          refine g_pick [0, 1, 3, 4, 2] (ls' := [(4, .int (nI 0)), (3, .int (nI 1)), (0, .ref 142), (1, .int (nI b)), (2, .int (-1))]) rfl ?_
          have ecd : cdf df (-1) = df := (cdf_1 df)
          refine lp_count G (d + 1) _ n ex h (V := V) (df := df) (sw := sw) hmm hwl hV (fun c9 => by have h8 := hdf c9; omega) hcm hl1 hl2 (by omega) (fun h9 al V9 xal1 xal2 xN xVV xa3 xa9 xa10 xa11 xa12 xf => ?_) (mm + 1) 0 1 V h (by omega) (by omega) (by decide) ⟨fun _ k hk => absurd hk (by omega), fun _ => rfl⟩ hN (fun _ _ _ => rfl) a3 a9 a10 (by rw [mx_0]; exact a11) a12 (g_fr.rf)
          refine g_aload_n dX11_count_198 rfl rfl ?_
          refine g_iload_n dX11_count_199 rfl rfl ?_
          refine g_if_eqN (tgt := 207) dX11_count_200 (by decide) (by omega) (fun c200 => ?_) (fun c200 => ?_)
          · have hno : ¬ cs_ (swm v w l (df) (s 9) (s 10) dr sw) mm = mm := fun q => by have := xal2.mpr (cs_all.mp q); omega
            refine g_aload_n dX11_count_207 rfl rfl ?_
            refine g_getf (v := .int (nI dr)) dX11_count_208 fX11_288 xN.cell rfl ?_
            refine g_aload_n dX11_count_211 rfl rfl ?_
            refine g_getf (v := .int (nI (s 8))) dX11_count_212 fX11_20 xN.cell rfl ?_
            refine g_icmp_neN (tgt := 222) dX11_count_215 (by decide) (by omega) (by omega) (fun c215 => ?_) (fun c215 => ?_)
            · refine g_iconst (v := nI 1) dX11_count_222 (by decide) ?_
              refine g_put (fs' := [.int cd, .ref 143, .int (nI (s 4)), .int (nI (s 7)), .int (nI (s 8)), .ref 144, .int (nI (s 5)), .int (nI (s 6)), .ref 145, .int (nI (s 9)), .int (nI (s 10)), .int (nI (s 11)), .int (nI (s 12)), .ref 146, .int (nI k), .ref 147, .int (nI m), .int (nI 1), .int (nI cm), .int (nI sd), .ref 148, .ref 149, .ref 150, .ref 151, .int (nI mm), .ref 152, .ref 153, .ref 154, .int (nI dr), .int (nI dd), .int (nI bk), .int wt, .ref 155, .int (nI rt), .ref 156, .ref 157, .ref 158, .ref 159, .ref 160, .ref 161, .ref 162, .ref 163, .ref 164, .ref 165, .ref 166]) dX11_count_223 fX11_231 xN.cell (Nat.le_of_ble_eq_true rfl) rfl rfl rfl ?_
              exact e_v dX11_count_226 rfl (xf.up (by simp)) ⟨V9, (by unfold stP; rw [ecd, if_neg hno, if_neg (by omega)]; exact g_eq), (by rw [ecd]; exact g_ne (by decide) xa11), (by rw [ecd]; exact g_ne (by decide) xa12), g_Bv xN (g_ne (by decide) rfl) (g_ne (by decide) rfl), xVV⟩ (by decide) (by decide)
            · refine g_iconst (v := nI 4) dX11_count_218 (by decide) ?_
              refine g_goto (tgt := 223) dX11_count_219 (by decide) ?_
              refine g_put (fs' := [.int cd, .ref 143, .int (nI (s 4)), .int (nI (s 7)), .int (nI (s 8)), .ref 144, .int (nI (s 5)), .int (nI (s 6)), .ref 145, .int (nI (s 9)), .int (nI (s 10)), .int (nI (s 11)), .int (nI (s 12)), .ref 146, .int (nI k), .ref 147, .int (nI m), .int (nI 4), .int (nI cm), .int (nI sd), .ref 148, .ref 149, .ref 150, .ref 151, .int (nI mm), .ref 152, .ref 153, .ref 154, .int (nI dr), .int (nI dd), .int (nI bk), .int wt, .ref 155, .int (nI rt), .ref 156, .ref 157, .ref 158, .ref 159, .ref 160, .ref 161, .ref 162, .ref 163, .ref 164, .ref 165, .ref 166]) dX11_count_223 fX11_231 xN.cell (Nat.le_of_ble_eq_true rfl) rfl rfl rfl ?_
              exact e_v dX11_count_226 rfl (xf.up (by simp)) ⟨V9, (by unfold stP; rw [ecd, if_neg hno, if_pos (by omega)]; exact g_eq), (by rw [ecd]; exact g_ne (by decide) xa11), (by rw [ecd]; exact g_ne (by decide) xa12), g_Bv xN (g_ne (by decide) rfl) (g_ne (by decide) rfl), xVV⟩ (by decide) (by decide)
          · have hyes : cs_ (swm v w l (df) (s 9) (s 10) dr sw) mm = mm := cs_all.mpr (xal2.mp (by omega))
            refine g_iconst (v := nI 3) dX11_count_203 (by decide) ?_
            refine g_goto (tgt := 223) dX11_count_204 (by decide) ?_
            refine g_put (fs' := [.int cd, .ref 143, .int (nI (s 4)), .int (nI (s 7)), .int (nI (s 8)), .ref 144, .int (nI (s 5)), .int (nI (s 6)), .ref 145, .int (nI (s 9)), .int (nI (s 10)), .int (nI (s 11)), .int (nI (s 12)), .ref 146, .int (nI k), .ref 147, .int (nI m), .int (nI 3), .int (nI cm), .int (nI sd), .ref 148, .ref 149, .ref 150, .ref 151, .int (nI mm), .ref 152, .ref 153, .ref 154, .int (nI dr), .int (nI dd), .int (nI bk), .int wt, .ref 155, .int (nI rt), .ref 156, .ref 157, .ref 158, .ref 159, .ref 160, .ref 161, .ref 162, .ref 163, .ref 164, .ref 165, .ref 166]) dX11_count_223 fX11_231 xN.cell (Nat.le_of_ble_eq_true rfl) rfl rfl rfl ?_
            exact e_v dX11_count_226 rfl (xf.up (by simp)) ⟨V9, (by unfold stP; rw [ecd, if_pos hyes]; exact g_eq), (by rw [ecd]; exact g_ne (by decide) xa11), (by rw [ecd]; exact g_ne (by decide) xa12), g_Bv xN (g_ne (by decide) rfl) (g_ne (by decide) rfl), xVV⟩ (by decide) (by decide)
        · exact absurd hcm c36
      · exact absurd (show (-1 : Int32) < 0 by decide) c17
set_option maxHeartbeats 4000000 in
set_option maxRecDepth 100000 in
theorem c_mcountC (G : gG) (d n : Nat) (ex : Bool) (h : gH) {cd wt : Int32} {s : Nat → Nat} {k m sg cm sd mm dr dd bk rt : Nat} {v w l df : Nat → Nat} {rI sI sw : Nat → Int32} {V : Nat → Option Nat} {bx sv : Int32} {pn pd : Nat} (hN : Bn h (MX cd s k m sg cm sd mm dr dd bk rt wt) V) (a3 : h 143 = some (.inl (0, 8, .inl (fun k => nI (v k))))) (a9 : h 149 = some (.inl (0, 16, .inl (fun k => nI (w k))))) (a10 : h 150 = some (.inl (0, 16, .inl (fun k => nI (l k))))) (a5 : h 145 = some (.inl (1, 20000, .inl rI))) (a11 : h 151 = some (.inl (0, 16, .inl sw))) (a12 : h 152 = some (.inl (0, 8, .inl (fun k => nI (df k))))) (a13 : h 153 = some (.inl (1, 20000, .inl sI))) (hmm : mm ≤ 16) (hwl : ∀ k, k < mm → w k < 8 ∧ l k < 8) (hV : ∀ k, k < mm → v (l k) < v (w k) ∧ v (w k) ≤ 20000) (hdf : ∀ c, df c ≤ 199) (hl1 : s 9 ≤ 1000000) (hl2 : s 10 ≤ 1000000) (hdr : dr ≤ s 8) (hcap : s 8 ≤ 200) (hbx : (bx = -2 ∧ sv = -2) ∨ ∃ b, b < 20000 ∧ bx = nI b ∧ sv = sI b ∧ s_ok (sI b)) (hv6 : V 6 = some pn) (hv7 : V 7 = some pd) (r6 : pn * 2 ^ 80 < RM) (r7 : pd * 2 ^ 80 < RM) (g1 : s 12 < s 11) (g2 : s 11 ≤ 1000000) (hN1 : 1 ≤ s 6) (hN2 : s 6 ≤ 20000) (hm1 : 1 ≤ mm) (hlm2 : lmn 1000001 v w l mm ≤ s 6) (hlm : ∀ k, k < mm → lmn 1000001 v w l mm ≤ md v w l k) (hcm : cm = 1) : g_M G mX11_count (d + 5) 0 0 [.ref 142, .int bx] n ex h (q_v n ex [142, 151, 152, 156, 157] h (fun h' => ∃ V' pn' pd', Mc h' cd s k m (stP (pn' * s 10 ≤ pd' * s 9) (s 8) dr) cm sd mm dr dd bk rt wt ∧ h' 151 = some (.inl (0, 16, .inl sw)) ∧ h' 152 = some (.inl (0, 8, .inl (fun k => nI (cdf df sv k)))) ∧ Bv h' V' ∧ V' 6 = some pn' ∧ V' 7 = some pd' ∧ V' 0 = V 0 ∧ V' 1 = V 1 ∧ ((bx = -2 ∧ pn' = (pn * (2 * s 11 * s 6 - lmn 1000001 v w l mm * s 12)) ∧ pd' = (pd * (s 6 * (2 * s 11)))) ∨ ∃ b, bx = nI b ∧ b < 20000 ∧ pn' = (pn * ((2 * s 11 * s 6 - lmn 1000001 v w l mm * s 12) * (md v w l (mo (oe w l (rI b) (sI b)) (md v w l) mm)))) ∧ pd' = (pd * (s 6 * (cF2 (s 11) (s 12) (lmn 1000001 v w l mm) (md v w l (mo (oe w l (rI b) (sI b)) (md v w l) mm)) (oe w l (rI b) (sI b) (mo (oe w l (rI b) (sI b)) (md v w l) mm)))))))) := by
  have m0 : Mc h cd s k m sg cm sd mm dr dd bk rt wt := hN.cell
  refine g_enter (by decide) (Nat.le_of_ble_eq_true rfl) ?_
  show g_W G _ _ _ n ex h 0 0 0 [(0, .ref 142), (1, .int bx)] []
  rcases hbx with ⟨rfl, rfl⟩ | ⟨b, hb, rfl, rfl, hok⟩
  · skip
    refine g_bipush (v := -2) dX11_count_0 (by decide) ?_
    refine g_istore_n (ls' := [(2, .int (-2)), (0, .ref 142), (1, .int (-2))]) dX11_count_2 rfl (by decide) rfl ?_
    refine g_iload_n dX11_count_3 rfl rfl ?_
    refine g_bipush (v := -2) dX11_count_4 (by decide) ?_
    refine g_icmp_eq (tgt := 30) dX11_count_6 (by decide) (fun c6 => ?_) (fun c6 => ?_)
    · have ecd : cdf df (-2) = df := (cdf_2 df)
      refine g_iconst (v := nI 1) dX11_count_30 (by decide) ?_
      refine g_istore_n (ls' := [(3, .int (nI 1)), (2, .int (-2)), (0, .ref 142), (1, .int (-2))]) dX11_count_31 rfl (by decide) rfl ?_
      refine g_aload_n dX11_count_32 rfl rfl ?_
      refine g_getf (v := .int (nI cm)) dX11_count_33 fX11_257 m0 rfl ?_
      refine g_if_eqN (tgt := 96) dX11_count_36 (by decide) (by omega) (fun c36 => ?_) (fun c36 => ?_)
      · exact absurd c36 (by omega)
      · refine g_aload_n dX11_count_39 rfl rfl ?_
        refine g_iload_n dX11_count_40 rfl rfl ?_
        refine cVv (st := []) dX11_count_41 (c_mfactorB G d n ex h hN hv6 hv7 r6 r7 g1 g2 hN1 hN2 hm1 hlm2 a3 a9 a10 hmm hwl hV) sX11_281 m0 rfl rfl (by simp only [g_rm]; omega) (by simp only [g_rm]; omega) (Nat.le_of_ble_eq_true rfl) ⟨Nat.le_of_ble_eq_true rfl, Nat.le_of_ble_eq_true rfl⟩ (fun h1 fr2 p3 => ?_)
        have hN5 := p3
        refine g_aload_n dX11_count_44 rfl rfl ?_
        refine g_iconst (v := nI 2) dX11_count_45 (by decide) ?_
        refine g_bipush (v := nI 6) dX11_count_46 (by decide) ?_
        refine cVv (st := []) dX11_count_48 (c_mcopy G (d + 4) n ex h1 hN5 (by decide) (by decide) (by decide) ((va_n (by decide)).trans va_s)) sX11_195 (fr2.at (by intro q; simp only [List.mem_cons, List.not_mem_nil, or_false] at q; omega) m0) rfl rfl (by simp only [g_rm]; omega) (by simp only [g_rm]; omega) (Nat.le_of_ble_eq_true rfl) ⟨Nat.le_of_ble_eq_true rfl, Nat.le_of_ble_eq_true rfl⟩ (fun h6 fr7 p8 => ?_)
        have hN10 := p8
        refine g_aload_n dX11_count_51 rfl rfl ?_
        refine g_iconst (v := nI 3) dX11_count_52 (by decide) ?_
        refine g_bipush (v := nI 7) dX11_count_53 (by decide) ?_
        refine cVv (st := []) dX11_count_55 (c_mcopy G (d + 4) n ex h6 hN10 (by decide) (by decide) (by decide) ((va_n (by decide)).trans va_s)) sX11_195 (fr7.at (by intro q; simp only [List.mem_cons, List.not_mem_nil, or_false] at q; omega) (fr2.at (by intro q; simp only [List.mem_cons, List.not_mem_nil, or_false] at q; omega) m0)) rfl rfl (by simp only [g_rm]; omega) (by simp only [g_rm]; omega) (Nat.le_of_ble_eq_true rfl) ⟨Nat.le_of_ble_eq_true rfl, Nat.le_of_ble_eq_true rfl⟩ (fun h11 fr12 p13 => ?_)
        have hN15 := p13
        have f1 := fc_1 (lm := lmn 1000001 v w l mm) g1 g2 hN2 hlm2
        have rm1 : (pn * (2 * s 11 * s 6 - lmn 1000001 v w l mm * s 12)) * s 10 < RM := by
          have : (2 * s 11 * s 6 - lmn 1000001 v w l mm * s 12) * s 10 ≤ 40000000000 * 1000000 := Nat.mul_le_mul (by omega) hl2
          rw [Nat.mul_assoc]; exact mr_le r6 (by omega)
        have rm2 : (pd * (s 6 * (2 * s 11))) * s 9 < RM := by
          have : s 6 * (2 * s 11) * s 9 ≤ 20000 * 2000000 * 1000000 := Nat.mul_le_mul (Nat.mul_le_mul hN2 (by omega)) hl1
          rw [Nat.mul_assoc]; exact mr_le r7 (by omega)
        refine g_aload_n dX11_count_58 rfl rfl ?_
        refine g_iconst (v := nI 2) dX11_count_59 (by decide) ?_
        refine g_aload_n dX11_count_60 rfl rfl ?_
        refine g_getf (v := .int (nI (s 10))) dX11_count_61 fX11_33 (fr12.at (by intro q; simp only [List.mem_cons, List.not_mem_nil, or_false] at q; omega) (fr7.at (by intro q; simp only [List.mem_cons, List.not_mem_nil, or_false] at q; omega) (fr2.at (by intro q; simp only [List.mem_cons, List.not_mem_nil, or_false] at q; omega) m0))) rfl ?_
        refine g_i2lN dX11_count_64 (by omega) ?_
        refine cVv (st := []) dX11_count_65 (c_mtimes G (d + 3) n ex h11 hN15 (s := 2) (F := (s 10)) (by decide) ((va_n (by decide)).trans va_s) (by omega) rm1) sX11_192 (fr12.at (by intro q; simp only [List.mem_cons, List.not_mem_nil, or_false] at q; omega) (fr7.at (by intro q; simp only [List.mem_cons, List.not_mem_nil, or_false] at q; omega) (fr2.at (by intro q; simp only [List.mem_cons, List.not_mem_nil, or_false] at q; omega) m0))) rfl rfl (by simp only [g_rm]; omega) (by simp only [g_rm]; omega) (Nat.le_of_ble_eq_true rfl) ⟨Nat.le_of_ble_eq_true rfl, Nat.le_of_ble_eq_true rfl⟩ (fun h16 fr17 p18 => ?_)
        have hN20 := p18
        refine g_aload_n dX11_count_68 rfl rfl ?_
        refine g_iconst (v := nI 3) dX11_count_69 (by decide) ?_
        refine g_aload_n dX11_count_70 rfl rfl ?_
        refine g_getf (v := .int (nI (s 9))) dX11_count_71 fX11_30 (fr17.at (by intro q; simp only [List.mem_cons, List.not_mem_nil, or_false] at q; omega) (fr12.at (by intro q; simp only [List.mem_cons, List.not_mem_nil, or_false] at q; omega) (fr7.at (by intro q; simp only [List.mem_cons, List.not_mem_nil, or_false] at q; omega) (fr2.at (by intro q; simp only [List.mem_cons, List.not_mem_nil, or_false] at q; omega) m0)))) rfl ?_
        refine g_i2lN dX11_count_74 (by omega) ?_
        refine cVv (st := []) dX11_count_75 (c_mtimes G (d + 3) n ex h16 hN20 (s := 3) (F := (s 9)) (by decide) ((va_n (by decide)).trans va_s) (by omega) rm2) sX11_192 (fr17.at (by intro q; simp only [List.mem_cons, List.not_mem_nil, or_false] at q; omega) (fr12.at (by intro q; simp only [List.mem_cons, List.not_mem_nil, or_false] at q; omega) (fr7.at (by intro q; simp only [List.mem_cons, List.not_mem_nil, or_false] at q; omega) (fr2.at (by intro q; simp only [List.mem_cons, List.not_mem_nil, or_false] at q; omega) m0)))) rfl rfl (by simp only [g_rm]; omega) (by simp only [g_rm]; omega) (Nat.le_of_ble_eq_true rfl) ⟨Nat.le_of_ble_eq_true rfl, Nat.le_of_ble_eq_true rfl⟩ (fun h21 fr22 p23 => ?_)
        have hN25 := p23
        refine g_aload_n dX11_count_78 rfl rfl ?_
        refine g_iconst (v := nI 2) dX11_count_79 (by decide) ?_
        refine g_iconst (v := nI 3) dX11_count_80 (by decide) ?_
        refine cVi (st := []) dX11_count_81 (c_mcompare G (d + 4) n ex h21 hN25 (by decide) (by decide) ((va_n (by decide)).trans va_s) va_s) sX11_203 (fr22.at (by intro q; simp only [List.mem_cons, List.not_mem_nil, or_false] at q; omega) (fr17.at (by intro q; simp only [List.mem_cons, List.not_mem_nil, or_false] at q; omega) (fr12.at (by intro q; simp only [List.mem_cons, List.not_mem_nil, or_false] at q; omega) (fr7.at (by intro q; simp only [List.mem_cons, List.not_mem_nil, or_false] at q; omega) (fr2.at (by intro q; simp only [List.mem_cons, List.not_mem_nil, or_false] at q; omega) m0))))) rfl rfl (by simp only [g_rm]; omega) (by simp only [g_rm]; omega) (Nat.le_of_ble_eq_true rfl) ⟨Nat.le_of_ble_eq_true rfl, Nat.le_of_ble_eq_true rfl⟩ (fun r29 h26 fr27 p28 => ?_)
        cases g_fr0 fr27
        subst p28
        refine g_if_gt (tgt := 91) dX11_count_84 (by decide) (fun c84 => ?_) (fun c84 => ?_)
        · have hno : ¬ ((pn * (2 * s 11 * s 6 - lmn 1000001 v w l mm * s 12)) * s 10 ≤ (pd * (s 6 * (2 * s 11))) * s 9) := Nat.not_le.mpr (cp_gt.mp c84)
          refine g_iconst (v := nI 0) dX11_count_91 (by decide) ?_
          refine g_istore_n (ls' := [(3, .int (nI 0)), (2, .int (-2)), (0, .ref 142), (1, .int (-2))]) dX11_count_92 rfl (by decide) rfl ?_
          refine g_goto (tgt := 198) dX11_count_93 (by decide) ?_
          refine g_aload_n dX11_count_198 rfl rfl ?_
          refine g_iload_n dX11_count_199 rfl rfl ?_
          refine g_if_eqN (tgt := 207) dX11_count_200 (by decide) (by decide) (fun c200 => ?_) (fun c200 => ?_)
          · refine g_aload_n dX11_count_207 rfl rfl ?_
            refine g_getf (v := .int (nI dr)) dX11_count_208 fX11_288 (fr22.at (by intro q; simp only [List.mem_cons, List.not_mem_nil, or_false] at q; omega) (fr17.at (by intro q; simp only [List.mem_cons, List.not_mem_nil, or_false] at q; omega) (fr12.at (by intro q; simp only [List.mem_cons, List.not_mem_nil, or_false] at q; omega) (fr7.at (by intro q; simp only [List.mem_cons, List.not_mem_nil, or_false] at q; omega) (fr2.at (by intro q; simp only [List.mem_cons, List.not_mem_nil, or_false] at q; omega) m0))))) rfl ?_
            refine g_aload_n dX11_count_211 rfl rfl ?_
            refine g_getf (v := .int (nI (s 8))) dX11_count_212 fX11_20 (fr22.at (by intro q; simp only [List.mem_cons, List.not_mem_nil, or_false] at q; omega) (fr17.at (by intro q; simp only [List.mem_cons, List.not_mem_nil, or_false] at q; omega) (fr12.at (by intro q; simp only [List.mem_cons, List.not_mem_nil, or_false] at q; omega) (fr7.at (by intro q; simp only [List.mem_cons, List.not_mem_nil, or_false] at q; omega) (fr2.at (by intro q; simp only [List.mem_cons, List.not_mem_nil, or_false] at q; omega) m0))))) rfl ?_
            refine g_icmp_neN (tgt := 222) dX11_count_215 (by decide) (by omega) (by omega) (fun c215 => ?_) (fun c215 => ?_)
            · refine g_iconst (v := nI 1) dX11_count_222 (by decide) ?_
              refine g_put (fs' := [.int cd, .ref 143, .int (nI (s 4)), .int (nI (s 7)), .int (nI (s 8)), .ref 144, .int (nI (s 5)), .int (nI (s 6)), .ref 145, .int (nI (s 9)), .int (nI (s 10)), .int (nI (s 11)), .int (nI (s 12)), .ref 146, .int (nI k), .ref 147, .int (nI m), .int (nI 1), .int (nI cm), .int (nI sd), .ref 148, .ref 149, .ref 150, .ref 151, .int (nI mm), .ref 152, .ref 153, .ref 154, .int (nI dr), .int (nI dd), .int (nI bk), .int wt, .ref 155, .int (nI rt), .ref 156, .ref 157, .ref 158, .ref 159, .ref 160, .ref 161, .ref 162, .ref 163, .ref 164, .ref 165, .ref 166]) dX11_count_223 fX11_231 (fr22.at (by intro q; simp only [List.mem_cons, List.not_mem_nil, or_false] at q; omega) (fr17.at (by intro q; simp only [List.mem_cons, List.not_mem_nil, or_false] at q; omega) (fr12.at (by intro q; simp only [List.mem_cons, List.not_mem_nil, or_false] at q; omega) (fr7.at (by intro q; simp only [List.mem_cons, List.not_mem_nil, or_false] at q; omega) (fr2.at (by intro q; simp only [List.mem_cons, List.not_mem_nil, or_false] at q; omega) m0))))) (Nat.le_of_ble_eq_true rfl) rfl rfl rfl ?_
              exact e_v dX11_count_226 rfl (((((((g_fr.rf).tr fr2 (by simp)).tr fr7 (by simp)).tr fr12 (by simp)).tr fr17 (by simp)).tr fr22 (by simp)).up (by simp)) ⟨_, (pn * (2 * s 11 * s 6 - lmn 1000001 v w l mm * s 12)), (pd * (s 6 * (2 * s 11))), (by unfold stP; rw [if_neg hno, if_neg (by omega)]; exact g_eq), g_ne (by decide) (fr22.at (by intro q; simp only [List.mem_cons, List.not_mem_nil, or_false] at q; omega) (fr17.at (by intro q; simp only [List.mem_cons, List.not_mem_nil, or_false] at q; omega) (fr12.at (by intro q; simp only [List.mem_cons, List.not_mem_nil, or_false] at q; omega) (fr7.at (by intro q; simp only [List.mem_cons, List.not_mem_nil, or_false] at q; omega) (fr2.at (by intro q; simp only [List.mem_cons, List.not_mem_nil, or_false] at q; omega) a11))))), (by rw [ecd]; exact g_ne (by decide) (fr22.at (by intro q; simp only [List.mem_cons, List.not_mem_nil, or_false] at q; omega) (fr17.at (by intro q; simp only [List.mem_cons, List.not_mem_nil, or_false] at q; omega) (fr12.at (by intro q; simp only [List.mem_cons, List.not_mem_nil, or_false] at q; omega) (fr7.at (by intro q; simp only [List.mem_cons, List.not_mem_nil, or_false] at q; omega) (fr2.at (by intro q; simp only [List.mem_cons, List.not_mem_nil, or_false] at q; omega) a12)))))), g_Bv hN25 (g_ne (by decide) rfl) (g_ne (by decide) rfl), rfl, rfl, rfl, rfl, Or.inl ⟨rfl, rfl, rfl⟩⟩ (by decide) (by decide)
            · refine g_iconst (v := nI 4) dX11_count_218 (by decide) ?_
              refine g_goto (tgt := 223) dX11_count_219 (by decide) ?_
              refine g_put (fs' := [.int cd, .ref 143, .int (nI (s 4)), .int (nI (s 7)), .int (nI (s 8)), .ref 144, .int (nI (s 5)), .int (nI (s 6)), .ref 145, .int (nI (s 9)), .int (nI (s 10)), .int (nI (s 11)), .int (nI (s 12)), .ref 146, .int (nI k), .ref 147, .int (nI m), .int (nI 4), .int (nI cm), .int (nI sd), .ref 148, .ref 149, .ref 150, .ref 151, .int (nI mm), .ref 152, .ref 153, .ref 154, .int (nI dr), .int (nI dd), .int (nI bk), .int wt, .ref 155, .int (nI rt), .ref 156, .ref 157, .ref 158, .ref 159, .ref 160, .ref 161, .ref 162, .ref 163, .ref 164, .ref 165, .ref 166]) dX11_count_223 fX11_231 (fr22.at (by intro q; simp only [List.mem_cons, List.not_mem_nil, or_false] at q; omega) (fr17.at (by intro q; simp only [List.mem_cons, List.not_mem_nil, or_false] at q; omega) (fr12.at (by intro q; simp only [List.mem_cons, List.not_mem_nil, or_false] at q; omega) (fr7.at (by intro q; simp only [List.mem_cons, List.not_mem_nil, or_false] at q; omega) (fr2.at (by intro q; simp only [List.mem_cons, List.not_mem_nil, or_false] at q; omega) m0))))) (Nat.le_of_ble_eq_true rfl) rfl rfl rfl ?_
              exact e_v dX11_count_226 rfl (((((((g_fr.rf).tr fr2 (by simp)).tr fr7 (by simp)).tr fr12 (by simp)).tr fr17 (by simp)).tr fr22 (by simp)).up (by simp)) ⟨_, (pn * (2 * s 11 * s 6 - lmn 1000001 v w l mm * s 12)), (pd * (s 6 * (2 * s 11))), (by unfold stP; rw [if_neg hno, if_pos (by omega)]; exact g_eq), g_ne (by decide) (fr22.at (by intro q; simp only [List.mem_cons, List.not_mem_nil, or_false] at q; omega) (fr17.at (by intro q; simp only [List.mem_cons, List.not_mem_nil, or_false] at q; omega) (fr12.at (by intro q; simp only [List.mem_cons, List.not_mem_nil, or_false] at q; omega) (fr7.at (by intro q; simp only [List.mem_cons, List.not_mem_nil, or_false] at q; omega) (fr2.at (by intro q; simp only [List.mem_cons, List.not_mem_nil, or_false] at q; omega) a11))))), (by rw [ecd]; exact g_ne (by decide) (fr22.at (by intro q; simp only [List.mem_cons, List.not_mem_nil, or_false] at q; omega) (fr17.at (by intro q; simp only [List.mem_cons, List.not_mem_nil, or_false] at q; omega) (fr12.at (by intro q; simp only [List.mem_cons, List.not_mem_nil, or_false] at q; omega) (fr7.at (by intro q; simp only [List.mem_cons, List.not_mem_nil, or_false] at q; omega) (fr2.at (by intro q; simp only [List.mem_cons, List.not_mem_nil, or_false] at q; omega) a12)))))), g_Bv hN25 (g_ne (by decide) rfl) (g_ne (by decide) rfl), rfl, rfl, rfl, rfl, Or.inl ⟨rfl, rfl, rfl⟩⟩ (by decide) (by decide)
          · exact absurd c200 (by decide)
        · have hyes : (pn * (2 * s 11 * s 6 - lmn 1000001 v w l mm * s 12)) * s 10 ≤ (pd * (s 6 * (2 * s 11))) * s 9 := Nat.not_lt.mp (fun q => c84 (cp_gt.mpr q))
          refine g_iconst (v := nI 1) dX11_count_87 (by decide) ?_
          refine g_goto (tgt := 92) dX11_count_88 (by decide) ?_
          refine g_istore_n (ls' := [(3, .int (nI 1)), (2, .int (-2)), (0, .ref 142), (1, .int (-2))]) dX11_count_92 rfl (by decide) rfl ?_
          refine g_goto (tgt := 198) dX11_count_93 (by decide) ?_
          refine g_aload_n dX11_count_198 rfl rfl ?_
          refine g_iload_n dX11_count_199 rfl rfl ?_
          refine g_if_eqN (tgt := 207) dX11_count_200 (by decide) (by decide) (fun c200 => ?_) (fun c200 => ?_)
          · exact absurd c200 (by decide)
          · refine g_iconst (v := nI 3) dX11_count_203 (by decide) ?_
            refine g_goto (tgt := 223) dX11_count_204 (by decide) ?_
            refine g_put (fs' := [.int cd, .ref 143, .int (nI (s 4)), .int (nI (s 7)), .int (nI (s 8)), .ref 144, .int (nI (s 5)), .int (nI (s 6)), .ref 145, .int (nI (s 9)), .int (nI (s 10)), .int (nI (s 11)), .int (nI (s 12)), .ref 146, .int (nI k), .ref 147, .int (nI m), .int (nI 3), .int (nI cm), .int (nI sd), .ref 148, .ref 149, .ref 150, .ref 151, .int (nI mm), .ref 152, .ref 153, .ref 154, .int (nI dr), .int (nI dd), .int (nI bk), .int wt, .ref 155, .int (nI rt), .ref 156, .ref 157, .ref 158, .ref 159, .ref 160, .ref 161, .ref 162, .ref 163, .ref 164, .ref 165, .ref 166]) dX11_count_223 fX11_231 (fr22.at (by intro q; simp only [List.mem_cons, List.not_mem_nil, or_false] at q; omega) (fr17.at (by intro q; simp only [List.mem_cons, List.not_mem_nil, or_false] at q; omega) (fr12.at (by intro q; simp only [List.mem_cons, List.not_mem_nil, or_false] at q; omega) (fr7.at (by intro q; simp only [List.mem_cons, List.not_mem_nil, or_false] at q; omega) (fr2.at (by intro q; simp only [List.mem_cons, List.not_mem_nil, or_false] at q; omega) m0))))) (Nat.le_of_ble_eq_true rfl) rfl rfl rfl ?_
            exact e_v dX11_count_226 rfl (((((((g_fr.rf).tr fr2 (by simp)).tr fr7 (by simp)).tr fr12 (by simp)).tr fr17 (by simp)).tr fr22 (by simp)).up (by simp)) ⟨_, (pn * (2 * s 11 * s 6 - lmn 1000001 v w l mm * s 12)), (pd * (s 6 * (2 * s 11))), (by unfold stP; rw [if_pos hyes]; exact g_eq), g_ne (by decide) (fr22.at (by intro q; simp only [List.mem_cons, List.not_mem_nil, or_false] at q; omega) (fr17.at (by intro q; simp only [List.mem_cons, List.not_mem_nil, or_false] at q; omega) (fr12.at (by intro q; simp only [List.mem_cons, List.not_mem_nil, or_false] at q; omega) (fr7.at (by intro q; simp only [List.mem_cons, List.not_mem_nil, or_false] at q; omega) (fr2.at (by intro q; simp only [List.mem_cons, List.not_mem_nil, or_false] at q; omega) a11))))), (by rw [ecd]; exact g_ne (by decide) (fr22.at (by intro q; simp only [List.mem_cons, List.not_mem_nil, or_false] at q; omega) (fr17.at (by intro q; simp only [List.mem_cons, List.not_mem_nil, or_false] at q; omega) (fr12.at (by intro q; simp only [List.mem_cons, List.not_mem_nil, or_false] at q; omega) (fr7.at (by intro q; simp only [List.mem_cons, List.not_mem_nil, or_false] at q; omega) (fr2.at (by intro q; simp only [List.mem_cons, List.not_mem_nil, or_false] at q; omega) a12)))))), g_Bv hN25 (g_ne (by decide) rfl) (g_ne (by decide) rfl), rfl, rfl, rfl, rfl, Or.inl ⟨rfl, rfl, rfl⟩⟩ (by decide) (by decide)
    · exact absurd rfl c6
  rcases hok with hq | ⟨c, hc, hq⟩
  rotate_left
  · rw [hq]
    have hd9 := hdf c
    refine g_bipush (v := -2) dX11_count_0 (by decide) ?_
    refine g_istore_n (ls' := [(2, .int (-2)), (0, .ref 142), (1, .int (nI b))]) dX11_count_2 rfl (by decide) rfl ?_
    refine g_iload_n dX11_count_3 rfl rfl ?_
    refine g_bipush (v := -2) dX11_count_4 (by decide) ?_
    refine g_icmp_eq (tgt := 30) dX11_count_6 (by decide) (fun c6 => ?_) (fun c6 => ?_)
    · exact absurd c6 (ne_m2 (by omega))
    · refine g_aload_n dX11_count_9 rfl rfl ?_
      refine g_getf (v := .ref 153) dX11_count_10 fX11_64 m0 rfl ?_
      refine g_iload_n dX11_count_13 rfl rfl ?_
      refine g_baldN dX11_count_14 a13 (by omega) (by decide) ?_
      refine g_top (show sI b = nI c from hq) ?_
      refine g_istore_n (ls' := [(2, .int (nI c)), (0, .ref 142), (1, .int (nI b))]) dX11_count_15 rfl (by decide) rfl ?_
      refine g_iload_n dX11_count_16 rfl rfl ?_
      refine g_if_ltN (tgt := 30) dX11_count_17 (by decide) (by omega) (fun c17 => ?_) (fun c17 => ?_)
      · exact c17.elim
      · refine g_aload_n dX11_count_20 rfl rfl ?_
        refine g_getf (v := .ref 152) dX11_count_21 fX11_61 m0 rfl ?_
        refine g_iload_n dX11_count_24 rfl rfl ?_
        refine g_dup2_11 dX11_count_25 rfl rfl ?_
        refine g_ialdN dX11_count_26 a12 (by omega) (by decide) ?_
        refine g_iconst (v := nI 1) dX11_count_27 (by decide) ?_
        refine g_iaddN dX11_count_28 ?_
        refine g_iastN dX11_count_29 a12 (by omega) (by decide) ?_
        rw [upd_nI]
        have ecd : cdf df (nI c) = va_up df c (df c + 1) := (cdf_c df hc).symm
        refine g_iconst (v := nI 1) dX11_count_30 (by decide) ?_
        refine g_istore_n (ls' := [(3, .int (nI 1)), (2, .int (nI c)), (0, .ref 142), (1, .int (nI b))]) dX11_count_31 rfl (by decide) rfl ?_
        refine g_aload_n dX11_count_32 rfl rfl ?_
        refine g_getf (v := .int (nI cm)) dX11_count_33 fX11_257 (g_ne (by decide) m0) rfl ?_
        refine g_if_eqN (tgt := 96) dX11_count_36 (by decide) (by omega) (fun c36 => ?_) (fun c36 => ?_)
        · exact absurd c36 (by omega)
        · refine g_aload_n dX11_count_39 rfl rfl ?_
          refine g_iload_n dX11_count_40 rfl rfl ?_
          refine cVv (st := []) dX11_count_41 (c_mfactorN G d n ex _ (b := b) (rI := rI) (sI := sI) (hN.x (h' := (g_up h 152 (.inl (0, 8, .inl (fun k => nI ((va_up df c ((df c) + 1)) k)))))) (g_ne (by decide) m0) (g_ne (by decide) rfl) (g_ne (by decide) rfl)) hv6 hv7 r6 r7 g1 g2 hN1 hN2 hm1 hlm2 (g_ne (by decide) a3) (g_ne (by decide) a9) (g_ne (by decide) a10) (g_ne (by decide) a5) (g_ne (by decide) a13) hmm hwl hV hb hlm) sX11_281 (g_ne (by decide) m0) rfl rfl (by simp only [g_rm]; omega) (by simp only [g_rm]; omega) (Nat.le_of_ble_eq_true rfl) ⟨Nat.le_of_ble_eq_true rfl, Nat.le_of_ble_eq_true rfl⟩ (fun h1 fr2 p3 => ?_)
          have hN5 := p3
          refine g_aload_n dX11_count_44 rfl rfl ?_
          refine g_iconst (v := nI 2) dX11_count_45 (by decide) ?_
          refine g_bipush (v := nI 6) dX11_count_46 (by decide) ?_
          refine cVv (st := []) dX11_count_48 (c_mcopy G (d + 4) n ex h1 hN5 (by decide) (by decide) (by decide) ((va_n (by decide)).trans va_s)) sX11_195 (fr2.at (by intro q; simp only [List.mem_cons, List.not_mem_nil, or_false] at q; omega) (g_ne (by decide) m0)) rfl rfl (by simp only [g_rm]; omega) (by simp only [g_rm]; omega) (Nat.le_of_ble_eq_true rfl) ⟨Nat.le_of_ble_eq_true rfl, Nat.le_of_ble_eq_true rfl⟩ (fun h6 fr7 p8 => ?_)
          have hN10 := p8
          refine g_aload_n dX11_count_51 rfl rfl ?_
          refine g_iconst (v := nI 3) dX11_count_52 (by decide) ?_
          refine g_bipush (v := nI 7) dX11_count_53 (by decide) ?_
          refine cVv (st := []) dX11_count_55 (c_mcopy G (d + 4) n ex h6 hN10 (by decide) (by decide) (by decide) ((va_n (by decide)).trans va_s)) sX11_195 (fr7.at (by intro q; simp only [List.mem_cons, List.not_mem_nil, or_false] at q; omega) (fr2.at (by intro q; simp only [List.mem_cons, List.not_mem_nil, or_false] at q; omega) (g_ne (by decide) m0))) rfl rfl (by simp only [g_rm]; omega) (by simp only [g_rm]; omega) (Nat.le_of_ble_eq_true rfl) ⟨Nat.le_of_ble_eq_true rfl, Nat.le_of_ble_eq_true rfl⟩ (fun h11 fr12 p13 => ?_)
          have hN15 := p13
          have f1 := fc_1 (lm := lmn 1000001 v w l mm) g1 g2 hN2 hlm2
          have hm9 : (mo (oe w l (rI b) (sI b)) (md v w l) mm) < mm := by obtain ⟨i', e9⟩ : ∃ i', mm = i' + 1 := ⟨mm - 1, by omega⟩; rw [e9]; exact mo_lt _ _ i'
          have hvm := hV (mo (oe w l (rI b) (sI b)) (md v w l) mm) hm9
          have hdd : (md v w l (mo (oe w l (rI b) (sI b)) (md v w l) mm)) = v (w (mo (oe w l (rI b) (sI b)) (md v w l) mm)) - v (l (mo (oe w l (rI b) (sI b)) (md v w l) mm)) := rfl
          have hcf := cmp_facts (u := s 11) (g := s 12) (N := s 6) (lm := lmn 1000001 v w l mm) (d := (md v w l (mo (oe w l (rI b) (sI b)) (md v w l) mm))) (E := oe w l (rI b) (sI b) (mo (oe w l (rI b) (sI b)) (md v w l) mm)) g1 g2 hN2 hN1 (hlm _ hm9) (by omega) (by omega) hlm2 (oe_b _ _ _ _ _).1 (oe_b _ _ _ _ _).2
          obtain ⟨-, -, -, k4, k5, k6, k7⟩ := hcf
          have rm1 : (pn * ((2 * s 11 * s 6 - lmn 1000001 v w l mm * s 12) * (md v w l (mo (oe w l (rI b) (sI b)) (md v w l) mm)))) * s 10 < RM := by
            have : (2 * s 11 * s 6 - lmn 1000001 v w l mm * s 12) * (md v w l (mo (oe w l (rI b) (sI b)) (md v w l) mm)) * s 10 ≤ 40000000000 * 20000 * 1000000 := Nat.mul_le_mul (Nat.mul_le_mul (by omega) (by omega)) hl2
            rw [Nat.mul_assoc pn]; exact mr_le r6 (by omega)
          have rm2 : (pd * (s 6 * (cF2 (s 11) (s 12) (lmn 1000001 v w l mm) (md v w l (mo (oe w l (rI b) (sI b)) (md v w l) mm)) (oe w l (rI b) (sI b) (mo (oe w l (rI b) (sI b)) (md v w l) mm))))) * s 9 < RM := by
            have : s 6 * (cF2 (s 11) (s 12) (lmn 1000001 v w l mm) (md v w l (mo (oe w l (rI b) (sI b)) (md v w l) mm)) (oe w l (rI b) (sI b) (mo (oe w l (rI b) (sI b)) (md v w l) mm))) * s 9 ≤ 20000 * 80000000000 * 1000000 := Nat.mul_le_mul (Nat.mul_le_mul hN2 k7) hl1
            rw [Nat.mul_assoc pd]; exact mr_le r7 (by omega)
          refine g_aload_n dX11_count_58 rfl rfl ?_
          refine g_iconst (v := nI 2) dX11_count_59 (by decide) ?_
          refine g_aload_n dX11_count_60 rfl rfl ?_
          refine g_getf (v := .int (nI (s 10))) dX11_count_61 fX11_33 (fr12.at (by intro q; simp only [List.mem_cons, List.not_mem_nil, or_false] at q; omega) (fr7.at (by intro q; simp only [List.mem_cons, List.not_mem_nil, or_false] at q; omega) (fr2.at (by intro q; simp only [List.mem_cons, List.not_mem_nil, or_false] at q; omega) (g_ne (by decide) m0)))) rfl ?_
          refine g_i2lN dX11_count_64 (by omega) ?_
          refine cVv (st := []) dX11_count_65 (c_mtimes G (d + 3) n ex h11 hN15 (s := 2) (F := (s 10)) (by decide) ((va_n (by decide)).trans va_s) (by omega) rm1) sX11_192 (fr12.at (by intro q; simp only [List.mem_cons, List.not_mem_nil, or_false] at q; omega) (fr7.at (by intro q; simp only [List.mem_cons, List.not_mem_nil, or_false] at q; omega) (fr2.at (by intro q; simp only [List.mem_cons, List.not_mem_nil, or_false] at q; omega) (g_ne (by decide) m0)))) rfl rfl (by simp only [g_rm]; omega) (by simp only [g_rm]; omega) (Nat.le_of_ble_eq_true rfl) ⟨Nat.le_of_ble_eq_true rfl, Nat.le_of_ble_eq_true rfl⟩ (fun h16 fr17 p18 => ?_)
          have hN20 := p18
          refine g_aload_n dX11_count_68 rfl rfl ?_
          refine g_iconst (v := nI 3) dX11_count_69 (by decide) ?_
          refine g_aload_n dX11_count_70 rfl rfl ?_
          refine g_getf (v := .int (nI (s 9))) dX11_count_71 fX11_30 (fr17.at (by intro q; simp only [List.mem_cons, List.not_mem_nil, or_false] at q; omega) (fr12.at (by intro q; simp only [List.mem_cons, List.not_mem_nil, or_false] at q; omega) (fr7.at (by intro q; simp only [List.mem_cons, List.not_mem_nil, or_false] at q; omega) (fr2.at (by intro q; simp only [List.mem_cons, List.not_mem_nil, or_false] at q; omega) (g_ne (by decide) m0))))) rfl ?_
          refine g_i2lN dX11_count_74 (by omega) ?_
          refine cVv (st := []) dX11_count_75 (c_mtimes G (d + 3) n ex h16 hN20 (s := 3) (F := (s 9)) (by decide) ((va_n (by decide)).trans va_s) (by omega) rm2) sX11_192 (fr17.at (by intro q; simp only [List.mem_cons, List.not_mem_nil, or_false] at q; omega) (fr12.at (by intro q; simp only [List.mem_cons, List.not_mem_nil, or_false] at q; omega) (fr7.at (by intro q; simp only [List.mem_cons, List.not_mem_nil, or_false] at q; omega) (fr2.at (by intro q; simp only [List.mem_cons, List.not_mem_nil, or_false] at q; omega) (g_ne (by decide) m0))))) rfl rfl (by simp only [g_rm]; omega) (by simp only [g_rm]; omega) (Nat.le_of_ble_eq_true rfl) ⟨Nat.le_of_ble_eq_true rfl, Nat.le_of_ble_eq_true rfl⟩ (fun h21 fr22 p23 => ?_)
          have hN25 := p23
          refine g_aload_n dX11_count_78 rfl rfl ?_
          refine g_iconst (v := nI 2) dX11_count_79 (by decide) ?_
          refine g_iconst (v := nI 3) dX11_count_80 (by decide) ?_
          refine cVi (st := []) dX11_count_81 (c_mcompare G (d + 4) n ex h21 hN25 (by decide) (by decide) ((va_n (by decide)).trans va_s) va_s) sX11_203 (fr22.at (by intro q; simp only [List.mem_cons, List.not_mem_nil, or_false] at q; omega) (fr17.at (by intro q; simp only [List.mem_cons, List.not_mem_nil, or_false] at q; omega) (fr12.at (by intro q; simp only [List.mem_cons, List.not_mem_nil, or_false] at q; omega) (fr7.at (by intro q; simp only [List.mem_cons, List.not_mem_nil, or_false] at q; omega) (fr2.at (by intro q; simp only [List.mem_cons, List.not_mem_nil, or_false] at q; omega) (g_ne (by decide) m0)))))) rfl rfl (by simp only [g_rm]; omega) (by simp only [g_rm]; omega) (Nat.le_of_ble_eq_true rfl) ⟨Nat.le_of_ble_eq_true rfl, Nat.le_of_ble_eq_true rfl⟩ (fun r29 h26 fr27 p28 => ?_)
          cases g_fr0 fr27
          subst p28
          refine g_if_gt (tgt := 91) dX11_count_84 (by decide) (fun c84 => ?_) (fun c84 => ?_)
          · have hno : ¬ ((pn * ((2 * s 11 * s 6 - lmn 1000001 v w l mm * s 12) * (md v w l (mo (oe w l (rI b) (sI b)) (md v w l) mm)))) * s 10 ≤ (pd * (s 6 * (cF2 (s 11) (s 12) (lmn 1000001 v w l mm) (md v w l (mo (oe w l (rI b) (sI b)) (md v w l) mm)) (oe w l (rI b) (sI b) (mo (oe w l (rI b) (sI b)) (md v w l) mm))))) * s 9) := Nat.not_le.mpr (cp_gt.mp c84)
            refine g_iconst (v := nI 0) dX11_count_91 (by decide) ?_
            refine g_istore_n (ls' := [(3, .int (nI 0)), (2, .int (nI c)), (0, .ref 142), (1, .int (nI b))]) dX11_count_92 rfl (by decide) rfl ?_
            refine g_goto (tgt := 198) dX11_count_93 (by decide) ?_
            refine g_aload_n dX11_count_198 rfl rfl ?_
            refine g_iload_n dX11_count_199 rfl rfl ?_
            refine g_if_eqN (tgt := 207) dX11_count_200 (by decide) (by decide) (fun c200 => ?_) (fun c200 => ?_)
            · refine g_aload_n dX11_count_207 rfl rfl ?_
              refine g_getf (v := .int (nI dr)) dX11_count_208 fX11_288 (fr22.at (by intro q; simp only [List.mem_cons, List.not_mem_nil, or_false] at q; omega) (fr17.at (by intro q; simp only [List.mem_cons, List.not_mem_nil, or_false] at q; omega) (fr12.at (by intro q; simp only [List.mem_cons, List.not_mem_nil, or_false] at q; omega) (fr7.at (by intro q; simp only [List.mem_cons, List.not_mem_nil, or_false] at q; omega) (fr2.at (by intro q; simp only [List.mem_cons, List.not_mem_nil, or_false] at q; omega) (g_ne (by decide) m0)))))) rfl ?_
              refine g_aload_n dX11_count_211 rfl rfl ?_
              refine g_getf (v := .int (nI (s 8))) dX11_count_212 fX11_20 (fr22.at (by intro q; simp only [List.mem_cons, List.not_mem_nil, or_false] at q; omega) (fr17.at (by intro q; simp only [List.mem_cons, List.not_mem_nil, or_false] at q; omega) (fr12.at (by intro q; simp only [List.mem_cons, List.not_mem_nil, or_false] at q; omega) (fr7.at (by intro q; simp only [List.mem_cons, List.not_mem_nil, or_false] at q; omega) (fr2.at (by intro q; simp only [List.mem_cons, List.not_mem_nil, or_false] at q; omega) (g_ne (by decide) m0)))))) rfl ?_
              refine g_icmp_neN (tgt := 222) dX11_count_215 (by decide) (by omega) (by omega) (fun c215 => ?_) (fun c215 => ?_)
              · refine g_iconst (v := nI 1) dX11_count_222 (by decide) ?_
                refine g_put (fs' := [.int cd, .ref 143, .int (nI (s 4)), .int (nI (s 7)), .int (nI (s 8)), .ref 144, .int (nI (s 5)), .int (nI (s 6)), .ref 145, .int (nI (s 9)), .int (nI (s 10)), .int (nI (s 11)), .int (nI (s 12)), .ref 146, .int (nI k), .ref 147, .int (nI m), .int (nI 1), .int (nI cm), .int (nI sd), .ref 148, .ref 149, .ref 150, .ref 151, .int (nI mm), .ref 152, .ref 153, .ref 154, .int (nI dr), .int (nI dd), .int (nI bk), .int wt, .ref 155, .int (nI rt), .ref 156, .ref 157, .ref 158, .ref 159, .ref 160, .ref 161, .ref 162, .ref 163, .ref 164, .ref 165, .ref 166]) dX11_count_223 fX11_231 (fr22.at (by intro q; simp only [List.mem_cons, List.not_mem_nil, or_false] at q; omega) (fr17.at (by intro q; simp only [List.mem_cons, List.not_mem_nil, or_false] at q; omega) (fr12.at (by intro q; simp only [List.mem_cons, List.not_mem_nil, or_false] at q; omega) (fr7.at (by intro q; simp only [List.mem_cons, List.not_mem_nil, or_false] at q; omega) (fr2.at (by intro q; simp only [List.mem_cons, List.not_mem_nil, or_false] at q; omega) (g_ne (by decide) m0)))))) (Nat.le_of_ble_eq_true rfl) rfl rfl rfl ?_
                exact e_v dX11_count_226 rfl (((((((g_fr.rf.up (by simp)).tr fr2 (by simp)).tr fr7 (by simp)).tr fr12 (by simp)).tr fr17 (by simp)).tr fr22 (by simp)).up (by simp)) ⟨_, (pn * ((2 * s 11 * s 6 - lmn 1000001 v w l mm * s 12) * (md v w l (mo (oe w l (rI b) (sI b)) (md v w l) mm)))), (pd * (s 6 * (cF2 (s 11) (s 12) (lmn 1000001 v w l mm) (md v w l (mo (oe w l (rI b) (sI b)) (md v w l) mm)) (oe w l (rI b) (sI b) (mo (oe w l (rI b) (sI b)) (md v w l) mm))))), (by unfold stP; rw [if_neg hno, if_neg (by omega)]; exact g_eq), g_ne (by decide) (fr22.at (by intro q; simp only [List.mem_cons, List.not_mem_nil, or_false] at q; omega) (fr17.at (by intro q; simp only [List.mem_cons, List.not_mem_nil, or_false] at q; omega) (fr12.at (by intro q; simp only [List.mem_cons, List.not_mem_nil, or_false] at q; omega) (fr7.at (by intro q; simp only [List.mem_cons, List.not_mem_nil, or_false] at q; omega) (fr2.at (by intro q; simp only [List.mem_cons, List.not_mem_nil, or_false] at q; omega) (g_ne (by decide) a11)))))), (by rw [ecd]; exact g_ne (by decide) (fr22.at (by intro q; simp only [List.mem_cons, List.not_mem_nil, or_false] at q; omega) (fr17.at (by intro q; simp only [List.mem_cons, List.not_mem_nil, or_false] at q; omega) (fr12.at (by intro q; simp only [List.mem_cons, List.not_mem_nil, or_false] at q; omega) (fr7.at (by intro q; simp only [List.mem_cons, List.not_mem_nil, or_false] at q; omega) (fr2.at (by intro q; simp only [List.mem_cons, List.not_mem_nil, or_false] at q; omega) g_eq)))))), g_Bv hN25 (g_ne (by decide) rfl) (g_ne (by decide) rfl), rfl, rfl, rfl, rfl, Or.inr ⟨b, rfl, hb, rfl, rfl⟩⟩ (by decide) (by decide)
              · refine g_iconst (v := nI 4) dX11_count_218 (by decide) ?_
                refine g_goto (tgt := 223) dX11_count_219 (by decide) ?_
                refine g_put (fs' := [.int cd, .ref 143, .int (nI (s 4)), .int (nI (s 7)), .int (nI (s 8)), .ref 144, .int (nI (s 5)), .int (nI (s 6)), .ref 145, .int (nI (s 9)), .int (nI (s 10)), .int (nI (s 11)), .int (nI (s 12)), .ref 146, .int (nI k), .ref 147, .int (nI m), .int (nI 4), .int (nI cm), .int (nI sd), .ref 148, .ref 149, .ref 150, .ref 151, .int (nI mm), .ref 152, .ref 153, .ref 154, .int (nI dr), .int (nI dd), .int (nI bk), .int wt, .ref 155, .int (nI rt), .ref 156, .ref 157, .ref 158, .ref 159, .ref 160, .ref 161, .ref 162, .ref 163, .ref 164, .ref 165, .ref 166]) dX11_count_223 fX11_231 (fr22.at (by intro q; simp only [List.mem_cons, List.not_mem_nil, or_false] at q; omega) (fr17.at (by intro q; simp only [List.mem_cons, List.not_mem_nil, or_false] at q; omega) (fr12.at (by intro q; simp only [List.mem_cons, List.not_mem_nil, or_false] at q; omega) (fr7.at (by intro q; simp only [List.mem_cons, List.not_mem_nil, or_false] at q; omega) (fr2.at (by intro q; simp only [List.mem_cons, List.not_mem_nil, or_false] at q; omega) (g_ne (by decide) m0)))))) (Nat.le_of_ble_eq_true rfl) rfl rfl rfl ?_
                exact e_v dX11_count_226 rfl (((((((g_fr.rf.up (by simp)).tr fr2 (by simp)).tr fr7 (by simp)).tr fr12 (by simp)).tr fr17 (by simp)).tr fr22 (by simp)).up (by simp)) ⟨_, (pn * ((2 * s 11 * s 6 - lmn 1000001 v w l mm * s 12) * (md v w l (mo (oe w l (rI b) (sI b)) (md v w l) mm)))), (pd * (s 6 * (cF2 (s 11) (s 12) (lmn 1000001 v w l mm) (md v w l (mo (oe w l (rI b) (sI b)) (md v w l) mm)) (oe w l (rI b) (sI b) (mo (oe w l (rI b) (sI b)) (md v w l) mm))))), (by unfold stP; rw [if_neg hno, if_pos (by omega)]; exact g_eq), g_ne (by decide) (fr22.at (by intro q; simp only [List.mem_cons, List.not_mem_nil, or_false] at q; omega) (fr17.at (by intro q; simp only [List.mem_cons, List.not_mem_nil, or_false] at q; omega) (fr12.at (by intro q; simp only [List.mem_cons, List.not_mem_nil, or_false] at q; omega) (fr7.at (by intro q; simp only [List.mem_cons, List.not_mem_nil, or_false] at q; omega) (fr2.at (by intro q; simp only [List.mem_cons, List.not_mem_nil, or_false] at q; omega) (g_ne (by decide) a11)))))), (by rw [ecd]; exact g_ne (by decide) (fr22.at (by intro q; simp only [List.mem_cons, List.not_mem_nil, or_false] at q; omega) (fr17.at (by intro q; simp only [List.mem_cons, List.not_mem_nil, or_false] at q; omega) (fr12.at (by intro q; simp only [List.mem_cons, List.not_mem_nil, or_false] at q; omega) (fr7.at (by intro q; simp only [List.mem_cons, List.not_mem_nil, or_false] at q; omega) (fr2.at (by intro q; simp only [List.mem_cons, List.not_mem_nil, or_false] at q; omega) g_eq)))))), g_Bv hN25 (g_ne (by decide) rfl) (g_ne (by decide) rfl), rfl, rfl, rfl, rfl, Or.inr ⟨b, rfl, hb, rfl, rfl⟩⟩ (by decide) (by decide)
            · exact absurd c200 (by decide)
          · have hyes : (pn * ((2 * s 11 * s 6 - lmn 1000001 v w l mm * s 12) * (md v w l (mo (oe w l (rI b) (sI b)) (md v w l) mm)))) * s 10 ≤ (pd * (s 6 * (cF2 (s 11) (s 12) (lmn 1000001 v w l mm) (md v w l (mo (oe w l (rI b) (sI b)) (md v w l) mm)) (oe w l (rI b) (sI b) (mo (oe w l (rI b) (sI b)) (md v w l) mm))))) * s 9 := Nat.not_lt.mp (fun q => c84 (cp_gt.mpr q))
            refine g_iconst (v := nI 1) dX11_count_87 (by decide) ?_
            refine g_goto (tgt := 92) dX11_count_88 (by decide) ?_
            refine g_istore_n (ls' := [(3, .int (nI 1)), (2, .int (nI c)), (0, .ref 142), (1, .int (nI b))]) dX11_count_92 rfl (by decide) rfl ?_
            refine g_goto (tgt := 198) dX11_count_93 (by decide) ?_
            refine g_aload_n dX11_count_198 rfl rfl ?_
            refine g_iload_n dX11_count_199 rfl rfl ?_
            refine g_if_eqN (tgt := 207) dX11_count_200 (by decide) (by decide) (fun c200 => ?_) (fun c200 => ?_)
            · exact absurd c200 (by decide)
            · refine g_iconst (v := nI 3) dX11_count_203 (by decide) ?_
              refine g_goto (tgt := 223) dX11_count_204 (by decide) ?_
              refine g_put (fs' := [.int cd, .ref 143, .int (nI (s 4)), .int (nI (s 7)), .int (nI (s 8)), .ref 144, .int (nI (s 5)), .int (nI (s 6)), .ref 145, .int (nI (s 9)), .int (nI (s 10)), .int (nI (s 11)), .int (nI (s 12)), .ref 146, .int (nI k), .ref 147, .int (nI m), .int (nI 3), .int (nI cm), .int (nI sd), .ref 148, .ref 149, .ref 150, .ref 151, .int (nI mm), .ref 152, .ref 153, .ref 154, .int (nI dr), .int (nI dd), .int (nI bk), .int wt, .ref 155, .int (nI rt), .ref 156, .ref 157, .ref 158, .ref 159, .ref 160, .ref 161, .ref 162, .ref 163, .ref 164, .ref 165, .ref 166]) dX11_count_223 fX11_231 (fr22.at (by intro q; simp only [List.mem_cons, List.not_mem_nil, or_false] at q; omega) (fr17.at (by intro q; simp only [List.mem_cons, List.not_mem_nil, or_false] at q; omega) (fr12.at (by intro q; simp only [List.mem_cons, List.not_mem_nil, or_false] at q; omega) (fr7.at (by intro q; simp only [List.mem_cons, List.not_mem_nil, or_false] at q; omega) (fr2.at (by intro q; simp only [List.mem_cons, List.not_mem_nil, or_false] at q; omega) (g_ne (by decide) m0)))))) (Nat.le_of_ble_eq_true rfl) rfl rfl rfl ?_
              exact e_v dX11_count_226 rfl (((((((g_fr.rf.up (by simp)).tr fr2 (by simp)).tr fr7 (by simp)).tr fr12 (by simp)).tr fr17 (by simp)).tr fr22 (by simp)).up (by simp)) ⟨_, (pn * ((2 * s 11 * s 6 - lmn 1000001 v w l mm * s 12) * (md v w l (mo (oe w l (rI b) (sI b)) (md v w l) mm)))), (pd * (s 6 * (cF2 (s 11) (s 12) (lmn 1000001 v w l mm) (md v w l (mo (oe w l (rI b) (sI b)) (md v w l) mm)) (oe w l (rI b) (sI b) (mo (oe w l (rI b) (sI b)) (md v w l) mm))))), (by unfold stP; rw [if_pos hyes]; exact g_eq), g_ne (by decide) (fr22.at (by intro q; simp only [List.mem_cons, List.not_mem_nil, or_false] at q; omega) (fr17.at (by intro q; simp only [List.mem_cons, List.not_mem_nil, or_false] at q; omega) (fr12.at (by intro q; simp only [List.mem_cons, List.not_mem_nil, or_false] at q; omega) (fr7.at (by intro q; simp only [List.mem_cons, List.not_mem_nil, or_false] at q; omega) (fr2.at (by intro q; simp only [List.mem_cons, List.not_mem_nil, or_false] at q; omega) (g_ne (by decide) a11)))))), (by rw [ecd]; exact g_ne (by decide) (fr22.at (by intro q; simp only [List.mem_cons, List.not_mem_nil, or_false] at q; omega) (fr17.at (by intro q; simp only [List.mem_cons, List.not_mem_nil, or_false] at q; omega) (fr12.at (by intro q; simp only [List.mem_cons, List.not_mem_nil, or_false] at q; omega) (fr7.at (by intro q; simp only [List.mem_cons, List.not_mem_nil, or_false] at q; omega) (fr2.at (by intro q; simp only [List.mem_cons, List.not_mem_nil, or_false] at q; omega) g_eq)))))), g_Bv hN25 (g_ne (by decide) rfl) (g_ne (by decide) rfl), rfl, rfl, rfl, rfl, Or.inr ⟨b, rfl, hb, rfl, rfl⟩⟩ (by decide) (by decide)
  · rw [hq]
    refine g_bipush (v := -2) dX11_count_0 (by decide) ?_
    refine g_istore_n (ls' := [(2, .int (-2)), (0, .ref 142), (1, .int (nI b))]) dX11_count_2 rfl (by decide) rfl ?_
    refine g_iload_n dX11_count_3 rfl rfl ?_
    refine g_bipush (v := -2) dX11_count_4 (by decide) ?_
    refine g_icmp_eq (tgt := 30) dX11_count_6 (by decide) (fun c6 => ?_) (fun c6 => ?_)
    · exact absurd c6 (ne_m2 (by omega))
    · refine g_aload_n dX11_count_9 rfl rfl ?_
      refine g_getf (v := .ref 153) dX11_count_10 fX11_64 m0 rfl ?_
      refine g_iload_n dX11_count_13 rfl rfl ?_
      refine g_baldN dX11_count_14 a13 (by omega) (by decide) ?_
      refine g_top (show sI b = (-1) from hq) ?_
      refine g_istore_n (ls' := [(2, .int (-1)), (0, .ref 142), (1, .int (nI b))]) dX11_count_15 rfl (by decide) rfl ?_
      refine g_iload_n dX11_count_16 rfl rfl ?_
      refine g_if_lt (tgt := 30) dX11_count_17 (by decide) (fun c17 => ?_) (fun c17 => ?_)
      · have ecd : cdf df (-1) = df := (cdf_1 df)
        refine g_iconst (v := nI 1) dX11_count_30 (by decide) ?_
        refine g_istore_n (ls' := [(3, .int (nI 1)), (2, .int (-1)), (0, .ref 142), (1, .int (nI b))]) dX11_count_31 rfl (by decide) rfl ?_
        refine g_aload_n dX11_count_32 rfl rfl ?_
        refine g_getf (v := .int (nI cm)) dX11_count_33 fX11_257 m0 rfl ?_
        refine g_if_eqN (tgt := 96) dX11_count_36 (by decide) (by omega) (fun c36 => ?_) (fun c36 => ?_)
        · exact absurd c36 (by omega)
        · refine g_aload_n dX11_count_39 rfl rfl ?_
          refine g_iload_n dX11_count_40 rfl rfl ?_
          refine cVv (st := []) dX11_count_41 (c_mfactorN G d n ex h (b := b) (rI := rI) (sI := sI) hN hv6 hv7 r6 r7 g1 g2 hN1 hN2 hm1 hlm2 a3 a9 a10 a5 a13 hmm hwl hV hb hlm) sX11_281 m0 rfl rfl (by simp only [g_rm]; omega) (by simp only [g_rm]; omega) (Nat.le_of_ble_eq_true rfl) ⟨Nat.le_of_ble_eq_true rfl, Nat.le_of_ble_eq_true rfl⟩ (fun h1 fr2 p3 => ?_)
          have hN5 := p3
          refine g_aload_n dX11_count_44 rfl rfl ?_
          refine g_iconst (v := nI 2) dX11_count_45 (by decide) ?_
          refine g_bipush (v := nI 6) dX11_count_46 (by decide) ?_
          refine cVv (st := []) dX11_count_48 (c_mcopy G (d + 4) n ex h1 hN5 (by decide) (by decide) (by decide) ((va_n (by decide)).trans va_s)) sX11_195 (fr2.at (by intro q; simp only [List.mem_cons, List.not_mem_nil, or_false] at q; omega) m0) rfl rfl (by simp only [g_rm]; omega) (by simp only [g_rm]; omega) (Nat.le_of_ble_eq_true rfl) ⟨Nat.le_of_ble_eq_true rfl, Nat.le_of_ble_eq_true rfl⟩ (fun h6 fr7 p8 => ?_)
          have hN10 := p8
          refine g_aload_n dX11_count_51 rfl rfl ?_
          refine g_iconst (v := nI 3) dX11_count_52 (by decide) ?_
          refine g_bipush (v := nI 7) dX11_count_53 (by decide) ?_
          refine cVv (st := []) dX11_count_55 (c_mcopy G (d + 4) n ex h6 hN10 (by decide) (by decide) (by decide) ((va_n (by decide)).trans va_s)) sX11_195 (fr7.at (by intro q; simp only [List.mem_cons, List.not_mem_nil, or_false] at q; omega) (fr2.at (by intro q; simp only [List.mem_cons, List.not_mem_nil, or_false] at q; omega) m0)) rfl rfl (by simp only [g_rm]; omega) (by simp only [g_rm]; omega) (Nat.le_of_ble_eq_true rfl) ⟨Nat.le_of_ble_eq_true rfl, Nat.le_of_ble_eq_true rfl⟩ (fun h11 fr12 p13 => ?_)
          have hN15 := p13
          have f1 := fc_1 (lm := lmn 1000001 v w l mm) g1 g2 hN2 hlm2
          have hm9 : (mo (oe w l (rI b) (sI b)) (md v w l) mm) < mm := by obtain ⟨i', e9⟩ : ∃ i', mm = i' + 1 := ⟨mm - 1, by omega⟩; rw [e9]; exact mo_lt _ _ i'
          have hvm := hV (mo (oe w l (rI b) (sI b)) (md v w l) mm) hm9
          have hdd : (md v w l (mo (oe w l (rI b) (sI b)) (md v w l) mm)) = v (w (mo (oe w l (rI b) (sI b)) (md v w l) mm)) - v (l (mo (oe w l (rI b) (sI b)) (md v w l) mm)) := rfl
          have hcf := cmp_facts (u := s 11) (g := s 12) (N := s 6) (lm := lmn 1000001 v w l mm) (d := (md v w l (mo (oe w l (rI b) (sI b)) (md v w l) mm))) (E := oe w l (rI b) (sI b) (mo (oe w l (rI b) (sI b)) (md v w l) mm)) g1 g2 hN2 hN1 (hlm _ hm9) (by omega) (by omega) hlm2 (oe_b _ _ _ _ _).1 (oe_b _ _ _ _ _).2
          obtain ⟨-, -, -, k4, k5, k6, k7⟩ := hcf
          have rm1 : (pn * ((2 * s 11 * s 6 - lmn 1000001 v w l mm * s 12) * (md v w l (mo (oe w l (rI b) (sI b)) (md v w l) mm)))) * s 10 < RM := by
            have : (2 * s 11 * s 6 - lmn 1000001 v w l mm * s 12) * (md v w l (mo (oe w l (rI b) (sI b)) (md v w l) mm)) * s 10 ≤ 40000000000 * 20000 * 1000000 := Nat.mul_le_mul (Nat.mul_le_mul (by omega) (by omega)) hl2
            rw [Nat.mul_assoc pn]; exact mr_le r6 (by omega)
          have rm2 : (pd * (s 6 * (cF2 (s 11) (s 12) (lmn 1000001 v w l mm) (md v w l (mo (oe w l (rI b) (sI b)) (md v w l) mm)) (oe w l (rI b) (sI b) (mo (oe w l (rI b) (sI b)) (md v w l) mm))))) * s 9 < RM := by
            have : s 6 * (cF2 (s 11) (s 12) (lmn 1000001 v w l mm) (md v w l (mo (oe w l (rI b) (sI b)) (md v w l) mm)) (oe w l (rI b) (sI b) (mo (oe w l (rI b) (sI b)) (md v w l) mm))) * s 9 ≤ 20000 * 80000000000 * 1000000 := Nat.mul_le_mul (Nat.mul_le_mul hN2 k7) hl1
            rw [Nat.mul_assoc pd]; exact mr_le r7 (by omega)
          refine g_aload_n dX11_count_58 rfl rfl ?_
          refine g_iconst (v := nI 2) dX11_count_59 (by decide) ?_
          refine g_aload_n dX11_count_60 rfl rfl ?_
          refine g_getf (v := .int (nI (s 10))) dX11_count_61 fX11_33 (fr12.at (by intro q; simp only [List.mem_cons, List.not_mem_nil, or_false] at q; omega) (fr7.at (by intro q; simp only [List.mem_cons, List.not_mem_nil, or_false] at q; omega) (fr2.at (by intro q; simp only [List.mem_cons, List.not_mem_nil, or_false] at q; omega) m0))) rfl ?_
          refine g_i2lN dX11_count_64 (by omega) ?_
          refine cVv (st := []) dX11_count_65 (c_mtimes G (d + 3) n ex h11 hN15 (s := 2) (F := (s 10)) (by decide) ((va_n (by decide)).trans va_s) (by omega) rm1) sX11_192 (fr12.at (by intro q; simp only [List.mem_cons, List.not_mem_nil, or_false] at q; omega) (fr7.at (by intro q; simp only [List.mem_cons, List.not_mem_nil, or_false] at q; omega) (fr2.at (by intro q; simp only [List.mem_cons, List.not_mem_nil, or_false] at q; omega) m0))) rfl rfl (by simp only [g_rm]; omega) (by simp only [g_rm]; omega) (Nat.le_of_ble_eq_true rfl) ⟨Nat.le_of_ble_eq_true rfl, Nat.le_of_ble_eq_true rfl⟩ (fun h16 fr17 p18 => ?_)
          have hN20 := p18
          refine g_aload_n dX11_count_68 rfl rfl ?_
          refine g_iconst (v := nI 3) dX11_count_69 (by decide) ?_
          refine g_aload_n dX11_count_70 rfl rfl ?_
          refine g_getf (v := .int (nI (s 9))) dX11_count_71 fX11_30 (fr17.at (by intro q; simp only [List.mem_cons, List.not_mem_nil, or_false] at q; omega) (fr12.at (by intro q; simp only [List.mem_cons, List.not_mem_nil, or_false] at q; omega) (fr7.at (by intro q; simp only [List.mem_cons, List.not_mem_nil, or_false] at q; omega) (fr2.at (by intro q; simp only [List.mem_cons, List.not_mem_nil, or_false] at q; omega) m0)))) rfl ?_
          refine g_i2lN dX11_count_74 (by omega) ?_
          refine cVv (st := []) dX11_count_75 (c_mtimes G (d + 3) n ex h16 hN20 (s := 3) (F := (s 9)) (by decide) ((va_n (by decide)).trans va_s) (by omega) rm2) sX11_192 (fr17.at (by intro q; simp only [List.mem_cons, List.not_mem_nil, or_false] at q; omega) (fr12.at (by intro q; simp only [List.mem_cons, List.not_mem_nil, or_false] at q; omega) (fr7.at (by intro q; simp only [List.mem_cons, List.not_mem_nil, or_false] at q; omega) (fr2.at (by intro q; simp only [List.mem_cons, List.not_mem_nil, or_false] at q; omega) m0)))) rfl rfl (by simp only [g_rm]; omega) (by simp only [g_rm]; omega) (Nat.le_of_ble_eq_true rfl) ⟨Nat.le_of_ble_eq_true rfl, Nat.le_of_ble_eq_true rfl⟩ (fun h21 fr22 p23 => ?_)
          have hN25 := p23
          refine g_aload_n dX11_count_78 rfl rfl ?_
          refine g_iconst (v := nI 2) dX11_count_79 (by decide) ?_
          refine g_iconst (v := nI 3) dX11_count_80 (by decide) ?_
          refine cVi (st := []) dX11_count_81 (c_mcompare G (d + 4) n ex h21 hN25 (by decide) (by decide) ((va_n (by decide)).trans va_s) va_s) sX11_203 (fr22.at (by intro q; simp only [List.mem_cons, List.not_mem_nil, or_false] at q; omega) (fr17.at (by intro q; simp only [List.mem_cons, List.not_mem_nil, or_false] at q; omega) (fr12.at (by intro q; simp only [List.mem_cons, List.not_mem_nil, or_false] at q; omega) (fr7.at (by intro q; simp only [List.mem_cons, List.not_mem_nil, or_false] at q; omega) (fr2.at (by intro q; simp only [List.mem_cons, List.not_mem_nil, or_false] at q; omega) m0))))) rfl rfl (by simp only [g_rm]; omega) (by simp only [g_rm]; omega) (Nat.le_of_ble_eq_true rfl) ⟨Nat.le_of_ble_eq_true rfl, Nat.le_of_ble_eq_true rfl⟩ (fun r29 h26 fr27 p28 => ?_)
          cases g_fr0 fr27
          subst p28
          refine g_if_gt (tgt := 91) dX11_count_84 (by decide) (fun c84 => ?_) (fun c84 => ?_)
          · have hno : ¬ ((pn * ((2 * s 11 * s 6 - lmn 1000001 v w l mm * s 12) * (md v w l (mo (oe w l (rI b) (sI b)) (md v w l) mm)))) * s 10 ≤ (pd * (s 6 * (cF2 (s 11) (s 12) (lmn 1000001 v w l mm) (md v w l (mo (oe w l (rI b) (sI b)) (md v w l) mm)) (oe w l (rI b) (sI b) (mo (oe w l (rI b) (sI b)) (md v w l) mm))))) * s 9) := Nat.not_le.mpr (cp_gt.mp c84)
            refine g_iconst (v := nI 0) dX11_count_91 (by decide) ?_
            refine g_istore_n (ls' := [(3, .int (nI 0)), (2, .int (-1)), (0, .ref 142), (1, .int (nI b))]) dX11_count_92 rfl (by decide) rfl ?_
            refine g_goto (tgt := 198) dX11_count_93 (by decide) ?_
            refine g_aload_n dX11_count_198 rfl rfl ?_
            refine g_iload_n dX11_count_199 rfl rfl ?_
            refine g_if_eqN (tgt := 207) dX11_count_200 (by decide) (by decide) (fun c200 => ?_) (fun c200 => ?_)
            · refine g_aload_n dX11_count_207 rfl rfl ?_
              refine g_getf (v := .int (nI dr)) dX11_count_208 fX11_288 (fr22.at (by intro q; simp only [List.mem_cons, List.not_mem_nil, or_false] at q; omega) (fr17.at (by intro q; simp only [List.mem_cons, List.not_mem_nil, or_false] at q; omega) (fr12.at (by intro q; simp only [List.mem_cons, List.not_mem_nil, or_false] at q; omega) (fr7.at (by intro q; simp only [List.mem_cons, List.not_mem_nil, or_false] at q; omega) (fr2.at (by intro q; simp only [List.mem_cons, List.not_mem_nil, or_false] at q; omega) m0))))) rfl ?_
              refine g_aload_n dX11_count_211 rfl rfl ?_
              refine g_getf (v := .int (nI (s 8))) dX11_count_212 fX11_20 (fr22.at (by intro q; simp only [List.mem_cons, List.not_mem_nil, or_false] at q; omega) (fr17.at (by intro q; simp only [List.mem_cons, List.not_mem_nil, or_false] at q; omega) (fr12.at (by intro q; simp only [List.mem_cons, List.not_mem_nil, or_false] at q; omega) (fr7.at (by intro q; simp only [List.mem_cons, List.not_mem_nil, or_false] at q; omega) (fr2.at (by intro q; simp only [List.mem_cons, List.not_mem_nil, or_false] at q; omega) m0))))) rfl ?_
              refine g_icmp_neN (tgt := 222) dX11_count_215 (by decide) (by omega) (by omega) (fun c215 => ?_) (fun c215 => ?_)
              · refine g_iconst (v := nI 1) dX11_count_222 (by decide) ?_
                refine g_put (fs' := [.int cd, .ref 143, .int (nI (s 4)), .int (nI (s 7)), .int (nI (s 8)), .ref 144, .int (nI (s 5)), .int (nI (s 6)), .ref 145, .int (nI (s 9)), .int (nI (s 10)), .int (nI (s 11)), .int (nI (s 12)), .ref 146, .int (nI k), .ref 147, .int (nI m), .int (nI 1), .int (nI cm), .int (nI sd), .ref 148, .ref 149, .ref 150, .ref 151, .int (nI mm), .ref 152, .ref 153, .ref 154, .int (nI dr), .int (nI dd), .int (nI bk), .int wt, .ref 155, .int (nI rt), .ref 156, .ref 157, .ref 158, .ref 159, .ref 160, .ref 161, .ref 162, .ref 163, .ref 164, .ref 165, .ref 166]) dX11_count_223 fX11_231 (fr22.at (by intro q; simp only [List.mem_cons, List.not_mem_nil, or_false] at q; omega) (fr17.at (by intro q; simp only [List.mem_cons, List.not_mem_nil, or_false] at q; omega) (fr12.at (by intro q; simp only [List.mem_cons, List.not_mem_nil, or_false] at q; omega) (fr7.at (by intro q; simp only [List.mem_cons, List.not_mem_nil, or_false] at q; omega) (fr2.at (by intro q; simp only [List.mem_cons, List.not_mem_nil, or_false] at q; omega) m0))))) (Nat.le_of_ble_eq_true rfl) rfl rfl rfl ?_
                exact e_v dX11_count_226 rfl (((((((g_fr.rf).tr fr2 (by simp)).tr fr7 (by simp)).tr fr12 (by simp)).tr fr17 (by simp)).tr fr22 (by simp)).up (by simp)) ⟨_, (pn * ((2 * s 11 * s 6 - lmn 1000001 v w l mm * s 12) * (md v w l (mo (oe w l (rI b) (sI b)) (md v w l) mm)))), (pd * (s 6 * (cF2 (s 11) (s 12) (lmn 1000001 v w l mm) (md v w l (mo (oe w l (rI b) (sI b)) (md v w l) mm)) (oe w l (rI b) (sI b) (mo (oe w l (rI b) (sI b)) (md v w l) mm))))), (by unfold stP; rw [if_neg hno, if_neg (by omega)]; exact g_eq), g_ne (by decide) (fr22.at (by intro q; simp only [List.mem_cons, List.not_mem_nil, or_false] at q; omega) (fr17.at (by intro q; simp only [List.mem_cons, List.not_mem_nil, or_false] at q; omega) (fr12.at (by intro q; simp only [List.mem_cons, List.not_mem_nil, or_false] at q; omega) (fr7.at (by intro q; simp only [List.mem_cons, List.not_mem_nil, or_false] at q; omega) (fr2.at (by intro q; simp only [List.mem_cons, List.not_mem_nil, or_false] at q; omega) a11))))), (by rw [ecd]; exact g_ne (by decide) (fr22.at (by intro q; simp only [List.mem_cons, List.not_mem_nil, or_false] at q; omega) (fr17.at (by intro q; simp only [List.mem_cons, List.not_mem_nil, or_false] at q; omega) (fr12.at (by intro q; simp only [List.mem_cons, List.not_mem_nil, or_false] at q; omega) (fr7.at (by intro q; simp only [List.mem_cons, List.not_mem_nil, or_false] at q; omega) (fr2.at (by intro q; simp only [List.mem_cons, List.not_mem_nil, or_false] at q; omega) a12)))))), g_Bv hN25 (g_ne (by decide) rfl) (g_ne (by decide) rfl), rfl, rfl, rfl, rfl, Or.inr ⟨b, rfl, hb, rfl, rfl⟩⟩ (by decide) (by decide)
              · refine g_iconst (v := nI 4) dX11_count_218 (by decide) ?_
                refine g_goto (tgt := 223) dX11_count_219 (by decide) ?_
                refine g_put (fs' := [.int cd, .ref 143, .int (nI (s 4)), .int (nI (s 7)), .int (nI (s 8)), .ref 144, .int (nI (s 5)), .int (nI (s 6)), .ref 145, .int (nI (s 9)), .int (nI (s 10)), .int (nI (s 11)), .int (nI (s 12)), .ref 146, .int (nI k), .ref 147, .int (nI m), .int (nI 4), .int (nI cm), .int (nI sd), .ref 148, .ref 149, .ref 150, .ref 151, .int (nI mm), .ref 152, .ref 153, .ref 154, .int (nI dr), .int (nI dd), .int (nI bk), .int wt, .ref 155, .int (nI rt), .ref 156, .ref 157, .ref 158, .ref 159, .ref 160, .ref 161, .ref 162, .ref 163, .ref 164, .ref 165, .ref 166]) dX11_count_223 fX11_231 (fr22.at (by intro q; simp only [List.mem_cons, List.not_mem_nil, or_false] at q; omega) (fr17.at (by intro q; simp only [List.mem_cons, List.not_mem_nil, or_false] at q; omega) (fr12.at (by intro q; simp only [List.mem_cons, List.not_mem_nil, or_false] at q; omega) (fr7.at (by intro q; simp only [List.mem_cons, List.not_mem_nil, or_false] at q; omega) (fr2.at (by intro q; simp only [List.mem_cons, List.not_mem_nil, or_false] at q; omega) m0))))) (Nat.le_of_ble_eq_true rfl) rfl rfl rfl ?_
                exact e_v dX11_count_226 rfl (((((((g_fr.rf).tr fr2 (by simp)).tr fr7 (by simp)).tr fr12 (by simp)).tr fr17 (by simp)).tr fr22 (by simp)).up (by simp)) ⟨_, (pn * ((2 * s 11 * s 6 - lmn 1000001 v w l mm * s 12) * (md v w l (mo (oe w l (rI b) (sI b)) (md v w l) mm)))), (pd * (s 6 * (cF2 (s 11) (s 12) (lmn 1000001 v w l mm) (md v w l (mo (oe w l (rI b) (sI b)) (md v w l) mm)) (oe w l (rI b) (sI b) (mo (oe w l (rI b) (sI b)) (md v w l) mm))))), (by unfold stP; rw [if_neg hno, if_pos (by omega)]; exact g_eq), g_ne (by decide) (fr22.at (by intro q; simp only [List.mem_cons, List.not_mem_nil, or_false] at q; omega) (fr17.at (by intro q; simp only [List.mem_cons, List.not_mem_nil, or_false] at q; omega) (fr12.at (by intro q; simp only [List.mem_cons, List.not_mem_nil, or_false] at q; omega) (fr7.at (by intro q; simp only [List.mem_cons, List.not_mem_nil, or_false] at q; omega) (fr2.at (by intro q; simp only [List.mem_cons, List.not_mem_nil, or_false] at q; omega) a11))))), (by rw [ecd]; exact g_ne (by decide) (fr22.at (by intro q; simp only [List.mem_cons, List.not_mem_nil, or_false] at q; omega) (fr17.at (by intro q; simp only [List.mem_cons, List.not_mem_nil, or_false] at q; omega) (fr12.at (by intro q; simp only [List.mem_cons, List.not_mem_nil, or_false] at q; omega) (fr7.at (by intro q; simp only [List.mem_cons, List.not_mem_nil, or_false] at q; omega) (fr2.at (by intro q; simp only [List.mem_cons, List.not_mem_nil, or_false] at q; omega) a12)))))), g_Bv hN25 (g_ne (by decide) rfl) (g_ne (by decide) rfl), rfl, rfl, rfl, rfl, Or.inr ⟨b, rfl, hb, rfl, rfl⟩⟩ (by decide) (by decide)
            · exact absurd c200 (by decide)
          · have hyes : (pn * ((2 * s 11 * s 6 - lmn 1000001 v w l mm * s 12) * (md v w l (mo (oe w l (rI b) (sI b)) (md v w l) mm)))) * s 10 ≤ (pd * (s 6 * (cF2 (s 11) (s 12) (lmn 1000001 v w l mm) (md v w l (mo (oe w l (rI b) (sI b)) (md v w l) mm)) (oe w l (rI b) (sI b) (mo (oe w l (rI b) (sI b)) (md v w l) mm))))) * s 9 := Nat.not_lt.mp (fun q => c84 (cp_gt.mpr q))
            refine g_iconst (v := nI 1) dX11_count_87 (by decide) ?_
            refine g_goto (tgt := 92) dX11_count_88 (by decide) ?_
            refine g_istore_n (ls' := [(3, .int (nI 1)), (2, .int (-1)), (0, .ref 142), (1, .int (nI b))]) dX11_count_92 rfl (by decide) rfl ?_
            refine g_goto (tgt := 198) dX11_count_93 (by decide) ?_
            refine g_aload_n dX11_count_198 rfl rfl ?_
            refine g_iload_n dX11_count_199 rfl rfl ?_
            refine g_if_eqN (tgt := 207) dX11_count_200 (by decide) (by decide) (fun c200 => ?_) (fun c200 => ?_)
            · exact absurd c200 (by decide)
            · refine g_iconst (v := nI 3) dX11_count_203 (by decide) ?_
              refine g_goto (tgt := 223) dX11_count_204 (by decide) ?_
              refine g_put (fs' := [.int cd, .ref 143, .int (nI (s 4)), .int (nI (s 7)), .int (nI (s 8)), .ref 144, .int (nI (s 5)), .int (nI (s 6)), .ref 145, .int (nI (s 9)), .int (nI (s 10)), .int (nI (s 11)), .int (nI (s 12)), .ref 146, .int (nI k), .ref 147, .int (nI m), .int (nI 3), .int (nI cm), .int (nI sd), .ref 148, .ref 149, .ref 150, .ref 151, .int (nI mm), .ref 152, .ref 153, .ref 154, .int (nI dr), .int (nI dd), .int (nI bk), .int wt, .ref 155, .int (nI rt), .ref 156, .ref 157, .ref 158, .ref 159, .ref 160, .ref 161, .ref 162, .ref 163, .ref 164, .ref 165, .ref 166]) dX11_count_223 fX11_231 (fr22.at (by intro q; simp only [List.mem_cons, List.not_mem_nil, or_false] at q; omega) (fr17.at (by intro q; simp only [List.mem_cons, List.not_mem_nil, or_false] at q; omega) (fr12.at (by intro q; simp only [List.mem_cons, List.not_mem_nil, or_false] at q; omega) (fr7.at (by intro q; simp only [List.mem_cons, List.not_mem_nil, or_false] at q; omega) (fr2.at (by intro q; simp only [List.mem_cons, List.not_mem_nil, or_false] at q; omega) m0))))) (Nat.le_of_ble_eq_true rfl) rfl rfl rfl ?_
              exact e_v dX11_count_226 rfl (((((((g_fr.rf).tr fr2 (by simp)).tr fr7 (by simp)).tr fr12 (by simp)).tr fr17 (by simp)).tr fr22 (by simp)).up (by simp)) ⟨_, (pn * ((2 * s 11 * s 6 - lmn 1000001 v w l mm * s 12) * (md v w l (mo (oe w l (rI b) (sI b)) (md v w l) mm)))), (pd * (s 6 * (cF2 (s 11) (s 12) (lmn 1000001 v w l mm) (md v w l (mo (oe w l (rI b) (sI b)) (md v w l) mm)) (oe w l (rI b) (sI b) (mo (oe w l (rI b) (sI b)) (md v w l) mm))))), (by unfold stP; rw [if_pos hyes]; exact g_eq), g_ne (by decide) (fr22.at (by intro q; simp only [List.mem_cons, List.not_mem_nil, or_false] at q; omega) (fr17.at (by intro q; simp only [List.mem_cons, List.not_mem_nil, or_false] at q; omega) (fr12.at (by intro q; simp only [List.mem_cons, List.not_mem_nil, or_false] at q; omega) (fr7.at (by intro q; simp only [List.mem_cons, List.not_mem_nil, or_false] at q; omega) (fr2.at (by intro q; simp only [List.mem_cons, List.not_mem_nil, or_false] at q; omega) a11))))), (by rw [ecd]; exact g_ne (by decide) (fr22.at (by intro q; simp only [List.mem_cons, List.not_mem_nil, or_false] at q; omega) (fr17.at (by intro q; simp only [List.mem_cons, List.not_mem_nil, or_false] at q; omega) (fr12.at (by intro q; simp only [List.mem_cons, List.not_mem_nil, or_false] at q; omega) (fr7.at (by intro q; simp only [List.mem_cons, List.not_mem_nil, or_false] at q; omega) (fr2.at (by intro q; simp only [List.mem_cons, List.not_mem_nil, or_false] at q; omega) a12)))))), g_Bv hN25 (g_ne (by decide) rfl) (g_ne (by decide) rfl), rfl, rfl, rfl, rfl, Or.inr ⟨b, rfl, hb, rfl, rfl⟩⟩ (by decide) (by decide)
      · exact absurd (show (-1 : Int32) < 0 by decide) c17
