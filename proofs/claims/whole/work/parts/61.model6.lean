theorem g_M.wk {G : gG} {M' : gM} {d mc ms n : Nat} {as : List Value} {ex : Bool} {h : gH} {Q Q' : gQ} (hM : g_M G M' d mc ms as n ex h Q) (hq : ∀ o n' ex' h', Q o n' ex' h' → Q' o n' ex' h') : g_M G M' d mc ms as n ex h Q' := by
  intro l hl p e ha hc hk s m args below hf happ hP hK
  obtain ⟨N, o, a1, a2, a3, a4⟩ := hM l hl p e ha hc hk s m args below hf happ hP hK
  refine ⟨N, o, a1, a2, a3, ?_⟩
  rcases a4 with ⟨⟨v, n', ex', h', b1, b2, b3⟩, b4⟩ | ⟨q, c1, E, ce, L, ⟨n', ex', h', b1, b2⟩, c2⟩
  · exact Or.inl ⟨⟨v, n', ex', h', b1, hq _ _ _ _ b2, b3⟩, b4⟩
  · exact Or.inr ⟨q, c1, E, ce, L, ⟨n', ex', h', hq _ _ _ _ b1, b2⟩, c2⟩
/-- the model's arrays for digests: the seed's digits, the constants, rows to work in -/
def Mh (h : gH) (dg : Nat → Nat) : Prop := h 146 = some (.inl (0, 20, .inl (fun k => nI (dg k)))) ∧ (∃ kf, h 160 = some (.inl (0, 64, .inl kf)) ∧ ∀ j, j < 64 → kf j = g_sha1.getD j 0) ∧ (∃ ff, h 161 = some (.inl (0, 8, .inl ff)) ∧ ∀ j, j < 8 → ff j = g_sha0.getD j 0) ∧ (∃ f, h 162 = some (.inl (0, 64, .inl f))) ∧ (∃ f, h 163 = some (.inl (0, 8, .inl f))) ∧ (∃ f, h 164 = some (.inl (0, 64, .inl f))) ∧ ∃ f, h 165 = some (.inl (0, 32, .inl f))
theorem Mh.fr {h h' : gH} {S : List Nat} {dg : Nat → Nat} (z : Mh h dg) (hf : g_fr S h h') (hS : ∀ i ∈ S, ¬ i = 146 ∧ (i < 160 ∨ 165 < i)) : Mh h' dg := by
  obtain ⟨h1, ⟨kf, h2, h2'⟩, ⟨ff, h3, h3'⟩, ⟨a, h4⟩, ⟨b, h5⟩, ⟨c, h6⟩, e, h7⟩ := z
  exact ⟨hf.at (fun q => by have := hS _ q; omega) h1, ⟨kf, hf.at (fun q => by have := hS _ q; omega) h2, h2'⟩, ⟨ff, hf.at (fun q => by have := hS _ q; omega) h3, h3'⟩, ⟨a, hf.at (fun q => by have := hS _ q; omega) h4⟩, ⟨b, hf.at (fun q => by have := hS _ q; omega) h5⟩, ⟨c, hf.at (fun q => by have := hS _ q; omega) h6⟩, e, hf.at (fun q => by have := hS _ q; omega) h7⟩
theorem c_digestM (G : gG) (d n : Nat) (ex : Bool) (h : gH) {cd wt : Int32} {s : Nat → Nat} {k m sg cm sd mm dr dd bk rt : Nat} {num : Nat} {dg : Nat → Nat} (hk : k ≤ 20) (hn1 : num < 2147483648) (m0 : Mc h cd s k m sg cm sd mm dr dd bk rt wt) (hM : Mh h dg) : g_M G mX11_digestOf (d + 2) 0 0 [.ref 142, .int (nI num)] n ex h (q_v n ex [162, 163, 164, 165] h (fun h' => Mh h' dg ∧ ∃ dI, h' 165 = some (.inl (0, 32, .inl dI)) ∧ ∀ i, i < 32 → dI i = nI (bh (shaO dg k num) i))) := by
  obtain ⟨h1, ⟨kf, h2, h2'⟩, ⟨ff, h3, h3'⟩, ⟨a, h4⟩, ⟨b, h5⟩, ⟨c, h6⟩, e, h7⟩ := id hM
  have hc := c_digestOf G d n ex h hk hn1 h2' h3' m0 h1 h2 h3 h4 h5 h6 h7
  refine g_M.wk hc (fun o n' ex' h' q => ?_)
  obtain ⟨q1, q2, q3, q4, ⟨f, g, ms, z1, z2, z3⟩, dI, z4, z5⟩ := q
  exact ⟨q1, q2, q3, q4, ⟨q4.at (by simp) h1, ⟨kf, q4.at (by simp) h2, h2'⟩, ⟨ff, q4.at (by simp) h3, h3'⟩, ⟨f, z1⟩, ⟨g, z2⟩, ⟨ms, z3⟩, dI, z4⟩, dI, z4, z5⟩
def k_digest (x y : Int32) : Nat := if ¬ (0 ≤ y ∧ y < nI 32) then 1 else if x < nI 1 then 2 else 0
set_option maxHeartbeats 4000000 in
set_option maxRecDepth 100000 in
theorem c_mdigest (G : gG) (d n : Nat) (ex : Bool) (h : gH) {cd wt : Int32} {s : Nat → Nat} {k m sg cm sd mm dr dd bk rt : Nat} {dg : Nat → Nat} {x y : Int32} (hk : k ≤ 20) (m0 : Mc h cd s k m sg cm sd mm dr dd bk rt wt) (hM : Mh h dg) : g_M G mX11_digest (d + 3) 0 0 [.ref 142, .int x, .int y] n ex h (q_i n ex [142, 162, 163, 164, 165] h (fun r h' => (¬ k_digest x y = 0 ∧ Mc h' (nI (k_digest x y)) s k m sg cm sd mm dr dd bk rt wt ∧ g_fr [142] h h') ∨ (k_digest x y = 0 ∧ r = nI (bh (shaO dg k (un x)) (un y)) ∧ Mc h' (nI (k_digest x y)) s k m sg cm sd mm dr dd bk rt wt ∧ Mh h' dg))) := by
  refine g_enter (by decide) (Nat.le_of_ble_eq_true rfl) ?_
  show g_W G _ _ _ n ex h 0 0 0 [(0, .ref 142), (1, .int x), (2, .int y)] []
  refine g_aload_n dX11_digest_0 rfl rfl ?_
  refine g_iload_n dX11_digest_1 rfl rfl ?_
  refine g_if_lt (tgt := 11) dX11_digest_2 (by decide) (fun c2 => ?_) (fun c2 => ?_)
  · refine g_iconst (v := nI 1) dX11_digest_11 (by decide) ?_
    refine g_goto (tgt := 25) dX11_digest_12 (by decide) ?_
    refine g_put (fs' := [.int (nI 1), .ref 143, .int (nI (s 4)), .int (nI (s 7)), .int (nI (s 8)), .ref 144, .int (nI (s 5)), .int (nI (s 6)), .ref 145, .int (nI (s 9)), .int (nI (s 10)), .int (nI (s 11)), .int (nI (s 12)), .ref 146, .int (nI k), .ref 147, .int (nI m), .int (nI sg), .int (nI cm), .int (nI sd), .ref 148, .ref 149, .ref 150, .ref 151, .int (nI mm), .ref 152, .ref 153, .ref 154, .int (nI dr), .int (nI dd), .int (nI bk), .int wt, .ref 155, .int (nI rt), .ref 156, .ref 157, .ref 158, .ref 159, .ref 160, .ref 161, .ref 162, .ref 163, .ref 164, .ref 165, .ref 166]) dX11_digest_25 fX11_1 m0 (Nat.le_of_ble_eq_true rfl) rfl rfl rfl ?_
    refine g_aload_n dX11_digest_28 rfl rfl ?_
    refine g_getf (v := .int (nI 1)) dX11_digest_29 fX11_1 g_eq rfl ?_
    refine g_if_leN (tgt := 37) dX11_digest_32 (by decide) (by decide) (fun c32 => ?_) (fun c32 => ?_)
    · exact absurd c32 (by decide)
    · refine g_iconst (v := nI 0) dX11_digest_35 (by decide) ?_
      have ek : k_digest x y = 1 := (by unfold k_digest; (repeat' split) <;> first | rfl | (exfalso; simp only [i_lt, i_le, i_eq, it0, itm, ifp, nI_toInt (show 0 < 2147483648 by first | decide | omega), nI_toInt (show 1 < 2147483648 by first | decide | omega), nI_toInt (show 32 < 2147483648 by first | decide | omega), nI_toInt (show 31 < 2147483648 by first | decide | omega)] at * <;> omega))
      exact e_i dX11_digest_36 rfl rfl ((g_fr.rf.up (by simp))) (Or.inl ⟨by rw [ek]; decide, by rw [ek]; exact g_eq, g_fr.rf.up (by simp)⟩) (by decide) (by decide)
  · refine g_iload_n dX11_digest_5 rfl rfl ?_
    refine g_bipush (v := nI 31) dX11_digest_6 (by decide) ?_
    refine g_icmp_le (tgt := 15) dX11_digest_8 (by decide) (fun c8 => ?_) (fun c8 => ?_)
    · refine g_iload_n dX11_digest_15 rfl rfl ?_
      refine g_iconst (v := nI 1) dX11_digest_16 (by decide) ?_
      refine g_icmp_ge (tgt := 24) dX11_digest_17 (by decide) (fun c17 => ?_) (fun c17 => ?_)
      · obtain ⟨a, ha1, rfl⟩ := nat0 (x := x) (fun z => absurd (Int32.lt_of_lt_of_le z (by decide)) (Int32.not_lt.mpr c17))
        obtain ⟨i, hi0, hi1, rfl⟩ := nat_of (a := 0) (b := 31) (by decide) ⟨Int32.not_lt.mp c2, c8⟩ (by decide)
        have hau := un_nI (show a < 4294967296 by omega)
        have hiu := un_nI (show i < 4294967296 by omega)
        refine g_iconst (v := nI 0) dX11_digest_24 (by decide) ?_
        refine g_put (fs' := [.int (nI 0), .ref 143, .int (nI (s 4)), .int (nI (s 7)), .int (nI (s 8)), .ref 144, .int (nI (s 5)), .int (nI (s 6)), .ref 145, .int (nI (s 9)), .int (nI (s 10)), .int (nI (s 11)), .int (nI (s 12)), .ref 146, .int (nI k), .ref 147, .int (nI m), .int (nI sg), .int (nI cm), .int (nI sd), .ref 148, .ref 149, .ref 150, .ref 151, .int (nI mm), .ref 152, .ref 153, .ref 154, .int (nI dr), .int (nI dd), .int (nI bk), .int wt, .ref 155, .int (nI rt), .ref 156, .ref 157, .ref 158, .ref 159, .ref 160, .ref 161, .ref 162, .ref 163, .ref 164, .ref 165, .ref 166]) dX11_digest_25 fX11_1 m0 (Nat.le_of_ble_eq_true rfl) rfl rfl rfl ?_
        refine g_aload_n dX11_digest_28 rfl rfl ?_
        refine g_getf (v := .int (nI 0)) dX11_digest_29 fX11_1 g_eq rfl ?_
        refine g_if_leN (tgt := 37) dX11_digest_32 (by decide) (by decide) (fun c32 => ?_) (fun c32 => ?_)
        · refine g_aload_n dX11_digest_37 rfl rfl ?_
          refine g_iload_n dX11_digest_38 rfl rfl ?_
          refine cVv (st := []) dX11_digest_39 (c_digestM G d n ex _ (cd := nI 0) (s := s) (k := k) (m := m) (sg := sg) (cm := cm) (sd := sd) (mm := mm) (dr := dr) (dd := dd) (bk := bk) (rt := rt) (wt := wt) (num := a) (dg := dg) hk ha1 g_eq (hM.fr (g_fr.rf.up (S := [142]) (by simp)) (by simp))) sX11_291 g_eq rfl rfl (by simp only [g_rm]; omega) (by simp only [g_rm]; omega) (Nat.le_of_ble_eq_true rfl) ⟨Nat.le_of_ble_eq_true rfl, Nat.le_of_ble_eq_true rfl⟩ (fun h1 fr2 p3 => ?_)
          obtain ⟨y1, dI, y2, y3⟩ := p3
          refine g_aload_n dX11_digest_42 rfl rfl ?_
          refine g_getf (v := .ref 165) dX11_digest_43 fX11_176 (fr2.at (by intro q; simp only [List.mem_cons, List.not_mem_nil, or_false] at q; omega) g_eq) rfl ?_
          refine g_iload_n dX11_digest_46 rfl rfl ?_
          refine g_ialdN dX11_digest_47 y2 (by omega) (by decide) ?_
          have ek : k_digest (nI a) (nI i) = 0 := (by unfold k_digest; (repeat' split) <;> first | rfl | (exfalso; simp only [i_lt, i_le, i_eq, it0, itm, ifp, nI_toInt (show 0 < 2147483648 by first | decide | omega), nI_toInt (show 1 < 2147483648 by first | decide | omega), nI_toInt (show 32 < 2147483648 by first | decide | omega), nI_toInt (show 31 < 2147483648 by first | decide | omega), nI_toInt (show a < 2147483648 by first | decide | omega), nI_toInt (show i < 2147483648 by first | decide | omega)] at * <;> omega))
          exact e_i dX11_digest_48 rfl rfl ((g_fr.rf.up (S := [142]) (by simp)).mono (by simp) |>.tr fr2 (by simp)) (Or.inr ⟨ek, by rw [hau, hiu]; exact y3 i (by omega), by rw [ek]; exact fr2.at (by intro q; simp only [List.mem_cons, List.not_mem_nil, or_false] at q; omega) g_eq, y1⟩) (by decide) (by decide)
        · exact absurd c32 (by decide)
      · refine g_iconst (v := nI 2) dX11_digest_20 (by decide) ?_
        refine g_goto (tgt := 25) dX11_digest_21 (by decide) ?_
        refine g_put (fs' := [.int (nI 2), .ref 143, .int (nI (s 4)), .int (nI (s 7)), .int (nI (s 8)), .ref 144, .int (nI (s 5)), .int (nI (s 6)), .ref 145, .int (nI (s 9)), .int (nI (s 10)), .int (nI (s 11)), .int (nI (s 12)), .ref 146, .int (nI k), .ref 147, .int (nI m), .int (nI sg), .int (nI cm), .int (nI sd), .ref 148, .ref 149, .ref 150, .ref 151, .int (nI mm), .ref 152, .ref 153, .ref 154, .int (nI dr), .int (nI dd), .int (nI bk), .int wt, .ref 155, .int (nI rt), .ref 156, .ref 157, .ref 158, .ref 159, .ref 160, .ref 161, .ref 162, .ref 163, .ref 164, .ref 165, .ref 166]) dX11_digest_25 fX11_1 m0 (Nat.le_of_ble_eq_true rfl) rfl rfl rfl ?_
        refine g_aload_n dX11_digest_28 rfl rfl ?_
        refine g_getf (v := .int (nI 2)) dX11_digest_29 fX11_1 g_eq rfl ?_
        refine g_if_leN (tgt := 37) dX11_digest_32 (by decide) (by decide) (fun c32 => ?_) (fun c32 => ?_)
        · exact absurd c32 (by decide)
        · refine g_iconst (v := nI 0) dX11_digest_35 (by decide) ?_
          have ek : k_digest x y = 2 := (by unfold k_digest; (repeat' split) <;> first | rfl | (exfalso; simp only [i_lt, i_le, i_eq, it0, itm, ifp, nI_toInt (show 0 < 2147483648 by first | decide | omega), nI_toInt (show 1 < 2147483648 by first | decide | omega), nI_toInt (show 32 < 2147483648 by first | decide | omega), nI_toInt (show 31 < 2147483648 by first | decide | omega)] at * <;> omega))
          exact e_i dX11_digest_36 rfl rfl ((g_fr.rf.up (by simp))) (Or.inl ⟨by rw [ek]; decide, by rw [ek]; exact g_eq, g_fr.rf.up (by simp)⟩) (by decide) (by decide)
    · refine g_iconst (v := nI 1) dX11_digest_11 (by decide) ?_
      refine g_goto (tgt := 25) dX11_digest_12 (by decide) ?_
      refine g_put (fs' := [.int (nI 1), .ref 143, .int (nI (s 4)), .int (nI (s 7)), .int (nI (s 8)), .ref 144, .int (nI (s 5)), .int (nI (s 6)), .ref 145, .int (nI (s 9)), .int (nI (s 10)), .int (nI (s 11)), .int (nI (s 12)), .ref 146, .int (nI k), .ref 147, .int (nI m), .int (nI sg), .int (nI cm), .int (nI sd), .ref 148, .ref 149, .ref 150, .ref 151, .int (nI mm), .ref 152, .ref 153, .ref 154, .int (nI dr), .int (nI dd), .int (nI bk), .int wt, .ref 155, .int (nI rt), .ref 156, .ref 157, .ref 158, .ref 159, .ref 160, .ref 161, .ref 162, .ref 163, .ref 164, .ref 165, .ref 166]) dX11_digest_25 fX11_1 m0 (Nat.le_of_ble_eq_true rfl) rfl rfl rfl ?_
      refine g_aload_n dX11_digest_28 rfl rfl ?_
      refine g_getf (v := .int (nI 1)) dX11_digest_29 fX11_1 g_eq rfl ?_
      refine g_if_leN (tgt := 37) dX11_digest_32 (by decide) (by decide) (fun c32 => ?_) (fun c32 => ?_)
      · exact absurd c32 (by decide)
      · refine g_iconst (v := nI 0) dX11_digest_35 (by decide) ?_
        have ek : k_digest x y = 1 := (by unfold k_digest; (repeat' split) <;> first | rfl | (exfalso; simp only [i_lt, i_le, i_eq, it0, itm, ifp, nI_toInt (show 0 < 2147483648 by first | decide | omega), nI_toInt (show 1 < 2147483648 by first | decide | omega), nI_toInt (show 32 < 2147483648 by first | decide | omega), nI_toInt (show 31 < 2147483648 by first | decide | omega)] at * <;> omega))
        exact e_i dX11_digest_36 rfl rfl ((g_fr.rf.up (by simp))) (Or.inl ⟨by rw [ek]; decide, by rw [ek]; exact g_eq, g_fr.rf.up (by simp)⟩) (by decide) (by decide)
def hb (f : Nat → Int32) : Nat → Nat
  | 0 => 0
  | i + 1 => hb f i * 256 + bh f i
theorem hb_4 (f : Nat → Int32) (w : Nat) : hb f (4 * w) = hv f w := by
  induction w with
  | zero => rfl
  | succ w ih =>
    show ((((hb f (4 * w) * 256 + bh f (4 * w)) * 256 + bh f (4 * w + 1)) * 256 + bh f (4 * w + 2)) * 256 + bh f (4 * w + 3)) = hv f w * 4294967296 + un (f w)
    have hx := un_lt (f w)
    unfold bh
    rw [ih, show 4 * w / 4 = w by omega, show (4 * w + 1) / 4 = w by omega, show (4 * w + 2) / 4 = w by omega, show (4 * w + 3) / 4 = w by omega, show 4 * w % 4 = 0 by omega, show (4 * w + 1) % 4 = 1 by omega, show (4 * w + 2) % 4 = 2 by omega, show (4 * w + 3) % 4 = 3 by omega]
    generalize un (f w) = x at hx
    omega
theorem hb_s {a N b : Nat} : (256 * (a % N) + b) % N = (a * 256 + b) % N := by
  rw [Nat.add_mod, Nat.mul_mod, Nat.mod_mod, ← Nat.mul_mod, ← Nat.add_mod, Nat.mul_comm]
set_option maxHeartbeats 4000000 in
set_option maxRecDepth 100000 in
theorem lp_mnum (G : gG) (R : Room) (P : Int32 → gH → Prop) (n : Nat) (ex : Bool) (h h0 : gH) {cd wt : Int32} {s : Nat → Nat} {k m sg cm sd mm dr dd bk rt : Nat} {dg : Nat → Nat} {dI : Nat → Int32} (m0 : Mc h cd s k m sg cm sd mm dr dd bk rt wt) (y2 : h 165 = some (.inl (0, 32, .inl dI))) (y3 : ∀ i, i < 32 → dI i = nI (bh (shaO dg k (dr + 1)) i)) (hN1 : 1 ≤ s 6) (h6 : s 6 ≤ 20000) (hf : g_fr [142, 147, 162, 163, 164, 165] h0 h) (hP : ∀ {r}, r = nI (hv (shaO dg k (dr + 1)) 8 % s 6) → P r h) : ∀ (t i : Nat), 32 - i < t → i ≤ 32 →
    g_W G mX11_number R (g_K G (q_i n ex [142, 147, 162, 163, 164, 165] h0 P) 0 0) n ex h 0 0 21 [(3, .int (nI i)), (1, .long (lN (hb (shaO dg k (dr + 1)) i % s 6))), (0, .ref 142)] [] := by
  intro t
  induction t with
  | zero => intro i hm; exact absurd hm (by omega)
  | succ t ih =>
    intro i ht hi
    refine g_iload_n dX11_number_21 rfl rfl ?_
    refine g_bipush (v := nI 32) dX11_number_22 (by decide) ?_
    refine g_icmp_geN (tgt := 53) dX11_number_24 (by decide) (by omega) (by omega) (fun c24 => ?_) (fun c24 => ?_)
    · refine g_lload_n dX11_number_53 rfl rfl ?_
      refine g_l2iN dX11_number_54 ?_
      have e : i = 32 := by omega
      subst e
      exact e_i dX11_number_55 rfl rfl hf (hP (by rw [show 32 = 4 * 8 from rfl, hb_4])) (by decide) (by decide)
    · have hr1 : hb (shaO dg k (dr + 1)) i % s 6 < s 6 := Nat.mod_lt _ (by omega)
      have hr2 : bh (shaO dg k (dr + 1)) i < 256 := Nat.mod_lt _ (by decide)
      refine g_ldc2 dX11_number_27 kX11_294 rfl ?_
      refine g_topl (show (256 : Int64) = lN 256 by decide) ?_
      refine g_lload_n dX11_number_30 rfl rfl ?_
      refine g_lmulN dX11_number_31 ?_
      refine g_aload_n dX11_number_32 rfl rfl ?_
      refine g_getf (v := .ref 165) dX11_number_33 fX11_176 m0 rfl ?_
      refine g_iload_n dX11_number_36 rfl rfl ?_
      refine g_ialdN dX11_number_37 y2 (by omega) (by decide) ?_
      refine g_top (show dI i = nI (bh (shaO dg k (dr + 1)) i) from y3 i (by omega)) ?_
      refine g_i2lN dX11_number_38 (by omega) ?_
      refine g_laddN dX11_number_39 ?_
      refine g_aload_n dX11_number_40 rfl rfl ?_
      refine g_getf (v := .int (nI (s 6))) dX11_number_41 fX11_240 m0 rfl ?_
      refine g_i2lN dX11_number_44 (by omega) ?_
      refine g_lremN dX11_number_45 (by omega) (by omega) (by omega) ?_
      refine g_lstore_n (ls' := [(1, .long (lN (((256 * (hb (shaO dg k (dr + 1)) i % s 6)) + (bh (shaO dg k (dr + 1)) i)) % (s 6)))), (3, .int (nI i)), (0, .ref 142)]) dX11_number_46 rfl (by decide) rfl ?_
      refine g_iincN (z := 1) (ls' := [(3, .int (nI (i + 1))), (1, .long (lN (((256 * (hb (shaO dg k (dr + 1)) i % s 6)) + (bh (shaO dg k (dr + 1)) i)) % (s 6)))), (0, .ref 142)]) dX11_number_47 rfl (by decide) rfl ?_
      refine g_goto (tgt := 21) dX11_number_50 (by decide) ?_
      refine g_pick [0, 1, 2] (ls' := [(3, .int (nI (i + 1))), (1, .long (lN (((256 * (hb (shaO dg k (dr + 1)) i % s 6)) + (bh (shaO dg k (dr + 1)) i)) % (s 6)))), (0, .ref 142)]) rfl ?_
      rw [show (256 * (hb (shaO dg k (dr + 1)) i % s 6) + bh (shaO dg k (dr + 1)) i) % s 6 = hb (shaO dg k (dr + 1)) (i + 1) % s 6 from hb_s]
      exact ih (i + 1) (by omega) (by omega)
set_option maxHeartbeats 4000000 in
set_option maxRecDepth 100000 in
theorem lp_mnum2 (G : gG) (R : Room) (KK : gK) (n : Nat) (ex : Bool) (h : gH) {cd wt : Int32} {s : Nat → Nat} {k m sg cm sd mm dr dd bk rt : Nat} {c : Nat → Nat} {K : Nat} (m0 : Mc h cd s k m sg cm sd mm dr dd bk rt wt) (a7 : h 147 = some (.inl (1, 4000, .inl (fun k => nI (c k))))) (hK : K ≤ m) (hm : m ≤ 4000) (kk : g_W G mX11_number R KK n ex h 0 0 97 [(3, .int (nI K)), (2, .int (nI (tk c K))), (1, .int (nI K)), (0, .ref 142)] []) : ∀ (t i : Nat), K - i < t → i ≤ K →
    g_W G mX11_number R KK n ex h 0 0 75 [(3, .int (nI i)), (2, .int (nI (tk c i))), (1, .int (nI K)), (0, .ref 142)] [] := by
  intro t
  induction t with
  | zero => intro i hm; exact absurd hm (by omega)
  | succ t ih =>
    intro i ht hi
    refine g_iload_n dX11_number_75 rfl rfl ?_
    refine g_iload_n dX11_number_76 rfl rfl ?_
    refine g_icmp_geN (tgt := 97) dX11_number_77 (by decide) (by omega) (by omega) (fun c77 => ?_) (fun c77 => ?_)
    · refine g_pick [0, 1, 2, 3] (ls' := [(3, .int (nI i)), (2, .int (nI (tk c i))), (1, .int (nI K)), (0, .ref 142)]) rfl ?_
      have e : i = K := by omega
      subst e
      exact kk
    · refine g_iconst (v := nI 2) dX11_number_80 (by decide) ?_
      refine g_iload_n dX11_number_81 rfl rfl ?_
      refine g_imulN dX11_number_82 ?_
      refine g_aload_n dX11_number_83 rfl rfl ?_
      refine g_getf (v := .ref 147) dX11_number_84 fX11_45 m0 rfl ?_
      refine g_iload_n dX11_number_87 rfl rfl ?_
      refine g_baldN dX11_number_88 a7 (by omega) (by decide) ?_
      refine g_iaddN dX11_number_89 ?_
      refine g_istore_n (ls' := [(2, .int (nI ((2 * (tk c i)) + (c i)))), (3, .int (nI i)), (1, .int (nI K)), (0, .ref 142)]) dX11_number_90 rfl (by decide) rfl ?_
      refine g_iincN (z := 1) (ls' := [(3, .int (nI (i + 1))), (2, .int (nI ((2 * (tk c i)) + (c i)))), (1, .int (nI K)), (0, .ref 142)]) dX11_number_91 rfl (by decide) rfl ?_
      refine g_goto (tgt := 75) dX11_number_94 (by decide) ?_
      refine g_pick [0, 1, 2, 3] (ls' := [(3, .int (nI (i + 1))), (2, .int (nI ((2 * (tk c i)) + (c i)))), (1, .int (nI K)), (0, .ref 142)]) rfl ?_
      rw [show 2 * tk c i + c i = tk c (i + 1) from by show _ = tk c i * 2 + c i; omega]
      exact ih (i + 1) (by omega) (by omega)
set_option maxHeartbeats 4000000 in
set_option maxRecDepth 100000 in
theorem lp_mnum3 (G : gG) (R : Room) (P : Int32 → gH → Prop) (n : Nat) (ex : Bool) (h0 : gH) {cd wt : Int32} {s : Nat → Nat} {k m sg cm sd mm dr dd bk rt : Nat} {c : Nat → Nat} {K : Nat} (hK : K ≤ m) (hm : m ≤ 4000) (h6 : s 6 ≤ 20000) (htk : tk c K < 32768) (hK1 : 1 ≤ K ∨ K = 0) (hP : ∀ (h : gH) (c' : Nat → Nat) (r : Int32), r = (if tk c K < s 6 then nI (tk c K) else -2) → Mc h cd s k (m - K) sg cm sd mm dr dd bk rt wt → h 147 = some (.inl (1, 4000, .inl (fun k => nI (c' k)))) → (∀ j, j < (m - K) → c' j = c (j + K)) → (∀ j, c' j ≤ 1) → g_fr [142, 147] h0 h → P r h) : ∀ (t i : Nat) (h : gH) (c' : Nat → Nat), m - K - i < t → i ≤ m - K → Mc h cd s k (m - K) sg cm sd mm dr dd bk rt wt → h 147 = some (.inl (1, 4000, .inl (fun k => nI (c' k)))) → (∀ j, j < i → c' j = c (j + K)) → (∀ j, i ≤ j → c' j = c j) → (∀ j, c' j ≤ 1) → g_fr [142, 147] h0 h →
    g_W G mX11_number R (g_K G (q_i n ex [142, 147, 162, 163, 164, 165] h0 P) 0 0) n ex h 0 0 109 [(3, .int (nI i)), (2, .int (nI (tk c K))), (1, .int (nI K)), (0, .ref 142)] [] := by
  intro t
  induction t with
  | zero => intro i h c' hm; exact absurd hm (by omega)
  | succ t ih =>
    intro i h c' ht hi m0 a7 z1 z2 z3 hf
    refine g_iload_n dX11_number_109 rfl rfl ?_
    refine g_aload_n dX11_number_110 rfl rfl ?_
    refine g_getf (v := .int (nI (m - K))) dX11_number_111 fX11_247 m0 rfl ?_
    refine g_icmp_geN (tgt := 137) dX11_number_114 (by decide) (by omega) (by omega) (fun c114 => ?_) (fun c114 => ?_)
    · refine g_iload_n dX11_number_137 rfl rfl ?_
      refine g_aload_n dX11_number_138 rfl rfl ?_
      refine g_getf (v := .int (nI (s 6))) dX11_number_139 fX11_240 m0 rfl ?_
      refine g_icmp_geN (tgt := 149) dX11_number_142 (by decide) (by omega) (by omega) (fun c142 => ?_) (fun c142 => ?_)
      · refine g_bipush (v := -2) dX11_number_149 (by decide) ?_
        have e : i = m - K := by omega
        subst e
        exact e_i dX11_number_151 rfl rfl (hf.mono (by simp)) (hP _ c' _ (by first | rw [if_pos (by omega)] | rw [if_neg (by omega)]) m0 a7 z1 z3 hf) (by decide) (by decide)
      · refine g_iload_n dX11_number_145 rfl rfl ?_
        refine g_goto (tgt := 151) dX11_number_146 (by decide) ?_
        have e : i = m - K := by omega
        subst e
        exact e_i dX11_number_151 rfl rfl (hf.mono (by simp)) (hP _ c' _ (by first | rw [if_pos (by omega)] | rw [if_neg (by omega)]) m0 a7 z1 z3 hf) (by decide) (by decide)
    · have w1 := z3 (i + K)
      refine g_aload_n dX11_number_117 rfl rfl ?_
      refine g_getf (v := .ref 147) dX11_number_118 fX11_45 m0 rfl ?_
      refine g_iload_n dX11_number_121 rfl rfl ?_
      refine g_aload_n dX11_number_122 rfl rfl ?_
      refine g_getf (v := .ref 147) dX11_number_123 fX11_45 m0 rfl ?_
      refine g_iload_n dX11_number_126 rfl rfl ?_
      refine g_iload_n dX11_number_127 rfl rfl ?_
      refine g_iaddN dX11_number_128 ?_
      refine g_baldN dX11_number_129 a7 (by omega) (by decide) ?_
      refine g_bastN dX11_number_130 a7 (by omega) (by decide) ?_
      rw [nar_b (by omega), upd_nI]
      refine g_iincN (z := 1) (ls' := [(3, .int (nI (i + 1))), (2, .int (nI (tk c K))), (1, .int (nI K)), (0, .ref 142)]) dX11_number_131 rfl (by decide) rfl ?_
      refine g_goto (tgt := 109) dX11_number_134 (by decide) ?_
      refine g_pick [0, 1, 2, 3] (ls' := [(3, .int (nI (i + 1))), (2, .int (nI (tk c K))), (1, .int (nI K)), (0, .ref 142)]) rfl ?_
      refine ih (i + 1) _ (va_up c' i (c' (i + K))) (by omega) (by omega) (g_ne (by decide) m0) g_eq (fun j hj => ?_) (fun j hj => (va_n (by omega)).trans (z2 j (by omega))) (up_le z3 (z3 _)) (hf.up (by simp))
      by_cases q : j = i
      · subst q; rw [va_s]; exact z2 _ (by omega)
      · rw [va_n q]; exact z1 j (by omega)
set_option maxHeartbeats 4000000 in
set_option maxRecDepth 100000 in
theorem c_mnumber (G : gG) (d n : Nat) (ex : Bool) (h : gH) {cd wt : Int32} {s : Nat → Nat} {k m sg cm sd mm dr dd bk rt : Nat} {dg c : Nat → Nat} (hk : k ≤ 20) (m0 : Mc h cd s k m sg cm sd mm dr dd bk rt wt) (hM : Mh h dg) (a7 : h 147 = some (.inl (1, 4000, .inl (fun k => nI (c k))))) (hc1 : ∀ j, c j ≤ 1) (hm : m ≤ 4000) (h6 : s 6 ≤ 20000) (hN1 : ¬ sd = 0 → 1 ≤ s 6) (hsd : sd ≤ 1) (hdr : dr ≤ 200) : g_M G mX11_number (d + 3) 0 0 [.ref 142] n ex h (q_i n ex [142, 147, 162, 163, 164, 165] h (fun r h' => (¬ sd = 0 ∧ r = nI (hv (shaO dg k (dr + 1)) 8 % s 6) ∧ Mc h' cd s k m sg cm sd mm dr dd bk rt wt ∧ Mh h' dg ∧ h' 147 = some (.inl (1, 4000, .inl (fun k => nI (c k))))) ∨ (sd = 0 ∧ ∃ K, ck_P (s 6) K ∧ ((m < K ∧ r = -1 ∧ Mc h' cd s k m sg cm sd mm dr dd bk rt wt ∧ h' 147 = some (.inl (1, 4000, .inl (fun k => nI (c k))))) ∨ (K ≤ m ∧ r = (if tk c K < s 6 then nI (tk c K) else -2) ∧ ∃ c' : Nat → Nat, Mc h' cd s k (m - K) sg cm sd mm dr dd bk rt wt ∧ h' 147 = some (.inl (1, 4000, .inl (fun k => nI (c' k)))) ∧ (∀ j, j < m - K → c' j = c (j + K)) ∧ ∀ j, c' j ≤ 1)) ∧ g_fr [142, 147] h h'))) := by
  refine g_enter (by decide) (Nat.le_of_ble_eq_true rfl) ?_
  show g_W G _ _ _ n ex h 0 0 0 [(0, .ref 142)] []
  refine g_aload_n dX11_number_0 rfl rfl ?_
  refine g_getf (v := .int (nI sd)) dX11_number_1 fX11_261 m0 rfl ?_
  refine g_if_eqN (tgt := 56) dX11_number_4 (by decide) (by omega) (fun c4 => ?_) (fun c4 => ?_)
  · refine g_aload_n dX11_number_56 rfl rfl ?_
    refine cVi (st := []) dX11_number_57 (c_mcad G (d + 2) n ex h m0 h6) sX11_296 m0 rfl rfl (by simp only [g_rm]; omega) (by simp only [g_rm]; omega) (Nat.le_of_ble_eq_true rfl) ⟨Nat.le_of_ble_eq_true rfl, Nat.le_of_ble_eq_true rfl⟩ (fun r4 h1 fr2 p3 => ?_)
    cases g_fr0 fr2
    obtain ⟨K, rfl, hK⟩ := p3
    have hK15 := hK.1
    refine g_istore_n (ls' := [(1, .int (nI K)), (0, .ref 142)]) dX11_number_60 rfl (by decide) rfl ?_
    refine g_aload_n dX11_number_61 rfl rfl ?_
    refine g_getf (v := .int (nI m)) dX11_number_62 fX11_247 m0 rfl ?_
    refine g_iload_n dX11_number_65 rfl rfl ?_
    refine g_icmp_geN (tgt := 71) dX11_number_66 (by decide) (by omega) (by omega) (fun c66 => ?_) (fun c66 => ?_)
    · refine g_iconst (v := nI 0) dX11_number_71 (by decide) ?_
      refine g_istore_n (ls' := [(2, .int (nI 0)), (1, .int (nI K)), (0, .ref 142)]) dX11_number_72 rfl (by decide) rfl ?_
      refine g_iconst (v := nI 0) dX11_number_73 (by decide) ?_
      refine g_istore_n (ls' := [(3, .int (nI 0)), (2, .int (nI 0)), (1, .int (nI K)), (0, .ref 142)]) dX11_number_74 rfl (by decide) rfl ?_
      refine g_pick [0, 1, 2, 3] (ls' := [(3, .int (nI 0)), (2, .int (nI 0)), (1, .int (nI K)), (0, .ref 142)]) rfl ?_
      have htk := tk_lt (n := K) (fun j hj => hc1 j)
      have htk2 : tk c K < 32768 := Nat.lt_of_lt_of_le htk (Nat.pow_le_pow_right (by decide) hK15)
      refine lp_mnum2 G _ _ n ex h m0 a7 (by omega) hm ?_ (K + 1) 0 (by omega) (by omega)
      refine g_aload_n dX11_number_97 rfl rfl ?_
      refine g_dup dX11_number_98 rfl ?_
      refine g_getf (v := .int (nI m)) dX11_number_99 fX11_247 m0 rfl ?_
      refine g_iload_n dX11_number_102 rfl rfl ?_
      refine g_isubN dX11_number_103 (by omega) ?_
      refine g_put (fs' := [.int cd, .ref 143, .int (nI (s 4)), .int (nI (s 7)), .int (nI (s 8)), .ref 144, .int (nI (s 5)), .int (nI (s 6)), .ref 145, .int (nI (s 9)), .int (nI (s 10)), .int (nI (s 11)), .int (nI (s 12)), .ref 146, .int (nI k), .ref 147, .int (nI (m - K)), .int (nI sg), .int (nI cm), .int (nI sd), .ref 148, .ref 149, .ref 150, .ref 151, .int (nI mm), .ref 152, .ref 153, .ref 154, .int (nI dr), .int (nI dd), .int (nI bk), .int wt, .ref 155, .int (nI rt), .ref 156, .ref 157, .ref 158, .ref 159, .ref 160, .ref 161, .ref 162, .ref 163, .ref 164, .ref 165, .ref 166]) dX11_number_104 fX11_247 m0 (Nat.le_of_ble_eq_true rfl) rfl rfl rfl ?_
      refine g_iconst (v := nI 0) dX11_number_107 (by decide) ?_
      refine g_istore_n (ls' := [(3, .int (nI 0)), (2, .int (nI (tk c K))), (1, .int (nI K)), (0, .ref 142)]) dX11_number_108 rfl (by decide) rfl ?_
      refine g_pick [0, 1, 2, 3] (ls' := [(3, .int (nI 0)), (2, .int (nI (tk c K))), (1, .int (nI K)), (0, .ref 142)]) rfl ?_
      exact lp_mnum3 G _ _ n ex h (c := c) (K := K) (by omega) hm h6 htk2 (by omega) (fun h2 c2 r2 er x1 x2 x3 x4 x5 => Or.inr ⟨c4, K, hK, Or.inr ⟨by omega, er, c2, x1, x2, x3, x4⟩, x5⟩) (m - K + 1) 0 _ c (by omega) (by omega) g_eq (g_ne (by decide) a7) (fun j hj => absurd hj (by omega)) (fun _ _ => rfl) hc1 (g_fr.rf.up (by simp))
    · refine g_iconst (v := -1) dX11_number_69 (by decide) ?_
      exact e_i dX11_number_70 rfl rfl g_fr.rf (Or.inr ⟨c4, K, hK, Or.inl ⟨by omega, rfl, m0, a7⟩, g_fr.rf⟩) (by decide) (by decide)
  · refine g_aload_n dX11_number_7 rfl rfl ?_
    refine g_aload_n dX11_number_8 rfl rfl ?_
    refine g_getf (v := .int (nI dr)) dX11_number_9 fX11_288 m0 rfl ?_
    refine g_iconst (v := nI 1) dX11_number_12 (by decide) ?_
    refine g_iaddN dX11_number_13 ?_
    refine cVv (st := []) dX11_number_14 (c_digestM G d n ex h (num := dr + 1) (dg := dg) hk (by omega) m0 hM) sX11_291 m0 rfl rfl (by simp only [g_rm]; omega) (by simp only [g_rm]; omega) (Nat.le_of_ble_eq_true rfl) ⟨Nat.le_of_ble_eq_true rfl, Nat.le_of_ble_eq_true rfl⟩ (fun h5 fr6 p7 => ?_)
    obtain ⟨y1, dI, y2, y3⟩ := p7
    refine g_lconst (v := lN 0) dX11_number_17 (by decide) ?_
    refine g_lstore_n (ls' := [(1, .long (lN 0)), (0, .ref 142)]) dX11_number_18 rfl (by decide) rfl ?_
    refine g_iconst (v := nI 0) dX11_number_19 (by decide) ?_
    refine g_istore_n (ls' := [(3, .int (nI 0)), (1, .long (lN 0)), (0, .ref 142)]) dX11_number_20 rfl (by decide) rfl ?_
    refine g_pick [0, 1, 2] (ls' := [(3, .int (nI 0)), (1, .long (lN 0)), (0, .ref 142)]) rfl ?_
    have e0 : lN 0 = lN (hb (shaO dg k (dr + 1)) 0 % s 6) := by rw [show hb (shaO dg k (dr + 1)) 0 = 0 from rfl, Nat.zero_mod]
    rw [e0]
    exact lp_mnum G _ _ n ex _ h (fr6.at (by intro q; simp only [List.mem_cons, List.not_mem_nil, or_false] at q; omega) m0) y2 y3 (hN1 c4) h6 (g_fr.tr (S := [142, 147, 162, 163, 164, 165]) g_fr.rf fr6 (by simp)) (fun er => Or.inl ⟨c4, er, fr6.at (by intro q; simp only [List.mem_cons, List.not_mem_nil, or_false] at q; omega) m0, y1, fr6.at (by simp) a7⟩) 33 0 (by omega) (by omega)
