def sm_ (v : Nat → Nat) (x : Nat) : Nat → Nat
  | 0 => 0
  | i + 1 => sm_ v x i + (if v i = x then 1 else 0)
theorem sm_le (v : Nat → Nat) (x i : Nat) : sm_ v x i ≤ i := by
  induction i with
  | zero => exact Nat.le_refl _
  | succ i ih => show sm_ v x i + _ ≤ _; split <;> omega
def gq_ (v : Nat → Nat) (x : Nat) : Nat → Nat
  | 0 => 0
  | i + 1 => gq_ v x i + (if x ≤ v i then 1 else 0)
theorem gq_eq (v : Nat → Nat) (x i : Nat) : gq_ v x i = ab v x i + sm_ v x i := by
  induction i with
  | zero => rfl
  | succ i ih =>
    show gq_ v x i + (if x ≤ v i then 1 else 0) = ab v x i + (if x < v i then 1 else 0) + (sm_ v x i + (if v i = x then 1 else 0))
    rw [ih]
    by_cases h1 : x < v i
    · rw [if_pos (by omega), if_pos h1, if_neg (by omega)]; omega
    · by_cases h2 : v i = x
      · rw [if_pos (by omega), if_neg h1, if_pos h2]; omega
      · rw [if_neg (by omega), if_neg h1, if_neg h2]; omega
theorem ab_anti (v : Nat → Nat) {x y : Nat} (h : x ≤ y) (i : Nat) : ab v y i ≤ ab v x i := by
  induction i with
  | zero => exact Nat.le_refl _
  | succ i ih =>
    show ab v y i + (if y < v i then 1 else 0) ≤ ab v x i + (if x < v i then 1 else 0)
    by_cases h1 : y < v i
    · rw [if_pos h1, if_pos (by omega)]; omega
    · rw [if_neg h1]; omega
theorem wi_1 {s v : Nat → Nat} {c : Nat} : wi s v c = 1 ↔ ab v (v c) (s 4) < s 7 := by
  unfold wi; split <;> simp [*]
theorem wi_0 {s v : Nat → Nat} {c : Nat} : wi s v c = 0 ↔ ¬ ab v (v c) (s 4) < s 7 := by
  unfold wi; split <;> simp [*]
theorem mx_ex (p : Nat → Prop) (v : Nat → Nat) : ∀ n, (∃ c, c < n ∧ p c) → ∃ c, c < n ∧ p c ∧ ∀ o, o < n → p o → v o ≤ v c := by
  intro n
  induction n with
  | zero => exact fun ⟨c, hc, _⟩ => absurd hc (by omega)
  | succ n ih =>
    intro ⟨c, hc, hp⟩
    by_cases q : ∃ c, c < n ∧ p c
    · obtain ⟨d, hd, hpd, hm⟩ := ih q
      by_cases z : p n ∧ v d < v n
      · exact ⟨n, by omega, z.1, fun o ho hpo => by
          by_cases e : o = n
          · rw [e]; exact Nat.le_refl _
          · have := hm o (by omega) hpo; omega⟩
      · refine ⟨d, by omega, hpd, fun o ho hpo => ?_⟩
        by_cases e : o = n
        · subst e; exact Nat.not_lt.mp (fun q => z ⟨hpo, q⟩)
        · exact hm o (by omega) hpo
    · have e : c = n := by
        by_cases e : c = n
        · exact e
        · exact absurd ⟨c, by omega, hp⟩ q
      subst e
      exact ⟨c, by omega, hp, fun o ho hpo => by
        by_cases e : o = c
        · rw [e]; exact Nat.le_refl _
        · exact absurd ⟨o, by omega, hpo⟩ q⟩
theorem mn_ex (p : Nat → Prop) (v : Nat → Nat) : ∀ n, (∃ c, c < n ∧ p c) → ∃ c, c < n ∧ p c ∧ ∀ o, o < n → p o → v c ≤ v o := by
  intro n
  induction n with
  | zero => exact fun ⟨c, hc, _⟩ => absurd hc (by omega)
  | succ n ih =>
    intro ⟨c, hc, hp⟩
    by_cases q : ∃ c, c < n ∧ p c
    · obtain ⟨d, hd, hpd, hm⟩ := ih q
      by_cases z : p n ∧ v n < v d
      · exact ⟨n, by omega, z.1, fun o ho hpo => by
          by_cases e : o = n
          · rw [e]; exact Nat.le_refl _
          · have := hm o (by omega) hpo; omega⟩
      · refine ⟨d, by omega, hpd, fun o ho hpo => ?_⟩
        by_cases e : o = n
        · subst e; exact Nat.not_lt.mp (fun q => z ⟨hpo, q⟩)
        · exact hm o (by omega) hpo
    · have e : c = n := by
        by_cases e : c = n
        · exact e
        · exact absurd ⟨c, by omega, hp⟩ q
      subst e
      exact ⟨c, by omega, hp, fun o ho hpo => by
        by_cases e : o = c
        · rw [e]; exact Nat.le_refl _
        · exact absurd ⟨o, by omega, hpo⟩ q⟩
theorem ab_mx (v : Nat → Nat) (x i : Nat) (h : ∀ o, o < i → v o ≤ x) : ab v x i = 0 := by
  induction i with
  | zero => rfl
  | succ i ih =>
    show ab v x i + (if x < v i then 1 else 0) = 0
    rw [ih (fun o ho => h o (by omega)), if_neg (by have := h i (by omega); omega)]
theorem gq_hw {s v : Nat → Nat} {x i : Nat} (h : ∀ o, o < i → (x ≤ v o ↔ wi s v o = 1)) : gq_ v x i = hw_ s v i := by
  induction i with
  | zero => rfl
  | succ i ih =>
    show gq_ v x i + (if x ≤ v i then 1 else 0) = hw_ s v i + wi s v i
    rw [ih (fun o ho => h o (by omega))]
    have h1 := h i (by omega)
    have h2 := wi_le s v i
    by_cases q : x ≤ v i
    · rw [if_pos q, h1.mp q]
    · rw [if_neg q]
      have : ¬ wi s v i = 1 := fun z => q (h1.mpr z)
      omega
theorem gq_hw_le {s v : Nat → Nat} {x i : Nat} (h : ∀ o, o < i → x ≤ v o → wi s v o = 1) : gq_ v x i ≤ hw_ s v i := by
  induction i with
  | zero => exact Nat.le_refl _
  | succ i ih =>
    show gq_ v x i + (if x ≤ v i then 1 else 0) ≤ hw_ s v i + wi s v i
    have h0 := ih (fun o ho => h o (by omega))
    by_cases q : x ≤ v i
    · rw [if_pos q, h i (by omega) q]; omega
    · rw [if_neg q]; omega
theorem ab_hw_le {s v : Nat → Nat} {x i : Nat} (h : ∀ o, o < i → x < v o → wi s v o = 1) : ab v x i ≤ hw_ s v i := by
  induction i with
  | zero => exact Nat.le_refl _
  | succ i ih =>
    show ab v x i + (if x < v i then 1 else 0) ≤ hw_ s v i + wi s v i
    have h0 := ih (fun o ho => h o (by omega))
    by_cases q : x < v i
    · rw [if_pos q, h i (by omega) q]; omega
    · rw [if_neg q]; omega
theorem hw_all {s v : Nat → Nat} {i : Nat} (h : ∀ o, o < i → wi s v o = 1) : hw_ s v i = i := by
  induction i with
  | zero => rfl
  | succ i ih => show hw_ s v i + wi s v i = _; rw [ih (fun o ho => h o (by omega)), h i (by omega)]
/-- the model's test of a tie and the class's count of winners agree -/
theorem tie_iff {s v : Nat → Nat} (h1 : 1 ≤ s 7) (h2 : s 7 < s 4) : (∀ c, c < s 4 → ¬ (ab v (v c) (s 4) < s 7 ∧ s 7 < ab v (v c) (s 4) + sm_ v (v c) (s 4))) ↔ hw_ s v (s 4) = s 7 := by
  constructor
  · intro H
    obtain ⟨a, ha, -, hm⟩ := mx_ex (fun _ => True) v (s 4) ⟨0, by omega, trivial⟩
    have haw : wi s v a = 1 := wi_1.mpr (by rw [ab_mx v (v a) (s 4) (fun o ho => hm o ho trivial)]; omega)
    obtain ⟨c, hc, hcw, hmin⟩ := mn_ex (fun c => wi s v c = 1) v (s 4) ⟨a, ha, haw⟩
    have e1 : gq_ v (v c) (s 4) = hw_ s v (s 4) := gq_hw (fun o ho => ⟨fun q => wi_1.mpr (Nat.lt_of_le_of_lt (ab_anti v q _) (wi_1.mp hcw)), fun q => hmin o ho q⟩)
    rw [gq_eq] at e1
    have h3 := H c hc
    have h4 := wi_1.mp hcw
    have h5 : hw_ s v (s 4) ≤ s 7 := by omega
    rcases Nat.lt_or_ge (hw_ s v (s 4)) (s 7) with q | q
    · exfalso
      by_cases z : ∃ c, c < s 4 ∧ wi s v c = 0
      · obtain ⟨e, he, hew, hmx⟩ := mx_ex (fun c => wi s v c = 0) v (s 4) z
        have h6 : ab v (v e) (s 4) ≤ hw_ s v (s 4) := ab_hw_le (fun o ho hlt => by
          have h7 := wi_le s v o
          by_cases y : wi s v o = 0
          · have := hmx o ho y; omega
          · omega)
        exact wi_0.mp hew (by omega)
      · have := hw_all (s := s) (v := v) (i := s 4) (fun o ho => by
          have h7 := wi_le s v o
          by_cases y : wi s v o = 0
          · exact absurd ⟨o, ho, y⟩ z
          · omega)
        omega
    · omega
  · intro H c hc ⟨q1, q2⟩
    have := gq_hw_le (s := s) (v := v) (x := v c) (i := s 4) (fun o ho q => wi_1.mpr (Nat.lt_of_le_of_lt (ab_anti v q _) q1))
    rw [gq_eq, H] at this
    omega
set_option maxHeartbeats 4000000 in
set_option maxRecDepth 100000 in
theorem lp_choose1 (G : gG) (R : Room) (KK : gK) (n : Nat) (ex : Bool) (h : gH) {cd wt : Int32} {s : Nat → Nat} {k m sg cm sd mm dr dd bk rt : Nat} {v : Nat → Nat} {c : Nat} (m0 : Mc h cd s k m sg cm sd mm dr dd bk rt wt) (a3 : h 143 = some (.inl (0, 8, .inl (fun k => nI (v k))))) (h4 : s 4 ≤ 8) (hc : c < s 4) (hv : ∀ k, v k < 2 ^ 31) (kk : g_W G mX11_choose R KK n ex h 0 0 101 [(4, .int (nI (s 4))), (3, .int (nI (sm_ v (v c) (s 4)))), (2, .int (nI (ab v (v c) (s 4)))), (1, .int (nI c)), (0, .ref 142)] []) : ∀ (t i : Nat), s 4 - i < t → i ≤ s 4 →
    g_W G mX11_choose R KK n ex h 0 0 38 [(4, .int (nI i)), (3, .int (nI (sm_ v (v c) i))), (2, .int (nI (ab v (v c) i))), (1, .int (nI c)), (0, .ref 142)] [] := by
  intro t
  induction t with
  | zero => intro i hm; exact absurd hm (by omega)
  | succ t ih =>
    intro i ht hi
    refine g_iload dX11_choose_38 rfl ?_
    refine g_aload_n dX11_choose_40 rfl rfl ?_
    refine g_getf (v := .int (nI (s 4))) dX11_choose_41 fX11_234 m0 rfl ?_
    refine g_icmp_geN (tgt := 101) dX11_choose_44 (by decide) (by omega) (by omega) (fun c44 => ?_) (fun c44 => ?_)
    · refine g_pick [0, 1, 2, 3, 4] (ls' := [(4, .int (nI i)), (3, .int (nI (sm_ v (v c) i))), (2, .int (nI (ab v (v c) i))), (1, .int (nI c)), (0, .ref 142)]) rfl ?_
      have e : i = s 4 := by omega
      subst e
      exact kk
    · refine g_iload_n dX11_choose_47 rfl rfl ?_
      refine g_aload_n dX11_choose_48 rfl rfl ?_
      refine g_getf (v := .ref 143) dX11_choose_49 fX11_13 m0 rfl ?_
      refine g_iload dX11_choose_52 rfl ?_
      refine g_ialdN dX11_choose_54 a3 (by omega) (by decide) ?_
      refine g_aload_n dX11_choose_55 rfl rfl ?_
      refine g_getf (v := .ref 143) dX11_choose_56 fX11_13 m0 rfl ?_
      refine g_iload_n dX11_choose_59 rfl rfl ?_
      refine g_ialdN dX11_choose_60 a3 (by omega) (by decide) ?_
      refine g_icmp_leN (tgt := 68) dX11_choose_61 (by decide) (hv _) (hv _) (fun c61 => ?_) (fun c61 => ?_)
      · refine g_iconst (v := nI 0) dX11_choose_68 (by decide) ?_
        refine g_iaddN dX11_choose_69 ?_
        refine g_istore_n (ls' := [(2, .int (nI ((ab v (v c) i) + 0))), (4, .int (nI i)), (3, .int (nI (sm_ v (v c) i))), (1, .int (nI c)), (0, .ref 142)]) dX11_choose_70 rfl (by decide) rfl ?_
        refine g_iload_n dX11_choose_71 rfl rfl ?_
        refine g_aload_n dX11_choose_72 rfl rfl ?_
        refine g_getf (v := .ref 143) dX11_choose_73 fX11_13 m0 rfl ?_
        refine g_iload dX11_choose_76 rfl ?_
        refine g_ialdN dX11_choose_78 a3 (by omega) (by decide) ?_
        refine g_aload_n dX11_choose_79 rfl rfl ?_
        refine g_getf (v := .ref 143) dX11_choose_80 fX11_13 m0 rfl ?_
        refine g_iload_n dX11_choose_83 rfl rfl ?_
        refine g_ialdN dX11_choose_84 a3 (by omega) (by decide) ?_
        refine g_icmp_neN (tgt := 92) dX11_choose_85 (by decide) (hv _) (hv _) (fun c85 => ?_) (fun c85 => ?_)
        · refine g_iconst (v := nI 0) dX11_choose_92 (by decide) ?_
          refine g_iaddN dX11_choose_93 ?_
          refine g_istore_n (ls' := [(3, .int (nI ((sm_ v (v c) i) + 0))), (2, .int (nI ((ab v (v c) i) + 0))), (4, .int (nI i)), (1, .int (nI c)), (0, .ref 142)]) dX11_choose_94 rfl (by decide) rfl ?_
          refine g_iincN (z := 1) (ls' := [(4, .int (nI (i + 1))), (3, .int (nI ((sm_ v (v c) i) + 0))), (2, .int (nI ((ab v (v c) i) + 0))), (1, .int (nI c)), (0, .ref 142)]) dX11_choose_95 rfl (by decide) rfl ?_
          refine g_goto (tgt := 38) dX11_choose_98 (by decide) ?_
          refine g_pick [0, 1, 2, 3, 4] (ls' := [(4, .int (nI (i + 1))), (3, .int (nI ((sm_ v (v c) i) + 0))), (2, .int (nI ((ab v (v c) i) + 0))), (1, .int (nI c)), (0, .ref 142)]) rfl ?_
          rw [show ((ab v (v c) i) + 0) = ab v (v c) (i + 1) from by show _ = ab v (v c) i + _; rw [if_neg (by omega)]]
          rw [show ((sm_ v (v c) i) + 0) = sm_ v (v c) (i + 1) from by show _ = sm_ v (v c) i + _; rw [if_neg c85]]
          exact ih (i + 1) (by omega) (by omega)
        · refine g_iconst (v := nI 1) dX11_choose_88 (by decide) ?_
          refine g_goto (tgt := 93) dX11_choose_89 (by decide) ?_
          refine g_iaddN dX11_choose_93 ?_
          refine g_istore_n (ls' := [(3, .int (nI ((sm_ v (v c) i) + 1))), (2, .int (nI ((ab v (v c) i) + 0))), (4, .int (nI i)), (1, .int (nI c)), (0, .ref 142)]) dX11_choose_94 rfl (by decide) rfl ?_
          refine g_iincN (z := 1) (ls' := [(4, .int (nI (i + 1))), (3, .int (nI ((sm_ v (v c) i) + 1))), (2, .int (nI ((ab v (v c) i) + 0))), (1, .int (nI c)), (0, .ref 142)]) dX11_choose_95 rfl (by decide) rfl ?_
          refine g_goto (tgt := 38) dX11_choose_98 (by decide) ?_
          refine g_pick [0, 1, 2, 3, 4] (ls' := [(4, .int (nI (i + 1))), (3, .int (nI ((sm_ v (v c) i) + 1))), (2, .int (nI ((ab v (v c) i) + 0))), (1, .int (nI c)), (0, .ref 142)]) rfl ?_
          rw [show ((ab v (v c) i) + 0) = ab v (v c) (i + 1) from by show _ = ab v (v c) i + _; rw [if_neg (by omega)]]
          rw [show ((sm_ v (v c) i) + 1) = sm_ v (v c) (i + 1) from by show _ = sm_ v (v c) i + _; rw [if_pos c85]]
          exact ih (i + 1) (by omega) (by omega)
      · refine g_iconst (v := nI 1) dX11_choose_64 (by decide) ?_
        refine g_goto (tgt := 69) dX11_choose_65 (by decide) ?_
        refine g_iaddN dX11_choose_69 ?_
        refine g_istore_n (ls' := [(2, .int (nI ((ab v (v c) i) + 1))), (4, .int (nI i)), (3, .int (nI (sm_ v (v c) i))), (1, .int (nI c)), (0, .ref 142)]) dX11_choose_70 rfl (by decide) rfl ?_
        refine g_iload_n dX11_choose_71 rfl rfl ?_
        refine g_aload_n dX11_choose_72 rfl rfl ?_
        refine g_getf (v := .ref 143) dX11_choose_73 fX11_13 m0 rfl ?_
        refine g_iload dX11_choose_76 rfl ?_
        refine g_ialdN dX11_choose_78 a3 (by omega) (by decide) ?_
        refine g_aload_n dX11_choose_79 rfl rfl ?_
        refine g_getf (v := .ref 143) dX11_choose_80 fX11_13 m0 rfl ?_
        refine g_iload_n dX11_choose_83 rfl rfl ?_
        refine g_ialdN dX11_choose_84 a3 (by omega) (by decide) ?_
        refine g_icmp_neN (tgt := 92) dX11_choose_85 (by decide) (hv _) (hv _) (fun c85 => ?_) (fun c85 => ?_)
        · refine g_iconst (v := nI 0) dX11_choose_92 (by decide) ?_
          refine g_iaddN dX11_choose_93 ?_
          refine g_istore_n (ls' := [(3, .int (nI ((sm_ v (v c) i) + 0))), (2, .int (nI ((ab v (v c) i) + 1))), (4, .int (nI i)), (1, .int (nI c)), (0, .ref 142)]) dX11_choose_94 rfl (by decide) rfl ?_
          refine g_iincN (z := 1) (ls' := [(4, .int (nI (i + 1))), (3, .int (nI ((sm_ v (v c) i) + 0))), (2, .int (nI ((ab v (v c) i) + 1))), (1, .int (nI c)), (0, .ref 142)]) dX11_choose_95 rfl (by decide) rfl ?_
          refine g_goto (tgt := 38) dX11_choose_98 (by decide) ?_
          refine g_pick [0, 1, 2, 3, 4] (ls' := [(4, .int (nI (i + 1))), (3, .int (nI ((sm_ v (v c) i) + 0))), (2, .int (nI ((ab v (v c) i) + 1))), (1, .int (nI c)), (0, .ref 142)]) rfl ?_
          rw [show ((ab v (v c) i) + 1) = ab v (v c) (i + 1) from by show _ = ab v (v c) i + _; first | rw [if_pos c61] | rw [if_neg (by omega)]]
          rw [show ((sm_ v (v c) i) + 0) = sm_ v (v c) (i + 1) from by show _ = sm_ v (v c) i + _; rw [if_neg c85]]
          exact ih (i + 1) (by omega) (by omega)
        · refine g_iconst (v := nI 1) dX11_choose_88 (by decide) ?_
          refine g_goto (tgt := 93) dX11_choose_89 (by decide) ?_
          refine g_iaddN dX11_choose_93 ?_
          refine g_istore_n (ls' := [(3, .int (nI ((sm_ v (v c) i) + 1))), (2, .int (nI ((ab v (v c) i) + 1))), (4, .int (nI i)), (1, .int (nI c)), (0, .ref 142)]) dX11_choose_94 rfl (by decide) rfl ?_
          refine g_iincN (z := 1) (ls' := [(4, .int (nI (i + 1))), (3, .int (nI ((sm_ v (v c) i) + 1))), (2, .int (nI ((ab v (v c) i) + 1))), (1, .int (nI c)), (0, .ref 142)]) dX11_choose_95 rfl (by decide) rfl ?_
          refine g_goto (tgt := 38) dX11_choose_98 (by decide) ?_
          refine g_pick [0, 1, 2, 3, 4] (ls' := [(4, .int (nI (i + 1))), (3, .int (nI ((sm_ v (v c) i) + 1))), (2, .int (nI ((ab v (v c) i) + 1))), (1, .int (nI c)), (0, .ref 142)]) rfl ?_
          rw [show ((ab v (v c) i) + 1) = ab v (v c) (i + 1) from by show _ = ab v (v c) i + _; first | rw [if_pos c61] | rw [if_neg (by omega)]]
          rw [show ((sm_ v (v c) i) + 1) = sm_ v (v c) (i + 1) from by show _ = sm_ v (v c) i + _; rw [if_pos c85]]
          exact ih (i + 1) (by omega) (by omega)
set_option maxHeartbeats 4000000 in
set_option maxRecDepth 100000 in
theorem lp_choose2 (G : gG) (R : Room) (n : Nat) (ex : Bool) (h0 : gH) {cd wt : Int32} {s : Nat → Nat} {k m sg cm sd mm dr dd bk rt : Nat} {v : Nat → Nat} (h4 : s 4 ≤ 8) (h2 : 2 ≤ s 4) (h3 : s 7 < s 4) (hv : ∀ k, v k < 2 ^ 31) : ∀ (t c : Nat) (h : gH) (wn : Nat → Nat), s 4 - c < t → c ≤ s 4 → Mc h cd s k m sg cm sd mm dr dd bk rt wt → h 143 = some (.inl (0, 8, .inl (fun k => nI (v k)))) → h 148 = some (.inl (2, 8, .inl (fun k => nI (wn k)))) → (∀ k, wn k ≤ 1) → (∀ o, o < c → ¬ (ab v (v o) (s 4) < s 7 ∧ s 7 < ab v (v o) (s 4) + sm_ v (v o) (s 4))) → (∀ o, o < c → wn o = wi s v o) → g_fr [148] h0 h →
    g_W G mX11_choose R (g_K G (q_i n ex [148] h0 (fun r h' => ∃ (b : Nat) (wn' : Nat → Nat), r = nI b ∧ b ≤ 1 ∧ h' 148 = some (.inl (2, 8, .inl (fun k => nI (wn' k)))) ∧ (∀ k, wn' k ≤ 1) ∧ (b = 1 ↔ (2 ≤ s 4 ∧ s 7 < s 4 ∧ ∀ c, c < s 4 → ¬ (ab v (v c) (s 4) < s 7 ∧ s 7 < ab v (v c) (s 4) + sm_ v (v c) (s 4)))) ∧ (b = 1 → ∀ c, c < s 4 → wn' c = wi s v c))) 0 0) n ex h 0 0 23 [(1, .int (nI c)), (0, .ref 142)] [] := by
  intro t
  induction t with
  | zero => intro c h wn hm; exact absurd hm (by omega)
  | succ t ih =>
    intro c h wn ht hc m0 a3 a8 z1 z2 z3 hf
    refine g_iload_n dX11_choose_23 rfl rfl ?_
    refine g_aload_n dX11_choose_24 rfl rfl ?_
    refine g_getf (v := .int (nI (s 4))) dX11_choose_25 fX11_234 m0 rfl ?_
    refine g_icmp_geN (tgt := 146) dX11_choose_28 (by decide) (by omega) (by omega) (fun c28 => ?_) (fun c28 => ?_)
    · refine g_iconst (v := nI 1) dX11_choose_146 (by decide) ?_
      have e : c = s 4 := by omega
      subst e
      exact e_i dX11_choose_147 rfl rfl (hf) ⟨1, wn, rfl, by decide, a8, z1, ⟨fun _ => ⟨h2, h3, z2⟩, fun _ => rfl⟩, fun _ => z3⟩ (by decide) (by decide)
    · refine g_iconst (v := nI 0) dX11_choose_31 (by decide) ?_
      refine g_istore_n (ls' := [(2, .int (nI 0)), (1, .int (nI c)), (0, .ref 142)]) dX11_choose_32 rfl (by decide) rfl ?_
      refine g_iconst (v := nI 0) dX11_choose_33 (by decide) ?_
      refine g_istore_n (ls' := [(3, .int (nI 0)), (2, .int (nI 0)), (1, .int (nI c)), (0, .ref 142)]) dX11_choose_34 rfl (by decide) rfl ?_
      refine g_iconst (v := nI 0) dX11_choose_35 (by decide) ?_
      refine g_istore (ls' := [(4, .int (nI 0)), (3, .int (nI 0)), (2, .int (nI 0)), (1, .int (nI c)), (0, .ref 142)]) dX11_choose_36 (by decide) rfl ?_
      refine g_pick [0, 1, 2, 3, 4] (ls' := [(4, .int (nI 0)), (3, .int (nI 0)), (2, .int (nI 0)), (1, .int (nI c)), (0, .ref 142)]) rfl ?_
      refine lp_choose1 G _ _ n ex _ (cd := cd) (s := s) (k := k) (m := m) (sg := sg) (cm := cm) (sd := sd) (mm := mm) (dr := dr) (dd := dd) (bk := bk) (rt := rt) (wt := wt) m0 (v := v) a3 h4 (by omega) hv ?_ (s 4 + 1) 0 (by omega) (by omega)
      have hcl : c < s 4 := by omega
      have hab := ab_le v (v c) (s 4)
      have hsm := sm_le v (v c) (s 4)
      refine g_iload_n dX11_choose_101 rfl rfl ?_
      refine g_aload_n dX11_choose_102 rfl rfl ?_
      refine g_getf (v := .int (nI (s 7))) dX11_choose_103 fX11_17 m0 rfl ?_
      refine g_icmp_geN (tgt := 121) dX11_choose_106 (by decide) (by omega) (by omega) (fun c106 => ?_) (fun c106 => ?_)
      · refine g_aload_n dX11_choose_121 rfl rfl ?_
        refine g_getf (v := .ref 148) dX11_choose_122 fX11_48 m0 rfl ?_
        refine g_iload_n dX11_choose_125 rfl rfl ?_
        refine g_iload_n dX11_choose_126 rfl rfl ?_
        refine g_aload_n dX11_choose_127 rfl rfl ?_
        refine g_getf (v := .int (nI (s 7))) dX11_choose_128 fX11_17 m0 rfl ?_
        refine g_icmp_geN (tgt := 138) dX11_choose_131 (by decide) (by omega) (by omega) (fun c131 => ?_) (fun c131 => ?_)
        · refine g_iconst (v := nI 0) dX11_choose_138 (by decide) ?_
          refine g_zastN dX11_choose_139 a8 (by omega) (by decide) ?_
          rw [nar_z (by decide), upd_nI]
          refine g_iincN (z := 1) (ls' := [(1, .int (nI (c + 1))), (4, .int (nI (s 4))), (3, .int (nI (sm_ v (v c) (s 4)))), (2, .int (nI (ab v (v c) (s 4)))), (0, .ref 142)]) dX11_choose_140 rfl (by decide) rfl ?_
          refine g_goto (tgt := 23) dX11_choose_143 (by decide) ?_
          refine g_pick [0, 4] (ls' := [(1, .int (nI (c + 1))), (0, .ref 142)]) rfl ?_
          refine ih (c + 1) _ (va_up wn c 0) (by omega) (by omega) (g_ne (by decide) m0) (g_ne (by decide) a3) g_eq (up_le z1 (by decide)) (fun o ho => ?_) (fun o ho => ?_) (hf.up (by simp))
          · by_cases q : o = c
            · subst q; exact fun z => by omega
            · exact z2 o (by omega)
          · by_cases q : o = c
            · subst q; rw [va_s]; exact (wi_0.mpr (by omega)).symm
            · rw [va_n q]; exact z3 o (by omega)
        · have c131' := c131
          refine g_iconst (v := nI 1) dX11_choose_134 (by decide) ?_
          refine g_goto (tgt := 139) dX11_choose_135 (by decide) ?_
          refine g_zastN dX11_choose_139 a8 (by omega) (by decide) ?_
          rw [nar_z (by decide), upd_nI]
          refine g_iincN (z := 1) (ls' := [(1, .int (nI (c + 1))), (4, .int (nI (s 4))), (3, .int (nI (sm_ v (v c) (s 4)))), (2, .int (nI (ab v (v c) (s 4)))), (0, .ref 142)]) dX11_choose_140 rfl (by decide) rfl ?_
          refine g_goto (tgt := 23) dX11_choose_143 (by decide) ?_
          refine g_pick [0, 4] (ls' := [(1, .int (nI (c + 1))), (0, .ref 142)]) rfl ?_
          refine ih (c + 1) _ (va_up wn c 1) (by omega) (by omega) (g_ne (by decide) m0) (g_ne (by decide) a3) g_eq (up_le z1 (by decide)) (fun o ho => ?_) (fun o ho => ?_) (hf.up (by simp))
          · by_cases q : o = c
            · subst q; exact fun z => by omega
            · exact z2 o (by omega)
          · by_cases q : o = c
            · subst q; rw [va_s]; exact (wi_1.mpr c131').symm
            · rw [va_n q]; exact z3 o (by omega)
      · refine g_iload_n dX11_choose_109 rfl rfl ?_
        refine g_iload_n dX11_choose_110 rfl rfl ?_
        refine g_iaddN dX11_choose_111 ?_
        refine g_aload_n dX11_choose_112 rfl rfl ?_
        refine g_getf (v := .int (nI (s 7))) dX11_choose_113 fX11_17 m0 rfl ?_
        refine g_icmp_leN (tgt := 121) dX11_choose_116 (by decide) (by omega) (by omega) (fun c116 => ?_) (fun c116 => ?_)
        · refine g_aload_n dX11_choose_121 rfl rfl ?_
          refine g_getf (v := .ref 148) dX11_choose_122 fX11_48 m0 rfl ?_
          refine g_iload_n dX11_choose_125 rfl rfl ?_
          refine g_iload_n dX11_choose_126 rfl rfl ?_
          refine g_aload_n dX11_choose_127 rfl rfl ?_
          refine g_getf (v := .int (nI (s 7))) dX11_choose_128 fX11_17 m0 rfl ?_
          refine g_icmp_geN (tgt := 138) dX11_choose_131 (by decide) (by omega) (by omega) (fun c131 => ?_) (fun c131 => ?_)
          · refine g_iconst (v := nI 0) dX11_choose_138 (by decide) ?_
            refine g_zastN dX11_choose_139 a8 (by omega) (by decide) ?_
            rw [nar_z (by decide), upd_nI]
            refine g_iincN (z := 1) (ls' := [(1, .int (nI (c + 1))), (4, .int (nI (s 4))), (3, .int (nI (sm_ v (v c) (s 4)))), (2, .int (nI (ab v (v c) (s 4)))), (0, .ref 142)]) dX11_choose_140 rfl (by decide) rfl ?_
            refine g_goto (tgt := 23) dX11_choose_143 (by decide) ?_
            refine g_pick [0, 4] (ls' := [(1, .int (nI (c + 1))), (0, .ref 142)]) rfl ?_
            refine ih (c + 1) _ (va_up wn c 0) (by omega) (by omega) (g_ne (by decide) m0) (g_ne (by decide) a3) g_eq (up_le z1 (by decide)) (fun o ho => ?_) (fun o ho => ?_) (hf.up (by simp))
            · by_cases q : o = c
              · subst q; exact fun z => by omega
              · exact z2 o (by omega)
            · by_cases q : o = c
              · subst q; rw [va_s]; exact (wi_0.mpr (by omega)).symm
              · rw [va_n q]; exact z3 o (by omega)
          · have c131' := c131
            refine g_iconst (v := nI 1) dX11_choose_134 (by decide) ?_
            refine g_goto (tgt := 139) dX11_choose_135 (by decide) ?_
            refine g_zastN dX11_choose_139 a8 (by omega) (by decide) ?_
            rw [nar_z (by decide), upd_nI]
            refine g_iincN (z := 1) (ls' := [(1, .int (nI (c + 1))), (4, .int (nI (s 4))), (3, .int (nI (sm_ v (v c) (s 4)))), (2, .int (nI (ab v (v c) (s 4)))), (0, .ref 142)]) dX11_choose_140 rfl (by decide) rfl ?_
            refine g_goto (tgt := 23) dX11_choose_143 (by decide) ?_
            refine g_pick [0, 4] (ls' := [(1, .int (nI (c + 1))), (0, .ref 142)]) rfl ?_
            refine ih (c + 1) _ (va_up wn c 1) (by omega) (by omega) (g_ne (by decide) m0) (g_ne (by decide) a3) g_eq (up_le z1 (by decide)) (fun o ho => ?_) (fun o ho => ?_) (hf.up (by simp))
            · by_cases q : o = c
              · subst q; exact fun z => by omega
              · exact z2 o (by omega)
            · by_cases q : o = c
              · subst q; rw [va_s]; exact (wi_1.mpr c131').symm
              · rw [va_n q]; exact z3 o (by omega)
        · have c106' := c106
          have c116' := c116
          refine g_iconst (v := nI 0) dX11_choose_119 (by decide) ?_
          exact e_i dX11_choose_120 rfl rfl (hf) ⟨0, wn, rfl, by decide, a8, z1, ⟨fun q => absurd q (by decide), fun q => absurd ⟨c106', c116'⟩ (q.2.2 c hcl)⟩, fun q => absurd q (by decide)⟩ (by decide) (by decide)
set_option maxHeartbeats 4000000 in
set_option maxRecDepth 100000 in
theorem c_choose (G : gG) (d n : Nat) (ex : Bool) (h : gH) {cd wt : Int32} {s : Nat → Nat} {k m sg cm sd mm dr dd bk rt : Nat} {v wn : Nat → Nat} (m0 : Mc h cd s k m sg cm sd mm dr dd bk rt wt) (a3 : h 143 = some (.inl (0, 8, .inl (fun k => nI (v k))))) (a8 : h 148 = some (.inl (2, 8, .inl (fun k => nI (wn k))))) (hwn : ∀ k, wn k ≤ 1) (h4 : s 4 ≤ 8) (h7 : s 7 ≤ 7) (hv : ∀ k, v k < 2 ^ 31) : g_M G mX11_choose d 0 0 [.ref 142] n ex h (q_i n ex [148] h (fun r h' => ∃ (b : Nat) (wn' : Nat → Nat), r = nI b ∧ b ≤ 1 ∧ h' 148 = some (.inl (2, 8, .inl (fun k => nI (wn' k)))) ∧ (∀ k, wn' k ≤ 1) ∧ (b = 1 ↔ (2 ≤ s 4 ∧ s 7 < s 4 ∧ ∀ c, c < s 4 → ¬ (ab v (v c) (s 4) < s 7 ∧ s 7 < ab v (v c) (s 4) + sm_ v (v c) (s 4)))) ∧ (b = 1 → ∀ c, c < s 4 → wn' c = wi s v c))) := by
  refine g_enter (by decide) (Nat.le_of_ble_eq_true rfl) ?_
  show g_W G _ _ _ n ex h 0 0 0 [(0, .ref 142)] []
  refine g_aload_n dX11_choose_0 rfl rfl ?_
  refine g_getf (v := .int (nI (s 4))) dX11_choose_1 fX11_234 m0 rfl ?_
  refine g_iconst (v := nI 2) dX11_choose_4 (by decide) ?_
  refine g_icmp_ltN (tgt := 19) dX11_choose_5 (by decide) (by omega) (by omega) (fun c5 => ?_) (fun c5 => ?_)
  · refine g_iconst (v := nI 0) dX11_choose_19 (by decide) ?_
    exact e_i dX11_choose_20 rfl rfl g_fr.rf ⟨0, wn, rfl, by decide, a8, hwn, ⟨fun q => absurd q (by decide), fun q => absurd q.1 (by omega)⟩, fun q => absurd q (by decide)⟩ (by decide) (by decide)
  · refine g_aload_n dX11_choose_8 rfl rfl ?_
    refine g_getf (v := .int (nI (s 7))) dX11_choose_9 fX11_17 m0 rfl ?_
    refine g_aload_n dX11_choose_12 rfl rfl ?_
    refine g_getf (v := .int (nI (s 4))) dX11_choose_13 fX11_234 m0 rfl ?_
    refine g_icmp_ltN (tgt := 21) dX11_choose_16 (by decide) (by omega) (by omega) (fun c16 => ?_) (fun c16 => ?_)
    · refine g_iconst (v := nI 0) dX11_choose_21 (by decide) ?_
      refine g_istore_n (ls' := [(1, .int (nI 0)), (0, .ref 142)]) dX11_choose_22 rfl (by decide) rfl ?_
      refine g_pick [0, 1] (ls' := [(1, .int (nI 0)), (0, .ref 142)]) rfl ?_
      exact lp_choose2 G _ n ex h h4 (by omega) (by omega) hv (s 4 + 1) 0 h wn (by omega) (by omega) m0 a3 a8 hwn (fun o ho => absurd ho (by omega)) (fun o ho => absurd ho (by omega)) g_fr.rf
    · refine g_iconst (v := nI 0) dX11_choose_19 (by decide) ?_
      exact e_i dX11_choose_20 rfl rfl g_fr.rf ⟨0, wn, rfl, by decide, a8, hwn, ⟨fun q => absurd q (by decide), fun q => absurd q.2.1 (by omega)⟩, fun q => absurd q (by decide)⟩ (by decide) (by decide)
