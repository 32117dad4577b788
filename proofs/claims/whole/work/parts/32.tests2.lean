/-- P in lowest terms, pn / pd, after e draws -/
def Pq (h : gH) (pn pd e : Nat) : Prop := ∃ A B, Fr h 19 328 A B ∧ Nat.gcd A B = 1 ∧ 1 ≤ B ∧ A * pd = B * pn ∧ 1 ≤ pd ∧ A ≤ 2 ^ (51 * e) ∧ B ≤ 2 ^ (51 * e)
theorem Pq.fr {h h' : gH} {S : List Nat} {pn pd e : Nat} (z : Pq h pn pd e) (hf : g_fr S h h') (h0 : ∀ i ∈ S, i < 19 ∨ 23 < i) : Pq h' pn pd e := by
  obtain ⟨A, B, z1, z2⟩ := z
  exact ⟨A, B, z1.fr hf (fun x => by have := h0 _ x; omega) (fun x => by have := h0 _ x; omega) (fun x => by have := h0 _ x; omega) (fun x => by have := h0 _ x; omega) (fun x => by have := h0 _ x; omega), z2⟩
/-- pairs one after another: how many, winners, losers -/
def pu_in (wn : Nat → Nat) (a : Nat) : Nat → Nat × (Nat → Nat) × (Nat → Nat) → Nat × (Nat → Nat) × (Nat → Nat)
  | 0, z => z
  | j + 1, z => if wn a = 0 ∨ ¬ wn j = 0 then pu_in wn a j z else ((pu_in wn a j z).1 + 1, va_up (pu_in wn a j z).2.1 (pu_in wn a j z).1 a, va_up (pu_in wn a j z).2.2 (pu_in wn a j z).1 j)
def pu (wn : Nat → Nat) (C : Nat) : Nat → Nat × (Nat → Nat) × (Nat → Nat)
  | 0 => (0, fun _ => 0, fun _ => 0)
  | a + 1 => pu_in wn a C (pu wn C a)
def cw_ (wn : Nat → Nat) : Nat → Nat
  | 0 => 0
  | i + 1 => cw_ wn i + (if wn i = 0 then 0 else 1)
def cl_ (wn : Nat → Nat) : Nat → Nat
  | 0 => 0
  | i + 1 => cl_ wn i + (if wn i = 0 then 1 else 0)
theorem cw_cl (wn : Nat → Nat) (i : Nat) : cw_ wn i + cl_ wn i = i := by
  induction i with
  | zero => rfl
  | succ i ih => show cw_ wn i + _ + (cl_ wn i + _) = i + 1; split <;> omega
theorem cw_mono (wn : Nat → Nat) {i j : Nat} (h : i ≤ j) : cw_ wn i ≤ cw_ wn j := by
  induction j with
  | zero => rw [Nat.le_zero.mp h]; exact Nat.le_refl _
  | succ j ih =>
    by_cases q : i = j + 1
    · rw [q]; exact Nat.le_refl _
    · exact Nat.le_trans (ih (by omega)) (Nat.le_add_right _ _)
theorem cl_mono (wn : Nat → Nat) {i j : Nat} (h : i ≤ j) : cl_ wn i ≤ cl_ wn j := by
  induction j with
  | zero => rw [Nat.le_zero.mp h]; exact Nat.le_refl _
  | succ j ih =>
    by_cases q : i = j + 1
    · rw [q]; exact Nat.le_refl _
    · exact Nat.le_trans (ih (by omega)) (Nat.le_add_right _ _)
theorem pu_in_n (wn : Nat → Nat) (a j : Nat) (z : Nat × (Nat → Nat) × (Nat → Nat)) : (pu_in wn a j z).1 = z.1 + (if wn a = 0 then 0 else cl_ wn j) := by
  induction j with
  | zero => show z.1 = z.1 + _; split <;> rfl
  | succ j ih =>
    show (if wn a = 0 ∨ ¬ wn j = 0 then pu_in wn a j z else _).1 = z.1 + (if wn a = 0 then 0 else cl_ wn j + if wn j = 0 then 1 else 0)
    by_cases q : wn a = 0
    · rw [if_pos (Or.inl q), ih, if_pos q, if_pos q]
    · by_cases p : wn j = 0
      · rw [if_neg (fun x => x.elim q (fun y => y p)), if_neg q, if_pos p]
        show (pu_in wn a j z).1 + 1 = _
        rw [ih, if_neg q]; omega
      · rw [if_pos (Or.inr p), ih, if_neg q, if_neg q, if_neg p]; omega
theorem pu_n (wn : Nat → Nat) (C a : Nat) : (pu wn C a).1 = cw_ wn a * cl_ wn C := by
  induction a with
  | zero => exact (Nat.zero_mul _).symm
  | succ a ih =>
    show (pu_in wn a C (pu wn C a)).1 = (cw_ wn a + _) * _
    rw [pu_in_n, ih, Nat.add_mul]
    by_cases q : wn a = 0
    · rw [if_pos q, if_pos q, Nat.zero_mul]
    · rw [if_neg q, if_neg q, Nat.one_mul]
theorem le16 {a b C : Nat} (h : a + b = C) (hC : C ≤ 8) : a * b ≤ 16 := by
  have ha : a ≤ 8 := by omega
  have hb : b ≤ 8 - a := by omega
  have h1 : a * b ≤ a * (8 - a) := Nat.mul_le_mul_left _ hb
  have h2 : ∀ a : Fin 9, a.val * (8 - a.val) ≤ 16 := by decide
  exact Nat.le_trans h1 (h2 ⟨a, by omega⟩)
theorem pu_le (wn : Nat → Nat) {C : Nat} (hC : C ≤ 8) : (pu wn C C).1 ≤ 16 := by rw [pu_n]; exact le16 (cw_cl wn C) hC
theorem pu_room {wn : Nat → Nat} {C a j : Nat} (hC : C ≤ 8) (ha : a < C) (hj : j < C) (h1 : ¬ wn a = 0) (h2 : wn j = 0) : (pu_in wn a j (pu wn C a)).1 < 16 := by
  rw [pu_in_n, pu_n, if_neg h1]
  have e1 : cw_ wn (a + 1) = cw_ wn a + 1 := by show cw_ wn a + (if wn a = 0 then 0 else 1) = _; rw [if_neg h1]
  have e2 : cl_ wn (j + 1) = cl_ wn j + 1 := by show cl_ wn j + (if wn j = 0 then 1 else 0) = _; rw [if_pos h2]
  have h3 := cl_mono wn (show j + 1 ≤ C from hj)
  have h4 := cw_mono wn (show a + 1 ≤ C from ha)
  have h5 := le16 (cw_cl wn C) hC
  have h6 : (cw_ wn a + 1) * cl_ wn C ≤ cw_ wn C * cl_ wn C := Nat.mul_le_mul_right _ (by omega)
  rw [Nat.add_mul, Nat.one_mul] at h6
  omega
/-- least margin -/
def lmn (N : Nat) (v w l : Nat → Nat) : Nat → Nat
  | 0 => N
  | k + 1 => min (lmn N v w l k) (v (w k) - v (l k))
theorem lmn_congr {N : Nat} {v w l w' l' : Nat → Nat} {m : Nat} (h1 : ∀ k, k < m → w k = w' k) (h2 : ∀ k, k < m → l k = l' k) : lmn N v w l m = lmn N v w' l' m := by
  induction m with
  | zero => rfl
  | succ m ih => show min _ _ = min _ _; rw [ih (fun k hk => h1 k (by omega)) (fun k hk => h2 k (by omega)), h1 m (by omega), h2 m (by omega)]
theorem lmn_le {N : Nat} {v w l : Nat → Nat} {m : Nat} : lmn N v w l m ≤ N := by
  induction m with
  | zero => exact Nat.le_refl _
  | succ m ih => exact Nat.le_trans (Nat.min_le_left _ _) ih
theorem Tk.congr {h : gH} {m : Nat} {w l w' l' v : Nat → Nat} {sw : Nat → Int32} {ea eb : Nat → Nat} (z : Tk h m w l v sw ea eb) (h1 : ∀ k, k < m → w k = w' k) (h2 : ∀ k, k < m → l k = l' k) : Tk h m w' l' v sw ea eb := fun k hk => by
  rw [← h1 k hk, ← h2 k hk]
  exact z k hk
def TB (h0 h : gH) (s v wn en rc : Nat → Nat) (z : Nat × (Nat → Nat) × (Nat → Nat)) : Prop := Te h z.1 0 (lmn (s 6) v z.2.1 z.2.2 z.1) ∧ Tk h z.1 z.2.1 z.2.2 v (fun _ => -1) (fun _ => 0) (fun _ => 0) ∧ Su h s v wn en rc ∧ TeR h ∧ Pq h 1 1 0 ∧ g_fr SP h0 h
theorem TeR.at {h h' : gH} {k : Nat} {S : List Nat} (z : TeR h) (hf : g_fr S h h') (hS : ∀ j ∈ S, j = 17 ∨ (24 + 6 * k ≤ j ∧ j < 30 + 6 * k)) {w l vw vl : Nat} {sw : Int32} (hp : Pw h' (24 + 6 * k) w l vw vl sw) (ht : FrR h' (24 + 6 * k + 1) 104) : TeR h' := by
  refine ⟨fun j hj => ?_, z.2.fr hf (fun x => by have := hS _ x; omega) (fun x => by have := hS _ x; omega) (fun x => by have := hS _ x; omega) (fun x => by have := hS _ x; omega) (fun x => by have := hS _ x; omega)⟩
  by_cases q : j = k
  · subst q
    exact ⟨ht, _, _, _, _, _, hp⟩
  · obtain ⟨z1, x1, x2, x3, x4, x5, z2⟩ := z.1 j hj
    exact ⟨z1.fr hf (fun x => by have := hS _ x; omega) (fun x => by have := hS _ x; omega) (fun x => by have := hS _ x; omega) (fun x => by have := hS _ x; omega) (fun x => by have := hS _ x; omega), x1, x2, x3, x4, x5, hf.at (fun x => by have := hS _ x; omega) z2⟩
theorem Tq.r {h : gH} {q vw vl a b : Nat} (z : Tq h q vw vl a b) : FrR h q 104 := by
  obtain ⟨A, B, z1, z2⟩ := z
  exact z1.r
set_option maxHeartbeats 4000000 in
set_option maxRecDepth 100000 in
theorem lp_begI (G : gG) (d n : Nat) (ex : Bool) (h0 : gH) {s v wn en rc : Nat → Nat} {a : Nat} (hC : s 4 ≤ 8) (hwn : ∀ k, wn k < 2 ^ 31) (hv : ∀ k, v k < 2 ^ 31) (hN6 : s 6 < 2 ^ 31) (hvl : ∀ a, a < s 4 → ∀ b, b < s 4 → ¬ wn a = 0 → wn b = 0 → v b ≤ v a) (ha : a < s 4) (kk : ∀ h, TB h0 h s v wn en rc (pu wn (s 4) (a + 1)) → g_W G mX8_begin (g_rm (d + 5) 0 0) (g_K G (q_v n ex SP h0 (fun h' => TB h0 h' s v wn en rc (pu wn (s 4) (s 4)))) 0 0) n ex h 0 0 125 [(2, .int (nI a)), (0, .ref 17), (1, .ref 1)] []) : ∀ (t j : Nat) (h : gH), s 4 - j < t → j ≤ s 4 → TB h0 h s v wn en rc (pu_in wn a j (pu wn (s 4) a)) →
    g_W G mX8_begin (g_rm (d + 5) 0 0) (g_K G (q_v n ex SP h0 (fun h' => TB h0 h' s v wn en rc (pu wn (s 4) (s 4)))) 0 0) n ex h 0 0 33 [(3, .int (nI j)), (2, .int (nI a)), (0, .ref 17), (1, .ref 1)] [] := by
  intro t
  induction t with
  | zero => intro j h hm; exact absurd hm (by omega)
  | succ t ih =>
    intro j h ht hj hB
    obtain ⟨⟨t1, f, t2, t3⟩, hK, ⟨z1, z2, z3, z4, z5⟩, hR, hP, hf⟩ := id hB
    have hlm : lmn (s 6) v (pu_in wn a j (pu wn (s 4) a)).2.1 (pu_in wn a j (pu wn (s 4) a)).2.2 (pu_in wn a j (pu wn (s 4) a)).1 < 2 ^ 31 := Nat.lt_of_le_of_lt lmn_le hN6
    refine g_iload_n dX8_begin_33 rfl rfl ?_
    refine g_aload_n dX8_begin_34 rfl rfl ?_
    refine g_getf dX8_begin_35 fX8_49 z1 rfl ?_
    refine g_icmp_geN (tgt := 125) dX8_begin_38 (by decide) (by omega) (by omega) (fun c38 => ?_) (fun c38 => ?_)
    · refine g_pick [1, 2, 3] (ls' := [(2, .int (nI a)), (0, .ref 17), (1, .ref 1)]) rfl ?_
      have e : j = s 4 := by omega
      subst e
      exact kk h hB
    · refine g_aload_n dX8_begin_41 rfl rfl ?_
      refine g_getf dX8_begin_42 fX8_52 z1 rfl ?_
      refine g_iload_n dX8_begin_45 rfl rfl ?_
      refine g_zaldN dX8_begin_46 z3 (by omega) (by decide) ?_
      refine g_if_eqN (tgt := 119) dX8_begin_47 (by decide) (hwn _) (fun c47 => ?_) (fun c47 => ?_)
      · refine g_iincN (z := 1) (ls' := [(3, .int (nI (j + 1))), (2, .int (nI a)), (0, .ref 17), (1, .ref 1)]) dX8_begin_119 rfl (by decide) rfl ?_
        refine g_goto (tgt := 33) dX8_begin_122 (by decide) ?_
        refine g_pick [0, 1, 2, 3] (ls' := [(3, .int (nI (j + 1))), (2, .int (nI a)), (0, .ref 17), (1, .ref 1)]) rfl ?_
        have e : pu_in wn a (j + 1) (pu wn (s 4) a) = pu_in wn a j (pu wn (s 4) a) := if_pos (Or.inl c47)
        exact ih (j + 1) h (by omega) (by omega) (by rw [e]; exact hB)
      · refine g_aload_n dX8_begin_50 rfl rfl ?_
        refine g_getf dX8_begin_51 fX8_52 z1 rfl ?_
        refine g_iload_n dX8_begin_54 rfl rfl ?_
        refine g_zaldN dX8_begin_55 z3 (by omega) (by decide) ?_
        refine g_if_neN (tgt := 119) dX8_begin_56 (by decide) (hwn _) (fun c56 => ?_) (fun c56 => ?_)
        · refine g_iincN (z := 1) (ls' := [(3, .int (nI (j + 1))), (2, .int (nI a)), (0, .ref 17), (1, .ref 1)]) dX8_begin_119 rfl (by decide) rfl ?_
          refine g_goto (tgt := 33) dX8_begin_122 (by decide) ?_
          refine g_pick [0, 1, 2, 3] (ls' := [(3, .int (nI (j + 1))), (2, .int (nI a)), (0, .ref 17), (1, .ref 1)]) rfl ?_
          have e : pu_in wn a (j + 1) (pu wn (s 4) a) = pu_in wn a j (pu wn (s 4) a) := if_pos (Or.inr c56)
          exact ih (j + 1) h (by omega) (by omega) (by rw [e]; exact hB)
        · refine g_aload_n dX8_begin_59 rfl rfl ?_
          refine g_getf dX8_begin_60 fX8_27 t1 rfl ?_
          refine g_bipush (v := nI 16) dX8_begin_63 (by decide) ?_
          refine g_icmp_geN (tgt := 119) dX8_begin_65 (by decide) (by have := pu_room (wn := wn) hC (show a < s 4 by omega) (show j < s 4 by omega) c47 c56; omega) (by decide) (fun c65 => ?_) (fun c65 => ?_)
          · exact absurd (pu_room (wn := wn) hC (show a < s 4 by omega) (show j < s 4 by omega) c47 c56) (by omega)
          · refine g_aload_n dX8_begin_68 rfl rfl ?_
            refine g_getf dX8_begin_69 fX8_11 t1 rfl ?_
            refine g_aload_n dX8_begin_72 rfl rfl ?_
            refine g_getf dX8_begin_73 fX8_27 t1 rfl ?_
            refine g_aaldN (r := 24 + 6 * (pu_in wn a j (pu wn (s 4) a)).1) dX8_begin_76 t2 (pu_room hC (by omega) (by omega) c47 c56) (by decide) (t3 _ (pu_room hC (by omega) (by omega) c47 c56)) ?_
            obtain ⟨hF, x1, x2, x3, x4, x5, hp⟩ := hR.1 (pu_in wn a j (pu wn (s 4) a)).1 (pu_room hC (by omega) (by omega) c47 c56)
            refine g_iload_n dX8_begin_77 rfl rfl ?_
            refine g_iload_n dX8_begin_78 rfl rfl ?_
            refine g_aload_n dX8_begin_79 rfl rfl ?_
            refine g_getf dX8_begin_80 fX8_56 z1 rfl ?_
            refine cVv (st := []) dX8_begin_83 (c_pbegin G d n ex h (by omega) hp hF z2 (by omega) (by omega)) sX8_60 hp rfl rfl (by simp only [g_rm]; omega) (by simp only [g_rm]; omega) (Nat.le_of_ble_eq_true rfl) ⟨Nat.le_of_ble_eq_true rfl, Nat.le_of_ble_eq_true rfl⟩ (fun h1 fr2 p3 => ?_)
            refine g_aload_n dX8_begin_86 rfl rfl ?_
            refine g_aload_n dX8_begin_87 rfl rfl ?_
            refine g_getf dX8_begin_88 fX8_42 (fr2.at (by intro q; simp only [List.mem_cons, List.not_mem_nil, or_false] at q; omega) t1) rfl ?_
            refine g_aload_n dX8_begin_91 rfl rfl ?_
            refine g_getf dX8_begin_92 fX8_11 (fr2.at (by intro q; simp only [List.mem_cons, List.not_mem_nil, or_false] at q; omega) t1) rfl ?_
            refine g_aload_n dX8_begin_95 rfl rfl ?_
            refine g_getf dX8_begin_96 fX8_27 (fr2.at (by intro q; simp only [List.mem_cons, List.not_mem_nil, or_false] at q; omega) t1) rfl ?_
            refine g_aaldN (r := 24 + 6 * (pu_in wn a j (pu wn (s 4) a)).1) dX8_begin_99 (fr2.at (by intro q; simp only [List.mem_cons, List.not_mem_nil, or_false] at q; omega) t2) (pu_room hC (by omega) (by omega) c47 c56) (by decide) (t3 _ (pu_room hC (by omega) (by omega) c47 c56)) ?_
            have hva := hv a
            refine cVi (st := [.int (nI (lmn (s 6) v (pu_in wn a j (pu wn (s 4) a)).2.1 (pu_in wn a j (pu wn (s 4) a)).2.2 (pu_in wn a j (pu wn (s 4) a)).1)), .ref 17]) dX8_begin_100 (c_pmargin G (d + 3) n ex h1 p3.1 (hvl a (by omega) j (by omega) c47 c56)) sX8_64 p3.1 rfl rfl (by simp only [g_rm]; omega) (by simp only [g_rm]; omega) (Nat.le_of_ble_eq_true rfl) ⟨Nat.le_of_ble_eq_true rfl, Nat.le_of_ble_eq_true rfl⟩ (fun r8 h5 fr6 p7 => ?_)
            cases g_fr0 fr6
            subst p7
            refine g_mmin dX8_begin_103 sX8_68 (by omega) (by omega) (by simp only [g_rm]; omega) (by simp only [g_rm]; omega) (Nat.le_of_ble_eq_true rfl) (Nat.zero_le _) (Nat.zero_le _) ?_
            refine g_put (fs' := [.ref 18, .ref 19, .int (nI ((pu_in wn a j (pu wn (s 4) a)).1)), .int (nI 0), .int (nI (min (lmn (s 6) v (pu_in wn a j (pu wn (s 4) a)).2.1 (pu_in wn a j (pu wn (s 4) a)).2.2 (pu_in wn a j (pu wn (s 4) a)).1) (v a - v j)))]) dX8_begin_106 fX8_42 (fr2.at (by intro q; simp only [List.mem_cons, List.not_mem_nil, or_false] at q; omega) t1) (Nat.le_of_ble_eq_true rfl) rfl rfl rfl ?_
            refine g_aload_n dX8_begin_109 rfl rfl ?_
            refine g_dup dX8_begin_110 rfl ?_
            refine g_getf dX8_begin_111 fX8_27 g_eq rfl ?_
            refine g_iconst (v := nI 1) dX8_begin_114 (by decide) ?_
            refine g_iaddN dX8_begin_115 ?_
            refine g_put (fs' := [.ref 18, .ref 19, .int (nI (((pu_in wn a j (pu wn (s 4) a)).1) + 1)), .int (nI 0), .int (nI (min (lmn (s 6) v (pu_in wn a j (pu wn (s 4) a)).2.1 (pu_in wn a j (pu wn (s 4) a)).2.2 (pu_in wn a j (pu wn (s 4) a)).1) (v a - v j)))]) dX8_begin_116 fX8_27 g_eq (Nat.le_of_ble_eq_true rfl) rfl rfl rfl ?_
            refine g_iincN (z := 1) (ls' := [(3, .int (nI (j + 1))), (2, .int (nI a)), (0, .ref 17), (1, .ref 1)]) dX8_begin_119 rfl (by decide) rfl ?_
            refine g_goto (tgt := 33) dX8_begin_122 (by decide) ?_
            refine g_pick [0, 1, 2, 3] (ls' := [(3, .int (nI (j + 1))), (2, .int (nI a)), (0, .ref 17), (1, .ref 1)]) rfl ?_
            have e : pu_in wn a (j + 1) (pu wn (s 4) a) = ((pu_in wn a j (pu wn (s 4) a)).1 + 1, va_up (pu_in wn a j (pu wn (s 4) a)).2.1 (pu_in wn a j (pu wn (s 4) a)).1 a, va_up (pu_in wn a j (pu wn (s 4) a)).2.2 (pu_in wn a j (pu wn (s 4) a)).1 j) := if_neg (fun q => q.elim c47 (fun y => y c56))
            have hfr2 : g_fr [17, 24 + 6 * (pu_in wn a j (pu wn (s 4) a)).1, 24 + 6 * (pu_in wn a j (pu wn (s 4) a)).1 + 1 + 1, 24 + 6 * (pu_in wn a j (pu wn (s 4) a)).1 + 1 + 2, 24 + 6 * (pu_in wn a j (pu wn (s 4) a)).1 + 1 + 3, 24 + 6 * (pu_in wn a j (pu wn (s 4) a)).1 + 1 + 4] h (g_up (g_up h1 17 (.inr (8, [.ref 18, .ref 19, .int (nI ((pu_in wn a j (pu wn (s 4) a)).1)), .int (nI 0), .int (nI (min (lmn (s 6) v (pu_in wn a j (pu wn (s 4) a)).2.1 (pu_in wn a j (pu wn (s 4) a)).2.2 (pu_in wn a j (pu wn (s 4) a)).1) (v a - v j)))]))) 17 (.inr (8, [.ref 18, .ref 19, .int (nI (((pu_in wn a j (pu wn (s 4) a)).1) + 1)), .int (nI 0), .int (nI (min (lmn (s 6) v (pu_in wn a j (pu wn (s 4) a)).2.1 (pu_in wn a j (pu wn (s 4) a)).2.2 (pu_in wn a j (pu wn (s 4) a)).1) (v a - v j)))]))) := ((((fr2).mono (by simp)).up (by simp)).up (by simp))
            have hpw : Pw (g_up (g_up h1 17 (.inr (8, [.ref 18, .ref 19, .int (nI ((pu_in wn a j (pu wn (s 4) a)).1)), .int (nI 0), .int (nI (min (lmn (s 6) v (pu_in wn a j (pu wn (s 4) a)).2.1 (pu_in wn a j (pu wn (s 4) a)).2.2 (pu_in wn a j (pu wn (s 4) a)).1) (v a - v j)))]))) 17 (.inr (8, [.ref 18, .ref 19, .int (nI (((pu_in wn a j (pu wn (s 4) a)).1) + 1)), .int (nI 0), .int (nI (min (lmn (s 6) v (pu_in wn a j (pu wn (s 4) a)).2.1 (pu_in wn a j (pu wn (s 4) a)).2.2 (pu_in wn a j (pu wn (s 4) a)).1) (v a - v j)))]))) (24 + 6 * (pu_in wn a j (pu wn (s 4) a)).1) a j (v a) (v j) (-1) := g_ne (by omega) (g_ne (by omega) p3.1)
            have htq : Tq (g_up (g_up h1 17 (.inr (8, [.ref 18, .ref 19, .int (nI ((pu_in wn a j (pu wn (s 4) a)).1)), .int (nI 0), .int (nI (min (lmn (s 6) v (pu_in wn a j (pu wn (s 4) a)).2.1 (pu_in wn a j (pu wn (s 4) a)).2.2 (pu_in wn a j (pu wn (s 4) a)).1) (v a - v j)))]))) 17 (.inr (8, [.ref 18, .ref 19, .int (nI (((pu_in wn a j (pu wn (s 4) a)).1) + 1)), .int (nI 0), .int (nI (min (lmn (s 6) v (pu_in wn a j (pu wn (s 4) a)).2.1 (pu_in wn a j (pu wn (s 4) a)).2.2 (pu_in wn a j (pu wn (s 4) a)).1) (v a - v j)))]))) (24 + 6 * (pu_in wn a j (pu wn (s 4) a)).1 + 1) (v a) (v j) 0 0 := p3.2.fr (S := [17]) ((g_fr.rf.up (by simp)).up (by simp)) (by intro j q; simp only [List.mem_cons, List.not_mem_nil, or_false] at q; omega)
            refine ih (j + 1) _ (by omega) (by omega) ?_
            rw [e]
            refine ⟨⟨?_, f, g_ne (by decide) (g_ne (by decide) (fr2.at (by intro q; simp only [List.mem_cons, List.not_mem_nil, or_false] at q; omega) t2)), t3⟩, fun k hk => ?_, ⟨g_ne (by decide) (g_ne (by decide) (fr2.at (by intro q; simp only [List.mem_cons, List.not_mem_nil, or_false] at q; omega) z1)), g_ne (by decide) (g_ne (by decide) (fr2.at (by intro q; simp only [List.mem_cons, List.not_mem_nil, or_false] at q; omega) z2)), g_ne (by decide) (g_ne (by decide) (fr2.at (by intro q; simp only [List.mem_cons, List.not_mem_nil, or_false] at q; omega) z3)), g_ne (by decide) (g_ne (by decide) (fr2.at (by intro q; simp only [List.mem_cons, List.not_mem_nil, or_false] at q; omega) z4)), g_ne (by decide) (g_ne (by decide) (fr2.at (by intro q; simp only [List.mem_cons, List.not_mem_nil, or_false] at q; omega) z5))⟩, hR.at hfr2 (by intro j q; simp only [List.mem_cons, List.not_mem_nil, or_false] at q; omega) hpw htq.r, hP.fr hfr2 (by intro j q; simp only [List.mem_cons, List.not_mem_nil, or_false] at q; omega), (((hf).tr (fr2.of (by intro j q; simp only [List.mem_cons, List.not_mem_nil, or_false] at q; omega)) (by simp)).up (mSP (by omega) (by omega))).up (mSP (by omega) (by omega))⟩
            · have el : lmn (s 6) v (va_up (pu_in wn a j (pu wn (s 4) a)).2.1 (pu_in wn a j (pu wn (s 4) a)).1 a) (va_up (pu_in wn a j (pu wn (s 4) a)).2.2 (pu_in wn a j (pu wn (s 4) a)).1 j) ((pu_in wn a j (pu wn (s 4) a)).1 + 1) = min (lmn (s 6) v (pu_in wn a j (pu wn (s 4) a)).2.1 (pu_in wn a j (pu wn (s 4) a)).2.2 (pu_in wn a j (pu wn (s 4) a)).1) (v a - v j) := by
                show min (lmn _ _ _ _ _) (v (va_up _ _ _ _) - v (va_up _ _ _ _)) = _
                rw [va_s, va_s, lmn_congr (w' := (pu_in wn a j (pu wn (s 4) a)).2.1) (l' := (pu_in wn a j (pu wn (s 4) a)).2.2) (fun k hk => va_n (by omega)) (fun k hk => va_n (by omega))]
              show _ = some (Sum.inr (8, [_, _, _, _, Value.int (nI (lmn _ _ _ _ _))]))
              rw [el]; exact g_eq
            · show Pw _ (24 + 6 * k) (va_up (pu_in wn a j (pu wn (s 4) a)).2.1 (pu_in wn a j (pu wn (s 4) a)).1 a k) (va_up (pu_in wn a j (pu wn (s 4) a)).2.2 (pu_in wn a j (pu wn (s 4) a)).1 j k) _ _ _ ∧ _
              by_cases q : k = (pu_in wn a j (pu wn (s 4) a)).1
              · show Pw _ (24 + 6 * k) (va_up (pu_in wn a j (pu wn (s 4) a)).2.1 (pu_in wn a j (pu wn (s 4) a)).1 a k) (va_up (pu_in wn a j (pu wn (s 4) a)).2.2 (pu_in wn a j (pu wn (s 4) a)).1 j k) (v (va_up (pu_in wn a j (pu wn (s 4) a)).2.1 (pu_in wn a j (pu wn (s 4) a)).1 a k)) (v (va_up (pu_in wn a j (pu wn (s 4) a)).2.2 (pu_in wn a j (pu wn (s 4) a)).1 j k)) _ ∧ Tq _ _ (v (va_up (pu_in wn a j (pu wn (s 4) a)).2.1 (pu_in wn a j (pu wn (s 4) a)).1 a k)) (v (va_up (pu_in wn a j (pu wn (s 4) a)).2.2 (pu_in wn a j (pu wn (s 4) a)).1 j k)) _ _
                rw [q, va_s, va_s]; exact ⟨hpw, htq⟩
              · show Pw _ (24 + 6 * k) (va_up (pu_in wn a j (pu wn (s 4) a)).2.1 (pu_in wn a j (pu wn (s 4) a)).1 a k) (va_up (pu_in wn a j (pu wn (s 4) a)).2.2 (pu_in wn a j (pu wn (s 4) a)).1 j k) (v (va_up (pu_in wn a j (pu wn (s 4) a)).2.1 (pu_in wn a j (pu wn (s 4) a)).1 a k)) (v (va_up (pu_in wn a j (pu wn (s 4) a)).2.2 (pu_in wn a j (pu wn (s 4) a)).1 j k)) _ ∧ Tq _ _ (v (va_up (pu_in wn a j (pu wn (s 4) a)).2.1 (pu_in wn a j (pu wn (s 4) a)).1 a k)) (v (va_up (pu_in wn a j (pu wn (s 4) a)).2.2 (pu_in wn a j (pu wn (s 4) a)).1 j k)) _ _
                rw [va_n q, va_n q]
                have hkm : k < (pu_in wn a j (pu wn (s 4) a)).1 := by have : k < (pu_in wn a j (pu wn (s 4) a)).1 + 1 := hk; omega
                exact ⟨hfr2.at (by intro q; simp only [List.mem_cons, List.not_mem_nil, or_false] at q; omega) (hK k hkm).1, (hK k hkm).2.fr hfr2 (by intro j q; simp only [List.mem_cons, List.not_mem_nil, or_false] at q; omega)⟩
set_option maxHeartbeats 4000000 in
set_option maxRecDepth 100000 in
theorem lp_beg (G : gG) (d n : Nat) (ex : Bool) (h0 : gH) {s v wn en rc : Nat → Nat} (hC : s 4 ≤ 8) (hwn : ∀ k, wn k < 2 ^ 31) (hv : ∀ k, v k < 2 ^ 31) (hN6 : s 6 < 2 ^ 31) (hvl : ∀ a, a < s 4 → ∀ b, b < s 4 → ¬ wn a = 0 → wn b = 0 → v b ≤ v a) : ∀ (t a : Nat) (h : gH), s 4 - a < t → a ≤ s 4 → TB h0 h s v wn en rc (pu wn (s 4) a) →
    g_W G mX8_begin (g_rm (d + 5) 0 0) (g_K G (q_v n ex SP h0 (fun h' => TB h0 h' s v wn en rc (pu wn (s 4) (s 4)))) 0 0) n ex h 0 0 23 [(2, .int (nI a)), (0, .ref 17), (1, .ref 1)] [] := by
  intro t
  induction t with
  | zero => intro a h hm; exact absurd hm (by omega)
  | succ t ih =>
    intro a h ht ha hB
    obtain ⟨z1, z2, z3, z4, z5⟩ := id hB.2.2.1
    refine g_iload_n dX8_begin_23 rfl rfl ?_
    refine g_aload_n dX8_begin_24 rfl rfl ?_
    refine g_getf dX8_begin_25 fX8_49 z1 rfl ?_
    refine g_icmp_geN (tgt := 131) dX8_begin_28 (by decide) (by omega) (by omega) (fun c28 => ?_) (fun c28 => ?_)
    · have e : a = s 4 := by omega
      subst e
      exact e_v dX8_begin_131 rfl hB.2.2.2.2.2 hB (by decide) (by decide)
    · refine g_iconst (v := nI 0) dX8_begin_31 (by decide) ?_
      refine g_istore_n (ls' := [(3, .int (nI 0)), (2, .int (nI a)), (0, .ref 17), (1, .ref 1)]) dX8_begin_32 rfl (by decide) rfl ?_
      refine g_pick [0, 1, 2, 3] (ls' := [(3, .int (nI 0)), (2, .int (nI a)), (0, .ref 17), (1, .ref 1)]) rfl ?_
      refine lp_begI G d n ex h0 hC hwn hv hN6 hvl c28 (fun h' hB' => ?_) (s 4 + 1) 0 h (by omega) (by omega) hB
      refine g_iincN (z := 1) (ls' := [(2, .int (nI (a + 1))), (0, .ref 17), (1, .ref 1)]) dX8_begin_125 rfl (by decide) rfl ?_
      refine g_goto (tgt := 23) dX8_begin_128 (by decide) ?_
      refine g_pick [0, 1, 2] (ls' := [(2, .int (nI (a + 1))), (0, .ref 17), (1, .ref 1)]) rfl ?_
      exact ih (a + 1) h' (by omega) (by omega) hB'
set_option maxHeartbeats 4000000 in
set_option maxRecDepth 100000 in
theorem c_teBegin (G : gG) (d n : Nat) (ex : Bool) (h : gH) {s v wn en rc : Nat → Nat} {m sr lm : Nat} (hC : s 4 ≤ 8) (hwn : ∀ k, wn k < 2 ^ 31) (hv : ∀ k, v k < 2 ^ 31) (hN6 : s 6 < 2 ^ 31) (hvl : ∀ a, a < s 4 → ∀ b, b < s 4 → ¬ wn a = 0 → wn b = 0 → v b ≤ v a) (hT : Te h m sr lm) (hs : Su h s v wn en rc) (hR : TeR h) : g_M G mX8_begin (d + 5) 0 0 [.ref 17, .ref 1] n ex h (q_v n ex SP h (fun h' => TB h h' s v wn en rc (pu wn (s 4) (s 4)))) := by
  obtain ⟨t1, f, t2, t3⟩ := id hT
  obtain ⟨z1, z2, z3, z4, z5⟩ := id hs
  refine g_enter (by decide) (Nat.le_of_ble_eq_true rfl) ?_
  show g_W G _ _ _ n ex h 0 0 0 [(0, .ref 17), (1, .ref 1)] []
  refine g_aload_n dX8_begin_0 rfl rfl ?_
  refine cVv (st := []) dX8_begin_1 (c_teEnd G (d + 4) n ex h hT) sX8_34 t1 rfl rfl (by simp only [g_rm]; omega) (by simp only [g_rm]; omega) (Nat.le_of_ble_eq_true rfl) ⟨Nat.le_of_ble_eq_true rfl, Nat.le_of_ble_eq_true rfl⟩ (fun h1 fr2 p3 => ?_)
  obtain ⟨u1, f, u2, u3⟩ := p3
  refine g_aload_n dX8_begin_4 rfl rfl ?_
  refine g_aload_n dX8_begin_5 rfl rfl ?_
  refine g_getf dX8_begin_6 fX8_37 (fr2.at (by intro q; simp only [List.mem_cons, List.not_mem_nil, or_false] at q; omega) z1) rfl ?_
  refine g_put (fs' := [.ref 18, .ref 19, .int (nI 0), .int (nI 0), .int (nI (s 6))]) dX8_begin_9 fX8_42 u1 (Nat.le_of_ble_eq_true rfl) rfl rfl rfl ?_
  refine g_aload_n dX8_begin_12 rfl rfl ?_
  refine g_getf dX8_begin_13 fX8_22 g_eq rfl ?_
  have hF' : FrR (g_up h1 17 (.inr (8, [.ref 18, .ref 19, .int (nI 0), .int (nI 0), .int (nI (s 6))]))) 19 328 := hR.2.fr (S := [17]) ((fr2).up (by simp)) (by intro q; simp only [List.mem_cons, List.not_mem_nil, or_false] at q; omega) (by intro q; simp only [List.mem_cons, List.not_mem_nil, or_false] at q; omega) (by intro q; simp only [List.mem_cons, List.not_mem_nil, or_false] at q; omega) (by intro q; simp only [List.mem_cons, List.not_mem_nil, or_false] at q; omega) (by intro q; simp only [List.mem_cons, List.not_mem_nil, or_false] at q; omega)
  refine g_lconst (v := lN 1) dX8_begin_16 (by decide) ?_
  refine g_lconst (v := lN 1) dX8_begin_17 (by decide) ?_
  refine cVvE (st := []) dX8_begin_18 (c_fbecome G (d + 1) n ex (g_up h1 17 (.inr (8, [.ref 18, .ref 19, .int (nI 0), .int (nI 0), .int (nI (s 6))]))) hF' (by decide) (by decide) (by decide) (by decide) (by decide) (Nat.lt_of_lt_of_le (show 1 < 2 ^ 32 by decide) (by decide +kernel)) (Nat.lt_of_lt_of_le (show 1 < 2 ^ 32 by decide) (by decide +kernel))) sX8_45 hF'.cell rfl rfl (by simp only [g_rm]; omega) (by simp only [g_rm]; omega) (Nat.le_of_ble_eq_true rfl) ⟨Nat.le_of_ble_eq_true rfl, Nat.le_of_ble_eq_true rfl⟩ (fun h5 fr6 p7 => ?_)
  obtain ⟨A', B', q1, q2, q3, q4, q5, q6⟩ := p7
  refine g_iconst (v := nI 0) dX8_begin_21 (by decide) ?_
  refine g_istore_n (ls' := [(2, .int (nI 0)), (0, .ref 17), (1, .ref 1)]) dX8_begin_22 rfl (by decide) rfl ?_
  refine g_pick [0, 1, 2] (ls' := [(2, .int (nI 0)), (0, .ref 17), (1, .ref 1)]) rfl ?_
  have hfr2 : g_fr [17, 19 + 1, 19 + 2, 19 + 3, 19 + 4] h h5 := ((fr2.mono (by simp)).up (by simp)).tr fr6 (by simp)
  refine lp_beg G d n ex h hC hwn hv hN6 hvl (s 4 + 1) 0 _ (by omega) (by omega) ⟨⟨fr6.at (by intro q; simp only [List.mem_cons, List.not_mem_nil, or_false] at q; omega) g_eq, f, fr6.at (by intro q; simp only [List.mem_cons, List.not_mem_nil, or_false] at q; omega) (g_ne (by decide) u2), u3⟩, fun k hk => absurd hk (Nat.not_lt_zero k), ⟨fr6.at (by intro q; simp only [List.mem_cons, List.not_mem_nil, or_false] at q; omega) (g_ne (by decide) (fr2.at (by intro q; simp only [List.mem_cons, List.not_mem_nil, or_false] at q; omega) z1)), fr6.at (by intro q; simp only [List.mem_cons, List.not_mem_nil, or_false] at q; omega) (g_ne (by decide) (fr2.at (by intro q; simp only [List.mem_cons, List.not_mem_nil, or_false] at q; omega) z2)), fr6.at (by intro q; simp only [List.mem_cons, List.not_mem_nil, or_false] at q; omega) (g_ne (by decide) (fr2.at (by intro q; simp only [List.mem_cons, List.not_mem_nil, or_false] at q; omega) z3)), fr6.at (by intro q; simp only [List.mem_cons, List.not_mem_nil, or_false] at q; omega) (g_ne (by decide) (fr2.at (by intro q; simp only [List.mem_cons, List.not_mem_nil, or_false] at q; omega) z4)), fr6.at (by intro q; simp only [List.mem_cons, List.not_mem_nil, or_false] at q; omega) (g_ne (by decide) (fr2.at (by intro q; simp only [List.mem_cons, List.not_mem_nil, or_false] at q; omega) z5))⟩, ⟨fun k hk => ?_, q1.r⟩, ⟨A', B', q1, q2, q3, q4, by decide, q5, q6⟩, (((g_fr.rf).tr (fr2.of (by intro j q; simp only [List.mem_cons, List.not_mem_nil, or_false] at q; omega)) (by simp)).up (mSP (by omega) (by omega))).tr (fr6.of (by intro j q; simp only [List.mem_cons, List.not_mem_nil, or_false] at q; omega)) (by simp)⟩
  obtain ⟨y1, x1, x2, x3, x4, x5, y2⟩ := hR.1 k hk
  exact ⟨y1.fr hfr2 (by intro q; simp only [List.mem_cons, List.not_mem_nil, or_false] at q; omega) (by intro q; simp only [List.mem_cons, List.not_mem_nil, or_false] at q; omega) (by intro q; simp only [List.mem_cons, List.not_mem_nil, or_false] at q; omega) (by intro q; simp only [List.mem_cons, List.not_mem_nil, or_false] at q; omega) (by intro q; simp only [List.mem_cons, List.not_mem_nil, or_false] at q; omega), x1, x2, x3, x4, x5, hfr2.at (by intro q; simp only [List.mem_cons, List.not_mem_nil, or_false] at q; omega) y2⟩
