theorem va_uu {α : Type} (f : Nat → α) (k : Nat) (x y : α) : va_up (va_up f k x) k y = va_up f k y := by
  funext j
  unfold va_up
  split <;> rfl
theorem ne_m1 {k : Nat} (h : k < 2 ^ 31) : ¬ nI k = -1 := fun q => by
  have := congrArg Int32.toInt q
  rw [nI_toInt h] at this
  have e : (-1 : Int32).toInt = -1 := by decide
  omega
theorem ne_m2 {k : Nat} (h : k < 2 ^ 31) : ¬ nI k = -2 := fun q => by
  have := congrArg Int32.toInt q
  rw [nI_toInt h] at this
  have e : (-2 : Int32).toInt = -2 := by decide
  omega
set_option maxHeartbeats 4000000 in
set_option maxRecDepth 100000 in
theorem c_addDraw (G : gG) (d n : Nat) (ex : Bool) (h : gH) {bl ti df : Nat → Nat} {se : Nat → Int32} {D dr bk : Nat} (hl : Dl h bl ti df se D dr bk) {b : Nat} (hD : D ≤ 200) (hb : b < 2 ^ 31) (hbl : ∀ k, bl k < 2 ^ 31) (hnew : (∀ j, j < D → bl j ≠ b) → D < 200) : g_M G mX1_addDraw (d + 2) 0 0 [.ref 12, .int (nI b)] n ex h (q_i n ex [12, 13, 14, 15] h (fun r h' => (∃ k, k < D ∧ bl k = b ∧ (∀ j, j < k → bl j ≠ b) ∧ r = nI k ∧ Dl h' bl (va_up ti k (ti k + 1)) df se D (dr + 1) bk) ∨ ((∀ j, j < D → bl j ≠ b) ∧ r = nI D ∧ Dl h' (va_up bl D b) (va_up ti D 1) df (upd se D (-2)) (D + 1) (dr + 1) bk))) := by
  obtain ⟨z1, z2, z3, z4, z5⟩ := hl
  refine g_enter (by decide) (Nat.le_of_ble_eq_true rfl) ?_
  show g_W G _ _ _ n ex h 0 0 0 [(0, .ref 12), (1, .int (nI b))] []
  refine g_aload_n dX1_addDraw_0 rfl rfl ?_
  refine g_dup dX1_addDraw_1 rfl ?_
  refine g_getf dX1_addDraw_2 fX1_28 z1 rfl ?_
  refine g_iconst (v := nI 1) dX1_addDraw_5 (by decide) ?_
  refine g_iaddN dX1_addDraw_6 ?_
  refine g_put (fs' := [.ref 13, .ref 14, .ref 15, .ref 16, .int (nI D), .int (nI (dr + 1)), .int (nI bk)]) dX1_addDraw_7 fX1_28 z1 (Nat.le_of_ble_eq_true rfl) rfl rfl rfl ?_
  refine g_aload_n dX1_addDraw_10 rfl rfl ?_
  refine g_iload_n dX1_addDraw_11 rfl rfl ?_
  have hl2 : Dl (g_up h 12 (.inr (1, [.ref 13, .ref 14, .ref 15, .ref 16, .int (nI D), .int (nI (dr + 1)), .int (nI bk)]))) bl ti df se D (dr + 1) bk := ⟨g_eq, g_ne (by decide) z2, g_ne (by decide) z3, g_ne (by decide) z4, g_ne (by decide) z5⟩
  refine cVi (st := []) dX1_addDraw_12 (c_placeOf G (d + 1) n ex (g_up h 12 (.inr (1, [.ref 13, .ref 14, .ref 15, .ref 16, .int (nI D), .int (nI (dr + 1)), .int (nI bk)]))) hl2 hD hb hbl) sX1_34 g_eq rfl rfl (by simp only [g_rm]; omega) (by simp only [g_rm]; omega) (Nat.le_of_ble_eq_true rfl) ⟨Nat.le_of_ble_eq_true rfl, Nat.le_of_ble_eq_true rfl⟩ (fun r9 h6 fr7 p8 => ?_)
  cases g_fr0 fr7
  rcases p8 with ⟨k, hk, hbk, hmin, rfl⟩ | ⟨hno, rfl⟩
  · refine g_istore_n (ls' := [(2, .int (nI k)), (0, .ref 12), (1, .int (nI b))]) dX1_addDraw_15 rfl (by decide) rfl ?_
    refine g_iload_n dX1_addDraw_16 rfl rfl ?_
    refine g_iconst (v := -1) dX1_addDraw_17 (by decide) ?_
    refine g_icmp_ne (tgt := 68) dX1_addDraw_18 (by decide) (fun c18 => ?_) (fun c18 => ?_)
    · refine g_aload_n dX1_addDraw_68 rfl rfl ?_
      refine g_iload_n dX1_addDraw_69 rfl rfl ?_
      have hl3 : Dl (g_up h 12 (.inr (1, [.ref 13, .ref 14, .ref 15, .ref 16, .int (nI D), .int (nI (dr + 1)), .int (nI bk)]))) bl ti df se D (dr + 1) bk := ⟨g_eq, g_ne (by decide) z2, g_ne (by decide) z3, g_ne (by decide) z4, g_ne (by decide) z5⟩
      refine cVi (st := []) dX1_addDraw_70 (c_isPlace G (d + 1) n ex (g_up h 12 (.inr (1, [.ref 13, .ref 14, .ref 15, .ref 16, .int (nI D), .int (nI (dr + 1)), .int (nI bk)]))) hl3 (by omega) (by omega)) sX1_38 g_eq rfl rfl (by simp only [g_rm]; omega) (by simp only [g_rm]; omega) (Nat.le_of_ble_eq_true rfl) ⟨Nat.le_of_ble_eq_true rfl, Nat.le_of_ble_eq_true rfl⟩ (fun r13 h10 fr11 p12 => ?_)
      cases g_fr0 fr11
      subst p12
      refine g_if_eqN (tgt := 86) dX1_addDraw_73 (by decide) (by split <;> omega) (fun c73 => ?_) (fun c73 => ?_)
      · exact absurd c73 (by rw [if_pos (by omega)]; decide)
      · refine g_aload_n dX1_addDraw_76 rfl rfl ?_
        refine g_getf dX1_addDraw_77 fX1_18 g_eq rfl ?_
        refine g_iload_n dX1_addDraw_80 rfl rfl ?_
        refine g_dup2_11 dX1_addDraw_81 rfl rfl ?_
        refine g_ialdN dX1_addDraw_82 (g_ne (by decide) z4) (by first | omega | (have := hnew hno; omega)) (by decide) ?_
        refine g_iconst (v := nI 1) dX1_addDraw_83 (by decide) ?_
        refine g_iaddN dX1_addDraw_84 ?_
        refine g_iastN dX1_addDraw_85 (g_ne (by decide) z4) (by first | omega | (have := hnew hno; omega)) (by decide) ?_
        rw [upd_nI]
        refine g_iload_n dX1_addDraw_86 rfl rfl ?_
        exact e_i dX1_addDraw_87 rfl rfl ((g_fr.rf.up (by simp)).up (by simp)) (Or.inl ⟨k, hk, hbk, hmin, rfl, ⟨g_ne (by decide) g_eq, g_ne (by decide) (g_ne (by decide) z2), g_ne (by decide) (g_ne (by decide) z3), g_eq, g_ne (by decide) (g_ne (by decide) z5)⟩⟩) (by decide) (by decide)
    · exact absurd c18 (ne_m1 (by omega))
  · refine g_istore_n (ls' := [(2, .int (-1)), (0, .ref 12), (1, .int (nI b))]) dX1_addDraw_15 rfl (by decide) rfl ?_
    refine g_iload_n dX1_addDraw_16 rfl rfl ?_
    refine g_iconst (v := -1) dX1_addDraw_17 (by decide) ?_
    refine g_icmp_ne (tgt := 68) dX1_addDraw_18 (by decide) (fun c18 => ?_) (fun c18 => ?_)
    · exact absurd rfl c18
    · refine g_aload_n dX1_addDraw_21 rfl rfl ?_
      refine g_getf dX1_addDraw_22 fX1_24 g_eq rfl ?_
      refine g_sipush (v := nI 200) dX1_addDraw_25 (by decide) ?_
      refine g_icmp_geN (tgt := 68) dX1_addDraw_28 (by decide) (by omega) (by omega) (fun c28 => ?_) (fun c28 => ?_)
      · exact absurd c28 (by have := hnew hno; omega)
      · refine g_aload_n dX1_addDraw_31 rfl rfl ?_
        refine g_getf dX1_addDraw_32 fX1_24 g_eq rfl ?_
        refine g_istore_n (ls' := [(2, .int (nI D)), (0, .ref 12), (1, .int (nI b))]) dX1_addDraw_35 rfl (by decide) rfl ?_
        refine g_aload_n dX1_addDraw_36 rfl rfl ?_
        refine g_getf dX1_addDraw_37 fX1_9 g_eq rfl ?_
        refine g_iload_n dX1_addDraw_40 rfl rfl ?_
        refine g_iload_n dX1_addDraw_41 rfl rfl ?_
        refine g_iastN dX1_addDraw_42 (g_ne (by decide) z2) (by have := hnew hno; omega) (by decide) ?_
        rw [upd_nI]
        refine g_aload_n dX1_addDraw_43 rfl rfl ?_
        refine g_getf dX1_addDraw_44 fX1_15 (g_ne (by decide) g_eq) rfl ?_
        refine g_iload_n dX1_addDraw_47 rfl rfl ?_
        refine g_bipush (v := -2) dX1_addDraw_48 (by decide) ?_
        refine g_iastN dX1_addDraw_50 (g_ne (by decide) (g_ne (by decide) z3)) (by have := hnew hno; omega) (by decide) ?_
        refine g_aload_n dX1_addDraw_51 rfl rfl ?_
        refine g_getf dX1_addDraw_52 fX1_18 (g_ne (by decide) (g_ne (by decide) g_eq)) rfl ?_
        refine g_iload_n dX1_addDraw_55 rfl rfl ?_
        refine g_iconst (v := nI 0) dX1_addDraw_56 (by decide) ?_
        refine g_iastN dX1_addDraw_57 (g_ne (by decide) (g_ne (by decide) (g_ne (by decide) z4))) (by have := hnew hno; omega) (by decide) ?_
        rw [upd_nI]
        refine g_aload_n dX1_addDraw_58 rfl rfl ?_
        refine g_dup dX1_addDraw_59 rfl ?_
        refine g_getf dX1_addDraw_60 fX1_24 (g_ne (by decide) (g_ne (by decide) (g_ne (by decide) g_eq))) rfl ?_
        refine g_iconst (v := nI 1) dX1_addDraw_63 (by decide) ?_
        refine g_iaddN dX1_addDraw_64 ?_
        refine g_put (fs' := [.ref 13, .ref 14, .ref 15, .ref 16, .int (nI (D + 1)), .int (nI (dr + 1)), .int (nI bk)]) dX1_addDraw_65 fX1_24 (g_ne (by decide) (g_ne (by decide) (g_ne (by decide) g_eq))) (Nat.le_of_ble_eq_true rfl) rfl rfl rfl ?_
        refine g_aload_n dX1_addDraw_68 rfl rfl ?_
        refine g_iload_n dX1_addDraw_69 rfl rfl ?_
        have hl3 : Dl (g_up (g_up (g_up (g_up (g_up h 12 (.inr (1, [.ref 13, .ref 14, .ref 15, .ref 16, .int (nI D), .int (nI (dr + 1)), .int (nI bk)]))) 13 (.inl (0, 200, .inl (fun k => nI ((va_up bl D b) k))))) 14 (.inl (0, 200, .inl (upd se D (-2))))) 15 (.inl (0, 200, .inl (fun k => nI ((va_up ti D 0) k))))) 12 (.inr (1, [.ref 13, .ref 14, .ref 15, .ref 16, .int (nI (D + 1)), .int (nI (dr + 1)), .int (nI bk)]))) (va_up bl D b) (va_up ti D 0) df (upd se D (-2)) (D + 1) (dr + 1) bk := ⟨g_eq, g_ne (by decide) (g_ne (by decide) (g_ne (by decide) g_eq)), g_ne (by decide) (g_ne (by decide) g_eq), g_ne (by decide) g_eq, g_ne (by decide) (g_ne (by decide) (g_ne (by decide) (g_ne (by decide) (g_ne (by decide) z5))))⟩
        refine cVi (st := []) dX1_addDraw_70 (c_isPlace G (d + 1) n ex (g_up (g_up (g_up (g_up (g_up h 12 (.inr (1, [.ref 13, .ref 14, .ref 15, .ref 16, .int (nI D), .int (nI (dr + 1)), .int (nI bk)]))) 13 (.inl (0, 200, .inl (fun k => nI ((va_up bl D b) k))))) 14 (.inl (0, 200, .inl (upd se D (-2))))) 15 (.inl (0, 200, .inl (fun k => nI ((va_up ti D 0) k))))) 12 (.inr (1, [.ref 13, .ref 14, .ref 15, .ref 16, .int (nI (D + 1)), .int (nI (dr + 1)), .int (nI bk)]))) hl3 (by omega) (by omega)) sX1_38 g_eq rfl rfl (by simp only [g_rm]; omega) (by simp only [g_rm]; omega) (Nat.le_of_ble_eq_true rfl) ⟨Nat.le_of_ble_eq_true rfl, Nat.le_of_ble_eq_true rfl⟩ (fun r17 h14 fr15 p16 => ?_)
        cases g_fr0 fr15
        subst p16
        refine g_if_eqN (tgt := 86) dX1_addDraw_73 (by decide) (by split <;> omega) (fun c73 => ?_) (fun c73 => ?_)
        · exact absurd c73 (by rw [if_pos (by omega)]; decide)
        · refine g_aload_n dX1_addDraw_76 rfl rfl ?_
          refine g_getf dX1_addDraw_77 fX1_18 g_eq rfl ?_
          refine g_iload_n dX1_addDraw_80 rfl rfl ?_
          refine g_dup2_11 dX1_addDraw_81 rfl rfl ?_
          refine g_ialdN dX1_addDraw_82 (g_ne (by decide) g_eq) (by first | omega | (have := hnew hno; omega)) (by decide) ?_
          refine g_iconst (v := nI 1) dX1_addDraw_83 (by decide) ?_
          refine g_iaddN dX1_addDraw_84 ?_
          refine g_iastN dX1_addDraw_85 (g_ne (by decide) g_eq) (by first | omega | (have := hnew hno; omega)) (by decide) ?_
          rw [upd_nI]
          refine g_iload_n dX1_addDraw_86 rfl rfl ?_
          exact e_i dX1_addDraw_87 rfl rfl ((((((g_fr.rf.up (by simp)).up (by simp)).up (by simp)).up (by simp)).up (by simp)).up (by simp)) (Or.inr ⟨hno, rfl, g_ne (by decide) g_eq, g_ne (by decide) (g_ne (by decide) (g_ne (by decide) (g_ne (by decide) g_eq))), g_ne (by decide) (g_ne (by decide) (g_ne (by decide) g_eq)), by rw [show va_up ti D 1 = va_up (va_up ti D 0) D (va_up ti D 0 D + 1) by rw [va_s, va_uu]]; exact g_eq, g_ne (by decide) (g_ne (by decide) (g_ne (by decide) (g_ne (by decide) (g_ne (by decide) (g_ne (by decide) z5)))))⟩) (by decide) (by decide)
section GTW
variable {G : gG} {M : gM} {R : Room} {K : gK} {Q : gQ} {mc ms n : Nat} {ex : Bool} {h : gH} {k sl pc : Nat} {ls : List (Nat × Value)} {st : List Value}
/-- throw new E("text"), the text by a wide index -/
theorem g_throwW {ik is ic : Nat} {E text : String} {names : List String} (d0 : decode M.2.1 pc = .ok (.new ik, 3)) (d3 : decode M.2.1 (pc + 3) = .ok (.dup, 1)) (d4 : decode M.2.1 (pc + 4) = .ok (.ldc_w is, 3)) (d6 : decode M.2.1 (pc + 7) = .ok (.invokespecial ic, 3)) (d9 : decode M.2.1 (pc + 10) = .ok (.athrow, 1))
    (hM : M.1.cls = RX10) (hh : M.2.2.2.2 = []) (hE : Bundle.fit E = true) (hnames : ∀ z ∈ names, Bundle.fit z = true) (hw : ∀ w ∈ Cond.classLink RX10 ik E :: Cond.initialized E :: vx_atS RX10 ic E names, w ∈ lw_tbl ∧ g_keep w = true ∧ vx_ot w = true) (hstr : (is, text) ∈ g_strs)
    (hf : names.length + 3 < R.frames) (hlo : (st.map fun v => v.category).sum + (13 * (names.length + 1) + 43) ≤ R.locals) (hc : k + 1 ≤ R.cells) (hs : sl + 6 ≤ R.slots) (hc2 : k + 1 ≤ mc) (hs2 : sl + 6 ≤ ms) (hq : Q (.inr E) n false h) : g_W G M R (g_K G Q mc ms) n ex h k sl pc ls st := by
  intro p l e s m args below meth c H locs Ls C hR hS hl
  have hE9 := C.env
  have hown : s.vm.findClass RX10 = some m.cls := by rw [← hM]; exact C.own
  have hwd : ∀ w ∈ Cond.classLink RX10 ik E :: Cond.initialized E :: vx_atS RX10 ic E names, w.before args s = true := fun w z => g_word hE9 (hw w z).1 (hw w z).2.1 args
  obtain ⟨sa, hsa⟩ := hE9.2.2.2.1 _ hstr
  refine vx_throwSW C.1 C.2.2.1 C.2.1 (own := RX10) (cls := E) (text := text) (names := names) hown hE hnames (hwd _ List.mem_cons_self) (hwd _ (List.mem_cons_of_mem _ List.mem_cons_self)) hsa (fun w z => hwd w (List.mem_cons_of_mem _ (List.mem_cons_of_mem _ z))) (fun w z => (hw w z).2.2)
    hE9.2.2.2.2.2.2.2.1 hE9.2.2.2.2.2.2.2.2 hS (by rw [C.2.2.2.1]; exact hl.1) d0 d3 d4 d6 d9 (fun x hx => ?_) hf (by rw [g_cats]; exact hlo) hc hs C.locks (fun t hA hz ho => ?_) hS.2.2 hc2 hs2
  · rw [C.2.2.2.2.2.2.2.2.1, hh] at hx
    cases hx
  · exact ⟨n, false, h, hq, hR.grow hz ho, Nat.le_trans hS.1 hz, fun q h1 h2 => (ho q (Nat.lt_of_lt_of_le h1 hS.1)).trans (hS.2.1 q h1 h2)⟩
end GTW
/-- nothing, or a refusal with E -/
def q_n (n : Nat) (h : gH) (E : String) (P : Prop) : gQ := fun o n' ex' h' => n' = n ∧ ex' = false ∧ h' = h ∧ ((o = .inl none ∧ P) ∨ (o = .inr E ∧ ¬ P))
abbrev xIA : String := "java/lang/IllegalArgumentException"
abbrev xIS : String := "java/lang/IllegalStateException"
abbrev xIB : String := "java/lang/IndexOutOfBoundsException"
abbrev xUO : String := "java/lang/UnsupportedOperationException"
abbrev xUp : List String := ["java/lang/RuntimeException", "java/lang/Exception"]
set_option maxRecDepth 20000 in
theorem tw_82_86 : ∀ w ∈ Cond.classLink RX10 82 xUO :: Cond.initialized xUO :: vx_atS RX10 86 xUO xUp, w ∈ lw_tbl ∧ g_keep w = true ∧ vx_ot w = true := by decide +kernel
set_option maxRecDepth 20000 in
theorem tw_114_118 : ∀ w ∈ Cond.classLink RX10 114 xIA :: Cond.initialized xIA :: vx_atS RX10 118 xIA xUp, w ∈ lw_tbl ∧ g_keep w = true ∧ vx_ot w = true := by decide +kernel
set_option maxRecDepth 20000 in
theorem tw_131_135 : ∀ w ∈ Cond.classLink RX10 131 xIB :: Cond.initialized xIB :: vx_atS RX10 135 xIB xUp, w ∈ lw_tbl ∧ g_keep w = true ∧ vx_ot w = true := by decide +kernel
set_option maxRecDepth 20000 in
theorem tw_161_165 : ∀ w ∈ Cond.classLink RX10 161 xIS :: Cond.initialized xIS :: vx_atS RX10 165 xIS xUp, w ∈ lw_tbl ∧ g_keep w = true ∧ vx_ot w = true := by decide +kernel
