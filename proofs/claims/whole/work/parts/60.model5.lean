theorem up_pt {f : Nat → Int32} {M : Nat → Nat} {i x K : Nat} (hf : ∀ j, j < K → f j = nI (M j)) : ∀ j, j < K → upd f i (nI x) j = nI (va_up M i x j) := fun j hj => by
  unfold upd va_up
  by_cases q : j = i
  · rw [if_pos q, if_pos q]
  · rw [if_neg q, if_neg q]; exact hf j hj
set_option maxHeartbeats 4000000 in
set_option maxRecDepth 100000 in
theorem c_turned (G : gG) (d n : Nat) (ex : Bool) (h : gH) {x : Int32} {b i : Nat} (hb : b ≤ 32) : g_M G mX11_turned d 0 0 [.ref 142, .int x, .int (nI b)] n ex h (q_i n ex [] h (fun r _ => r = tn x b)) := by
  refine g_enter (by decide) (Nat.le_of_ble_eq_true rfl) ?_
  show g_W G _ _ _ n ex h 0 0 0 [(0, .ref 142), (1, .int x), (2, .int (nI b))] []
  refine g_iload_n dX11_turned_0 rfl rfl ?_
  refine g_iload_n dX11_turned_1 rfl rfl ?_
  refine g_iushr dX11_turned_2 ?_
  refine g_iload_n dX11_turned_3 rfl rfl ?_
  refine g_bipush (v := nI 32) dX11_turned_4 (by decide) ?_
  refine g_iload_n dX11_turned_6 rfl rfl ?_
  refine g_isubN dX11_turned_7 (by omega) ?_
  refine g_ishl dX11_turned_8 ?_
  refine g_ior dX11_turned_9 ?_
  exact e_i dX11_turned_10 rfl rfl g_fr.rf rfl (by decide) (by decide)
set_option maxHeartbeats 4000000 in
set_option maxRecDepth 100000 in
theorem c_mround (G : gG) (d n : Nat) (ex : Bool) (h : gH) {cd wt : Int32} {s : Nat → Nat} {k m sg cm sd mm dr dd bk rt : Nat} {kf f g : Nat → Int32} {i : Nat} (m0 : Mc h cd s k m sg cm sd mm dr dd bk rt wt) (e0 : h 160 = some (.inl (0, 64, .inl kf))) (e2 : h 162 = some (.inl (0, 64, .inl f))) (e3 : h 163 = some (.inl (0, 8, .inl g))) (hi : i < 64) : g_M G mX11_round (d + 1) 0 0 [.ref 142, .int (nI i)] n ex h (q_v n ex [163] h (fun h' => ∃ g', h' 163 = some (.inl (0, 8, .inl g')) ∧ ∀ j, j < 8 → g' j = rnd g (kf i) (f i) j)) := by
  refine g_enter (by decide) (Nat.le_of_ble_eq_true rfl) ?_
  show g_W G _ _ _ n ex h 0 0 0 [(0, .ref 142), (1, .int (nI i))] []
  refine g_aload_n dX11_round_0 rfl rfl ?_
  refine g_getf (v := .ref 163) dX11_round_1 fX11_170 m0 rfl ?_
  refine g_iconst (v := nI 0) dX11_round_4 (by decide) ?_
  refine g_ialdN dX11_round_5 e3 (by decide) (by decide) ?_
  refine g_istore_n (ls' := [(2, .int (g 0)), (0, .ref 142), (1, .int (nI i))]) dX11_round_6 rfl (by decide) rfl ?_
  refine g_aload_n dX11_round_7 rfl rfl ?_
  refine g_getf (v := .ref 163) dX11_round_8 fX11_170 m0 rfl ?_
  refine g_iconst (v := nI 4) dX11_round_11 (by decide) ?_
  refine g_ialdN dX11_round_12 e3 (by decide) (by decide) ?_
  refine g_istore_n (ls' := [(3, .int (g 4)), (2, .int (g 0)), (0, .ref 142), (1, .int (nI i))]) dX11_round_13 rfl (by decide) rfl ?_
  refine g_aload_n dX11_round_14 rfl rfl ?_
  refine g_getf (v := .ref 163) dX11_round_15 fX11_170 m0 rfl ?_
  refine g_bipush (v := nI 7) dX11_round_18 (by decide) ?_
  refine g_ialdN dX11_round_20 e3 (by decide) (by decide) ?_
  refine g_aload_n dX11_round_21 rfl rfl ?_
  refine g_iload_n dX11_round_22 rfl rfl ?_
  refine g_bipush (v := nI 6) dX11_round_23 (by decide) ?_
  refine cVi (st := [.int (g 7)]) dX11_round_25 (c_turned G d n ex h (x := g 4) (b := 6) (i := 0) (by decide)) sX11_224 m0 rfl rfl (by simp only [g_rm]; omega) (by simp only [g_rm]; omega) (Nat.le_of_ble_eq_true rfl) ⟨Nat.le_of_ble_eq_true rfl, Nat.le_of_ble_eq_true rfl⟩ (fun r4 h1 fr2 p3 => ?_)
  cases g_fr0 fr2
  subst p3
  refine g_aload_n dX11_round_28 rfl rfl ?_
  refine g_iload_n dX11_round_29 rfl rfl ?_
  refine g_bipush (v := nI 11) dX11_round_30 (by decide) ?_
  refine cVi (st := [.int (tn (g 4) 6), .int (g 7)]) dX11_round_32 (c_turned G d n ex h (x := g 4) (b := 11) (i := 0) (by decide)) sX11_224 m0 rfl rfl (by simp only [g_rm]; omega) (by simp only [g_rm]; omega) (Nat.le_of_ble_eq_true rfl) ⟨Nat.le_of_ble_eq_true rfl, Nat.le_of_ble_eq_true rfl⟩ (fun r8 h5 fr6 p7 => ?_)
  cases g_fr0 fr6
  subst p7
  refine g_ixor dX11_round_35 ?_
  refine g_aload_n dX11_round_36 rfl rfl ?_
  refine g_iload_n dX11_round_37 rfl rfl ?_
  refine g_bipush (v := nI 25) dX11_round_38 (by decide) ?_
  refine cVi (st := [.int ((tn (g 4) 6) ^^^ (tn (g 4) 11)), .int (g 7)]) dX11_round_40 (c_turned G d n ex h (x := g 4) (b := 25) (i := 0) (by decide)) sX11_224 m0 rfl rfl (by simp only [g_rm]; omega) (by simp only [g_rm]; omega) (Nat.le_of_ble_eq_true rfl) ⟨Nat.le_of_ble_eq_true rfl, Nat.le_of_ble_eq_true rfl⟩ (fun r12 h9 fr10 p11 => ?_)
  cases g_fr0 fr10
  subst p11
  refine g_ixor dX11_round_43 ?_
  refine g_iadd dX11_round_44 ?_
  refine g_iload_n dX11_round_45 rfl rfl ?_
  refine g_aload_n dX11_round_46 rfl rfl ?_
  refine g_getf (v := .ref 163) dX11_round_47 fX11_170 m0 rfl ?_
  refine g_iconst (v := nI 5) dX11_round_50 (by decide) ?_
  refine g_ialdN dX11_round_51 e3 (by decide) (by decide) ?_
  refine g_iand dX11_round_52 ?_
  refine g_iload_n dX11_round_53 rfl rfl ?_
  refine g_iconst (v := -1) dX11_round_54 (by decide) ?_
  refine g_ixor dX11_round_55 ?_
  refine g_aload_n dX11_round_56 rfl rfl ?_
  refine g_getf (v := .ref 163) dX11_round_57 fX11_170 m0 rfl ?_
  refine g_bipush (v := nI 6) dX11_round_60 (by decide) ?_
  refine g_ialdN dX11_round_62 e3 (by decide) (by decide) ?_
  refine g_iand dX11_round_63 ?_
  refine g_ixor dX11_round_64 ?_
  refine g_iadd dX11_round_65 ?_
  refine g_aload_n dX11_round_66 rfl rfl ?_
  refine g_getf (v := .ref 160) dX11_round_67 fX11_153 m0 rfl ?_
  refine g_iload_n dX11_round_70 rfl rfl ?_
  refine g_ialdN dX11_round_71 e0 (by omega) (by decide) ?_
  refine g_iadd dX11_round_72 ?_
  refine g_aload_n dX11_round_73 rfl rfl ?_
  refine g_getf (v := .ref 162) dX11_round_74 fX11_167 m0 rfl ?_
  refine g_iload_n dX11_round_77 rfl rfl ?_
  refine g_ialdN dX11_round_78 e2 (by omega) (by decide) ?_
  refine g_iadd dX11_round_79 ?_
  refine g_istore (ls' := [(4, .int (((((g 7) + (((tn (g 4) 6) ^^^ (tn (g 4) 11)) ^^^ (tn (g 4) 25))) + (((g 4) &&& (g 5)) ^^^ (((g 4) ^^^ (-1)) &&& (g 6)))) + (kf i)) + (f i))), (3, .int (g 4)), (2, .int (g 0)), (0, .ref 142), (1, .int (nI i))]) dX11_round_80 (by decide) rfl ?_
  refine g_aload_n dX11_round_82 rfl rfl ?_
  refine g_iload_n dX11_round_83 rfl rfl ?_
  refine g_iconst (v := nI 2) dX11_round_84 (by decide) ?_
  refine cVi (st := []) dX11_round_85 (c_turned G d n ex h (x := g 0) (b := 2) (i := 0) (by decide)) sX11_224 m0 rfl rfl (by simp only [g_rm]; omega) (by simp only [g_rm]; omega) (Nat.le_of_ble_eq_true rfl) ⟨Nat.le_of_ble_eq_true rfl, Nat.le_of_ble_eq_true rfl⟩ (fun r16 h13 fr14 p15 => ?_)
  cases g_fr0 fr14
  subst p15
  refine g_aload_n dX11_round_88 rfl rfl ?_
  refine g_iload_n dX11_round_89 rfl rfl ?_
  refine g_bipush (v := nI 13) dX11_round_90 (by decide) ?_
  refine cVi (st := [.int (tn (g 0) 2)]) dX11_round_92 (c_turned G d n ex h (x := g 0) (b := 13) (i := 0) (by decide)) sX11_224 m0 rfl rfl (by simp only [g_rm]; omega) (by simp only [g_rm]; omega) (Nat.le_of_ble_eq_true rfl) ⟨Nat.le_of_ble_eq_true rfl, Nat.le_of_ble_eq_true rfl⟩ (fun r20 h17 fr18 p19 => ?_)
  cases g_fr0 fr18
  subst p19
  refine g_ixor dX11_round_95 ?_
  refine g_aload_n dX11_round_96 rfl rfl ?_
  refine g_iload_n dX11_round_97 rfl rfl ?_
  refine g_bipush (v := nI 22) dX11_round_98 (by decide) ?_
  refine cVi (st := [.int ((tn (g 0) 2) ^^^ (tn (g 0) 13))]) dX11_round_100 (c_turned G d n ex h (x := g 0) (b := 22) (i := 0) (by decide)) sX11_224 m0 rfl rfl (by simp only [g_rm]; omega) (by simp only [g_rm]; omega) (Nat.le_of_ble_eq_true rfl) ⟨Nat.le_of_ble_eq_true rfl, Nat.le_of_ble_eq_true rfl⟩ (fun r24 h21 fr22 p23 => ?_)
  cases g_fr0 fr22
  subst p23
  refine g_ixor dX11_round_103 ?_
  refine g_iload_n dX11_round_104 rfl rfl ?_
  refine g_aload_n dX11_round_105 rfl rfl ?_
  refine g_getf (v := .ref 163) dX11_round_106 fX11_170 m0 rfl ?_
  refine g_iconst (v := nI 1) dX11_round_109 (by decide) ?_
  refine g_ialdN dX11_round_110 e3 (by decide) (by decide) ?_
  refine g_iand dX11_round_111 ?_
  refine g_iload_n dX11_round_112 rfl rfl ?_
  refine g_aload_n dX11_round_113 rfl rfl ?_
  refine g_getf (v := .ref 163) dX11_round_114 fX11_170 m0 rfl ?_
  refine g_iconst (v := nI 2) dX11_round_117 (by decide) ?_
  refine g_ialdN dX11_round_118 e3 (by decide) (by decide) ?_
  refine g_iand dX11_round_119 ?_
  refine g_ixor dX11_round_120 ?_
  refine g_aload_n dX11_round_121 rfl rfl ?_
  refine g_getf (v := .ref 163) dX11_round_122 fX11_170 m0 rfl ?_
  refine g_iconst (v := nI 1) dX11_round_125 (by decide) ?_
  refine g_ialdN dX11_round_126 e3 (by decide) (by decide) ?_
  refine g_aload_n dX11_round_127 rfl rfl ?_
  refine g_getf (v := .ref 163) dX11_round_128 fX11_170 m0 rfl ?_
  refine g_iconst (v := nI 2) dX11_round_131 (by decide) ?_
  refine g_ialdN dX11_round_132 e3 (by decide) (by decide) ?_
  refine g_iand dX11_round_133 ?_
  refine g_ixor dX11_round_134 ?_
  refine g_iadd dX11_round_135 ?_
  refine g_istore (ls' := [(5, .int ((((tn (g 0) 2) ^^^ (tn (g 0) 13)) ^^^ (tn (g 0) 22)) + ((((g 0) &&& (g 1)) ^^^ ((g 0) &&& (g 2))) ^^^ ((g 1) &&& (g 2))))), (4, .int (((((g 7) + (((tn (g 4) 6) ^^^ (tn (g 4) 11)) ^^^ (tn (g 4) 25))) + (((g 4) &&& (g 5)) ^^^ (((g 4) ^^^ (-1)) &&& (g 6)))) + (kf i)) + (f i))), (3, .int (g 4)), (2, .int (g 0)), (0, .ref 142), (1, .int (nI i))]) dX11_round_136 (by decide) rfl ?_
  refine g_bipush (v := nI 7) dX11_round_138 (by decide) ?_
  refine g_istore (ls' := [(6, .int (nI 7)), (5, .int ((((tn (g 0) 2) ^^^ (tn (g 0) 13)) ^^^ (tn (g 0) 22)) + ((((g 0) &&& (g 1)) ^^^ ((g 0) &&& (g 2))) ^^^ ((g 1) &&& (g 2))))), (4, .int (((((g 7) + (((tn (g 4) 6) ^^^ (tn (g 4) 11)) ^^^ (tn (g 4) 25))) + (((g 4) &&& (g 5)) ^^^ (((g 4) ^^^ (-1)) &&& (g 6)))) + (kf i)) + (f i))), (3, .int (g 4)), (2, .int (g 0)), (0, .ref 142), (1, .int (nI i))]) dX11_round_140 (by decide) rfl ?_
  refine g_iload dX11_round_142 rfl ?_
  refine g_if_leN (tgt := 169) dX11_round_144 (by decide) (by decide) (fun c144 => ?_) (fun c144 => ?_)
  · exact absurd c144 (by decide)
  · refine g_aload_n dX11_round_147 rfl rfl ?_
    refine g_getf (v := .ref 163) dX11_round_148 fX11_170 m0 rfl ?_
    refine g_iload dX11_round_151 rfl ?_
    refine g_aload_n dX11_round_153 rfl rfl ?_
    refine g_getf (v := .ref 163) dX11_round_154 fX11_170 m0 rfl ?_
    refine g_iload dX11_round_157 rfl ?_
    refine g_iconst (v := nI 1) dX11_round_159 (by decide) ?_
    refine g_isubN dX11_round_160 (by omega) ?_
    refine g_ialdN dX11_round_161 e3 (by decide) (by decide) ?_
    refine g_iastN dX11_round_162 e3 (by decide) (by decide) ?_
    refine g_iinc (v := nI 6) (ls' := [(6, .int (nI 6)), (5, .int ((((tn (g 0) 2) ^^^ (tn (g 0) 13)) ^^^ (tn (g 0) 22)) + ((((g 0) &&& (g 1)) ^^^ ((g 0) &&& (g 2))) ^^^ ((g 1) &&& (g 2))))), (4, .int (((((g 7) + (((tn (g 4) 6) ^^^ (tn (g 4) 11)) ^^^ (tn (g 4) 25))) + (((g 4) &&& (g 5)) ^^^ (((g 4) ^^^ (-1)) &&& (g 6)))) + (kf i)) + (f i))), (3, .int (g 4)), (2, .int (g 0)), (0, .ref 142), (1, .int (nI i))]) dX11_round_163 rfl (by decide) (by decide) rfl ?_
    refine g_goto (tgt := 142) dX11_round_166 (by decide) ?_
    refine g_iload dX11_round_142 rfl ?_
    refine g_if_leN (tgt := 169) dX11_round_144 (by decide) (by decide) (fun c144 => ?_) (fun c144 => ?_)
    · exact absurd c144 (by decide)
    · refine g_aload_n dX11_round_147 rfl rfl ?_
      refine g_getf (v := .ref 163) dX11_round_148 fX11_170 (g_ne (by decide) m0) rfl ?_
      refine g_iload dX11_round_151 rfl ?_
      refine g_aload_n dX11_round_153 rfl rfl ?_
      refine g_getf (v := .ref 163) dX11_round_154 fX11_170 (g_ne (by decide) m0) rfl ?_
      refine g_iload dX11_round_157 rfl ?_
      refine g_iconst (v := nI 1) dX11_round_159 (by decide) ?_
      refine g_isubN dX11_round_160 (by omega) ?_
      refine g_ialdN dX11_round_161 g_eq (by decide) (by decide) ?_
      refine g_iastN dX11_round_162 g_eq (by decide) (by decide) ?_
      refine g_iinc (v := nI 5) (ls' := [(6, .int (nI 5)), (5, .int ((((tn (g 0) 2) ^^^ (tn (g 0) 13)) ^^^ (tn (g 0) 22)) + ((((g 0) &&& (g 1)) ^^^ ((g 0) &&& (g 2))) ^^^ ((g 1) &&& (g 2))))), (4, .int (((((g 7) + (((tn (g 4) 6) ^^^ (tn (g 4) 11)) ^^^ (tn (g 4) 25))) + (((g 4) &&& (g 5)) ^^^ (((g 4) ^^^ (-1)) &&& (g 6)))) + (kf i)) + (f i))), (3, .int (g 4)), (2, .int (g 0)), (0, .ref 142), (1, .int (nI i))]) dX11_round_163 rfl (by decide) (by decide) rfl ?_
      refine g_goto (tgt := 142) dX11_round_166 (by decide) ?_
      refine g_iload dX11_round_142 rfl ?_
      refine g_if_leN (tgt := 169) dX11_round_144 (by decide) (by decide) (fun c144 => ?_) (fun c144 => ?_)
      · exact absurd c144 (by decide)
      · refine g_aload_n dX11_round_147 rfl rfl ?_
        refine g_getf (v := .ref 163) dX11_round_148 fX11_170 (g_ne (by decide) (g_ne (by decide) m0)) rfl ?_
        refine g_iload dX11_round_151 rfl ?_
        refine g_aload_n dX11_round_153 rfl rfl ?_
        refine g_getf (v := .ref 163) dX11_round_154 fX11_170 (g_ne (by decide) (g_ne (by decide) m0)) rfl ?_
        refine g_iload dX11_round_157 rfl ?_
        refine g_iconst (v := nI 1) dX11_round_159 (by decide) ?_
        refine g_isubN dX11_round_160 (by omega) ?_
        refine g_ialdN dX11_round_161 g_eq (by decide) (by decide) ?_
        refine g_iastN dX11_round_162 g_eq (by decide) (by decide) ?_
        refine g_iinc (v := nI 4) (ls' := [(6, .int (nI 4)), (5, .int ((((tn (g 0) 2) ^^^ (tn (g 0) 13)) ^^^ (tn (g 0) 22)) + ((((g 0) &&& (g 1)) ^^^ ((g 0) &&& (g 2))) ^^^ ((g 1) &&& (g 2))))), (4, .int (((((g 7) + (((tn (g 4) 6) ^^^ (tn (g 4) 11)) ^^^ (tn (g 4) 25))) + (((g 4) &&& (g 5)) ^^^ (((g 4) ^^^ (-1)) &&& (g 6)))) + (kf i)) + (f i))), (3, .int (g 4)), (2, .int (g 0)), (0, .ref 142), (1, .int (nI i))]) dX11_round_163 rfl (by decide) (by decide) rfl ?_
        refine g_goto (tgt := 142) dX11_round_166 (by decide) ?_
        refine g_iload dX11_round_142 rfl ?_
        refine g_if_leN (tgt := 169) dX11_round_144 (by decide) (by decide) (fun c144 => ?_) (fun c144 => ?_)
        · exact absurd c144 (by decide)
        · refine g_aload_n dX11_round_147 rfl rfl ?_
          refine g_getf (v := .ref 163) dX11_round_148 fX11_170 (g_ne (by decide) (g_ne (by decide) (g_ne (by decide) m0))) rfl ?_
          refine g_iload dX11_round_151 rfl ?_
          refine g_aload_n dX11_round_153 rfl rfl ?_
          refine g_getf (v := .ref 163) dX11_round_154 fX11_170 (g_ne (by decide) (g_ne (by decide) (g_ne (by decide) m0))) rfl ?_
          refine g_iload dX11_round_157 rfl ?_
          refine g_iconst (v := nI 1) dX11_round_159 (by decide) ?_
          refine g_isubN dX11_round_160 (by omega) ?_
          refine g_ialdN dX11_round_161 g_eq (by decide) (by decide) ?_
          refine g_iastN dX11_round_162 g_eq (by decide) (by decide) ?_
          refine g_iinc (v := nI 3) (ls' := [(6, .int (nI 3)), (5, .int ((((tn (g 0) 2) ^^^ (tn (g 0) 13)) ^^^ (tn (g 0) 22)) + ((((g 0) &&& (g 1)) ^^^ ((g 0) &&& (g 2))) ^^^ ((g 1) &&& (g 2))))), (4, .int (((((g 7) + (((tn (g 4) 6) ^^^ (tn (g 4) 11)) ^^^ (tn (g 4) 25))) + (((g 4) &&& (g 5)) ^^^ (((g 4) ^^^ (-1)) &&& (g 6)))) + (kf i)) + (f i))), (3, .int (g 4)), (2, .int (g 0)), (0, .ref 142), (1, .int (nI i))]) dX11_round_163 rfl (by decide) (by decide) rfl ?_
          refine g_goto (tgt := 142) dX11_round_166 (by decide) ?_
          refine g_iload dX11_round_142 rfl ?_
          refine g_if_leN (tgt := 169) dX11_round_144 (by decide) (by decide) (fun c144 => ?_) (fun c144 => ?_)
          · exact absurd c144 (by decide)
          · refine g_aload_n dX11_round_147 rfl rfl ?_
            refine g_getf (v := .ref 163) dX11_round_148 fX11_170 (g_ne (by decide) (g_ne (by decide) (g_ne (by decide) (g_ne (by decide) m0)))) rfl ?_
            refine g_iload dX11_round_151 rfl ?_
            refine g_aload_n dX11_round_153 rfl rfl ?_
            refine g_getf (v := .ref 163) dX11_round_154 fX11_170 (g_ne (by decide) (g_ne (by decide) (g_ne (by decide) (g_ne (by decide) m0)))) rfl ?_
            refine g_iload dX11_round_157 rfl ?_
            refine g_iconst (v := nI 1) dX11_round_159 (by decide) ?_
            refine g_isubN dX11_round_160 (by omega) ?_
            refine g_ialdN dX11_round_161 g_eq (by decide) (by decide) ?_
            refine g_iastN dX11_round_162 g_eq (by decide) (by decide) ?_
            refine g_iinc (v := nI 2) (ls' := [(6, .int (nI 2)), (5, .int ((((tn (g 0) 2) ^^^ (tn (g 0) 13)) ^^^ (tn (g 0) 22)) + ((((g 0) &&& (g 1)) ^^^ ((g 0) &&& (g 2))) ^^^ ((g 1) &&& (g 2))))), (4, .int (((((g 7) + (((tn (g 4) 6) ^^^ (tn (g 4) 11)) ^^^ (tn (g 4) 25))) + (((g 4) &&& (g 5)) ^^^ (((g 4) ^^^ (-1)) &&& (g 6)))) + (kf i)) + (f i))), (3, .int (g 4)), (2, .int (g 0)), (0, .ref 142), (1, .int (nI i))]) dX11_round_163 rfl (by decide) (by decide) rfl ?_
            refine g_goto (tgt := 142) dX11_round_166 (by decide) ?_
            refine g_iload dX11_round_142 rfl ?_
            refine g_if_leN (tgt := 169) dX11_round_144 (by decide) (by decide) (fun c144 => ?_) (fun c144 => ?_)
            · exact absurd c144 (by decide)
            · refine g_aload_n dX11_round_147 rfl rfl ?_
              refine g_getf (v := .ref 163) dX11_round_148 fX11_170 (g_ne (by decide) (g_ne (by decide) (g_ne (by decide) (g_ne (by decide) (g_ne (by decide) m0))))) rfl ?_
              refine g_iload dX11_round_151 rfl ?_
              refine g_aload_n dX11_round_153 rfl rfl ?_
              refine g_getf (v := .ref 163) dX11_round_154 fX11_170 (g_ne (by decide) (g_ne (by decide) (g_ne (by decide) (g_ne (by decide) (g_ne (by decide) m0))))) rfl ?_
              refine g_iload dX11_round_157 rfl ?_
              refine g_iconst (v := nI 1) dX11_round_159 (by decide) ?_
              refine g_isubN dX11_round_160 (by omega) ?_
              refine g_ialdN dX11_round_161 g_eq (by decide) (by decide) ?_
              refine g_iastN dX11_round_162 g_eq (by decide) (by decide) ?_
              refine g_iinc (v := nI 1) (ls' := [(6, .int (nI 1)), (5, .int ((((tn (g 0) 2) ^^^ (tn (g 0) 13)) ^^^ (tn (g 0) 22)) + ((((g 0) &&& (g 1)) ^^^ ((g 0) &&& (g 2))) ^^^ ((g 1) &&& (g 2))))), (4, .int (((((g 7) + (((tn (g 4) 6) ^^^ (tn (g 4) 11)) ^^^ (tn (g 4) 25))) + (((g 4) &&& (g 5)) ^^^ (((g 4) ^^^ (-1)) &&& (g 6)))) + (kf i)) + (f i))), (3, .int (g 4)), (2, .int (g 0)), (0, .ref 142), (1, .int (nI i))]) dX11_round_163 rfl (by decide) (by decide) rfl ?_
              refine g_goto (tgt := 142) dX11_round_166 (by decide) ?_
              refine g_iload dX11_round_142 rfl ?_
              refine g_if_leN (tgt := 169) dX11_round_144 (by decide) (by decide) (fun c144 => ?_) (fun c144 => ?_)
              · exact absurd c144 (by decide)
              · refine g_aload_n dX11_round_147 rfl rfl ?_
                refine g_getf (v := .ref 163) dX11_round_148 fX11_170 (g_ne (by decide) (g_ne (by decide) (g_ne (by decide) (g_ne (by decide) (g_ne (by decide) (g_ne (by decide) m0)))))) rfl ?_
                refine g_iload dX11_round_151 rfl ?_
                refine g_aload_n dX11_round_153 rfl rfl ?_
                refine g_getf (v := .ref 163) dX11_round_154 fX11_170 (g_ne (by decide) (g_ne (by decide) (g_ne (by decide) (g_ne (by decide) (g_ne (by decide) (g_ne (by decide) m0)))))) rfl ?_
                refine g_iload dX11_round_157 rfl ?_
                refine g_iconst (v := nI 1) dX11_round_159 (by decide) ?_
                refine g_isubN dX11_round_160 (by omega) ?_
                refine g_ialdN dX11_round_161 g_eq (by decide) (by decide) ?_
                refine g_iastN dX11_round_162 g_eq (by decide) (by decide) ?_
                refine g_iinc (v := nI 0) (ls' := [(6, .int (nI 0)), (5, .int ((((tn (g 0) 2) ^^^ (tn (g 0) 13)) ^^^ (tn (g 0) 22)) + ((((g 0) &&& (g 1)) ^^^ ((g 0) &&& (g 2))) ^^^ ((g 1) &&& (g 2))))), (4, .int (((((g 7) + (((tn (g 4) 6) ^^^ (tn (g 4) 11)) ^^^ (tn (g 4) 25))) + (((g 4) &&& (g 5)) ^^^ (((g 4) ^^^ (-1)) &&& (g 6)))) + (kf i)) + (f i))), (3, .int (g 4)), (2, .int (g 0)), (0, .ref 142), (1, .int (nI i))]) dX11_round_163 rfl (by decide) (by decide) rfl ?_
                refine g_goto (tgt := 142) dX11_round_166 (by decide) ?_
                refine g_iload dX11_round_142 rfl ?_
                refine g_if_leN (tgt := 169) dX11_round_144 (by decide) (by decide) (fun c144 => ?_) (fun c144 => ?_)
                · refine g_aload_n dX11_round_169 rfl rfl ?_
                  refine g_getf (v := .ref 163) dX11_round_170 fX11_170 (g_ne (by decide) (g_ne (by decide) (g_ne (by decide) (g_ne (by decide) (g_ne (by decide) (g_ne (by decide) (g_ne (by decide) m0))))))) rfl ?_
                  refine g_iconst (v := nI 4) dX11_round_173 (by decide) ?_
                  refine g_dup2_11 dX11_round_174 rfl rfl ?_
                  refine g_ialdN dX11_round_175 g_eq (by decide) (by decide) ?_
                  refine g_iload dX11_round_176 rfl ?_
                  refine g_iadd dX11_round_178 ?_
                  refine g_iastN dX11_round_179 g_eq (by decide) (by decide) ?_
                  refine g_aload_n dX11_round_180 rfl rfl ?_
                  refine g_getf (v := .ref 163) dX11_round_181 fX11_170 (g_ne (by decide) (g_ne (by decide) (g_ne (by decide) (g_ne (by decide) (g_ne (by decide) (g_ne (by decide) (g_ne (by decide) (g_ne (by decide) m0)))))))) rfl ?_
                  refine g_iconst (v := nI 0) dX11_round_184 (by decide) ?_
                  refine g_iload dX11_round_185 rfl ?_
                  refine g_iload dX11_round_187 rfl ?_
                  refine g_iadd dX11_round_189 ?_
                  refine g_iastN dX11_round_190 g_eq (by decide) (by decide) ?_
                  exact e_v dX11_round_191 rfl (((((((((g_fr.rf.up (by simp)).up (by simp)).up (by simp)).up (by simp)).up (by simp)).up (by simp)).up (by simp)).up (by simp)).up (by simp)) ⟨_, g_eq, fun j hj => (by match j, hj with | 0, _ => rfl | 1, _ => rfl | 2, _ => rfl | 3, _ => rfl | 4, _ => rfl | 5, _ => rfl | 6, _ => rfl | 7, _ => rfl | k + 8, q => exact absurd q (by omega))⟩ (by decide) (by decide)
                · exact absurd c144 (by decide)
set_option maxHeartbeats 4000000 in
set_option maxRecDepth 100000 in
theorem lp_dig1 (G : gG) (R : Room) (KK : gK) (n : Nat) (ex : Bool) (h0 : gH) {cd wt : Int32} {s : Nat → Nat} {k m sg cm sd mm dr dd bk rt : Nat} {num : Nat} {dg : Nat → Nat} {kf ff : Nat → Int32} {f g dI : Nat → Int32} 
    (kk : ∀ (h : gH) (ms : Nat → Int32), (∀ j, j < 64 → ms j = nI 0) → Mc h cd s k m sg cm sd mm dr dd bk rt wt → h 146 = some (.inl (0, 20, .inl (fun k => nI (dg k)))) → h 160 = some (.inl (0, 64, .inl kf)) → h 161 = some (.inl (0, 8, .inl ff)) → h 162 = some (.inl (0, 64, .inl f)) → h 163 = some (.inl (0, 8, .inl g)) → h 164 = some (.inl (0, 64, .inl ms)) → h 165 = some (.inl (0, 32, .inl dI)) → g_fr [162, 163, 164, 165] h0 h → g_W G mX11_digestOf R KK n ex h 0 0 23 [(3, .int (nI 64)), (2, .int (nI 0)), (0, .ref 142), (1, .int (nI num))] []) : ∀ (t i : Nat) (h : gH) (ms : Nat → Int32), 64 - i < t → i ≤ 64 → (∀ j, j < i → ms j = nI 0) → Mc h cd s k m sg cm sd mm dr dd bk rt wt → h 146 = some (.inl (0, 20, .inl (fun k => nI (dg k)))) → h 160 = some (.inl (0, 64, .inl kf)) → h 161 = some (.inl (0, 8, .inl ff)) → h 162 = some (.inl (0, 64, .inl f)) → h 163 = some (.inl (0, 8, .inl g)) → h 164 = some (.inl (0, 64, .inl ms)) → h 165 = some (.inl (0, 32, .inl dI)) → g_fr [162, 163, 164, 165] h0 h →
    g_W G mX11_digestOf R KK n ex h 0 0 4 [(3, .int (nI i)), (2, .int (nI 0)), (0, .ref 142), (1, .int (nI num))] [] := by
  intro t
  induction t with
  | zero => intro i h ms hm; exact absurd hm (by omega)
  | succ t ih =>
    intro i h ms ht hi v0 m0 a6 e0 e1 e2 e3 e4 e5 hfr
    refine g_iload_n dX11_digestOf_4 rfl rfl ?_
    refine g_bipush (v := nI 64) dX11_digestOf_5 (by decide) ?_
    refine g_icmp_geN (tgt := 23) dX11_digestOf_7 (by decide) (by omega) (by omega) (fun c7 => ?_) (fun c7 => ?_)
    · refine g_pick [0, 1, 2, 3] (ls' := [(3, .int (nI i)), (2, .int (nI 0)), (0, .ref 142), (1, .int (nI num))]) rfl ?_
      have e : i = 64 := by omega
      subst e
      exact kk _ ms v0 m0 a6 e0 e1 e2 e3 e4 e5 hfr
    · refine g_aload_n dX11_digestOf_10 rfl rfl ?_
      refine g_getf (v := .ref 164) dX11_digestOf_11 fX11_173 m0 rfl ?_
      refine g_iload_n dX11_digestOf_14 rfl rfl ?_
      refine g_iconst (v := nI 0) dX11_digestOf_15 (by decide) ?_
      refine g_iastN dX11_digestOf_16 e4 (by omega) (by decide) ?_
      refine g_iincN (z := 1) (ls' := [(3, .int (nI (i + 1))), (2, .int (nI 0)), (0, .ref 142), (1, .int (nI num))]) dX11_digestOf_17 rfl (by decide) rfl ?_
      refine g_goto (tgt := 4) dX11_digestOf_20 (by decide) ?_
      refine g_pick [0, 1, 2, 3] (ls' := [(3, .int (nI (i + 1))), (2, .int (nI 0)), (0, .ref 142), (1, .int (nI num))]) rfl ?_
      exact ih (i + 1) _ (upd ms i (nI 0)) (by omega) (by omega) (fun j hj => by unfold upd; by_cases q : j = i; (rw [if_pos q]); (rw [if_neg q]; exact v0 j (by omega))) (g_ne (by decide) m0) (g_ne (by decide) a6) (g_ne (by decide) e0) (g_ne (by decide) e1) (g_ne (by decide) e2) (g_ne (by decide) e3) g_eq (g_ne (by decide) e5) (hfr.up (by simp))
set_option maxHeartbeats 4000000 in
set_option maxRecDepth 100000 in
theorem lp_dig2 (G : gG) (R : Room) (KK : gK) (n : Nat) (ex : Bool) (h0 : gH) {cd wt : Int32} {s : Nat → Nat} {k m sg cm sd mm dr dd bk rt : Nat} {num : Nat} {dg : Nat → Nat} {kf ff : Nat → Int32} {f g dI : Nat → Int32} (hk : k ≤ 20)
    (kk : ∀ (h : gH) (ms : Nat → Int32), (∀ j, j < 64 → ms j = nI (dM dg k j)) → Mc h cd s k m sg cm sd mm dr dd bk rt wt → h 146 = some (.inl (0, 20, .inl (fun k => nI (dg k)))) → h 160 = some (.inl (0, 64, .inl kf)) → h 161 = some (.inl (0, 8, .inl ff)) → h 162 = some (.inl (0, 64, .inl f)) → h 163 = some (.inl (0, 8, .inl g)) → h 164 = some (.inl (0, 64, .inl ms)) → h 165 = some (.inl (0, 32, .inl dI)) → g_fr [162, 163, 164, 165] h0 h → g_W G mX11_digestOf R KK n ex h 0 0 57 [(3, .int (nI k)), (2, .int (nI k)), (0, .ref 142), (1, .int (nI num))] []) : ∀ (t i : Nat) (h : gH) (ms : Nat → Int32), k - i < t → i ≤ k → (∀ j, j < 64 → ms j = nI (dM dg i j)) → Mc h cd s k m sg cm sd mm dr dd bk rt wt → h 146 = some (.inl (0, 20, .inl (fun k => nI (dg k)))) → h 160 = some (.inl (0, 64, .inl kf)) → h 161 = some (.inl (0, 8, .inl ff)) → h 162 = some (.inl (0, 64, .inl f)) → h 163 = some (.inl (0, 8, .inl g)) → h 164 = some (.inl (0, 64, .inl ms)) → h 165 = some (.inl (0, 32, .inl dI)) → g_fr [162, 163, 164, 165] h0 h →
    g_W G mX11_digestOf R KK n ex h 0 0 25 [(3, .int (nI i)), (2, .int (nI i)), (0, .ref 142), (1, .int (nI num))] [] := by
  intro t
  induction t with
  | zero => intro i h ms hm; exact absurd hm (by omega)
  | succ t ih =>
    intro i h ms ht hi v0 m0 a6 e0 e1 e2 e3 e4 e5 hfr
    refine g_iload_n dX11_digestOf_25 rfl rfl ?_
    refine g_aload_n dX11_digestOf_26 rfl rfl ?_
    refine g_getf (v := .int (nI k)) dX11_digestOf_27 fX11_220 m0 rfl ?_
    refine g_icmp_geN (tgt := 57) dX11_digestOf_30 (by decide) (by omega) (by omega) (fun c30 => ?_) (fun c30 => ?_)
    · refine g_pick [0, 1, 2, 3] (ls' := [(3, .int (nI i)), (2, .int (nI i)), (0, .ref 142), (1, .int (nI num))]) rfl ?_
      have e : i = k := by omega
      subst e
      exact kk _ ms v0 m0 a6 e0 e1 e2 e3 e4 e5 hfr
    · refine g_aload_n dX11_digestOf_33 rfl rfl ?_
      refine g_getf (v := .ref 164) dX11_digestOf_34 fX11_173 m0 rfl ?_
      refine g_iload_n dX11_digestOf_37 rfl rfl ?_
      refine g_bipush (v := nI 48) dX11_digestOf_38 (by decide) ?_
      refine g_aload_n dX11_digestOf_40 rfl rfl ?_
      refine g_getf (v := .ref 146) dX11_digestOf_41 fX11_42 m0 rfl ?_
      refine g_iload_n dX11_digestOf_44 rfl rfl ?_
      refine g_ialdN dX11_digestOf_45 a6 (by omega) (by decide) ?_
      refine g_iaddN dX11_digestOf_46 ?_
      refine g_iastN dX11_digestOf_47 e4 (by omega) (by decide) ?_
      refine g_iincN (z := 1) (ls' := [(2, .int (nI (i + 1))), (3, .int (nI i)), (0, .ref 142), (1, .int (nI num))]) dX11_digestOf_48 rfl (by decide) rfl ?_
      refine g_iincN (z := 1) (ls' := [(3, .int (nI (i + 1))), (2, .int (nI (i + 1))), (0, .ref 142), (1, .int (nI num))]) dX11_digestOf_51 rfl (by decide) rfl ?_
      refine g_goto (tgt := 25) dX11_digestOf_54 (by decide) ?_
      refine g_pick [0, 1, 2, 3] (ls' := [(3, .int (nI (i + 1))), (2, .int (nI (i + 1))), (0, .ref 142), (1, .int (nI num))]) rfl ?_
      exact ih (i + 1) _ (upd ms i (nI (48 + dg i))) (by omega) (by omega) (by rw [← dM_s]; exact up_pt v0) (g_ne (by decide) m0) (g_ne (by decide) a6) (g_ne (by decide) e0) (g_ne (by decide) e1) (g_ne (by decide) e2) (g_ne (by decide) e3) g_eq (g_ne (by decide) e5) (hfr.up (by simp))
theorem ut_m {j : Nat} (h : j < 9) : ut j = 10 * ut (j + 1) := (by decide : ∀ j, j < 9 → ut j = 10 * ut (j + 1)) j h
/-- a digit was put before the j-th -/
def bgn (num j b : Nat) : Prop := b ≤ 1 ∧ (b = 1 ↔ (0 < j ∧ ut (j - 1) ≤ num))
theorem bg_lt {num j : Nat} (hj : j < 10) (hn : num < 2147483648) (h : ¬ (0 < j ∧ ut (j - 1) ≤ num)) : num < 10 * ut j := by
  cases j with
  | zero => exact Nat.lt_trans hn (by decide)
  | succ j =>
    rw [← ut_m (by omega)]
    exact Nat.not_le.mp (fun q => h ⟨by omega, q⟩)
theorem bg_ge {num j : Nat} (hj : j < 10) (h : 0 < j ∧ ut (j - 1) ≤ num) : ut j ≤ num := by
  cases j with
  | zero => omega
  | succ j =>
    have h1 : ut j ≤ num := h.2
    rw [ut_m (by omega)] at h1
    omega
theorem bg_v {num u : Nat} (hu : 0 < u) (h : num < 10 * u) : num / u % 10 = 0 ↔ num < u := by
  have h1 : num / u < 10 := Nat.div_lt_of_lt_mul (by rw [Nat.mul_comm]; exact h)
  rw [Nat.mod_eq_of_lt h1, Nat.div_eq_zero_iff]
  omega
set_option maxHeartbeats 4000000 in
set_option maxRecDepth 100000 in
theorem lp_dig3 (G : gG) (R : Room) (KK : gK) (n : Nat) (ex : Bool) (h0 : gH) {cd wt : Int32} {s : Nat → Nat} {k m sg cm sd mm dr dd bk rt : Nat} {num : Nat} {dg : Nat → Nat} {kf ff : Nat → Int32} {f g dI : Nat → Int32} (hk : k ≤ 20) (hn1 : num < 2147483648)
    (kk : ∀ (h : gH) (b : Nat) (ms : Nat → Int32), (∀ i, i < 64 → ms i = nI ((nd dg k num 10).2 i)) → Mc h cd s k m sg cm sd mm dr dd bk rt wt → h 146 = some (.inl (0, 20, .inl (fun k => nI (dg k)))) → h 160 = some (.inl (0, 64, .inl kf)) → h 161 = some (.inl (0, 8, .inl ff)) → h 162 = some (.inl (0, 64, .inl f)) → h 163 = some (.inl (0, 8, .inl g)) → h 164 = some (.inl (0, 64, .inl ms)) → h 165 = some (.inl (0, 32, .inl dI)) → g_fr [162, 163, 164, 165] h0 h → g_W G mX11_digestOf R KK n ex h 0 0 131 [(4, .int (nI (ut 10))), (3, .int (nI b)), (2, .int (nI ((nd dg k num 10).1))), (0, .ref 142), (1, .int (nI num))] []) : ∀ (t j b : Nat) (h : gH) (ms : Nat → Int32), 10 - j < t → j ≤ 10 → bgn num j b → (∀ i, i < 64 → ms i = nI ((nd dg k num j).2 i)) → Mc h cd s k m sg cm sd mm dr dd bk rt wt → h 146 = some (.inl (0, 20, .inl (fun k => nI (dg k)))) → h 160 = some (.inl (0, 64, .inl kf)) → h 161 = some (.inl (0, 8, .inl ff)) → h 162 = some (.inl (0, 64, .inl f)) → h 163 = some (.inl (0, 8, .inl g)) → h 164 = some (.inl (0, 64, .inl ms)) → h 165 = some (.inl (0, 32, .inl dI)) → g_fr [162, 163, 164, 165] h0 h →
    g_W G mX11_digestOf R KK n ex h 0 0 74 [(4, .int (nI (ut j))), (3, .int (nI b)), (2, .int (nI ((nd dg k num j).1))), (0, .ref 142), (1, .int (nI num))] [] := by
  intro t
  induction t with
  | zero => intro j b h ms hm; exact absurd hm (by omega)
  | succ t ih =>
    intro j b h ms ht hj vb v0 m0 a6 e0 e1 e2 e3 e4 e5 hfr
    have hu := ut_le j
    have hnl := nd_le dg k num j
    refine g_iload dX11_digestOf_74 rfl ?_
    refine g_if_leN (tgt := 131) dX11_digestOf_76 (by decide) (by omega) (fun c76 => ?_) (fun c76 => ?_)
    · refine g_pick [0, 1, 2, 3, 4] (ls' := [(4, .int (nI (ut j))), (3, .int (nI b)), (2, .int (nI ((nd dg k num j).1))), (0, .ref 142), (1, .int (nI num))]) rfl ?_
      have hj9 : j = 10 := by rcases Nat.lt_or_ge j 10 with q | q; (exact absurd c76 (by have := ut_pos q; omega)); omega
      subst hj9
      exact kk _ b ms v0 m0 a6 e0 e1 e2 e3 e4 e5 hfr
    · have hj10 : j < 10 := by rcases Nat.lt_or_ge j 10 with q | q; exact q; exact absurd c76 (by rw [show j = 10 by omega, ut_10]; decide)
      have hdiv := Nat.div_le_self num (ut j)
      refine g_iload_n dX11_digestOf_79 rfl rfl ?_
      refine g_iload dX11_digestOf_80 rfl ?_
      refine g_idivN dX11_digestOf_82 (by omega) (by omega) (by omega) ?_
      refine g_bipush (v := nI 10) dX11_digestOf_83 (by decide) ?_
      refine g_iremN dX11_digestOf_85 (by omega) (by omega) (by omega) ?_
      refine g_istore (ls' := [(5, .int (nI ((num / (ut j)) % 10))), (4, .int (nI (ut j))), (3, .int (nI b)), (2, .int (nI ((nd dg k num j).1))), (0, .ref 142), (1, .int (nI num))]) dX11_digestOf_86 (by decide) rfl ?_
      refine g_iload_n dX11_digestOf_88 rfl rfl ?_
      refine g_if_neN (tgt := 97) dX11_digestOf_89 (by decide) (by have := vb.1; omega) (fun c89 => ?_) (fun c89 => ?_)
      · refine g_iconst (v := nI 1) dX11_digestOf_97 (by decide) ?_
        refine g_goto (tgt := 102) dX11_digestOf_98 (by decide) ?_
        refine g_istore_n (ls' := [(3, .int (nI 1)), (5, .int (nI ((num / (ut j)) % 10))), (4, .int (nI (ut j))), (2, .int (nI ((nd dg k num j).1))), (0, .ref 142), (1, .int (nI num))]) dX11_digestOf_102 rfl (by decide) rfl ?_
        refine g_iload_n dX11_digestOf_103 rfl rfl ?_
        refine g_if_eqN (tgt := 121) dX11_digestOf_104 (by decide) (by decide) (fun c104 => ?_) (fun c104 => ?_)
        · exact absurd c104 (by decide)
        · refine g_aload_n dX11_digestOf_107 rfl rfl ?_
          refine g_getf (v := .ref 164) dX11_digestOf_108 fX11_173 m0 rfl ?_
          refine g_iload_n dX11_digestOf_111 rfl rfl ?_
          refine g_bipush (v := nI 48) dX11_digestOf_112 (by decide) ?_
          refine g_iload dX11_digestOf_114 rfl ?_
          refine g_iaddN dX11_digestOf_116 ?_
          refine g_iastN dX11_digestOf_117 e4 (by omega) (by decide) ?_
          refine g_iincN (z := 1) (ls' := [(2, .int (nI (((nd dg k num j).1) + 1))), (3, .int (nI 1)), (5, .int (nI ((num / (ut j)) % 10))), (4, .int (nI (ut j))), (0, .ref 142), (1, .int (nI num))]) dX11_digestOf_118 rfl (by decide) rfl ?_
          refine g_iload dX11_digestOf_121 rfl ?_
          refine g_bipush (v := nI 10) dX11_digestOf_123 (by decide) ?_
          refine g_idivN dX11_digestOf_125 (by omega) (by omega) (by omega) ?_
          refine g_istore (ls' := [(4, .int (nI ((ut j) / 10))), (2, .int (nI (((nd dg k num j).1) + 1))), (3, .int (nI 1)), (5, .int (nI ((num / (ut j)) % 10))), (0, .ref 142), (1, .int (nI num))]) dX11_digestOf_126 (by decide) rfl ?_
          refine g_goto (tgt := 74) dX11_digestOf_128 (by decide) ?_
          refine g_pick [0, 2, 1, 4, 5] (ls' := [(4, .int (nI ((ut j) / 10))), (3, .int (nI 1)), (2, .int (nI (((nd dg k num j).1) + 1))), (0, .ref 142), (1, .int (nI num))]) rfl ?_
          rw [ut_s]
          have hge : ut j ≤ num := bg_ge hj10 (vb.2.mp (by have := vb.1; omega))
          have e : nd dg k num (j + 1) = ((nd dg k num j).1 + 1, va_up (nd dg k num j).2 (nd dg k num j).1 (48 + num / ut j % 10)) := if_neg (by omega)
          have := ih (j + 1) 1 _ (upd ms (nd dg k num j).1 (nI (48 + num / ut j % 10))) (by omega) (by omega) ⟨by decide, ⟨fun _ => ⟨by omega, hge⟩, fun _ => rfl⟩⟩ (by rw [e]; exact up_pt v0) (g_ne (by decide) m0) (g_ne (by decide) a6) (g_ne (by decide) e0) (g_ne (by decide) e1) (g_ne (by decide) e2) (g_ne (by decide) e3) g_eq (g_ne (by decide) e5) (hfr.up (by simp))
          rw [e] at this
          exact this
      · refine g_iload dX11_digestOf_92 rfl ?_
        refine g_if_leN (tgt := 101) dX11_digestOf_94 (by decide) (by omega) (fun c94 => ?_) (fun c94 => ?_)
        · refine g_iconst (v := nI 0) dX11_digestOf_101 (by decide) ?_
          refine g_istore_n (ls' := [(3, .int (nI 0)), (5, .int (nI ((num / (ut j)) % 10))), (4, .int (nI (ut j))), (2, .int (nI ((nd dg k num j).1))), (0, .ref 142), (1, .int (nI num))]) dX11_digestOf_102 rfl (by decide) rfl ?_
          refine g_iload_n dX11_digestOf_103 rfl rfl ?_
          refine g_if_eqN (tgt := 121) dX11_digestOf_104 (by decide) (by decide) (fun c104 => ?_) (fun c104 => ?_)
          · refine g_iload dX11_digestOf_121 rfl ?_
            refine g_bipush (v := nI 10) dX11_digestOf_123 (by decide) ?_
            refine g_idivN dX11_digestOf_125 (by omega) (by omega) (by omega) ?_
            refine g_istore (ls' := [(4, .int (nI ((ut j) / 10))), (3, .int (nI 0)), (5, .int (nI ((num / (ut j)) % 10))), (2, .int (nI ((nd dg k num j).1))), (0, .ref 142), (1, .int (nI num))]) dX11_digestOf_126 (by decide) rfl ?_
            refine g_goto (tgt := 74) dX11_digestOf_128 (by decide) ?_
            refine g_pick [0, 1, 3, 4, 5] (ls' := [(4, .int (nI ((ut j) / 10))), (3, .int (nI 0)), (2, .int (nI ((nd dg k num j).1))), (0, .ref 142), (1, .int (nI num))]) rfl ?_
            rw [ut_s]
            have hlt : num < ut j := (bg_v (ut_pos hj10) (bg_lt hj10 hn1 (fun z => by have := vb.2.mpr z; omega))).mp (by omega)
            have e : nd dg k num (j + 1) = nd dg k num j := if_pos hlt
            have := ih (j + 1) 0 _ ms (by omega) (by omega) ⟨by decide, ⟨fun z => absurd z (by decide), fun z => absurd (show ut j ≤ num from z.2) (by omega)⟩⟩ (by rw [e]; exact v0) m0 a6 e0 e1 e2 e3 e4 e5 (hfr)
            rw [e] at this
            exact this
          · exact absurd c104 (by decide)
        · refine g_iconst (v := nI 1) dX11_digestOf_97 (by decide) ?_
          refine g_goto (tgt := 102) dX11_digestOf_98 (by decide) ?_
          refine g_istore_n (ls' := [(3, .int (nI 1)), (5, .int (nI ((num / (ut j)) % 10))), (4, .int (nI (ut j))), (2, .int (nI ((nd dg k num j).1))), (0, .ref 142), (1, .int (nI num))]) dX11_digestOf_102 rfl (by decide) rfl ?_
          refine g_iload_n dX11_digestOf_103 rfl rfl ?_
          refine g_if_eqN (tgt := 121) dX11_digestOf_104 (by decide) (by decide) (fun c104 => ?_) (fun c104 => ?_)
          · exact absurd c104 (by decide)
          · refine g_aload_n dX11_digestOf_107 rfl rfl ?_
            refine g_getf (v := .ref 164) dX11_digestOf_108 fX11_173 m0 rfl ?_
            refine g_iload_n dX11_digestOf_111 rfl rfl ?_
            refine g_bipush (v := nI 48) dX11_digestOf_112 (by decide) ?_
            refine g_iload dX11_digestOf_114 rfl ?_
            refine g_iaddN dX11_digestOf_116 ?_
            refine g_iastN dX11_digestOf_117 e4 (by omega) (by decide) ?_
            refine g_iincN (z := 1) (ls' := [(2, .int (nI (((nd dg k num j).1) + 1))), (3, .int (nI 1)), (5, .int (nI ((num / (ut j)) % 10))), (4, .int (nI (ut j))), (0, .ref 142), (1, .int (nI num))]) dX11_digestOf_118 rfl (by decide) rfl ?_
            refine g_iload dX11_digestOf_121 rfl ?_
            refine g_bipush (v := nI 10) dX11_digestOf_123 (by decide) ?_
            refine g_idivN dX11_digestOf_125 (by omega) (by omega) (by omega) ?_
            refine g_istore (ls' := [(4, .int (nI ((ut j) / 10))), (2, .int (nI (((nd dg k num j).1) + 1))), (3, .int (nI 1)), (5, .int (nI ((num / (ut j)) % 10))), (0, .ref 142), (1, .int (nI num))]) dX11_digestOf_126 (by decide) rfl ?_
            refine g_goto (tgt := 74) dX11_digestOf_128 (by decide) ?_
            refine g_pick [0, 2, 1, 4, 5] (ls' := [(4, .int (nI ((ut j) / 10))), (3, .int (nI 1)), (2, .int (nI (((nd dg k num j).1) + 1))), (0, .ref 142), (1, .int (nI num))]) rfl ?_
            rw [ut_s]
            have hge : ut j ≤ num := (Nat.not_lt.mp (fun q => absurd ((bg_v (ut_pos hj10) (bg_lt hj10 hn1 (fun z => by have := vb.2.mpr z; omega))).mpr q) (by omega)))
            have e : nd dg k num (j + 1) = ((nd dg k num j).1 + 1, va_up (nd dg k num j).2 (nd dg k num j).1 (48 + num / ut j % 10)) := if_neg (by omega)
            have := ih (j + 1) 1 _ (upd ms (nd dg k num j).1 (nI (48 + num / ut j % 10))) (by omega) (by omega) ⟨by decide, ⟨fun _ => ⟨by omega, hge⟩, fun _ => rfl⟩⟩ (by rw [e]; exact up_pt v0) (g_ne (by decide) m0) (g_ne (by decide) a6) (g_ne (by decide) e0) (g_ne (by decide) e1) (g_ne (by decide) e2) (g_ne (by decide) e3) g_eq (g_ne (by decide) e5) (hfr.up (by simp))
            rw [e] at this
            exact this
theorem pk_cg {m m' : Nat → Nat} {i : Nat} (h : ∀ j, j < 4 → m (4 * i + j) = m' (4 * i + j)) : pk_ m i = pk_ m' i := by
  unfold pk_
  have h0 := h 0 (by decide)
  rw [Nat.add_zero] at h0
  rw [h0, h 1 (by decide), h 2 (by decide), h 3 (by decide)]
theorem pk_top (x : Nat) : pk4 (nI 0) (nI 0) (nI 0) (nI x) = nI x := by
  unfold pk4
  refine b_ext (fun i hi => ?_)
  simp only [b_or, b_shl 24 (by decide) _ hi, b_shl 16 (by decide) _ hi, b_shl 8 (by decide) _ hi, show nI 0 = 0 from rfl, b_0, Bool.and_false, Bool.false_or]
theorem hm_eq {dg : Nat → Nat} {k num : Nat} (hk : k ≤ 20) {i : Nat} (hi : i < 16) : pk_ (va_up (va_up (va_up (nd dg k num 10).2 (nd dg k num 10).1 128) 62 0) 63 (8 * (nd dg k num 10).1)) i = hmsg dg k num i := by
  have hl := nd_le dg k num 10
  unfold hmsg
  by_cases q : i = 15
  · subst q
    rw [if_pos rfl]
    unfold pk_
    rw [show 4 * 15 = 60 from rfl, show 60 + 1 = 61 from rfl, show 60 + 2 = 62 from rfl, show 60 + 3 = 63 from rfl, va_n (by decide), va_n (by decide), va_n (by omega), nd_0 dg k num 10 60 (by omega), va_n (by decide), va_n (by decide), va_n (by omega), nd_0 dg k num 10 61 (by omega), va_n (show 62 ≠ 63 by decide), va_s, va_s]
    exact pk_top _
  · rw [if_neg q]
    exact pk_cg (fun j hj => by rw [va_n (by omega), va_n (by omega)])
set_option maxHeartbeats 4000000 in
set_option maxRecDepth 100000 in
theorem lp_dig4 (G : gG) (R : Room) (KK : gK) (n : Nat) (ex : Bool) (h0 : gH) {cd wt : Int32} {s : Nat → Nat} {k m sg cm sd mm dr dd bk rt : Nat} {num : Nat} {dg : Nat → Nat} {kf ff : Nat → Int32} {g ms dI : Nat → Int32} (hk : k ≤ 20) (hM : ∀ j, j < 64 → ms j = nI ((va_up (va_up (va_up (nd dg k num 10).2 (nd dg k num 10).1 128) 62 0) 63 (8 * (nd dg k num 10).1)) j))
    (kk : ∀ (h : gH) (f : Nat → Int32), (∀ j, j < 16 → f j = hmsg dg k num j) → Mc h cd s k m sg cm sd mm dr dd bk rt wt → h 146 = some (.inl (0, 20, .inl (fun k => nI (dg k)))) → h 160 = some (.inl (0, 64, .inl kf)) → h 161 = some (.inl (0, 8, .inl ff)) → h 162 = some (.inl (0, 64, .inl f)) → h 163 = some (.inl (0, 8, .inl g)) → h 164 = some (.inl (0, 64, .inl ms)) → h 165 = some (.inl (0, 32, .inl dI)) → g_fr [162, 163, 164, 165] h0 h → g_W G mX11_digestOf R KK n ex h 0 0 246 [(4, .int (nI 16)), (0, .ref 142), (1, .int (nI num))] []) : ∀ (t i : Nat) (h : gH) (f : Nat → Int32), 16 - i < t → i ≤ 16 → (∀ j, j < i → f j = hmsg dg k num j) → Mc h cd s k m sg cm sd mm dr dd bk rt wt → h 146 = some (.inl (0, 20, .inl (fun k => nI (dg k)))) → h 160 = some (.inl (0, 64, .inl kf)) → h 161 = some (.inl (0, 8, .inl ff)) → h 162 = some (.inl (0, 64, .inl f)) → h 163 = some (.inl (0, 8, .inl g)) → h 164 = some (.inl (0, 64, .inl ms)) → h 165 = some (.inl (0, 32, .inl dI)) → g_fr [162, 163, 164, 165] h0 h →
    g_W G mX11_digestOf R KK n ex h 0 0 172 [(4, .int (nI i)), (0, .ref 142), (1, .int (nI num))] [] := by
  intro t
  induction t with
  | zero => intro i h f hm; exact absurd hm (by omega)
  | succ t ih =>
    intro i h f ht hi v0 m0 a6 e0 e1 e2 e3 e4 e5 hfr
    refine g_iload dX11_digestOf_172 rfl ?_
    refine g_bipush (v := nI 16) dX11_digestOf_174 (by decide) ?_
    refine g_icmp_geN (tgt := 246) dX11_digestOf_176 (by decide) (by omega) (by omega) (fun c176 => ?_) (fun c176 => ?_)
    · refine g_pick [0, 1, 2] (ls' := [(4, .int (nI i)), (0, .ref 142), (1, .int (nI num))]) rfl ?_
      have e : i = 16 := by omega
      subst e
      exact kk _ f v0 m0 a6 e0 e1 e2 e3 e4 e5 hfr
    · refine g_aload_n dX11_digestOf_179 rfl rfl ?_
      refine g_getf (v := .ref 162) dX11_digestOf_180 fX11_167 m0 rfl ?_
      refine g_iload dX11_digestOf_183 rfl ?_
      refine g_aload_n dX11_digestOf_185 rfl rfl ?_
      refine g_getf (v := .ref 164) dX11_digestOf_186 fX11_173 m0 rfl ?_
      refine g_iconst (v := nI 4) dX11_digestOf_189 (by decide) ?_
      refine g_iload dX11_digestOf_190 rfl ?_
      refine g_imulN dX11_digestOf_192 ?_
      refine g_ialdN dX11_digestOf_193 e4 (by omega) (by decide) ?_
      refine g_bipush (v := nI 24) dX11_digestOf_194 (by decide) ?_
      refine g_ishl dX11_digestOf_196 ?_
      refine g_aload_n dX11_digestOf_197 rfl rfl ?_
      refine g_getf (v := .ref 164) dX11_digestOf_198 fX11_173 m0 rfl ?_
      refine g_iconst (v := nI 4) dX11_digestOf_201 (by decide) ?_
      refine g_iload dX11_digestOf_202 rfl ?_
      refine g_imulN dX11_digestOf_204 ?_
      refine g_iconst (v := nI 1) dX11_digestOf_205 (by decide) ?_
      refine g_iaddN dX11_digestOf_206 ?_
      refine g_ialdN dX11_digestOf_207 e4 (by omega) (by decide) ?_
      refine g_bipush (v := nI 16) dX11_digestOf_208 (by decide) ?_
      refine g_ishl dX11_digestOf_210 ?_
      refine g_ior dX11_digestOf_211 ?_
      refine g_aload_n dX11_digestOf_212 rfl rfl ?_
      refine g_getf (v := .ref 164) dX11_digestOf_213 fX11_173 m0 rfl ?_
      refine g_iconst (v := nI 4) dX11_digestOf_216 (by decide) ?_
      refine g_iload dX11_digestOf_217 rfl ?_
      refine g_imulN dX11_digestOf_219 ?_
      refine g_iconst (v := nI 2) dX11_digestOf_220 (by decide) ?_
      refine g_iaddN dX11_digestOf_221 ?_
      refine g_ialdN dX11_digestOf_222 e4 (by omega) (by decide) ?_
      refine g_bipush (v := nI 8) dX11_digestOf_223 (by decide) ?_
      refine g_ishl dX11_digestOf_225 ?_
      refine g_ior dX11_digestOf_226 ?_
      refine g_aload_n dX11_digestOf_227 rfl rfl ?_
      refine g_getf (v := .ref 164) dX11_digestOf_228 fX11_173 m0 rfl ?_
      refine g_iconst (v := nI 4) dX11_digestOf_231 (by decide) ?_
      refine g_iload dX11_digestOf_232 rfl ?_
      refine g_imulN dX11_digestOf_234 ?_
      refine g_iconst (v := nI 3) dX11_digestOf_235 (by decide) ?_
      refine g_iaddN dX11_digestOf_236 ?_
      refine g_ialdN dX11_digestOf_237 e4 (by omega) (by decide) ?_
      refine g_ior dX11_digestOf_238 ?_
      refine g_iastN dX11_digestOf_239 e2 (by omega) (by decide) ?_
      refine g_iincN (z := 1) (ls' := [(4, .int (nI (i + 1))), (0, .ref 142), (1, .int (nI num))]) dX11_digestOf_240 rfl (by decide) rfl ?_
      refine g_goto (tgt := 172) dX11_digestOf_243 (by decide) ?_
      refine g_pick [0, 1, 2] (ls' := [(4, .int (nI (i + 1))), (0, .ref 142), (1, .int (nI num))]) rfl ?_
      refine ih (i + 1) _ _ (by omega) (by omega) (fun j hj => ?_) (g_ne (by decide) m0) (g_ne (by decide) a6) (g_ne (by decide) e0) (g_ne (by decide) e1) g_eq (g_ne (by decide) e3) (g_ne (by decide) e4) (g_ne (by decide) e5) (hfr.up (by simp))
      show upd f i _ j = _
      unfold upd
      by_cases q : j = i
      · rw [if_pos q, q, hM _ (by omega), hM _ (by omega), hM _ (by omega), hM _ (by omega)]; exact hm_eq hk (by omega)
      · rw [if_neg q]; exact v0 j (by omega)
set_option maxHeartbeats 4000000 in
set_option maxRecDepth 100000 in
theorem lp_dig5 (G : gG) (d : Nat) (KK : gK) (n : Nat) (ex : Bool) (h0 : gH) {cd wt : Int32} {s : Nat → Nat} {k m sg cm sd mm dr dd bk rt : Nat} {num : Nat} {dg : Nat → Nat} {kf ff : Nat → Int32} {g ms dI : Nat → Int32} 
    (kk : ∀ (h : gH) (f : Nat → Int32), (∀ j, j < 16 + 48 → f j = spr (hmsg dg k num) 48 j) → Mc h cd s k m sg cm sd mm dr dd bk rt wt → h 146 = some (.inl (0, 20, .inl (fun k => nI (dg k)))) → h 160 = some (.inl (0, 64, .inl kf)) → h 161 = some (.inl (0, 8, .inl ff)) → h 162 = some (.inl (0, 64, .inl f)) → h 163 = some (.inl (0, 8, .inl g)) → h 164 = some (.inl (0, 64, .inl ms)) → h 165 = some (.inl (0, 32, .inl dI)) → g_fr [162, 163, 164, 165] h0 h → g_W G mX11_digestOf (g_rm (d + 2) 0 0) KK n ex h 0 0 391 [(4, .int (nI (16 + 48))), (0, .ref 142), (1, .int (nI num))] []) : ∀ (t i : Nat) (h : gH) (f : Nat → Int32), 48 - i < t → i ≤ 48 → (∀ j, j < 16 + i → f j = spr (hmsg dg k num) i j) → Mc h cd s k m sg cm sd mm dr dd bk rt wt → h 146 = some (.inl (0, 20, .inl (fun k => nI (dg k)))) → h 160 = some (.inl (0, 64, .inl kf)) → h 161 = some (.inl (0, 8, .inl ff)) → h 162 = some (.inl (0, 64, .inl f)) → h 163 = some (.inl (0, 8, .inl g)) → h 164 = some (.inl (0, 64, .inl ms)) → h 165 = some (.inl (0, 32, .inl dI)) → g_fr [162, 163, 164, 165] h0 h →
    g_W G mX11_digestOf (g_rm (d + 2) 0 0) KK n ex h 0 0 250 [(4, .int (nI (16 + i))), (0, .ref 142), (1, .int (nI num))] [] := by
  intro t
  induction t with
  | zero => intro i h f hm; exact absurd hm (by omega)
  | succ t ih =>
    intro i h f ht hi v0 m0 a6 e0 e1 e2 e3 e4 e5 hfr
    refine g_iload dX11_digestOf_250 rfl ?_
    refine g_bipush (v := nI 64) dX11_digestOf_252 (by decide) ?_
    refine g_icmp_geN (tgt := 391) dX11_digestOf_254 (by decide) (by omega) (by decide) (fun c254 => ?_) (fun c254 => ?_)
    · refine g_pick [0, 1, 2] (ls' := [(4, .int (nI (16 + i))), (0, .ref 142), (1, .int (nI num))]) rfl ?_
      have e : i = 48 := by omega
      subst e
      exact kk _ f v0 m0 a6 e0 e1 e2 e3 e4 e5 hfr
    · refine g_aload_n dX11_digestOf_257 rfl rfl ?_
      refine g_aload_n dX11_digestOf_258 rfl rfl ?_
      refine g_getf (v := .ref 162) dX11_digestOf_259 fX11_167 m0 rfl ?_
      refine g_iload dX11_digestOf_262 rfl ?_
      refine g_bipush (v := nI 15) dX11_digestOf_264 (by decide) ?_
      refine g_isubN dX11_digestOf_266 (by omega) ?_
      refine g_ialdN dX11_digestOf_267 e2 (by omega) (by decide) ?_
      refine g_top (show f ((16 + i) - 15) = spr (hmsg dg k num) i (i + 1) from (by rw [v0 _ (by omega)]; congr 1; omega)) ?_
      refine g_bipush (v := nI 7) dX11_digestOf_268 (by decide) ?_
      refine cVi (st := []) dX11_digestOf_270 (c_turned G (d + 1) n ex h (x := spr (hmsg dg k num) i (i + 1)) (b := 7) (i := 0) (by decide)) sX11_224 m0 rfl rfl (by simp only [g_rm]; omega) (by simp only [g_rm]; omega) (Nat.le_of_ble_eq_true rfl) ⟨Nat.le_of_ble_eq_true rfl, Nat.le_of_ble_eq_true rfl⟩ (fun r4 h1 fr2 p3 => ?_)
      cases g_fr0 fr2
      subst p3
      refine g_aload_n dX11_digestOf_273 rfl rfl ?_
      refine g_aload_n dX11_digestOf_274 rfl rfl ?_
      refine g_getf (v := .ref 162) dX11_digestOf_275 fX11_167 m0 rfl ?_
      refine g_iload dX11_digestOf_278 rfl ?_
      refine g_bipush (v := nI 15) dX11_digestOf_280 (by decide) ?_
      refine g_isubN dX11_digestOf_282 (by omega) ?_
      refine g_ialdN dX11_digestOf_283 e2 (by omega) (by decide) ?_
      refine g_top (show f ((16 + i) - 15) = spr (hmsg dg k num) i (i + 1) from (by rw [v0 _ (by omega)]; congr 1; omega)) ?_
      refine g_bipush (v := nI 18) dX11_digestOf_284 (by decide) ?_
      refine cVi (st := [.int (tn (spr (hmsg dg k num) i (i + 1)) 7)]) dX11_digestOf_286 (c_turned G (d + 1) n ex h (x := spr (hmsg dg k num) i (i + 1)) (b := 18) (i := 0) (by decide)) sX11_224 m0 rfl rfl (by simp only [g_rm]; omega) (by simp only [g_rm]; omega) (Nat.le_of_ble_eq_true rfl) ⟨Nat.le_of_ble_eq_true rfl, Nat.le_of_ble_eq_true rfl⟩ (fun r8 h5 fr6 p7 => ?_)
      cases g_fr0 fr6
      subst p7
      refine g_ixor dX11_digestOf_289 ?_
      refine g_aload_n dX11_digestOf_290 rfl rfl ?_
      refine g_getf (v := .ref 162) dX11_digestOf_291 fX11_167 m0 rfl ?_
      refine g_iload dX11_digestOf_294 rfl ?_
      refine g_bipush (v := nI 15) dX11_digestOf_296 (by decide) ?_
      refine g_isubN dX11_digestOf_298 (by omega) ?_
      refine g_ialdN dX11_digestOf_299 e2 (by omega) (by decide) ?_
      refine g_top (show f ((16 + i) - 15) = spr (hmsg dg k num) i (i + 1) from (by rw [v0 _ (by omega)]; congr 1; omega)) ?_
      refine g_iconst (v := nI 3) dX11_digestOf_300 (by decide) ?_
      refine g_iushr dX11_digestOf_301 ?_
      refine g_ixor dX11_digestOf_302 ?_
      refine g_istore (ls' := [(5, .int (((tn (spr (hmsg dg k num) i (i + 1)) 7) ^^^ (tn (spr (hmsg dg k num) i (i + 1)) 18)) ^^^ (((spr (hmsg dg k num) i (i + 1)).toUInt32 >>> ((nI 3).toUInt32 &&& Int32.toUInt32 31)).toInt32))), (4, .int (nI (16 + i))), (0, .ref 142), (1, .int (nI num))]) dX11_digestOf_303 (by decide) rfl ?_
      refine g_aload_n dX11_digestOf_305 rfl rfl ?_
      refine g_aload_n dX11_digestOf_306 rfl rfl ?_
      refine g_getf (v := .ref 162) dX11_digestOf_307 fX11_167 m0 rfl ?_
      refine g_iload dX11_digestOf_310 rfl ?_
      refine g_iconst (v := nI 2) dX11_digestOf_312 (by decide) ?_
      refine g_isubN dX11_digestOf_313 (by omega) ?_
      refine g_ialdN dX11_digestOf_314 e2 (by omega) (by decide) ?_
      refine g_top (show f ((16 + i) - 2) = spr (hmsg dg k num) i (i + 14) from (by rw [v0 _ (by omega)]; congr 1; omega)) ?_
      refine g_bipush (v := nI 17) dX11_digestOf_315 (by decide) ?_
      refine cVi (st := []) dX11_digestOf_317 (c_turned G (d + 1) n ex h (x := spr (hmsg dg k num) i (i + 14)) (b := 17) (i := 0) (by decide)) sX11_224 m0 rfl rfl (by simp only [g_rm]; omega) (by simp only [g_rm]; omega) (Nat.le_of_ble_eq_true rfl) ⟨Nat.le_of_ble_eq_true rfl, Nat.le_of_ble_eq_true rfl⟩ (fun r12 h9 fr10 p11 => ?_)
      cases g_fr0 fr10
      subst p11
      refine g_aload_n dX11_digestOf_320 rfl rfl ?_
      refine g_aload_n dX11_digestOf_321 rfl rfl ?_
      refine g_getf (v := .ref 162) dX11_digestOf_322 fX11_167 m0 rfl ?_
      refine g_iload dX11_digestOf_325 rfl ?_
      refine g_iconst (v := nI 2) dX11_digestOf_327 (by decide) ?_
      refine g_isubN dX11_digestOf_328 (by omega) ?_
      refine g_ialdN dX11_digestOf_329 e2 (by omega) (by decide) ?_
      refine g_top (show f ((16 + i) - 2) = spr (hmsg dg k num) i (i + 14) from (by rw [v0 _ (by omega)]; congr 1; omega)) ?_
      refine g_bipush (v := nI 19) dX11_digestOf_330 (by decide) ?_
      refine cVi (st := [.int (tn (spr (hmsg dg k num) i (i + 14)) 17)]) dX11_digestOf_332 (c_turned G (d + 1) n ex h (x := spr (hmsg dg k num) i (i + 14)) (b := 19) (i := 0) (by decide)) sX11_224 m0 rfl rfl (by simp only [g_rm]; omega) (by simp only [g_rm]; omega) (Nat.le_of_ble_eq_true rfl) ⟨Nat.le_of_ble_eq_true rfl, Nat.le_of_ble_eq_true rfl⟩ (fun r16 h13 fr14 p15 => ?_)
      cases g_fr0 fr14
      subst p15
      refine g_ixor dX11_digestOf_335 ?_
      refine g_aload_n dX11_digestOf_336 rfl rfl ?_
      refine g_getf (v := .ref 162) dX11_digestOf_337 fX11_167 m0 rfl ?_
      refine g_iload dX11_digestOf_340 rfl ?_
      refine g_iconst (v := nI 2) dX11_digestOf_342 (by decide) ?_
      refine g_isubN dX11_digestOf_343 (by omega) ?_
      refine g_ialdN dX11_digestOf_344 e2 (by omega) (by decide) ?_
      refine g_top (show f ((16 + i) - 2) = spr (hmsg dg k num) i (i + 14) from (by rw [v0 _ (by omega)]; congr 1; omega)) ?_
      refine g_bipush (v := nI 10) dX11_digestOf_345 (by decide) ?_
      refine g_iushr dX11_digestOf_347 ?_
      refine g_ixor dX11_digestOf_348 ?_
      refine g_istore (ls' := [(6, .int (((tn (spr (hmsg dg k num) i (i + 14)) 17) ^^^ (tn (spr (hmsg dg k num) i (i + 14)) 19)) ^^^ (((spr (hmsg dg k num) i (i + 14)).toUInt32 >>> ((nI 10).toUInt32 &&& Int32.toUInt32 31)).toInt32))), (5, .int (((tn (spr (hmsg dg k num) i (i + 1)) 7) ^^^ (tn (spr (hmsg dg k num) i (i + 1)) 18)) ^^^ (((spr (hmsg dg k num) i (i + 1)).toUInt32 >>> ((nI 3).toUInt32 &&& Int32.toUInt32 31)).toInt32))), (4, .int (nI (16 + i))), (0, .ref 142), (1, .int (nI num))]) dX11_digestOf_349 (by decide) rfl ?_
      refine g_aload_n dX11_digestOf_351 rfl rfl ?_
      refine g_getf (v := .ref 162) dX11_digestOf_352 fX11_167 m0 rfl ?_
      refine g_iload dX11_digestOf_355 rfl ?_
      refine g_aload_n dX11_digestOf_357 rfl rfl ?_
      refine g_getf (v := .ref 162) dX11_digestOf_358 fX11_167 m0 rfl ?_
      refine g_iload dX11_digestOf_361 rfl ?_
      refine g_bipush (v := nI 16) dX11_digestOf_363 (by decide) ?_
      refine g_isubN dX11_digestOf_365 (by omega) ?_
      refine g_ialdN dX11_digestOf_366 e2 (by omega) (by decide) ?_
      refine g_top (show f ((16 + i) - 16) = spr (hmsg dg k num) i i from (by rw [v0 _ (by omega)]; congr 1; omega)) ?_
      refine g_iload dX11_digestOf_367 rfl ?_
      refine g_iadd dX11_digestOf_369 ?_
      refine g_aload_n dX11_digestOf_370 rfl rfl ?_
      refine g_getf (v := .ref 162) dX11_digestOf_371 fX11_167 m0 rfl ?_
      refine g_iload dX11_digestOf_374 rfl ?_
      refine g_bipush (v := nI 7) dX11_digestOf_376 (by decide) ?_
      refine g_isubN dX11_digestOf_378 (by omega) ?_
      refine g_ialdN dX11_digestOf_379 e2 (by omega) (by decide) ?_
      refine g_top (show f ((16 + i) - 7) = spr (hmsg dg k num) i (i + 9) from (by rw [v0 _ (by omega)]; congr 1; omega)) ?_
      refine g_iadd dX11_digestOf_380 ?_
      refine g_iload dX11_digestOf_381 rfl ?_
      refine g_iadd dX11_digestOf_383 ?_
      refine g_iastN dX11_digestOf_384 e2 (by omega) (by decide) ?_
      refine g_iincN (z := 1) (ls' := [(4, .int (nI ((16 + i) + 1))), (6, .int (((tn (spr (hmsg dg k num) i (i + 14)) 17) ^^^ (tn (spr (hmsg dg k num) i (i + 14)) 19)) ^^^ (((spr (hmsg dg k num) i (i + 14)).toUInt32 >>> ((nI 10).toUInt32 &&& Int32.toUInt32 31)).toInt32))), (5, .int (((tn (spr (hmsg dg k num) i (i + 1)) 7) ^^^ (tn (spr (hmsg dg k num) i (i + 1)) 18)) ^^^ (((spr (hmsg dg k num) i (i + 1)).toUInt32 >>> ((nI 3).toUInt32 &&& Int32.toUInt32 31)).toInt32))), (0, .ref 142), (1, .int (nI num))]) dX11_digestOf_385 rfl (by decide) rfl ?_
      refine g_goto (tgt := 250) dX11_digestOf_388 (by decide) ?_
      refine g_pick [0, 3, 4] (ls' := [(4, .int (nI ((16 + i) + 1))), (0, .ref 142), (1, .int (nI num))]) rfl ?_
      exact ih (i + 1) _ _ (by omega) (by omega) (fun j hj => (by show upd f (16 + i) _ j = upd (spr (hmsg dg k num) i) (16 + i) _ j; unfold upd; by_cases q : j = 16 + i; (rw [if_pos q, if_pos q]; rfl); (rw [if_neg q, if_neg q]; exact v0 j (by omega)))) (g_ne (by decide) m0) (g_ne (by decide) a6) (g_ne (by decide) e0) (g_ne (by decide) e1) g_eq (g_ne (by decide) e3) (g_ne (by decide) e4) (g_ne (by decide) e5) (hfr.up (by simp))
set_option maxHeartbeats 4000000 in
set_option maxRecDepth 100000 in
theorem lp_dig6 (G : gG) (R : Room) (KK : gK) (n : Nat) (ex : Bool) (h0 : gH) {cd wt : Int32} {s : Nat → Nat} {k m sg cm sd mm dr dd bk rt : Nat} {num : Nat} {dg : Nat → Nat} {kf ff : Nat → Int32} {f ms dI : Nat → Int32} 
    (kk : ∀ (h : gH) (g : Nat → Int32), (∀ j, j < 8 → g j = ff j) → Mc h cd s k m sg cm sd mm dr dd bk rt wt → h 146 = some (.inl (0, 20, .inl (fun k => nI (dg k)))) → h 160 = some (.inl (0, 64, .inl kf)) → h 161 = some (.inl (0, 8, .inl ff)) → h 162 = some (.inl (0, 64, .inl f)) → h 163 = some (.inl (0, 8, .inl g)) → h 164 = some (.inl (0, 64, .inl ms)) → h 165 = some (.inl (0, 32, .inl dI)) → g_fr [162, 163, 164, 165] h0 h → g_W G mX11_digestOf R KK n ex h 0 0 421 [(4, .int (nI 8)), (0, .ref 142), (1, .int (nI num))] []) : ∀ (t i : Nat) (h : gH) (g : Nat → Int32), 8 - i < t → i ≤ 8 → (∀ j, j < i → g j = ff j) → Mc h cd s k m sg cm sd mm dr dd bk rt wt → h 146 = some (.inl (0, 20, .inl (fun k => nI (dg k)))) → h 160 = some (.inl (0, 64, .inl kf)) → h 161 = some (.inl (0, 8, .inl ff)) → h 162 = some (.inl (0, 64, .inl f)) → h 163 = some (.inl (0, 8, .inl g)) → h 164 = some (.inl (0, 64, .inl ms)) → h 165 = some (.inl (0, 32, .inl dI)) → g_fr [162, 163, 164, 165] h0 h →
    g_W G mX11_digestOf R KK n ex h 0 0 394 [(4, .int (nI i)), (0, .ref 142), (1, .int (nI num))] [] := by
  intro t
  induction t with
  | zero => intro i h g hm; exact absurd hm (by omega)
  | succ t ih =>
    intro i h g ht hi v0 m0 a6 e0 e1 e2 e3 e4 e5 hfr
    refine g_iload dX11_digestOf_394 rfl ?_
    refine g_bipush (v := nI 8) dX11_digestOf_396 (by decide) ?_
    refine g_icmp_geN (tgt := 421) dX11_digestOf_398 (by decide) (by omega) (by omega) (fun c398 => ?_) (fun c398 => ?_)
    · refine g_pick [0, 1, 2] (ls' := [(4, .int (nI i)), (0, .ref 142), (1, .int (nI num))]) rfl ?_
      have e : i = 8 := by omega
      subst e
      exact kk _ g v0 m0 a6 e0 e1 e2 e3 e4 e5 hfr
    · refine g_aload_n dX11_digestOf_401 rfl rfl ?_
      refine g_getf (v := .ref 163) dX11_digestOf_402 fX11_170 m0 rfl ?_
      refine g_iload dX11_digestOf_405 rfl ?_
      refine g_aload_n dX11_digestOf_407 rfl rfl ?_
      refine g_getf (v := .ref 161) dX11_digestOf_408 fX11_164 m0 rfl ?_
      refine g_iload dX11_digestOf_411 rfl ?_
      refine g_ialdN dX11_digestOf_413 e1 (by omega) (by decide) ?_
      refine g_iastN dX11_digestOf_414 e3 (by omega) (by decide) ?_
      refine g_iincN (z := 1) (ls' := [(4, .int (nI (i + 1))), (0, .ref 142), (1, .int (nI num))]) dX11_digestOf_415 rfl (by decide) rfl ?_
      refine g_goto (tgt := 394) dX11_digestOf_418 (by decide) ?_
      refine g_pick [0, 1, 2] (ls' := [(4, .int (nI (i + 1))), (0, .ref 142), (1, .int (nI num))]) rfl ?_
      exact ih (i + 1) _ _ (by omega) (by omega) (fun j hj => (by show upd g i _ j = _; unfold upd; by_cases q : j = i; (rw [if_pos q, q]); (rw [if_neg q]; exact v0 j (by omega)))) (g_ne (by decide) m0) (g_ne (by decide) a6) (g_ne (by decide) e0) (g_ne (by decide) e1) (g_ne (by decide) e2) g_eq (g_ne (by decide) e4) (g_ne (by decide) e5) (hfr.up (by simp))
theorem rnd_cg {g g' : Nat → Int32} {a b : Int32} (h : ∀ j, j < 8 → g j = g' j) : rnd g a b = rnd g' a b := by
  have h0 := h 0 (by decide); have h1 := h 1 (by decide); have h2 := h 2 (by decide); have h3 := h 3 (by decide); have h4 := h 4 (by decide); have h5 := h 5 (by decide); have h6 := h 6 (by decide); have h7 := h 7 (by decide)
  unfold rnd rt1 rt2
  rw [h0, h1, h2, h3, h4, h5, h6, h7]
set_option maxHeartbeats 4000000 in
set_option maxRecDepth 100000 in
theorem lp_dig7 (G : gG) (d : Nat) (KK : gK) (n : Nat) (ex : Bool) (h0 : gH) {cd wt : Int32} {s : Nat → Nat} {k m sg cm sd mm dr dd bk rt : Nat} {num : Nat} {dg : Nat → Nat} {kf ff : Nat → Int32} {f ms dI : Nat → Int32} (hkf : ∀ j, j < 64 → kf j = g_sha1.getD j 0) (hf : ∀ j, j < 64 → f j = spr (hmsg dg k num) 48 j)
    (kk : ∀ (h : gH) (g : Nat → Int32), (∀ j, j < 8 → g j = sf (hmsg dg k num) 64 j) → Mc h cd s k m sg cm sd mm dr dd bk rt wt → h 146 = some (.inl (0, 20, .inl (fun k => nI (dg k)))) → h 160 = some (.inl (0, 64, .inl kf)) → h 161 = some (.inl (0, 8, .inl ff)) → h 162 = some (.inl (0, 64, .inl f)) → h 163 = some (.inl (0, 8, .inl g)) → h 164 = some (.inl (0, 64, .inl ms)) → h 165 = some (.inl (0, 32, .inl dI)) → g_fr [162, 163, 164, 165] h0 h → g_W G mX11_digestOf (g_rm (d + 2) 0 0) KK n ex h 0 0 443 [(4, .int (nI 64)), (0, .ref 142), (1, .int (nI num))] []) : ∀ (t i : Nat) (h : gH) (g : Nat → Int32), 64 - i < t → i ≤ 64 → (∀ j, j < 8 → g j = sf (hmsg dg k num) i j) → Mc h cd s k m sg cm sd mm dr dd bk rt wt → h 146 = some (.inl (0, 20, .inl (fun k => nI (dg k)))) → h 160 = some (.inl (0, 64, .inl kf)) → h 161 = some (.inl (0, 8, .inl ff)) → h 162 = some (.inl (0, 64, .inl f)) → h 163 = some (.inl (0, 8, .inl g)) → h 164 = some (.inl (0, 64, .inl ms)) → h 165 = some (.inl (0, 32, .inl dI)) → g_fr [162, 163, 164, 165] h0 h →
    g_W G mX11_digestOf (g_rm (d + 2) 0 0) KK n ex h 0 0 424 [(4, .int (nI i)), (0, .ref 142), (1, .int (nI num))] [] := by
  intro t
  induction t with
  | zero => intro i h g hm; exact absurd hm (by omega)
  | succ t ih =>
    intro i h g ht hi v0 m0 a6 e0 e1 e2 e3 e4 e5 hfr
    refine g_iload dX11_digestOf_424 rfl ?_
    refine g_bipush (v := nI 64) dX11_digestOf_426 (by decide) ?_
    refine g_icmp_geN (tgt := 443) dX11_digestOf_428 (by decide) (by omega) (by omega) (fun c428 => ?_) (fun c428 => ?_)
    · refine g_pick [0, 1, 2] (ls' := [(4, .int (nI i)), (0, .ref 142), (1, .int (nI num))]) rfl ?_
      have e : i = 64 := by omega
      subst e
      exact kk _ g v0 m0 a6 e0 e1 e2 e3 e4 e5 hfr
    · refine g_aload_n dX11_digestOf_431 rfl rfl ?_
      refine g_iload dX11_digestOf_432 rfl ?_
      refine cVv (st := []) dX11_digestOf_434 (c_mround G d n ex h m0 e0 e2 e3 (i := i) (by omega)) sX11_227 m0 rfl rfl (by simp only [g_rm]; omega) (by simp only [g_rm]; omega) (Nat.le_of_ble_eq_true rfl) ⟨Nat.le_of_ble_eq_true rfl, Nat.le_of_ble_eq_true rfl⟩ (fun h1 fr2 p3 => ?_)
      obtain ⟨g', y1, y2⟩ := p3
      refine g_iincN (z := 1) (ls' := [(4, .int (nI (i + 1))), (0, .ref 142), (1, .int (nI num))]) dX11_digestOf_437 rfl (by decide) rfl ?_
      refine g_goto (tgt := 424) dX11_digestOf_440 (by decide) ?_
      refine g_pick [0, 1, 2] (ls' := [(4, .int (nI (i + 1))), (0, .ref 142), (1, .int (nI num))]) rfl ?_
      exact ih (i + 1) _ g' (by omega) (by omega) (fun j hj => by rw [y2 j hj]; show _ = rnd (sf (hmsg dg k num) i) (g_sha1.getD i 0) (spr (hmsg dg k num) 48 i) j; rw [hkf i (by omega), hf i (by omega), rnd_cg v0]) (fr2.at (by intro q; simp only [List.mem_cons, List.not_mem_nil, or_false] at q; omega) m0) (fr2.at (by intro q; simp only [List.mem_cons, List.not_mem_nil, or_false] at q; omega) a6) (fr2.at (by intro q; simp only [List.mem_cons, List.not_mem_nil, or_false] at q; omega) e0) (fr2.at (by intro q; simp only [List.mem_cons, List.not_mem_nil, or_false] at q; omega) e1) (fr2.at (by intro q; simp only [List.mem_cons, List.not_mem_nil, or_false] at q; omega) e2) y1 (fr2.at (by intro q; simp only [List.mem_cons, List.not_mem_nil, or_false] at q; omega) e4) (fr2.at (by intro q; simp only [List.mem_cons, List.not_mem_nil, or_false] at q; omega) e5) ((hfr).tr fr2 (by simp))
theorem byte_s (x : Int32) {i : Nat} (hi : i < 25) : ((x >>> (nI i &&& 31)) &&& nI 255) = nI (un x / 2 ^ i % 256) := by
  rw [← byte_nI x (show i < 32 by omega)]
  refine b_ext (fun j hj => ?_)
  rw [b_and, b_and, b_sshr i (by omega) _ hj, b_ushr i (by omega)]
  by_cases q : j < 8
  · rw [if_pos (by omega)]
  · have h1 : bt (nI 255) j = false := by rw [show bt (nI 255) j = bt 255 j from rfl, b_255, decide_eq_false q]
    rw [h1, Bool.and_false, Bool.and_false]
set_option maxHeartbeats 4000000 in
set_option maxRecDepth 100000 in
theorem lp_dig8 (G : gG) (R : Room) (KK : gK) (n : Nat) (ex : Bool) (h0 : gH) {cd wt : Int32} {s : Nat → Nat} {k m sg cm sd mm dr dd bk rt : Nat} {num : Nat} {dg : Nat → Nat} {kf ff : Nat → Int32} {f g ms : Nat → Int32} (hff : ∀ j, j < 8 → ff j = g_sha0.getD j 0) (hg : ∀ j, j < 8 → g j = sf (hmsg dg k num) 64 j)
    (kk : ∀ (h : gH) (dI : Nat → Int32), (∀ j, j < 32 → dI j = nI (bh (shaO dg k num) j)) → Mc h cd s k m sg cm sd mm dr dd bk rt wt → h 146 = some (.inl (0, 20, .inl (fun k => nI (dg k)))) → h 160 = some (.inl (0, 64, .inl kf)) → h 161 = some (.inl (0, 8, .inl ff)) → h 162 = some (.inl (0, 64, .inl f)) → h 163 = some (.inl (0, 8, .inl g)) → h 164 = some (.inl (0, 64, .inl ms)) → h 165 = some (.inl (0, 32, .inl dI)) → g_fr [162, 163, 164, 165] h0 h → g_W G mX11_digestOf R KK n ex h 0 0 500 [(4, .int (nI 32)), (0, .ref 142), (1, .int (nI num))] []) : ∀ (t i : Nat) (h : gH) (dI : Nat → Int32), 32 - i < t → i ≤ 32 → (∀ j, j < i → dI j = nI (bh (shaO dg k num) j)) → Mc h cd s k m sg cm sd mm dr dd bk rt wt → h 146 = some (.inl (0, 20, .inl (fun k => nI (dg k)))) → h 160 = some (.inl (0, 64, .inl kf)) → h 161 = some (.inl (0, 8, .inl ff)) → h 162 = some (.inl (0, 64, .inl f)) → h 163 = some (.inl (0, 8, .inl g)) → h 164 = some (.inl (0, 64, .inl ms)) → h 165 = some (.inl (0, 32, .inl dI)) → g_fr [162, 163, 164, 165] h0 h →
    g_W G mX11_digestOf R KK n ex h 0 0 446 [(4, .int (nI i)), (0, .ref 142), (1, .int (nI num))] [] := by
  intro t
  induction t with
  | zero => intro i h dI hm; exact absurd hm (by omega)
  | succ t ih =>
    intro i h dI ht hi v0 m0 a6 e0 e1 e2 e3 e4 e5 hfr
    refine g_iload dX11_digestOf_446 rfl ?_
    refine g_bipush (v := nI 32) dX11_digestOf_448 (by decide) ?_
    refine g_icmp_geN (tgt := 500) dX11_digestOf_450 (by decide) (by omega) (by omega) (fun c450 => ?_) (fun c450 => ?_)
    · refine g_pick [0, 1, 2] (ls' := [(4, .int (nI i)), (0, .ref 142), (1, .int (nI num))]) rfl ?_
      have e : i = 32 := by omega
      subst e
      exact kk _ dI v0 m0 a6 e0 e1 e2 e3 e4 e5 hfr
    · refine g_aload_n dX11_digestOf_453 rfl rfl ?_
      refine g_getf (v := .ref 165) dX11_digestOf_454 fX11_176 m0 rfl ?_
      refine g_iload dX11_digestOf_457 rfl ?_
      refine g_aload_n dX11_digestOf_459 rfl rfl ?_
      refine g_getf (v := .ref 163) dX11_digestOf_460 fX11_170 m0 rfl ?_
      refine g_iload dX11_digestOf_463 rfl ?_
      refine g_iconst (v := nI 4) dX11_digestOf_465 (by decide) ?_
      refine g_idivN dX11_digestOf_466 (by omega) (by omega) (by omega) ?_
      refine g_ialdN dX11_digestOf_467 e3 (by omega) (by decide) ?_
      refine g_aload_n dX11_digestOf_468 rfl rfl ?_
      refine g_getf (v := .ref 161) dX11_digestOf_469 fX11_164 m0 rfl ?_
      refine g_iload dX11_digestOf_472 rfl ?_
      refine g_iconst (v := nI 4) dX11_digestOf_474 (by decide) ?_
      refine g_idivN dX11_digestOf_475 (by omega) (by omega) (by omega) ?_
      refine g_ialdN dX11_digestOf_476 e1 (by omega) (by decide) ?_
      refine g_iadd dX11_digestOf_477 ?_
      refine g_bipush (v := nI 24) dX11_digestOf_478 (by decide) ?_
      refine g_bipush (v := nI 8) dX11_digestOf_480 (by decide) ?_
      refine g_iload dX11_digestOf_482 rfl ?_
      refine g_iconst (v := nI 4) dX11_digestOf_484 (by decide) ?_
      refine g_iremN dX11_digestOf_485 (by omega) (by omega) (by omega) ?_
      refine g_imulN dX11_digestOf_486 ?_
      refine g_isubN dX11_digestOf_487 (by omega) ?_
      refine g_ishr dX11_digestOf_488 ?_
      refine g_sipush (v := nI 255) dX11_digestOf_489 (by decide) ?_
      refine g_iand dX11_digestOf_492 ?_
      refine g_top (show (((g (i / 4)) + (ff (i / 4))) >>> ((nI (24 - (8 * (i % 4)))) &&& 31)) &&& (nI 255) = nI (un (g (i / 4) + ff (i / 4)) / 2 ^ (24 - 8 * (i % 4)) % 256) from byte_s _ (by omega)) ?_
      refine g_iastN dX11_digestOf_493 e5 (by omega) (by decide) ?_
      refine g_iincN (z := 1) (ls' := [(4, .int (nI (i + 1))), (0, .ref 142), (1, .int (nI num))]) dX11_digestOf_494 rfl (by decide) rfl ?_
      refine g_goto (tgt := 446) dX11_digestOf_497 (by decide) ?_
      refine g_pick [0, 1, 2] (ls' := [(4, .int (nI (i + 1))), (0, .ref 142), (1, .int (nI num))]) rfl ?_
      refine ih (i + 1) _ _ (by omega) (by omega) (fun j hj => ?_) (g_ne (by decide) m0) (g_ne (by decide) a6) (g_ne (by decide) e0) (g_ne (by decide) e1) (g_ne (by decide) e2) (g_ne (by decide) e3) (g_ne (by decide) e4) g_eq (hfr.up (by simp))
      show upd dI i _ j = _
      unfold upd
      by_cases q : j = i
      · rw [if_pos q, q]
        unfold bh shaO
        rw [hg _ (by omega), hff _ (by omega), Int32.add_comm]
      · rw [if_neg q]; exact v0 j (by omega)
set_option maxHeartbeats 4000000 in
set_option maxRecDepth 100000 in
theorem c_digestOf (G : gG) (d n : Nat) (ex : Bool) (h : gH) {cd wt : Int32} {s : Nat → Nat} {k m sg cm sd mm dr dd bk rt : Nat} {num : Nat} {dg : Nat → Nat} {kf ff : Nat → Int32} {f g ms dI : Nat → Int32} (hk : k ≤ 20) (hn1 : num < 2147483648) (hkf : ∀ j, j < 64 → kf j = g_sha1.getD j 0) (hff : ∀ j, j < 8 → ff j = g_sha0.getD j 0) (m0 : Mc h cd s k m sg cm sd mm dr dd bk rt wt) (a6 : h 146 = some (.inl (0, 20, .inl (fun k => nI (dg k))))) (e0 : h 160 = some (.inl (0, 64, .inl kf))) (e1 : h 161 = some (.inl (0, 8, .inl ff))) (e2 : h 162 = some (.inl (0, 64, .inl f))) (e3 : h 163 = some (.inl (0, 8, .inl g))) (e4 : h 164 = some (.inl (0, 64, .inl ms))) (e5 : h 165 = some (.inl (0, 32, .inl dI))) : g_M G mX11_digestOf (d + 2) 0 0 [.ref 142, .int (nI num)] n ex h (q_v n ex [162, 163, 164, 165] h (fun h' => (∃ f g ms, h' 162 = some (.inl (0, 64, .inl f)) ∧ h' 163 = some (.inl (0, 8, .inl g)) ∧ h' 164 = some (.inl (0, 64, .inl ms))) ∧ ∃ dI, h' 165 = some (.inl (0, 32, .inl dI)) ∧ ∀ i, i < 32 → dI i = nI (bh (shaO dg k num) i))) := by
  refine g_enter (by decide) (Nat.le_of_ble_eq_true rfl) ?_
  show g_W G _ _ _ n ex h 0 0 0 [(0, .ref 142), (1, .int (nI num))] []
  refine g_iconst (v := nI 0) dX11_digestOf_0 (by decide) ?_
  refine g_istore_n (ls' := [(2, .int (nI 0)), (0, .ref 142), (1, .int (nI num))]) dX11_digestOf_1 rfl (by decide) rfl ?_
  refine g_iconst (v := nI 0) dX11_digestOf_2 (by decide) ?_
  refine g_istore_n (ls' := [(3, .int (nI 0)), (2, .int (nI 0)), (0, .ref 142), (1, .int (nI num))]) dX11_digestOf_3 rfl (by decide) rfl ?_
  refine g_pick [0, 1, 2, 3] (ls' := [(3, .int (nI 0)), (2, .int (nI 0)), (0, .ref 142), (1, .int (nI num))]) rfl ?_
  refine lp_dig1 G _ _ n ex h  (fun h1 ms1 v01 m01 a61 e01 e11 e21 e31 e41 e51 hfr1 => ?_) 65 0 _ _ (by omega) (by omega) (fun j hj => absurd hj (by omega)) m0 a6 e0 e1 e2 e3 e4 e5 (g_fr.rf)
  refine g_iconst (v := nI 0) dX11_digestOf_23 (by decide) ?_
  refine g_istore_n (ls' := [(3, .int (nI 0)), (2, .int (nI 0)), (0, .ref 142), (1, .int (nI num))]) dX11_digestOf_24 rfl (by decide) rfl ?_
  refine g_pick [0, 1, 2, 3] (ls' := [(3, .int (nI 0)), (2, .int (nI 0)), (0, .ref 142), (1, .int (nI num))]) rfl ?_
  refine lp_dig2 G _ _ n ex h hk (fun h2 ms2 v02 m02 a62 e02 e12 e22 e32 e42 e52 hfr2 => ?_) (k + 1) 0 _ _ (by omega) (by omega) (fun j hj => (v01 j hj).trans (by unfold dM; rw [if_neg (by omega)])) m01 a61 e01 e11 e21 e31 e41 e51 (hfr1)
  refine g_aload_n dX11_digestOf_57 rfl rfl ?_
  refine g_getf (v := .ref 164) dX11_digestOf_58 fX11_173 m02 rfl ?_
  refine g_iload_n dX11_digestOf_61 rfl rfl ?_
  refine g_bipush (v := nI 44) dX11_digestOf_62 (by decide) ?_
  refine g_iastN dX11_digestOf_64 e42 (by omega) (by decide) ?_
  refine g_iincN (z := 1) (ls' := [(2, .int (nI (k + 1))), (3, .int (nI k)), (0, .ref 142), (1, .int (nI num))]) dX11_digestOf_65 rfl (by decide) rfl ?_
  refine g_iconst (v := nI 0) dX11_digestOf_68 (by decide) ?_
  refine g_istore_n (ls' := [(3, .int (nI 0)), (2, .int (nI (k + 1))), (0, .ref 142), (1, .int (nI num))]) dX11_digestOf_69 rfl (by decide) rfl ?_
  refine g_ldc dX11_digestOf_70 kX11_223 rfl ?_
  refine g_top (show (1000000000 : Int32) = nI 1000000000 by decide) ?_
  refine g_istore (ls' := [(4, .int (nI 1000000000)), (3, .int (nI 0)), (2, .int (nI (k + 1))), (0, .ref 142), (1, .int (nI num))]) dX11_digestOf_72 (by decide) rfl ?_
  refine g_pick [0, 1, 2, 3, 4] (ls' := [(4, .int (nI 1000000000)), (3, .int (nI 0)), (2, .int (nI (k + 1))), (0, .ref 142), (1, .int (nI num))]) rfl ?_
  refine lp_dig3 G _ _ n ex h hk hn1 (fun h3 b3 ms3 v03 m03 a63 e03 e13 e23 e33 e43 e53 hfr3 => ?_) 11 0 0 _ _ (by omega) (by omega) ⟨by decide, ⟨fun z => absurd z (by decide), fun z => absurd z.1 (by decide)⟩⟩ (up_pt v02) (g_ne (by decide) m02) (g_ne (by decide) a62) (g_ne (by decide) e02) (g_ne (by decide) e12) (g_ne (by decide) e22) (g_ne (by decide) e32) g_eq (g_ne (by decide) e52) (hfr2.up (by simp))
  have hnl := nd_le dg k num 10
  refine g_aload_n dX11_digestOf_131 rfl rfl ?_
  refine g_getf (v := .ref 164) dX11_digestOf_132 fX11_173 m03 rfl ?_
  refine g_iload_n dX11_digestOf_135 rfl rfl ?_
  refine g_sipush (v := nI 128) dX11_digestOf_136 (by decide) ?_
  refine g_iastN dX11_digestOf_139 e43 (by omega) (by decide) ?_
  refine g_aload_n dX11_digestOf_140 rfl rfl ?_
  refine g_getf (v := .ref 164) dX11_digestOf_141 fX11_173 (g_ne (by decide) m03) rfl ?_
  refine g_bipush (v := nI 62) dX11_digestOf_144 (by decide) ?_
  refine g_bipush (v := nI 8) dX11_digestOf_146 (by decide) ?_
  refine g_iload_n dX11_digestOf_148 rfl rfl ?_
  refine g_imulN dX11_digestOf_149 ?_
  refine g_bipush (v := nI 8) dX11_digestOf_150 (by decide) ?_
  refine g_ishr dX11_digestOf_152 ?_
  refine g_top (show (nI (8 * ((nd dg k num 10).1))) >>> ((nI 8) &&& 31) = nI 0 from by rw [shr_nI (by omega) (by decide)]; congr 1; omega) ?_
  refine g_iastN dX11_digestOf_153 g_eq (by omega) (by decide) ?_
  refine g_aload_n dX11_digestOf_154 rfl rfl ?_
  refine g_getf (v := .ref 164) dX11_digestOf_155 fX11_173 (g_ne (by decide) (g_ne (by decide) m03)) rfl ?_
  refine g_bipush (v := nI 63) dX11_digestOf_158 (by decide) ?_
  refine g_bipush (v := nI 8) dX11_digestOf_160 (by decide) ?_
  refine g_iload_n dX11_digestOf_162 rfl rfl ?_
  refine g_imulN dX11_digestOf_163 ?_
  refine g_sipush (v := nI 255) dX11_digestOf_164 (by decide) ?_
  refine g_iand dX11_digestOf_167 ?_
  refine g_top (show (nI (8 * ((nd dg k num 10).1))) &&& (nI 255) = nI (8 * (nd dg k num 10).1) from by rw [nx_and]; congr 1; exact (Nat.and_two_pow_sub_one_eq_mod _ 8).trans (by omega)) ?_
  refine g_iastN dX11_digestOf_168 g_eq (by omega) (by decide) ?_
  refine g_iconst (v := nI 0) dX11_digestOf_169 (by decide) ?_
  refine g_istore (ls' := [(4, .int (nI 0)), (3, .int (nI b3)), (2, .int (nI ((nd dg k num 10).1))), (0, .ref 142), (1, .int (nI num))]) dX11_digestOf_170 (by decide) rfl ?_
  refine g_pick [0, 3, 4] (ls' := [(4, .int (nI 0)), (0, .ref 142), (1, .int (nI num))]) rfl ?_
  refine lp_dig4 G _ _ n ex h hk (up_pt (up_pt (up_pt v03))) (fun h4 f4 v04 m04 a64 e04 e14 e24 e34 e44 e54 hfr4 => ?_) 17 0 _ _ (by omega) (by omega) (fun j hj => absurd hj (by omega)) (g_ne (by decide) (g_ne (by decide) (g_ne (by decide) m03))) (g_ne (by decide) (g_ne (by decide) (g_ne (by decide) a63))) (g_ne (by decide) (g_ne (by decide) (g_ne (by decide) e03))) (g_ne (by decide) (g_ne (by decide) (g_ne (by decide) e13))) (g_ne (by decide) (g_ne (by decide) (g_ne (by decide) e23))) (g_ne (by decide) (g_ne (by decide) (g_ne (by decide) e33))) g_eq (g_ne (by decide) (g_ne (by decide) (g_ne (by decide) e53))) (((hfr3.up (by simp)).up (by simp)).up (by simp))
  refine g_bipush (v := nI 16) dX11_digestOf_246 (by decide) ?_
  refine g_istore (ls' := [(4, .int (nI 16)), (0, .ref 142), (1, .int (nI num))]) dX11_digestOf_248 (by decide) rfl ?_
  refine g_pick [0, 1, 2] (ls' := [(4, .int (nI 16)), (0, .ref 142), (1, .int (nI num))]) rfl ?_
  refine lp_dig5 G d _ n ex h  (fun h5 f5 v05 m05 a65 e05 e15 e25 e35 e45 e55 hfr5 => ?_) 49 0 _ _ (by omega) (by omega) (fun j hj => v04 j hj) m04 a64 e04 e14 e24 e34 e44 e54 (hfr4)
  refine g_iconst (v := nI 0) dX11_digestOf_391 (by decide) ?_
  refine g_istore (ls' := [(4, .int (nI 0)), (0, .ref 142), (1, .int (nI num))]) dX11_digestOf_392 (by decide) rfl ?_
  refine g_pick [0, 1, 2] (ls' := [(4, .int (nI 0)), (0, .ref 142), (1, .int (nI num))]) rfl ?_
  refine lp_dig6 G _ _ n ex h  (fun h6 g6 v06 m06 a66 e06 e16 e26 e36 e46 e56 hfr6 => ?_) 9 0 _ _ (by omega) (by omega) (fun j hj => absurd hj (by omega)) m05 a65 e05 e15 e25 e35 e45 e55 (hfr5)
  refine g_iconst (v := nI 0) dX11_digestOf_421 (by decide) ?_
  refine g_istore (ls' := [(4, .int (nI 0)), (0, .ref 142), (1, .int (nI num))]) dX11_digestOf_422 (by decide) rfl ?_
  refine g_pick [0, 1, 2] (ls' := [(4, .int (nI 0)), (0, .ref 142), (1, .int (nI num))]) rfl ?_
  refine lp_dig7 G d _ n ex h hkf v05 (fun h7 g7 v07 m07 a67 e07 e17 e27 e37 e47 e57 hfr7 => ?_) 65 0 _ _ (by omega) (by omega) (fun j hj => by rw [v06 j hj, hff j hj]; rfl) m06 a66 e06 e16 e26 e36 e46 e56 (hfr6)
  refine g_iconst (v := nI 0) dX11_digestOf_443 (by decide) ?_
  refine g_istore (ls' := [(4, .int (nI 0)), (0, .ref 142), (1, .int (nI num))]) dX11_digestOf_444 (by decide) rfl ?_
  refine g_pick [0, 1, 2] (ls' := [(4, .int (nI 0)), (0, .ref 142), (1, .int (nI num))]) rfl ?_
  refine lp_dig8 G _ _ n ex h hff v07 (fun h8 dI8 v08 m08 a68 e08 e18 e28 e38 e48 e58 hfr8 => ?_) 33 0 _ _ (by omega) (by omega) (fun j hj => absurd hj (by omega)) m07 a67 e07 e17 e27 e37 e47 e57 (hfr7)
  exact e_v dX11_digestOf_500 rfl (hfr8) ⟨⟨_, _, _, e28, e38, e48⟩, _, e58, v08⟩ (by decide) (by decide)
