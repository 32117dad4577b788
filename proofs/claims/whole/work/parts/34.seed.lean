theorem sm_shr : ∀ p, p < 64 → nI p >>> (nI 2 &&& 31) = nI (p / 4) := by decide +kernel
theorem sm_and : ∀ p, p < 64 → nI p &&& nI 3 = nI (p % 4) := by decide +kernel
/-- a turn to the right -/
def tn (x : Int32) (k : Nat) : Int32 := (x.toUInt32 >>> ((nI k).toUInt32 &&& Int32.toUInt32 31)).toInt32 ||| x <<< (nI (32 - k) &&& 31)
def sg0 (x : Int32) : Int32 := (tn x 7 ^^^ tn x 18) ^^^ (x.toUInt32 >>> ((nI 3).toUInt32 &&& Int32.toUInt32 31)).toInt32
def sg1 (x : Int32) : Int32 := (tn x 17 ^^^ tn x 19) ^^^ (x.toUInt32 >>> ((nI 10).toUInt32 &&& Int32.toUInt32 31)).toInt32
/-- the words, spread -/
def spr (g : Nat → Int32) : Nat → Nat → Int32
  | 0 => g
  | j + 1 => upd (spr g j) (16 + j) (((spr g j j + sg0 (spr g j (j + 1))) + spr g j (j + 9)) + sg1 (spr g j (j + 14)))
def rt1 (s : Nat → Int32) (k w : Int32) : Int32 := (((s 7 + ((tn (s 4) 6 ^^^ tn (s 4) 11) ^^^ tn (s 4) 25)) + ((s 4 &&& s 5) ^^^ ((s 4 ^^^ (-1)) &&& s 6))) + k) + w
def rt2 (s : Nat → Int32) : Int32 := ((tn (s 0) 2 ^^^ tn (s 0) 13) ^^^ tn (s 0) 22) + (((s 0 &&& s 1) ^^^ (s 0 &&& s 2)) ^^^ (s 1 &&& s 2))
/-- a round -/
def rnd (s : Nat → Int32) (k w : Int32) : Nat → Int32 := fun j => match j with
  | 0 => rt1 s k w + rt2 s
  | 1 => s 0
  | 2 => s 1
  | 3 => s 2
  | 4 => s 3 + rt1 s k w
  | 5 => s 4
  | 6 => s 5
  | _ => s 6
def sf (g : Nat → Int32) : Nat → Nat → Int32
  | 0 => fun i => g_sha0.getD i 0
  | i + 1 => rnd (sf g i) (g_sha1.getD i 0) (spr g 48 i)
/-- four bytes of a message in a word -/
def pk4 (a b c d : Int32) : Int32 := ((a <<< (nI 24 &&& 31) ||| b <<< (nI 16 &&& 31)) ||| c <<< (nI 8 &&& 31)) ||| d
def pk_ (m : Nat → Nat) (i : Nat) : Int32 := pk4 (nI (m (4 * i))) (nI (m (4 * i + 1))) (nI (m (4 * i + 2))) (nI (m (4 * i + 3)))
theorem pk4_0 (v b c d : Int32) : pk4 (nI 0) b c d ||| v <<< (nI 24 &&& 31) = pk4 v b c d := by
  unfold pk4
  refine b_ext (fun i hi => ?_)
  simp only [b_or, b_shl 24 (by decide) _ hi, b_shl 16 (by decide) _ hi, b_shl 8 (by decide) _ hi, show nI 0 = 0 from rfl, b_0]
  cases bt d i <;> cases (decide (8 ≤ i) && bt c (i - 8)) <;> cases (decide (16 ≤ i) && bt b (i - 16)) <;> cases (decide (24 ≤ i)) <;> cases bt v (i - 24) <;> rfl
theorem pk4_1 (a v c d : Int32) : pk4 a (nI 0) c d ||| v <<< (nI 16 &&& 31) = pk4 a v c d := by
  unfold pk4
  refine b_ext (fun i hi => ?_)
  simp only [b_or, b_shl 24 (by decide) _ hi, b_shl 16 (by decide) _ hi, b_shl 8 (by decide) _ hi, show nI 0 = 0 from rfl, b_0]
  cases bt d i <;> cases (decide (8 ≤ i) && bt c (i - 8)) <;> cases (decide (24 ≤ i) && bt a (i - 24)) <;> cases (decide (16 ≤ i)) <;> cases bt v (i - 16) <;> rfl
theorem pk4_2 (a b v d : Int32) : pk4 a b (nI 0) d ||| v <<< (nI 8 &&& 31) = pk4 a b v d := by
  unfold pk4
  refine b_ext (fun i hi => ?_)
  simp only [b_or, b_shl 24 (by decide) _ hi, b_shl 16 (by decide) _ hi, b_shl 8 (by decide) _ hi, show nI 0 = 0 from rfl, b_0]
  cases bt d i <;> cases (decide (16 ≤ i) && bt b (i - 16)) <;> cases (decide (24 ≤ i) && bt a (i - 24)) <;> cases (decide (8 ≤ i)) <;> cases bt v (i - 8) <;> rfl
theorem pk4_3 (a b c v : Int32) : pk4 a b c (nI 0) ||| v <<< (nI 0 &&& 31) = pk4 a b c v := by
  refine b_ext (fun i hi => ?_)
  rw [b_or, b_shl 0 (by decide) v hi, Nat.sub_zero, show decide (0 ≤ i) = true from decide_eq_true (Nat.zero_le i), Bool.true_and]
  unfold pk4
  simp only [b_or, b_shl 24 (by decide) _ hi, b_shl 16 (by decide) _ hi, b_shl 8 (by decide) _ hi, show nI 0 = 0 from rfl, b_0]
  cases bt v i <;> cases (decide (16 ≤ i) && bt b (i - 16)) <;> cases (decide (24 ≤ i) && bt a (i - 24)) <;> cases (decide (8 ≤ i) && bt c (i - 8)) <;> rfl
theorem pk_put {m : Nat → Nat} {f : Nat → Int32} {p v : Nat} (hp : p < 64) (h0 : m p = 0) (hf : ∀ i, i < 16 → f i = pk_ m i) : ∀ i, i < 16 → upd f (p / 4) (f (p / 4) ||| nI v <<< (nI (24 - 8 * (p % 4)) &&& 31)) i = pk_ (va_up m p v) i := by
  intro i hi
  unfold upd
  by_cases q : i = p / 4
  · subst q
    rw [if_pos rfl, hf _ hi]
    unfold pk_
    have hr : p % 4 < 4 := Nat.mod_lt _ (by decide)
    have hd : 4 * (p / 4) + p % 4 = p := Nat.div_add_mod p 4
    rcases (by omega : p % 4 = 0 ∨ p % 4 = 1 ∨ p % 4 = 2 ∨ p % 4 = 3) with e | e | e | e
    · rw [e, show 4 * (p / 4) = p by omega, h0, va_s, va_n (by omega), va_n (by omega), va_n (by omega)]
      exact pk4_0 _ _ _ _
    · rw [e, show 4 * (p / 4) + 1 = p by omega, h0, va_s, va_n (by omega), va_n (by omega), va_n (by omega)]
      exact pk4_1 _ _ _ _
    · rw [e, show 4 * (p / 4) + 2 = p by omega, h0, va_s, va_n (by omega), va_n (by omega), va_n (by omega)]
      exact pk4_2 _ _ _ _
    · rw [e, show 4 * (p / 4) + 3 = p by omega, h0, va_s, va_n (by omega), va_n (by omega), va_n (by omega)]
      exact pk4_3 _ _ _ _
  · rw [if_neg q, hf i hi]
    unfold pk_
    rw [va_n (by omega), va_n (by omega), va_n (by omega), va_n (by omega)]
/-- the seed's digits as a message -/
def dM (dg : Nat → Nat) (i : Nat) : Nat → Nat := fun j => if j < i then 48 + dg j else 0
theorem dM_s (dg : Nat → Nat) (i : Nat) : va_up (dM dg i) i (48 + dg i) = dM dg (i + 1) := by
  funext j
  unfold va_up dM
  by_cases q : j = i
  · subst q; rw [if_pos rfl, if_pos (Nat.lt_succ_self j)]
  · rw [if_neg q]
    by_cases z : j < i
    · rw [if_pos z, if_pos (by omega)]
    · rw [if_neg z, if_neg (by omega)]
def ut (j : Nat) : Nat := 1000000000 / 10 ^ j
theorem ut_s (j : Nat) : ut j / 10 = ut (j + 1) := by unfold ut; rw [Nat.div_div_eq_div_mul, Nat.pow_succ]
theorem ut_le (j : Nat) : ut j ≤ 1000000000 := Nat.div_le_self _ _
theorem ut_pos {j : Nat} (h : j < 10) : 0 < ut j := Nat.div_pos (Nat.le_trans (Nat.pow_le_pow_right (by decide) (show j ≤ 9 by omega)) (by decide)) (Nat.pow_pos (by decide))
theorem ut_10 : ut 10 = 0 := by decide
/-- the number's digits behind a comma: where the message ends, and the message -/
def nd (dg : Nat → Nat) (k num : Nat) : Nat → Nat × (Nat → Nat)
  | 0 => (k + 1, va_up (dM dg k) k 44)
  | j + 1 => if num < ut j then nd dg k num j else ((nd dg k num j).1 + 1, va_up (nd dg k num j).2 (nd dg k num j).1 (48 + num / ut j % 10))
theorem nd_le (dg : Nat → Nat) (k num j : Nat) : (nd dg k num j).1 ≤ k + 1 + j := by
  induction j with
  | zero => exact Nat.le_refl _
  | succ j ih =>
    show (if num < ut j then nd dg k num j else _).1 ≤ _
    split
    · omega
    · show (nd dg k num j).1 + 1 ≤ _; omega
theorem nd_0 (dg : Nat → Nat) (k num j : Nat) : ∀ i, (nd dg k num j).1 ≤ i → (nd dg k num j).2 i = 0 := by
  induction j with
  | zero =>
    intro i hi
    show va_up (dM dg k) k 44 i = 0
    have : k + 1 ≤ i := hi
    rw [va_n (by omega)]
    exact if_neg (by omega)
  | succ j ih =>
    intro i
    show (if num < ut j then nd dg k num j else _).1 ≤ i → (if num < ut j then nd dg k num j else _).2 i = 0
    split
    · exact ih i
    · intro hi
      have hi' : (nd dg k num j).1 + 1 ≤ i := hi
      show va_up _ _ _ i = 0
      rw [va_n (by omega)]
      exact ih i (by omega)
/-- the first 16 words of the message -/
def hmsg (dg : Nat → Nat) (k num : Nat) : Nat → Int32 := fun i => if i = 15 then nI (8 * (nd dg k num 10).1) else pk_ (va_up (nd dg k num 10).2 (nd dg k num 10).1 128) i
/-- the digest, word by word -/
def shaO (dg : Nat → Nat) (k num : Nat) (i : Nat) : Int32 := g_sha0.getD i 0 + sf (hmsg dg k num) 64 i
def Sd (h : gH) (dg : Nat → Nat) (k : Nat) : Prop := h 8 = some (.inr (6, [.ref 9, .ref 10, .ref 11, .int (nI k)])) ∧ h 9 = some (.inl (0, 20, .inl (fun i => nI (dg i)))) ∧ (∃ f, h 10 = some (.inl (0, 64, .inl f))) ∧ ∃ g, h 11 = some (.inl (0, 8, .inl g))
theorem Sd.fr {h h' : gH} {S : List Nat} {dg : Nat → Nat} {k : Nat} (z : Sd h dg k) (hf : g_fr S h h') (hS : ∀ i ∈ S, i < 8 ∨ 11 < i) : Sd h' dg k := by
  obtain ⟨h1, h2, ⟨f, h3⟩, g, h4⟩ := z
  exact ⟨hf.at (fun q => by have := hS _ q; omega) h1, hf.at (fun q => by have := hS _ q; omega) h2, ⟨f, hf.at (fun q => by have := hS _ q; omega) h3⟩, g, hf.at (fun q => by have := hS _ q; omega) h4⟩
set_option maxHeartbeats 4000000 in
set_option maxRecDepth 100000 in
theorem c_addDigit (G : gG) (d n : Nat) (ex : Bool) (h : gH) {dg : Nat → Nat} {k x : Nat} (hS : Sd h dg k) (hk : k < 20) : g_M G mX6_addDigit d 0 0 [.ref 8, .int (nI x)] n ex h (q_i n ex [8, 9] h (fun r h' => r = nI (k + 1) ∧ Sd h' (va_up dg k x) (k + 1))) := by
  obtain ⟨s1, s2, ⟨f, s3⟩, g, s4⟩ := hS
  refine g_enter (by decide) (Nat.le_of_ble_eq_true rfl) ?_
  show g_W G _ _ _ n ex h 0 0 0 [(0, .ref 8), (1, .int (nI x))] []
  refine g_aload_n dX6_addDigit_0 rfl rfl ?_
  refine g_getf dX6_addDigit_1 fX6_9 s1 rfl ?_
  refine g_aload_n dX6_addDigit_4 rfl rfl ?_
  refine g_getf dX6_addDigit_5 fX6_21 s1 rfl ?_
  refine g_iload_n dX6_addDigit_8 rfl rfl ?_
  refine g_iastN dX6_addDigit_9 s2 hk (by decide) ?_
  rw [upd_nI]
  refine g_aload_n dX6_addDigit_10 rfl rfl ?_
  refine g_dup dX6_addDigit_11 rfl ?_
  refine g_getf dX6_addDigit_12 fX6_21 (g_ne (by decide) s1) rfl ?_
  refine g_iconst (v := nI 1) dX6_addDigit_15 (by decide) ?_
  refine g_iaddN dX6_addDigit_16 ?_
  refine g_put (fs' := [.ref 9, .ref 10, .ref 11, .int (nI (k + 1))]) dX6_addDigit_17 fX6_21 (g_ne (by decide) s1) (Nat.le_of_ble_eq_true rfl) rfl rfl rfl ?_
  refine g_aload_n dX6_addDigit_20 rfl rfl ?_
  refine g_getf dX6_addDigit_21 fX6_21 g_eq rfl ?_
  exact e_i dX6_addDigit_24 rfl rfl ((g_fr.rf.up (by simp)).up (by simp)) ⟨rfl, g_eq, g_ne (by decide) g_eq, ⟨f, g_ne (by decide) (g_ne (by decide) s3)⟩, g, g_ne (by decide) (g_ne (by decide) s4)⟩ (by decide) (by decide)
set_option maxHeartbeats 4000000 in
set_option maxRecDepth 100000 in
theorem c_shiftOf (G : gG) (d n : Nat) (ex : Bool) (h : gH) {p : Nat} (hp : p < 64) : g_M G mX6_shiftOf d 0 0 [.int (nI p)] n ex h (q_i n ex [] h (fun r _ => r = nI (24 - 8 * (p % 4)))) := by
  refine g_enter (by decide) (Nat.le_of_ble_eq_true rfl) ?_
  show g_W G _ _ _ n ex h 0 0 0 [(0, .int (nI p))] []
  refine g_bipush (v := nI 24) dX6_shiftOf_0 (by decide) ?_
  refine g_bipush (v := nI 8) dX6_shiftOf_2 (by decide) ?_
  refine g_iload_n dX6_shiftOf_4 rfl rfl ?_
  refine g_iconst (v := nI 3) dX6_shiftOf_5 (by decide) ?_
  refine g_iand dX6_shiftOf_6 ?_
  refine g_top (show (nI p) &&& (nI 3) = nI (p % 4) from (sm_and p hp)) ?_
  refine g_imulN dX6_shiftOf_7 ?_
  refine g_isubN dX6_shiftOf_8 (by omega) ?_
  exact e_i dX6_shiftOf_9 rfl rfl g_fr.rf rfl (by decide) (by decide)
set_option maxHeartbeats 4000000 in
set_option maxRecDepth 100000 in
theorem c_turn (G : gG) (d n : Nat) (ex : Bool) (h : gH) {x : Int32} {b : Nat} (hb : b ≤ 32) : g_M G mX6_turn d 0 0 [.int x, .int (nI b)] n ex h (q_i n ex [] h (fun r _ => r = tn x b)) := by
  refine g_enter (by decide) (Nat.le_of_ble_eq_true rfl) ?_
  show g_W G _ _ _ n ex h 0 0 0 [(0, .int x), (1, .int (nI b))] []
  refine g_iload_n dX6_turn_0 rfl rfl ?_
  refine g_iload_n dX6_turn_1 rfl rfl ?_
  refine g_iushr dX6_turn_2 ?_
  refine g_iload_n dX6_turn_3 rfl rfl ?_
  refine g_bipush (v := nI 32) dX6_turn_4 (by decide) ?_
  refine g_iload_n dX6_turn_6 rfl rfl ?_
  refine g_isubN dX6_turn_7 (by omega) ?_
  refine g_ishl dX6_turn_8 ?_
  refine g_ior dX6_turn_9 ?_
  exact e_i dX6_turn_10 rfl rfl g_fr.rf rfl (by decide) (by decide)
set_option maxHeartbeats 4000000 in
set_option maxRecDepth 100000 in
theorem c_putByte (G : gG) (d n : Nat) (ex : Bool) (h : gH) {dg : Nat → Nat} {k : Nat} {f g : Nat → Int32} (s1 : h 8 = some (.inr (6, [.ref 9, .ref 10, .ref 11, .int (nI k)]))) (s2 : h 9 = some (.inl (0, 20, .inl (fun i => nI (dg i))))) (s3 : h 10 = some (.inl (0, 64, .inl f))) (s4 : h 11 = some (.inl (0, 8, .inl g))) {p v : Nat} (hp : p < 64) : g_M G mX6_putByte (d + 1) 0 0 [.ref 8, .int (nI p), .int (nI v)] n ex h (q_i n ex [10] h (fun r h' => r = nI (p + 1) ∧ h' 10 = some (.inl (0, 64, .inl (upd f (p / 4) (f (p / 4) ||| nI v <<< (nI (24 - 8 * (p % 4)) &&& 31))))))) := by
  refine g_enter (by decide) (Nat.le_of_ble_eq_true rfl) ?_
  show g_W G _ _ _ n ex h 0 0 0 [(0, .ref 8), (1, .int (nI p)), (2, .int (nI v))] []
  refine g_aload_n dX6_putByte_0 rfl rfl ?_
  refine g_getf dX6_putByte_1 fX6_15 s1 rfl ?_
  refine g_iload_n dX6_putByte_4 rfl rfl ?_
  refine g_iconst (v := nI 2) dX6_putByte_5 (by decide) ?_
  refine g_ishr dX6_putByte_6 ?_
  refine g_top (show (nI p) >>> ((nI 2) &&& 31) = nI (p / 4) from (sm_shr p hp)) ?_
  refine g_dup2_11 dX6_putByte_7 rfl rfl ?_
  refine g_ialdN dX6_putByte_8 s3 (by omega) (by decide) ?_
  refine g_iload_n dX6_putByte_9 rfl rfl ?_
  refine g_iload_n dX6_putByte_10 rfl rfl ?_
  refine cSi (st := [.int (nI v), .int (f (p / 4)), .int (nI (p / 4)), .ref 10]) dX6_putByte_11 (c_shiftOf G d n ex h (p := p) (by omega)) sX6_31 rfl (by simp only [g_rm]; omega) (by simp only [g_rm]; omega) (Nat.le_of_ble_eq_true rfl) ⟨Nat.le_of_ble_eq_true rfl, Nat.le_of_ble_eq_true rfl⟩ (fun r4 h1 fr2 p3 => ?_)
  cases g_fr0 fr2
  subst p3
  refine g_ishl dX6_putByte_14 ?_
  refine g_ior dX6_putByte_15 ?_
  refine g_iastN dX6_putByte_16 s3 (by omega) (by decide) ?_
  refine g_iload_n dX6_putByte_17 rfl rfl ?_
  refine g_iconst (v := nI 1) dX6_putByte_18 (by decide) ?_
  refine g_iaddN dX6_putByte_19 ?_
  exact e_i dX6_putByte_20 rfl rfl (g_fr.rf.up (by simp)) ⟨rfl, g_eq⟩ (by decide) (by decide)
set_option maxHeartbeats 4000000 in
set_option maxRecDepth 100000 in
theorem lp_spread (G : gG) (d n : Nat) (ex : Bool) (h0 : gH) {k : Nat} {g0 : Nat → Int32} : ∀ (t j : Nat) (f : Nat → Int32) (h : gH), 48 - j < t → j ≤ 48 → (∀ i, i < 16 + j → f i = spr g0 j i) → h 8 = some (.inr (6, [.ref 9, .ref 10, .ref 11, .int (nI k)])) → h 10 = some (.inl (0, 64, .inl f)) → g_fr [10] h0 h →
    g_W G mX6_spreadWords (g_rm (d + 1) 0 0) (g_K G (q_v n ex [10] h0 (fun h' => ∃ f', h' 10 = some (.inl (0, 64, .inl f')) ∧ ∀ i, i < 64 → f' i = spr g0 48 i)) 0 0) n ex h 0 0 3 [(1, .int (nI (16 + j))), (0, .ref 8)] [] := by
  intro t
  induction t with
  | zero => intro j f h hm; exact absurd hm (by omega)
  | succ t ih =>
    intro j f h ht hj hf s1 s3 hfr
    refine g_iload_n dX6_spreadWords_3 rfl rfl ?_
    refine g_bipush (v := nI 64) dX6_spreadWords_4 (by decide) ?_
    refine g_icmp_geN (tgt := 104) dX6_spreadWords_6 (by decide) (by omega) (by decide) (fun c6 => ?_) (fun c6 => ?_)
    · have e : j = 48 := by omega
      subst e
      exact e_v dX6_spreadWords_104 rfl hfr ⟨f, s3, hf⟩ (by decide) (by decide)
    · refine g_aload_n dX6_spreadWords_9 rfl rfl ?_
      refine g_getf dX6_spreadWords_10 fX6_15 s1 rfl ?_
      refine g_iload_n dX6_spreadWords_13 rfl rfl ?_
      refine g_iconst (v := nI 2) dX6_spreadWords_14 (by decide) ?_
      refine g_isubN dX6_spreadWords_15 (by omega) ?_
      refine g_ialdN dX6_spreadWords_16 s3 (by omega) (by decide) ?_
      refine g_top (show f ((16 + j) - 2) = spr g0 j (j + 14) from (by rw [hf _ (by omega)]; congr 1; omega)) ?_
      refine g_istore_n (ls' := [(2, .int (spr g0 j (j + 14))), (1, .int (nI (16 + j))), (0, .ref 8)]) dX6_spreadWords_17 rfl (by decide) rfl ?_
      refine g_aload_n dX6_spreadWords_18 rfl rfl ?_
      refine g_getf dX6_spreadWords_19 fX6_15 s1 rfl ?_
      refine g_iload_n dX6_spreadWords_22 rfl rfl ?_
      refine g_bipush (v := nI 15) dX6_spreadWords_23 (by decide) ?_
      refine g_isubN dX6_spreadWords_25 (by omega) ?_
      refine g_ialdN dX6_spreadWords_26 s3 (by omega) (by decide) ?_
      refine g_top (show f ((16 + j) - 15) = spr g0 j (j + 1) from (by rw [hf _ (by omega)]; congr 1; omega)) ?_
      refine g_istore_n (ls' := [(3, .int (spr g0 j (j + 1))), (2, .int (spr g0 j (j + 14))), (1, .int (nI (16 + j))), (0, .ref 8)]) dX6_spreadWords_27 rfl (by decide) rfl ?_
      refine g_iload_n dX6_spreadWords_28 rfl rfl ?_
      refine g_bipush (v := nI 7) dX6_spreadWords_29 (by decide) ?_
      refine cSi (st := []) dX6_spreadWords_31 (c_turn G d n ex h (x := spr g0 j (j + 1)) (b := 7) (by decide)) sX6_46 rfl (by simp only [g_rm]; omega) (by simp only [g_rm]; omega) (Nat.le_of_ble_eq_true rfl) ⟨Nat.le_of_ble_eq_true rfl, Nat.le_of_ble_eq_true rfl⟩ (fun r4 h1 fr2 p3 => ?_)
      cases g_fr0 fr2
      subst p3
      refine g_iload_n dX6_spreadWords_34 rfl rfl ?_
      refine g_bipush (v := nI 18) dX6_spreadWords_35 (by decide) ?_
      refine cSi (st := [.int (tn (spr g0 j (j + 1)) 7)]) dX6_spreadWords_37 (c_turn G d n ex h (x := spr g0 j (j + 1)) (b := 18) (by decide)) sX6_46 rfl (by simp only [g_rm]; omega) (by simp only [g_rm]; omega) (Nat.le_of_ble_eq_true rfl) ⟨Nat.le_of_ble_eq_true rfl, Nat.le_of_ble_eq_true rfl⟩ (fun r8 h5 fr6 p7 => ?_)
      cases g_fr0 fr6
      subst p7
      refine g_ixor dX6_spreadWords_40 ?_
      refine g_iload_n dX6_spreadWords_41 rfl rfl ?_
      refine g_iconst (v := nI 3) dX6_spreadWords_42 (by decide) ?_
      refine g_iushr dX6_spreadWords_43 ?_
      refine g_ixor dX6_spreadWords_44 ?_
      refine g_istore (ls' := [(4, .int (((tn (spr g0 j (j + 1)) 7) ^^^ (tn (spr g0 j (j + 1)) 18)) ^^^ (((spr g0 j (j + 1)).toUInt32 >>> ((nI 3).toUInt32 &&& Int32.toUInt32 31)).toInt32))), (3, .int (spr g0 j (j + 1))), (2, .int (spr g0 j (j + 14))), (1, .int (nI (16 + j))), (0, .ref 8)]) dX6_spreadWords_45 (by decide) rfl ?_
      refine g_iload_n dX6_spreadWords_47 rfl rfl ?_
      refine g_bipush (v := nI 17) dX6_spreadWords_48 (by decide) ?_
      refine cSi (st := []) dX6_spreadWords_50 (c_turn G d n ex h (x := spr g0 j (j + 14)) (b := 17) (by decide)) sX6_46 rfl (by simp only [g_rm]; omega) (by simp only [g_rm]; omega) (Nat.le_of_ble_eq_true rfl) ⟨Nat.le_of_ble_eq_true rfl, Nat.le_of_ble_eq_true rfl⟩ (fun r12 h9 fr10 p11 => ?_)
      cases g_fr0 fr10
      subst p11
      refine g_iload_n dX6_spreadWords_53 rfl rfl ?_
      refine g_bipush (v := nI 19) dX6_spreadWords_54 (by decide) ?_
      refine cSi (st := [.int (tn (spr g0 j (j + 14)) 17)]) dX6_spreadWords_56 (c_turn G d n ex h (x := spr g0 j (j + 14)) (b := 19) (by decide)) sX6_46 rfl (by simp only [g_rm]; omega) (by simp only [g_rm]; omega) (Nat.le_of_ble_eq_true rfl) ⟨Nat.le_of_ble_eq_true rfl, Nat.le_of_ble_eq_true rfl⟩ (fun r16 h13 fr14 p15 => ?_)
      cases g_fr0 fr14
      subst p15
      refine g_ixor dX6_spreadWords_59 ?_
      refine g_iload_n dX6_spreadWords_60 rfl rfl ?_
      refine g_bipush (v := nI 10) dX6_spreadWords_61 (by decide) ?_
      refine g_iushr dX6_spreadWords_63 ?_
      refine g_ixor dX6_spreadWords_64 ?_
      refine g_istore (ls' := [(5, .int (((tn (spr g0 j (j + 14)) 17) ^^^ (tn (spr g0 j (j + 14)) 19)) ^^^ (((spr g0 j (j + 14)).toUInt32 >>> ((nI 10).toUInt32 &&& Int32.toUInt32 31)).toInt32))), (4, .int (((tn (spr g0 j (j + 1)) 7) ^^^ (tn (spr g0 j (j + 1)) 18)) ^^^ (((spr g0 j (j + 1)).toUInt32 >>> ((nI 3).toUInt32 &&& Int32.toUInt32 31)).toInt32))), (3, .int (spr g0 j (j + 1))), (2, .int (spr g0 j (j + 14))), (1, .int (nI (16 + j))), (0, .ref 8)]) dX6_spreadWords_65 (by decide) rfl ?_
      refine g_aload_n dX6_spreadWords_67 rfl rfl ?_
      refine g_getf dX6_spreadWords_68 fX6_15 s1 rfl ?_
      refine g_iload_n dX6_spreadWords_71 rfl rfl ?_
      refine g_aload_n dX6_spreadWords_72 rfl rfl ?_
      refine g_getf dX6_spreadWords_73 fX6_15 s1 rfl ?_
      refine g_iload_n dX6_spreadWords_76 rfl rfl ?_
      refine g_bipush (v := nI 16) dX6_spreadWords_77 (by decide) ?_
      refine g_isubN dX6_spreadWords_79 (by omega) ?_
      refine g_ialdN dX6_spreadWords_80 s3 (by omega) (by decide) ?_
      refine g_top (show f ((16 + j) - 16) = spr g0 j j from (by rw [hf _ (by omega)]; congr 1; omega)) ?_
      refine g_iload dX6_spreadWords_81 rfl ?_
      refine g_iadd dX6_spreadWords_83 ?_
      refine g_aload_n dX6_spreadWords_84 rfl rfl ?_
      refine g_getf dX6_spreadWords_85 fX6_15 s1 rfl ?_
      refine g_iload_n dX6_spreadWords_88 rfl rfl ?_
      refine g_bipush (v := nI 7) dX6_spreadWords_89 (by decide) ?_
      refine g_isubN dX6_spreadWords_91 (by omega) ?_
      refine g_ialdN dX6_spreadWords_92 s3 (by omega) (by decide) ?_
      refine g_top (show f ((16 + j) - 7) = spr g0 j (j + 9) from (by rw [hf _ (by omega)]; congr 1; omega)) ?_
      refine g_iadd dX6_spreadWords_93 ?_
      refine g_iload dX6_spreadWords_94 rfl ?_
      refine g_iadd dX6_spreadWords_96 ?_
      refine g_iastN dX6_spreadWords_97 s3 (by omega) (by decide) ?_
      refine g_iincN (z := 1) (ls' := [(1, .int (nI ((16 + j) + 1))), (5, .int (((tn (spr g0 j (j + 14)) 17) ^^^ (tn (spr g0 j (j + 14)) 19)) ^^^ (((spr g0 j (j + 14)).toUInt32 >>> ((nI 10).toUInt32 &&& Int32.toUInt32 31)).toInt32))), (4, .int (((tn (spr g0 j (j + 1)) 7) ^^^ (tn (spr g0 j (j + 1)) 18)) ^^^ (((spr g0 j (j + 1)).toUInt32 >>> ((nI 3).toUInt32 &&& Int32.toUInt32 31)).toInt32))), (3, .int (spr g0 j (j + 1))), (2, .int (spr g0 j (j + 14))), (0, .ref 8)]) dX6_spreadWords_98 rfl (by decide) rfl ?_
      refine g_goto (tgt := 3) dX6_spreadWords_101 (by decide) ?_
      refine g_pick [0, 5] (ls' := [(1, .int (nI ((16 + j) + 1))), (0, .ref 8)]) rfl ?_
      exact ih (j + 1) (upd f (16 + j) ((((spr g0 j j) + (((tn (spr g0 j (j + 1)) 7) ^^^ (tn (spr g0 j (j + 1)) 18)) ^^^ (((spr g0 j (j + 1)).toUInt32 >>> ((nI 3).toUInt32 &&& Int32.toUInt32 31)).toInt32))) + (spr g0 j (j + 9))) + (((tn (spr g0 j (j + 14)) 17) ^^^ (tn (spr g0 j (j + 14)) 19)) ^^^ (((spr g0 j (j + 14)).toUInt32 >>> ((nI 10).toUInt32 &&& Int32.toUInt32 31)).toInt32)))) (g_up h 10 (.inl (0, 64, .inl (upd f (16 + j) ((((spr g0 j j) + (((tn (spr g0 j (j + 1)) 7) ^^^ (tn (spr g0 j (j + 1)) 18)) ^^^ (((spr g0 j (j + 1)).toUInt32 >>> ((nI 3).toUInt32 &&& Int32.toUInt32 31)).toInt32))) + (spr g0 j (j + 9))) + (((tn (spr g0 j (j + 14)) 17) ^^^ (tn (spr g0 j (j + 14)) 19)) ^^^ (((spr g0 j (j + 14)).toUInt32 >>> ((nI 10).toUInt32 &&& Int32.toUInt32 31)).toInt32))))))) (by omega) (by omega) (fun i hi => (by show upd f (16 + j) _ i = upd (spr g0 j) (16 + j) _ i; unfold upd; by_cases q : i = 16 + j; (rw [if_pos q, if_pos q]; rfl); (rw [if_neg q, if_neg q]; exact hf i (by omega)))) (g_ne (by decide) s1) (g_eq) (hfr.up (by simp))
set_option maxHeartbeats 4000000 in
set_option maxRecDepth 100000 in
theorem c_spread (G : gG) (d n : Nat) (ex : Bool) (h : gH) {k : Nat} {f g0 : Nat → Int32} (s1 : h 8 = some (.inr (6, [.ref 9, .ref 10, .ref 11, .int (nI k)]))) (s3 : h 10 = some (.inl (0, 64, .inl f))) (hf : ∀ i, i < 16 → f i = g0 i) : g_M G mX6_spreadWords (d + 1) 0 0 [.ref 8] n ex h (q_v n ex [10] h (fun h' => ∃ f', h' 10 = some (.inl (0, 64, .inl f')) ∧ ∀ i, i < 64 → f' i = spr g0 48 i)) := by
  refine g_enter (by decide) (Nat.le_of_ble_eq_true rfl) ?_
  show g_W G _ _ _ n ex h 0 0 0 [(0, .ref 8)] []
  refine g_bipush (v := nI 16) dX6_spreadWords_0 (by decide) ?_
  refine g_istore_n (ls' := [(1, .int (nI 16)), (0, .ref 8)]) dX6_spreadWords_2 rfl (by decide) rfl ?_
  refine g_pick [0, 1] (ls' := [(1, .int (nI 16)), (0, .ref 8)]) rfl ?_
  exact lp_spread G d n ex h 49 0 f h (by omega) (by omega) (fun i hi => hf i hi) s1 s3 g_fr.rf
set_option maxHeartbeats 4000000 in
set_option maxRecDepth 100000 in
theorem lp_mix (G : gG) (d n : Nat) (ex : Bool) (h : gH) {k : Nat} {f g g0 : Nat → Int32} (s1 : h 8 = some (.inr (6, [.ref 9, .ref 10, .ref 11, .int (nI k)]))) (s3 : h 10 = some (.inl (0, 64, .inl f))) (s4 : h 11 = some (.inl (0, 8, .inl g))) (hf : ∀ i, i < 64 → f i = spr g0 48 i) : ∀ (t i : Nat), 64 - i < t → i ≤ 64 →
    g_W G mX6_mixWords (g_rm (d + 1) 0 0) (g_K G (q_v n ex [11] h (fun h' => ∃ g', h' 11 = some (.inl (0, 8, .inl g')) ∧ ∀ i, i < 8 → g' i = g_sha0.getD i 0 + sf g0 64 i)) 0 0) n ex h 0 0 58 [(9, .int (nI i)), (0, .ref 8), (1, .int (sf g0 i 0)), (2, .int (sf g0 i 1)), (3, .int (sf g0 i 2)), (4, .int (sf g0 i 3)), (5, .int (sf g0 i 4)), (6, .int (sf g0 i 5)), (7, .int (sf g0 i 6)), (8, .int (sf g0 i 7))] [] := by
  intro t
  induction t with
  | zero => intro i hm; exact absurd hm (by omega)
  | succ t ih =>
    intro i ht hi
    refine g_iload dX6_mixWords_58 rfl ?_
    refine g_bipush (v := nI 64) dX6_mixWords_60 (by decide) ?_
    refine g_icmp_geN (tgt := 193) dX6_mixWords_62 (by decide) (by omega) (by decide) (fun c62 => ?_) (fun c62 => ?_)
    · refine g_aload_n dX6_mixWords_193 rfl rfl ?_
      refine g_getf dX6_mixWords_194 fX6_18 s1 rfl ?_
      refine g_iconst (v := nI 0) dX6_mixWords_197 (by decide) ?_
      refine g_getsN (i := 1) (t := 1) (host := "PollAudit") dX6_mixWords_198 (by decide) (by decide) (by decide) (List.mem_of_getElem? (i := 731) (by decide +kernel)) ?_
      refine g_iconst (v := nI 0) dX6_mixWords_201 (by decide) ?_
      refine g_saldN dX6_mixWords_202 (t := 1) (by decide) (by decide) (show _ < 8 by decide) (show 8 < 2 ^ 31 by decide) ?_
      refine g_iload_n dX6_mixWords_203 rfl rfl ?_
      refine g_iadd dX6_mixWords_204 ?_
      refine g_iastN dX6_mixWords_205 s4 (by decide) (by decide) ?_
      refine g_aload_n dX6_mixWords_206 rfl rfl ?_
      refine g_getf dX6_mixWords_207 fX6_18 (g_ne (by decide) s1) rfl ?_
      refine g_iconst (v := nI 1) dX6_mixWords_210 (by decide) ?_
      refine g_getsN (i := 1) (t := 1) (host := "PollAudit") dX6_mixWords_211 (by decide) (by decide) (by decide) (List.mem_of_getElem? (i := 731) (by decide +kernel)) ?_
      refine g_iconst (v := nI 1) dX6_mixWords_214 (by decide) ?_
      refine g_saldN dX6_mixWords_215 (t := 1) (by decide) (by decide) (show _ < 8 by decide) (show 8 < 2 ^ 31 by decide) ?_
      refine g_iload_n dX6_mixWords_216 rfl rfl ?_
      refine g_iadd dX6_mixWords_217 ?_
      refine g_iastN dX6_mixWords_218 g_eq (by decide) (by decide) ?_
      refine g_aload_n dX6_mixWords_219 rfl rfl ?_
      refine g_getf dX6_mixWords_220 fX6_18 (g_ne (by decide) (g_ne (by decide) s1)) rfl ?_
      refine g_iconst (v := nI 2) dX6_mixWords_223 (by decide) ?_
      refine g_getsN (i := 1) (t := 1) (host := "PollAudit") dX6_mixWords_224 (by decide) (by decide) (by decide) (List.mem_of_getElem? (i := 731) (by decide +kernel)) ?_
      refine g_iconst (v := nI 2) dX6_mixWords_227 (by decide) ?_
      refine g_saldN dX6_mixWords_228 (t := 1) (by decide) (by decide) (show _ < 8 by decide) (show 8 < 2 ^ 31 by decide) ?_
      refine g_iload_n dX6_mixWords_229 rfl rfl ?_
      refine g_iadd dX6_mixWords_230 ?_
      refine g_iastN dX6_mixWords_231 g_eq (by decide) (by decide) ?_
      refine g_aload_n dX6_mixWords_232 rfl rfl ?_
      refine g_getf dX6_mixWords_233 fX6_18 (g_ne (by decide) (g_ne (by decide) (g_ne (by decide) s1))) rfl ?_
      refine g_iconst (v := nI 3) dX6_mixWords_236 (by decide) ?_
      refine g_getsN (i := 1) (t := 1) (host := "PollAudit") dX6_mixWords_237 (by decide) (by decide) (by decide) (List.mem_of_getElem? (i := 731) (by decide +kernel)) ?_
      refine g_iconst (v := nI 3) dX6_mixWords_240 (by decide) ?_
      refine g_saldN dX6_mixWords_241 (t := 1) (by decide) (by decide) (show _ < 8 by decide) (show 8 < 2 ^ 31 by decide) ?_
      refine g_iload dX6_mixWords_242 rfl ?_
      refine g_iadd dX6_mixWords_244 ?_
      refine g_iastN dX6_mixWords_245 g_eq (by decide) (by decide) ?_
      refine g_aload_n dX6_mixWords_246 rfl rfl ?_
      refine g_getf dX6_mixWords_247 fX6_18 (g_ne (by decide) (g_ne (by decide) (g_ne (by decide) (g_ne (by decide) s1)))) rfl ?_
      refine g_iconst (v := nI 4) dX6_mixWords_250 (by decide) ?_
      refine g_getsN (i := 1) (t := 1) (host := "PollAudit") dX6_mixWords_251 (by decide) (by decide) (by decide) (List.mem_of_getElem? (i := 731) (by decide +kernel)) ?_
      refine g_iconst (v := nI 4) dX6_mixWords_254 (by decide) ?_
      refine g_saldN dX6_mixWords_255 (t := 1) (by decide) (by decide) (show _ < 8 by decide) (show 8 < 2 ^ 31 by decide) ?_
      refine g_iload dX6_mixWords_256 rfl ?_
      refine g_iadd dX6_mixWords_258 ?_
      refine g_iastN dX6_mixWords_259 g_eq (by decide) (by decide) ?_
      refine g_aload_n dX6_mixWords_260 rfl rfl ?_
      refine g_getf dX6_mixWords_261 fX6_18 (g_ne (by decide) (g_ne (by decide) (g_ne (by decide) (g_ne (by decide) (g_ne (by decide) s1))))) rfl ?_
      refine g_iconst (v := nI 5) dX6_mixWords_264 (by decide) ?_
      refine g_getsN (i := 1) (t := 1) (host := "PollAudit") dX6_mixWords_265 (by decide) (by decide) (by decide) (List.mem_of_getElem? (i := 731) (by decide +kernel)) ?_
      refine g_iconst (v := nI 5) dX6_mixWords_268 (by decide) ?_
      refine g_saldN dX6_mixWords_269 (t := 1) (by decide) (by decide) (show _ < 8 by decide) (show 8 < 2 ^ 31 by decide) ?_
      refine g_iload dX6_mixWords_270 rfl ?_
      refine g_iadd dX6_mixWords_272 ?_
      refine g_iastN dX6_mixWords_273 g_eq (by decide) (by decide) ?_
      refine g_aload_n dX6_mixWords_274 rfl rfl ?_
      refine g_getf dX6_mixWords_275 fX6_18 (g_ne (by decide) (g_ne (by decide) (g_ne (by decide) (g_ne (by decide) (g_ne (by decide) (g_ne (by decide) s1)))))) rfl ?_
      refine g_bipush (v := nI 6) dX6_mixWords_278 (by decide) ?_
      refine g_getsN (i := 1) (t := 1) (host := "PollAudit") dX6_mixWords_280 (by decide) (by decide) (by decide) (List.mem_of_getElem? (i := 731) (by decide +kernel)) ?_
      refine g_bipush (v := nI 6) dX6_mixWords_283 (by decide) ?_
      refine g_saldN dX6_mixWords_285 (t := 1) (by decide) (by decide) (show _ < 8 by decide) (show 8 < 2 ^ 31 by decide) ?_
      refine g_iload dX6_mixWords_286 rfl ?_
      refine g_iadd dX6_mixWords_288 ?_
      refine g_iastN dX6_mixWords_289 g_eq (by decide) (by decide) ?_
      refine g_aload_n dX6_mixWords_290 rfl rfl ?_
      refine g_getf dX6_mixWords_291 fX6_18 (g_ne (by decide) (g_ne (by decide) (g_ne (by decide) (g_ne (by decide) (g_ne (by decide) (g_ne (by decide) (g_ne (by decide) s1))))))) rfl ?_
      refine g_bipush (v := nI 7) dX6_mixWords_294 (by decide) ?_
      refine g_getsN (i := 1) (t := 1) (host := "PollAudit") dX6_mixWords_296 (by decide) (by decide) (by decide) (List.mem_of_getElem? (i := 731) (by decide +kernel)) ?_
      refine g_bipush (v := nI 7) dX6_mixWords_299 (by decide) ?_
      refine g_saldN dX6_mixWords_301 (t := 1) (by decide) (by decide) (show _ < 8 by decide) (show 8 < 2 ^ 31 by decide) ?_
      refine g_iload dX6_mixWords_302 rfl ?_
      refine g_iadd dX6_mixWords_304 ?_
      refine g_iastN dX6_mixWords_305 g_eq (by decide) (by decide) ?_
      have e : i = 64 := by omega
      subst e
      exact e_v dX6_mixWords_306 rfl ((((((((g_fr.rf.up (by simp)).up (by simp)).up (by simp)).up (by simp)).up (by simp)).up (by simp)).up (by simp)).up (by simp)) ⟨_, g_eq, fun i hi => (by match i, hi with | 0, _ => rfl | 1, _ => rfl | 2, _ => rfl | 3, _ => rfl | 4, _ => rfl | 5, _ => rfl | 6, _ => rfl | 7, _ => rfl | k + 8, q => exact absurd q (by omega))⟩ (by decide) (by decide)
    · refine g_iload dX6_mixWords_65 rfl ?_
      refine g_iload dX6_mixWords_67 rfl ?_
      refine g_bipush (v := nI 6) dX6_mixWords_69 (by decide) ?_
      refine cSi (st := [.int (sf g0 i 7)]) dX6_mixWords_71 (c_turn G d n ex h (x := sf g0 i 4) (b := 6) (by decide)) sX6_46 rfl (by simp only [g_rm]; omega) (by simp only [g_rm]; omega) (Nat.le_of_ble_eq_true rfl) ⟨Nat.le_of_ble_eq_true rfl, Nat.le_of_ble_eq_true rfl⟩ (fun r4 h1 fr2 p3 => ?_)
      cases g_fr0 fr2
      subst p3
      refine g_iload dX6_mixWords_74 rfl ?_
      refine g_bipush (v := nI 11) dX6_mixWords_76 (by decide) ?_
      refine cSi (st := [.int (tn (sf g0 i 4) 6), .int (sf g0 i 7)]) dX6_mixWords_78 (c_turn G d n ex h (x := sf g0 i 4) (b := 11) (by decide)) sX6_46 rfl (by simp only [g_rm]; omega) (by simp only [g_rm]; omega) (Nat.le_of_ble_eq_true rfl) ⟨Nat.le_of_ble_eq_true rfl, Nat.le_of_ble_eq_true rfl⟩ (fun r8 h5 fr6 p7 => ?_)
      cases g_fr0 fr6
      subst p7
      refine g_ixor dX6_mixWords_81 ?_
      refine g_iload dX6_mixWords_82 rfl ?_
      refine g_bipush (v := nI 25) dX6_mixWords_84 (by decide) ?_
      refine cSi (st := [.int ((tn (sf g0 i 4) 6) ^^^ (tn (sf g0 i 4) 11)), .int (sf g0 i 7)]) dX6_mixWords_86 (c_turn G d n ex h (x := sf g0 i 4) (b := 25) (by decide)) sX6_46 rfl (by simp only [g_rm]; omega) (by simp only [g_rm]; omega) (Nat.le_of_ble_eq_true rfl) ⟨Nat.le_of_ble_eq_true rfl, Nat.le_of_ble_eq_true rfl⟩ (fun r12 h9 fr10 p11 => ?_)
      cases g_fr0 fr10
      subst p11
      refine g_ixor dX6_mixWords_89 ?_
      refine g_iadd dX6_mixWords_90 ?_
      refine g_iload dX6_mixWords_91 rfl ?_
      refine g_iload dX6_mixWords_93 rfl ?_
      refine g_iand dX6_mixWords_95 ?_
      refine g_iload dX6_mixWords_96 rfl ?_
      refine g_iconst (v := -1) dX6_mixWords_98 (by decide) ?_
      refine g_ixor dX6_mixWords_99 ?_
      refine g_iload dX6_mixWords_100 rfl ?_
      refine g_iand dX6_mixWords_102 ?_
      refine g_ixor dX6_mixWords_103 ?_
      refine g_iadd dX6_mixWords_104 ?_
      refine g_getsN (i := 2) (t := 2) (host := "PollAudit") dX6_mixWords_105 (by decide) (by decide) (by decide) (List.mem_of_getElem? (i := 733) (by decide +kernel)) ?_
      refine g_iload dX6_mixWords_108 rfl ?_
      refine g_saldN dX6_mixWords_110 (t := 2) (by decide) (by decide) (show i < 64 by omega) (show 64 < 2 ^ 31 by decide) ?_
      refine g_top (show g_tf G 2 i = g_sha1.getD i 0 from rfl) ?_
      refine g_iadd dX6_mixWords_111 ?_
      refine g_aload_n dX6_mixWords_112 rfl rfl ?_
      refine g_getf dX6_mixWords_113 fX6_15 s1 rfl ?_
      refine g_iload dX6_mixWords_116 rfl ?_
      refine g_ialdN dX6_mixWords_118 s3 (by omega) (by decide) ?_
      refine g_top (show f i = spr g0 48 i from (hf i (by omega))) ?_
      refine g_iadd dX6_mixWords_119 ?_
      refine g_istore (ls' := [(10, .int (((((sf g0 i 7) + (((tn (sf g0 i 4) 6) ^^^ (tn (sf g0 i 4) 11)) ^^^ (tn (sf g0 i 4) 25))) + (((sf g0 i 4) &&& (sf g0 i 5)) ^^^ (((sf g0 i 4) ^^^ (-1)) &&& (sf g0 i 6)))) + (g_sha1.getD i 0)) + (spr g0 48 i))), (9, .int (nI i)), (0, .ref 8), (1, .int (sf g0 i 0)), (2, .int (sf g0 i 1)), (3, .int (sf g0 i 2)), (4, .int (sf g0 i 3)), (5, .int (sf g0 i 4)), (6, .int (sf g0 i 5)), (7, .int (sf g0 i 6)), (8, .int (sf g0 i 7))]) dX6_mixWords_120 (by decide) rfl ?_
      refine g_iload_n dX6_mixWords_122 rfl rfl ?_
      refine g_iconst (v := nI 2) dX6_mixWords_123 (by decide) ?_
      refine cSi (st := []) dX6_mixWords_124 (c_turn G d n ex h (x := sf g0 i 0) (b := 2) (by decide)) sX6_46 rfl (by simp only [g_rm]; omega) (by simp only [g_rm]; omega) (Nat.le_of_ble_eq_true rfl) ⟨Nat.le_of_ble_eq_true rfl, Nat.le_of_ble_eq_true rfl⟩ (fun r16 h13 fr14 p15 => ?_)
      cases g_fr0 fr14
      subst p15
      refine g_iload_n dX6_mixWords_127 rfl rfl ?_
      refine g_bipush (v := nI 13) dX6_mixWords_128 (by decide) ?_
      refine cSi (st := [.int (tn (sf g0 i 0) 2)]) dX6_mixWords_130 (c_turn G d n ex h (x := sf g0 i 0) (b := 13) (by decide)) sX6_46 rfl (by simp only [g_rm]; omega) (by simp only [g_rm]; omega) (Nat.le_of_ble_eq_true rfl) ⟨Nat.le_of_ble_eq_true rfl, Nat.le_of_ble_eq_true rfl⟩ (fun r20 h17 fr18 p19 => ?_)
      cases g_fr0 fr18
      subst p19
      refine g_ixor dX6_mixWords_133 ?_
      refine g_iload_n dX6_mixWords_134 rfl rfl ?_
      refine g_bipush (v := nI 22) dX6_mixWords_135 (by decide) ?_
      refine cSi (st := [.int ((tn (sf g0 i 0) 2) ^^^ (tn (sf g0 i 0) 13))]) dX6_mixWords_137 (c_turn G d n ex h (x := sf g0 i 0) (b := 22) (by decide)) sX6_46 rfl (by simp only [g_rm]; omega) (by simp only [g_rm]; omega) (Nat.le_of_ble_eq_true rfl) ⟨Nat.le_of_ble_eq_true rfl, Nat.le_of_ble_eq_true rfl⟩ (fun r24 h21 fr22 p23 => ?_)
      cases g_fr0 fr22
      subst p23
      refine g_ixor dX6_mixWords_140 ?_
      refine g_iload_n dX6_mixWords_141 rfl rfl ?_
      refine g_iload_n dX6_mixWords_142 rfl rfl ?_
      refine g_iand dX6_mixWords_143 ?_
      refine g_iload_n dX6_mixWords_144 rfl rfl ?_
      refine g_iload_n dX6_mixWords_145 rfl rfl ?_
      refine g_iand dX6_mixWords_146 ?_
      refine g_ixor dX6_mixWords_147 ?_
      refine g_iload_n dX6_mixWords_148 rfl rfl ?_
      refine g_iload_n dX6_mixWords_149 rfl rfl ?_
      refine g_iand dX6_mixWords_150 ?_
      refine g_ixor dX6_mixWords_151 ?_
      refine g_iadd dX6_mixWords_152 ?_
      refine g_istore (ls' := [(11, .int ((((tn (sf g0 i 0) 2) ^^^ (tn (sf g0 i 0) 13)) ^^^ (tn (sf g0 i 0) 22)) + ((((sf g0 i 0) &&& (sf g0 i 1)) ^^^ ((sf g0 i 0) &&& (sf g0 i 2))) ^^^ ((sf g0 i 1) &&& (sf g0 i 2))))), (10, .int (((((sf g0 i 7) + (((tn (sf g0 i 4) 6) ^^^ (tn (sf g0 i 4) 11)) ^^^ (tn (sf g0 i 4) 25))) + (((sf g0 i 4) &&& (sf g0 i 5)) ^^^ (((sf g0 i 4) ^^^ (-1)) &&& (sf g0 i 6)))) + (g_sha1.getD i 0)) + (spr g0 48 i))), (9, .int (nI i)), (0, .ref 8), (1, .int (sf g0 i 0)), (2, .int (sf g0 i 1)), (3, .int (sf g0 i 2)), (4, .int (sf g0 i 3)), (5, .int (sf g0 i 4)), (6, .int (sf g0 i 5)), (7, .int (sf g0 i 6)), (8, .int (sf g0 i 7))]) dX6_mixWords_153 (by decide) rfl ?_
      refine g_iload dX6_mixWords_155 rfl ?_
      refine g_istore (ls' := [(8, .int (sf g0 i 6)), (11, .int ((((tn (sf g0 i 0) 2) ^^^ (tn (sf g0 i 0) 13)) ^^^ (tn (sf g0 i 0) 22)) + ((((sf g0 i 0) &&& (sf g0 i 1)) ^^^ ((sf g0 i 0) &&& (sf g0 i 2))) ^^^ ((sf g0 i 1) &&& (sf g0 i 2))))), (10, .int (((((sf g0 i 7) + (((tn (sf g0 i 4) 6) ^^^ (tn (sf g0 i 4) 11)) ^^^ (tn (sf g0 i 4) 25))) + (((sf g0 i 4) &&& (sf g0 i 5)) ^^^ (((sf g0 i 4) ^^^ (-1)) &&& (sf g0 i 6)))) + (g_sha1.getD i 0)) + (spr g0 48 i))), (9, .int (nI i)), (0, .ref 8), (1, .int (sf g0 i 0)), (2, .int (sf g0 i 1)), (3, .int (sf g0 i 2)), (4, .int (sf g0 i 3)), (5, .int (sf g0 i 4)), (6, .int (sf g0 i 5)), (7, .int (sf g0 i 6))]) dX6_mixWords_157 (by decide) rfl ?_
      refine g_iload dX6_mixWords_159 rfl ?_
      refine g_istore (ls' := [(7, .int (sf g0 i 5)), (8, .int (sf g0 i 6)), (11, .int ((((tn (sf g0 i 0) 2) ^^^ (tn (sf g0 i 0) 13)) ^^^ (tn (sf g0 i 0) 22)) + ((((sf g0 i 0) &&& (sf g0 i 1)) ^^^ ((sf g0 i 0) &&& (sf g0 i 2))) ^^^ ((sf g0 i 1) &&& (sf g0 i 2))))), (10, .int (((((sf g0 i 7) + (((tn (sf g0 i 4) 6) ^^^ (tn (sf g0 i 4) 11)) ^^^ (tn (sf g0 i 4) 25))) + (((sf g0 i 4) &&& (sf g0 i 5)) ^^^ (((sf g0 i 4) ^^^ (-1)) &&& (sf g0 i 6)))) + (g_sha1.getD i 0)) + (spr g0 48 i))), (9, .int (nI i)), (0, .ref 8), (1, .int (sf g0 i 0)), (2, .int (sf g0 i 1)), (3, .int (sf g0 i 2)), (4, .int (sf g0 i 3)), (5, .int (sf g0 i 4)), (6, .int (sf g0 i 5))]) dX6_mixWords_161 (by decide) rfl ?_
      refine g_iload dX6_mixWords_163 rfl ?_
      refine g_istore (ls' := [(6, .int (sf g0 i 4)), (7, .int (sf g0 i 5)), (8, .int (sf g0 i 6)), (11, .int ((((tn (sf g0 i 0) 2) ^^^ (tn (sf g0 i 0) 13)) ^^^ (tn (sf g0 i 0) 22)) + ((((sf g0 i 0) &&& (sf g0 i 1)) ^^^ ((sf g0 i 0) &&& (sf g0 i 2))) ^^^ ((sf g0 i 1) &&& (sf g0 i 2))))), (10, .int (((((sf g0 i 7) + (((tn (sf g0 i 4) 6) ^^^ (tn (sf g0 i 4) 11)) ^^^ (tn (sf g0 i 4) 25))) + (((sf g0 i 4) &&& (sf g0 i 5)) ^^^ (((sf g0 i 4) ^^^ (-1)) &&& (sf g0 i 6)))) + (g_sha1.getD i 0)) + (spr g0 48 i))), (9, .int (nI i)), (0, .ref 8), (1, .int (sf g0 i 0)), (2, .int (sf g0 i 1)), (3, .int (sf g0 i 2)), (4, .int (sf g0 i 3)), (5, .int (sf g0 i 4))]) dX6_mixWords_165 (by decide) rfl ?_
      refine g_iload dX6_mixWords_167 rfl ?_
      refine g_iload dX6_mixWords_169 rfl ?_
      refine g_iadd dX6_mixWords_171 ?_
      refine g_istore (ls' := [(5, .int ((sf g0 i 3) + (((((sf g0 i 7) + (((tn (sf g0 i 4) 6) ^^^ (tn (sf g0 i 4) 11)) ^^^ (tn (sf g0 i 4) 25))) + (((sf g0 i 4) &&& (sf g0 i 5)) ^^^ (((sf g0 i 4) ^^^ (-1)) &&& (sf g0 i 6)))) + (g_sha1.getD i 0)) + (spr g0 48 i)))), (6, .int (sf g0 i 4)), (7, .int (sf g0 i 5)), (8, .int (sf g0 i 6)), (11, .int ((((tn (sf g0 i 0) 2) ^^^ (tn (sf g0 i 0) 13)) ^^^ (tn (sf g0 i 0) 22)) + ((((sf g0 i 0) &&& (sf g0 i 1)) ^^^ ((sf g0 i 0) &&& (sf g0 i 2))) ^^^ ((sf g0 i 1) &&& (sf g0 i 2))))), (10, .int (((((sf g0 i 7) + (((tn (sf g0 i 4) 6) ^^^ (tn (sf g0 i 4) 11)) ^^^ (tn (sf g0 i 4) 25))) + (((sf g0 i 4) &&& (sf g0 i 5)) ^^^ (((sf g0 i 4) ^^^ (-1)) &&& (sf g0 i 6)))) + (g_sha1.getD i 0)) + (spr g0 48 i))), (9, .int (nI i)), (0, .ref 8), (1, .int (sf g0 i 0)), (2, .int (sf g0 i 1)), (3, .int (sf g0 i 2)), (4, .int (sf g0 i 3))]) dX6_mixWords_172 (by decide) rfl ?_
      refine g_iload_n dX6_mixWords_174 rfl rfl ?_
      refine g_istore (ls' := [(4, .int (sf g0 i 2)), (5, .int ((sf g0 i 3) + (((((sf g0 i 7) + (((tn (sf g0 i 4) 6) ^^^ (tn (sf g0 i 4) 11)) ^^^ (tn (sf g0 i 4) 25))) + (((sf g0 i 4) &&& (sf g0 i 5)) ^^^ (((sf g0 i 4) ^^^ (-1)) &&& (sf g0 i 6)))) + (g_sha1.getD i 0)) + (spr g0 48 i)))), (6, .int (sf g0 i 4)), (7, .int (sf g0 i 5)), (8, .int (sf g0 i 6)), (11, .int ((((tn (sf g0 i 0) 2) ^^^ (tn (sf g0 i 0) 13)) ^^^ (tn (sf g0 i 0) 22)) + ((((sf g0 i 0) &&& (sf g0 i 1)) ^^^ ((sf g0 i 0) &&& (sf g0 i 2))) ^^^ ((sf g0 i 1) &&& (sf g0 i 2))))), (10, .int (((((sf g0 i 7) + (((tn (sf g0 i 4) 6) ^^^ (tn (sf g0 i 4) 11)) ^^^ (tn (sf g0 i 4) 25))) + (((sf g0 i 4) &&& (sf g0 i 5)) ^^^ (((sf g0 i 4) ^^^ (-1)) &&& (sf g0 i 6)))) + (g_sha1.getD i 0)) + (spr g0 48 i))), (9, .int (nI i)), (0, .ref 8), (1, .int (sf g0 i 0)), (2, .int (sf g0 i 1)), (3, .int (sf g0 i 2))]) dX6_mixWords_175 (by decide) rfl ?_
      refine g_iload_n dX6_mixWords_177 rfl rfl ?_
      refine g_istore_n (ls' := [(3, .int (sf g0 i 1)), (4, .int (sf g0 i 2)), (5, .int ((sf g0 i 3) + (((((sf g0 i 7) + (((tn (sf g0 i 4) 6) ^^^ (tn (sf g0 i 4) 11)) ^^^ (tn (sf g0 i 4) 25))) + (((sf g0 i 4) &&& (sf g0 i 5)) ^^^ (((sf g0 i 4) ^^^ (-1)) &&& (sf g0 i 6)))) + (g_sha1.getD i 0)) + (spr g0 48 i)))), (6, .int (sf g0 i 4)), (7, .int (sf g0 i 5)), (8, .int (sf g0 i 6)), (11, .int ((((tn (sf g0 i 0) 2) ^^^ (tn (sf g0 i 0) 13)) ^^^ (tn (sf g0 i 0) 22)) + ((((sf g0 i 0) &&& (sf g0 i 1)) ^^^ ((sf g0 i 0) &&& (sf g0 i 2))) ^^^ ((sf g0 i 1) &&& (sf g0 i 2))))), (10, .int (((((sf g0 i 7) + (((tn (sf g0 i 4) 6) ^^^ (tn (sf g0 i 4) 11)) ^^^ (tn (sf g0 i 4) 25))) + (((sf g0 i 4) &&& (sf g0 i 5)) ^^^ (((sf g0 i 4) ^^^ (-1)) &&& (sf g0 i 6)))) + (g_sha1.getD i 0)) + (spr g0 48 i))), (9, .int (nI i)), (0, .ref 8), (1, .int (sf g0 i 0)), (2, .int (sf g0 i 1))]) dX6_mixWords_178 rfl (by decide) rfl ?_
      refine g_iload_n dX6_mixWords_179 rfl rfl ?_
      refine g_istore_n (ls' := [(2, .int (sf g0 i 0)), (3, .int (sf g0 i 1)), (4, .int (sf g0 i 2)), (5, .int ((sf g0 i 3) + (((((sf g0 i 7) + (((tn (sf g0 i 4) 6) ^^^ (tn (sf g0 i 4) 11)) ^^^ (tn (sf g0 i 4) 25))) + (((sf g0 i 4) &&& (sf g0 i 5)) ^^^ (((sf g0 i 4) ^^^ (-1)) &&& (sf g0 i 6)))) + (g_sha1.getD i 0)) + (spr g0 48 i)))), (6, .int (sf g0 i 4)), (7, .int (sf g0 i 5)), (8, .int (sf g0 i 6)), (11, .int ((((tn (sf g0 i 0) 2) ^^^ (tn (sf g0 i 0) 13)) ^^^ (tn (sf g0 i 0) 22)) + ((((sf g0 i 0) &&& (sf g0 i 1)) ^^^ ((sf g0 i 0) &&& (sf g0 i 2))) ^^^ ((sf g0 i 1) &&& (sf g0 i 2))))), (10, .int (((((sf g0 i 7) + (((tn (sf g0 i 4) 6) ^^^ (tn (sf g0 i 4) 11)) ^^^ (tn (sf g0 i 4) 25))) + (((sf g0 i 4) &&& (sf g0 i 5)) ^^^ (((sf g0 i 4) ^^^ (-1)) &&& (sf g0 i 6)))) + (g_sha1.getD i 0)) + (spr g0 48 i))), (9, .int (nI i)), (0, .ref 8), (1, .int (sf g0 i 0))]) dX6_mixWords_180 rfl (by decide) rfl ?_
      refine g_iload dX6_mixWords_181 rfl ?_
      refine g_iload dX6_mixWords_183 rfl ?_
      refine g_iadd dX6_mixWords_185 ?_
      refine g_istore_n (ls' := [(1, .int ((((((sf g0 i 7) + (((tn (sf g0 i 4) 6) ^^^ (tn (sf g0 i 4) 11)) ^^^ (tn (sf g0 i 4) 25))) + (((sf g0 i 4) &&& (sf g0 i 5)) ^^^ (((sf g0 i 4) ^^^ (-1)) &&& (sf g0 i 6)))) + (g_sha1.getD i 0)) + (spr g0 48 i)) + ((((tn (sf g0 i 0) 2) ^^^ (tn (sf g0 i 0) 13)) ^^^ (tn (sf g0 i 0) 22)) + ((((sf g0 i 0) &&& (sf g0 i 1)) ^^^ ((sf g0 i 0) &&& (sf g0 i 2))) ^^^ ((sf g0 i 1) &&& (sf g0 i 2)))))), (2, .int (sf g0 i 0)), (3, .int (sf g0 i 1)), (4, .int (sf g0 i 2)), (5, .int ((sf g0 i 3) + (((((sf g0 i 7) + (((tn (sf g0 i 4) 6) ^^^ (tn (sf g0 i 4) 11)) ^^^ (tn (sf g0 i 4) 25))) + (((sf g0 i 4) &&& (sf g0 i 5)) ^^^ (((sf g0 i 4) ^^^ (-1)) &&& (sf g0 i 6)))) + (g_sha1.getD i 0)) + (spr g0 48 i)))), (6, .int (sf g0 i 4)), (7, .int (sf g0 i 5)), (8, .int (sf g0 i 6)), (11, .int ((((tn (sf g0 i 0) 2) ^^^ (tn (sf g0 i 0) 13)) ^^^ (tn (sf g0 i 0) 22)) + ((((sf g0 i 0) &&& (sf g0 i 1)) ^^^ ((sf g0 i 0) &&& (sf g0 i 2))) ^^^ ((sf g0 i 1) &&& (sf g0 i 2))))), (10, .int (((((sf g0 i 7) + (((tn (sf g0 i 4) 6) ^^^ (tn (sf g0 i 4) 11)) ^^^ (tn (sf g0 i 4) 25))) + (((sf g0 i 4) &&& (sf g0 i 5)) ^^^ (((sf g0 i 4) ^^^ (-1)) &&& (sf g0 i 6)))) + (g_sha1.getD i 0)) + (spr g0 48 i))), (9, .int (nI i)), (0, .ref 8)]) dX6_mixWords_186 rfl (by decide) rfl ?_
      refine g_iincN (z := 1) (ls' := [(9, .int (nI (i + 1))), (1, .int ((((((sf g0 i 7) + (((tn (sf g0 i 4) 6) ^^^ (tn (sf g0 i 4) 11)) ^^^ (tn (sf g0 i 4) 25))) + (((sf g0 i 4) &&& (sf g0 i 5)) ^^^ (((sf g0 i 4) ^^^ (-1)) &&& (sf g0 i 6)))) + (g_sha1.getD i 0)) + (spr g0 48 i)) + ((((tn (sf g0 i 0) 2) ^^^ (tn (sf g0 i 0) 13)) ^^^ (tn (sf g0 i 0) 22)) + ((((sf g0 i 0) &&& (sf g0 i 1)) ^^^ ((sf g0 i 0) &&& (sf g0 i 2))) ^^^ ((sf g0 i 1) &&& (sf g0 i 2)))))), (2, .int (sf g0 i 0)), (3, .int (sf g0 i 1)), (4, .int (sf g0 i 2)), (5, .int ((sf g0 i 3) + (((((sf g0 i 7) + (((tn (sf g0 i 4) 6) ^^^ (tn (sf g0 i 4) 11)) ^^^ (tn (sf g0 i 4) 25))) + (((sf g0 i 4) &&& (sf g0 i 5)) ^^^ (((sf g0 i 4) ^^^ (-1)) &&& (sf g0 i 6)))) + (g_sha1.getD i 0)) + (spr g0 48 i)))), (6, .int (sf g0 i 4)), (7, .int (sf g0 i 5)), (8, .int (sf g0 i 6)), (11, .int ((((tn (sf g0 i 0) 2) ^^^ (tn (sf g0 i 0) 13)) ^^^ (tn (sf g0 i 0) 22)) + ((((sf g0 i 0) &&& (sf g0 i 1)) ^^^ ((sf g0 i 0) &&& (sf g0 i 2))) ^^^ ((sf g0 i 1) &&& (sf g0 i 2))))), (10, .int (((((sf g0 i 7) + (((tn (sf g0 i 4) 6) ^^^ (tn (sf g0 i 4) 11)) ^^^ (tn (sf g0 i 4) 25))) + (((sf g0 i 4) &&& (sf g0 i 5)) ^^^ (((sf g0 i 4) ^^^ (-1)) &&& (sf g0 i 6)))) + (g_sha1.getD i 0)) + (spr g0 48 i))), (0, .ref 8)]) dX6_mixWords_187 rfl (by decide) rfl ?_
      refine g_goto (tgt := 58) dX6_mixWords_190 (by decide) ?_
      refine g_pick [0, 11, 1, 2, 3, 4, 5, 6, 7, 8] (ls' := [(9, .int (nI (i + 1))), (0, .ref 8), (1, .int ((((((sf g0 i 7) + (((tn (sf g0 i 4) 6) ^^^ (tn (sf g0 i 4) 11)) ^^^ (tn (sf g0 i 4) 25))) + (((sf g0 i 4) &&& (sf g0 i 5)) ^^^ (((sf g0 i 4) ^^^ (-1)) &&& (sf g0 i 6)))) + (g_sha1.getD i 0)) + (spr g0 48 i)) + ((((tn (sf g0 i 0) 2) ^^^ (tn (sf g0 i 0) 13)) ^^^ (tn (sf g0 i 0) 22)) + ((((sf g0 i 0) &&& (sf g0 i 1)) ^^^ ((sf g0 i 0) &&& (sf g0 i 2))) ^^^ ((sf g0 i 1) &&& (sf g0 i 2)))))), (2, .int (sf g0 i 0)), (3, .int (sf g0 i 1)), (4, .int (sf g0 i 2)), (5, .int ((sf g0 i 3) + (((((sf g0 i 7) + (((tn (sf g0 i 4) 6) ^^^ (tn (sf g0 i 4) 11)) ^^^ (tn (sf g0 i 4) 25))) + (((sf g0 i 4) &&& (sf g0 i 5)) ^^^ (((sf g0 i 4) ^^^ (-1)) &&& (sf g0 i 6)))) + (g_sha1.getD i 0)) + (spr g0 48 i)))), (6, .int (sf g0 i 4)), (7, .int (sf g0 i 5)), (8, .int (sf g0 i 6))]) rfl ?_
      exact ih (i + 1) (by omega) (by omega)
set_option maxHeartbeats 4000000 in
set_option maxRecDepth 100000 in
theorem c_mix (G : gG) (d n : Nat) (ex : Bool) (h : gH) {k : Nat} {f g g0 : Nat → Int32} (s1 : h 8 = some (.inr (6, [.ref 9, .ref 10, .ref 11, .int (nI k)]))) (s3 : h 10 = some (.inl (0, 64, .inl f))) (s4 : h 11 = some (.inl (0, 8, .inl g))) (hf : ∀ i, i < 64 → f i = spr g0 48 i) : g_M G mX6_mixWords (d + 1) 0 0 [.ref 8] n ex h (q_v n ex [11] h (fun h' => ∃ g', h' 11 = some (.inl (0, 8, .inl g')) ∧ ∀ i, i < 8 → g' i = g_sha0.getD i 0 + sf g0 64 i)) := by
  refine g_enter (by decide) (Nat.le_of_ble_eq_true rfl) ?_
  show g_W G _ _ _ n ex h 0 0 0 [(0, .ref 8)] []
  refine g_getsN (i := 1) (t := 1) (host := "PollAudit") dX6_mixWords_0 (by decide) (by decide) (by decide) (List.mem_of_getElem? (i := 731) (by decide +kernel)) ?_
  refine g_iconst (v := nI 0) dX6_mixWords_3 (by decide) ?_
  refine g_saldN dX6_mixWords_4 (t := 1) (by decide) (by decide) (show _ < 8 by decide) (show 8 < 2 ^ 31 by decide) ?_
  refine g_istore_n (ls' := [(1, .int (g_tf G 1 0)), (0, .ref 8)]) dX6_mixWords_5 rfl (by decide) rfl ?_
  refine g_getsN (i := 1) (t := 1) (host := "PollAudit") dX6_mixWords_6 (by decide) (by decide) (by decide) (List.mem_of_getElem? (i := 731) (by decide +kernel)) ?_
  refine g_iconst (v := nI 1) dX6_mixWords_9 (by decide) ?_
  refine g_saldN dX6_mixWords_10 (t := 1) (by decide) (by decide) (show _ < 8 by decide) (show 8 < 2 ^ 31 by decide) ?_
  refine g_istore_n (ls' := [(2, .int (g_tf G 1 1)), (1, .int (g_tf G 1 0)), (0, .ref 8)]) dX6_mixWords_11 rfl (by decide) rfl ?_
  refine g_getsN (i := 1) (t := 1) (host := "PollAudit") dX6_mixWords_12 (by decide) (by decide) (by decide) (List.mem_of_getElem? (i := 731) (by decide +kernel)) ?_
  refine g_iconst (v := nI 2) dX6_mixWords_15 (by decide) ?_
  refine g_saldN dX6_mixWords_16 (t := 1) (by decide) (by decide) (show _ < 8 by decide) (show 8 < 2 ^ 31 by decide) ?_
  refine g_istore_n (ls' := [(3, .int (g_tf G 1 2)), (2, .int (g_tf G 1 1)), (1, .int (g_tf G 1 0)), (0, .ref 8)]) dX6_mixWords_17 rfl (by decide) rfl ?_
  refine g_getsN (i := 1) (t := 1) (host := "PollAudit") dX6_mixWords_18 (by decide) (by decide) (by decide) (List.mem_of_getElem? (i := 731) (by decide +kernel)) ?_
  refine g_iconst (v := nI 3) dX6_mixWords_21 (by decide) ?_
  refine g_saldN dX6_mixWords_22 (t := 1) (by decide) (by decide) (show _ < 8 by decide) (show 8 < 2 ^ 31 by decide) ?_
  refine g_istore (ls' := [(4, .int (g_tf G 1 3)), (3, .int (g_tf G 1 2)), (2, .int (g_tf G 1 1)), (1, .int (g_tf G 1 0)), (0, .ref 8)]) dX6_mixWords_23 (by decide) rfl ?_
  refine g_getsN (i := 1) (t := 1) (host := "PollAudit") dX6_mixWords_25 (by decide) (by decide) (by decide) (List.mem_of_getElem? (i := 731) (by decide +kernel)) ?_
  refine g_iconst (v := nI 4) dX6_mixWords_28 (by decide) ?_
  refine g_saldN dX6_mixWords_29 (t := 1) (by decide) (by decide) (show _ < 8 by decide) (show 8 < 2 ^ 31 by decide) ?_
  refine g_istore (ls' := [(5, .int (g_tf G 1 4)), (4, .int (g_tf G 1 3)), (3, .int (g_tf G 1 2)), (2, .int (g_tf G 1 1)), (1, .int (g_tf G 1 0)), (0, .ref 8)]) dX6_mixWords_30 (by decide) rfl ?_
  refine g_getsN (i := 1) (t := 1) (host := "PollAudit") dX6_mixWords_32 (by decide) (by decide) (by decide) (List.mem_of_getElem? (i := 731) (by decide +kernel)) ?_
  refine g_iconst (v := nI 5) dX6_mixWords_35 (by decide) ?_
  refine g_saldN dX6_mixWords_36 (t := 1) (by decide) (by decide) (show _ < 8 by decide) (show 8 < 2 ^ 31 by decide) ?_
  refine g_istore (ls' := [(6, .int (g_tf G 1 5)), (5, .int (g_tf G 1 4)), (4, .int (g_tf G 1 3)), (3, .int (g_tf G 1 2)), (2, .int (g_tf G 1 1)), (1, .int (g_tf G 1 0)), (0, .ref 8)]) dX6_mixWords_37 (by decide) rfl ?_
  refine g_getsN (i := 1) (t := 1) (host := "PollAudit") dX6_mixWords_39 (by decide) (by decide) (by decide) (List.mem_of_getElem? (i := 731) (by decide +kernel)) ?_
  refine g_bipush (v := nI 6) dX6_mixWords_42 (by decide) ?_
  refine g_saldN dX6_mixWords_44 (t := 1) (by decide) (by decide) (show _ < 8 by decide) (show 8 < 2 ^ 31 by decide) ?_
  refine g_istore (ls' := [(7, .int (g_tf G 1 6)), (6, .int (g_tf G 1 5)), (5, .int (g_tf G 1 4)), (4, .int (g_tf G 1 3)), (3, .int (g_tf G 1 2)), (2, .int (g_tf G 1 1)), (1, .int (g_tf G 1 0)), (0, .ref 8)]) dX6_mixWords_45 (by decide) rfl ?_
  refine g_getsN (i := 1) (t := 1) (host := "PollAudit") dX6_mixWords_47 (by decide) (by decide) (by decide) (List.mem_of_getElem? (i := 731) (by decide +kernel)) ?_
  refine g_bipush (v := nI 7) dX6_mixWords_50 (by decide) ?_
  refine g_saldN dX6_mixWords_52 (t := 1) (by decide) (by decide) (show _ < 8 by decide) (show 8 < 2 ^ 31 by decide) ?_
  refine g_istore (ls' := [(8, .int (g_tf G 1 7)), (7, .int (g_tf G 1 6)), (6, .int (g_tf G 1 5)), (5, .int (g_tf G 1 4)), (4, .int (g_tf G 1 3)), (3, .int (g_tf G 1 2)), (2, .int (g_tf G 1 1)), (1, .int (g_tf G 1 0)), (0, .ref 8)]) dX6_mixWords_53 (by decide) rfl ?_
  refine g_iconst (v := nI 0) dX6_mixWords_55 (by decide) ?_
  refine g_istore (ls' := [(9, .int (nI 0)), (8, .int (g_tf G 1 7)), (7, .int (g_tf G 1 6)), (6, .int (g_tf G 1 5)), (5, .int (g_tf G 1 4)), (4, .int (g_tf G 1 3)), (3, .int (g_tf G 1 2)), (2, .int (g_tf G 1 1)), (1, .int (g_tf G 1 0)), (0, .ref 8)]) dX6_mixWords_56 (by decide) rfl ?_
  refine g_pick [0, 9, 8, 7, 6, 5, 4, 3, 2, 1] (ls' := [(9, .int (nI 0)), (0, .ref 8), (1, .int (g_tf G 1 0)), (2, .int (g_tf G 1 1)), (3, .int (g_tf G 1 2)), (4, .int (g_tf G 1 3)), (5, .int (g_tf G 1 4)), (6, .int (g_tf G 1 5)), (7, .int (g_tf G 1 6)), (8, .int (g_tf G 1 7))]) rfl ?_
  exact lp_mix G d n ex h s1 s3 s4 hf 65 0 (by omega) (by omega)
set_option maxHeartbeats 4000000 in
set_option maxRecDepth 100000 in
theorem lp_hash3 (G : gG) (d n : Nat) (ex : Bool) (h0 : gH) {dg : Nat → Nat} {k num : Nat} {g : Nat → Int32} (hk : k ≤ 20) (hdg : ∀ i, dg i < 2 ^ 30) (hn1 : num < 2 ^ 31) : ∀ (t j : Nat) (f : Nat → Int32) (h : gH), 10 - j < t → j ≤ 10 → (∀ i, i < 16 → f i = pk_ (nd dg k num j).2 i) → h 8 = some (.inr (6, [.ref 9, .ref 10, .ref 11, .int (nI k)])) → h 9 = some (.inl (0, 20, .inl (fun i => nI (dg i)))) → h 10 = some (.inl (0, 64, .inl f)) → h 11 = some (.inl (0, 8, .inl g)) → g_fr [10, 11] h0 h →
    g_W G mX6_hashWith (g_rm (d + 2) 0 0) (g_K G (q_v n ex [10, 11] h0 (fun h' => (∃ f', h' 10 = some (.inl (0, 64, .inl f'))) ∧ ∃ g', h' 11 = some (.inl (0, 8, .inl g')) ∧ ∀ i, i < 8 → g' i = shaO dg k num i)) 0 0) n ex h 0 0 65 [(3, .int (nI (ut j))), (2, .int (nI ((nd dg k num j).1))), (0, .ref 8), (1, .int (nI num))] [] := by
  intro t
  induction t with
  | zero => intro j f h hm; exact absurd hm (by omega)
  | succ t ih =>
    intro j f h ht hj hf s1 s2 s3 s4 hfr
    have hu := ut_le j
    have hnl := nd_le dg k num j
    refine g_iload_n dX6_hashWith_65 rfl rfl ?_
    refine g_if_leN (tgt := 97) dX6_hashWith_66 (by decide) (by omega) (fun c66 => ?_) (fun c66 => ?_)
    · have ej : j = 10 := by (have := @ut_pos j); omega
      subst ej
      refine g_aload_n dX6_hashWith_97 rfl rfl ?_
      refine g_iload_n dX6_hashWith_98 rfl rfl ?_
      refine g_sipush (v := nI 128) dX6_hashWith_99 (by decide) ?_
      refine cVi (st := []) dX6_hashWith_102 (c_putByte G d n ex h (s1) (s2) (s3) (s4) (p := ((nd dg k num 10).1)) (v := 128) (by omega)) sX6_35 s1 rfl rfl (by simp only [g_rm]; omega) (by simp only [g_rm]; omega) (Nat.le_of_ble_eq_true rfl) ⟨Nat.le_of_ble_eq_true rfl, Nat.le_of_ble_eq_true rfl⟩ (fun r4 h1 fr2 p3 => ?_)
      obtain ⟨rfl, p3b⟩ := p3
      have p3 := And.intro trivial p3b
      refine g_pop dX6_hashWith_105 rfl ?_
      refine g_aload_n dX6_hashWith_106 rfl rfl ?_
      refine g_getf dX6_hashWith_107 fX6_15 (fr2.at (by intro q; simp only [List.mem_cons, List.not_mem_nil, or_false] at q; omega) s1) rfl ?_
      refine g_bipush (v := nI 15) dX6_hashWith_110 (by decide) ?_
      refine g_bipush (v := nI 8) dX6_hashWith_112 (by decide) ?_
      refine g_iload_n dX6_hashWith_114 rfl rfl ?_
      refine g_imulN dX6_hashWith_115 ?_
      refine g_iastN dX6_hashWith_116 p3.2 (by decide) (by decide) ?_
      have hw : ∀ i, i < 16 → (upd (upd f (((nd dg k num 10).1) / 4) (f (((nd dg k num 10).1) / 4) ||| nI (128) <<< (nI (24 - 8 * (((nd dg k num 10).1) % 4)) &&& 31))) 15 (nI (8 * ((nd dg k num 10).1)))) i = hmsg dg k num i := by
        intro i hi
        show (if i = 15 then _ else _) = if i = 15 then _ else _
        by_cases q : i = 15
        · rw [if_pos q, if_pos q]
        · rw [if_neg q, if_neg q]
          exact pk_put (by omega) (nd_0 dg k num 10 _ (Nat.le_refl _)) hf i hi
      refine g_aload_n dX6_hashWith_117 rfl rfl ?_
      refine cVv (st := []) dX6_hashWith_118 (c_spread G (d) n ex (g_up h1 10 (.inl (0, 64, .inl (upd (upd f (((nd dg k num 10).1) / 4) (f (((nd dg k num 10).1) / 4) ||| nI (128) <<< (nI (24 - 8 * (((nd dg k num 10).1) % 4)) &&& 31))) 15 (nI (8 * ((nd dg k num 10).1))))))) (g_ne (by decide) (fr2.at (by intro q; simp only [List.mem_cons, List.not_mem_nil, or_false] at q; omega) s1)) (g_eq) (g0 := hmsg dg k num) hw) sX6_40 (g_ne (by decide) (fr2.at (by intro q; simp only [List.mem_cons, List.not_mem_nil, or_false] at q; omega) s1)) rfl rfl (by simp only [g_rm]; omega) (by simp only [g_rm]; omega) (Nat.le_of_ble_eq_true rfl) ⟨Nat.le_of_ble_eq_true rfl, Nat.le_of_ble_eq_true rfl⟩ (fun h5 fr6 p7 => ?_)
      obtain ⟨fw, q1, q2⟩ := p7
      refine g_aload_n dX6_hashWith_121 rfl rfl ?_
      refine cVv (st := []) dX6_hashWith_122 (c_mix G (d) n ex h5 (fr6.at (by intro q; simp only [List.mem_cons, List.not_mem_nil, or_false] at q; omega) (g_ne (by decide) (fr2.at (by intro q; simp only [List.mem_cons, List.not_mem_nil, or_false] at q; omega) s1))) (q1) (fr6.at (by intro q; simp only [List.mem_cons, List.not_mem_nil, or_false] at q; omega) (g_ne (by decide) (fr2.at (by intro q; simp only [List.mem_cons, List.not_mem_nil, or_false] at q; omega) s4))) (g0 := hmsg dg k num) q2) sX6_43 (fr6.at (by intro q; simp only [List.mem_cons, List.not_mem_nil, or_false] at q; omega) (g_ne (by decide) (fr2.at (by intro q; simp only [List.mem_cons, List.not_mem_nil, or_false] at q; omega) s1))) rfl rfl (by simp only [g_rm]; omega) (by simp only [g_rm]; omega) (Nat.le_of_ble_eq_true rfl) ⟨Nat.le_of_ble_eq_true rfl, Nat.le_of_ble_eq_true rfl⟩ (fun h9 fr10 p11 => ?_)
      obtain ⟨gw, q3, q4⟩ := p11
      exact e_v dX6_hashWith_125 rfl (((((hfr).tr fr2 (by simp)).up (by simp)).tr fr6 (by simp)).tr fr10 (by simp)) ⟨⟨_, fr10.at (by intro q; simp only [List.mem_cons, List.not_mem_nil, or_false] at q; omega) q1⟩, _, q3, q4⟩ (by decide) (by decide)
    · have hj10 : j < 10 := by rcases Nat.lt_or_ge j 10 with q | q; exact q; exact absurd c66 (by rw [show j = 10 by omega, ut_10]; decide)
      refine g_iload_n dX6_hashWith_69 rfl rfl ?_
      refine g_iload_n dX6_hashWith_70 rfl rfl ?_
      refine g_icmp_ltN (tgt := 89) dX6_hashWith_71 (by decide) (by omega) (by omega) (fun c71 => ?_) (fun c71 => ?_)
      · refine g_iload_n dX6_hashWith_89 rfl rfl ?_
        refine g_bipush (v := nI 10) dX6_hashWith_90 (by decide) ?_
        refine g_idivN dX6_hashWith_92 (by omega) (by omega) (by omega) ?_
        refine g_istore_n (ls' := [(3, .int (nI ((ut j) / 10))), (2, .int (nI ((nd dg k num j).1))), (0, .ref 8), (1, .int (nI num))]) dX6_hashWith_93 rfl (by decide) rfl ?_
        refine g_goto (tgt := 65) dX6_hashWith_94 (by decide) ?_
        refine g_pick [0, 1, 2, 3] (ls' := [(3, .int (nI ((ut j) / 10))), (2, .int (nI ((nd dg k num j).1))), (0, .ref 8), (1, .int (nI num))]) rfl ?_
        rw [ut_s]
        have e : nd dg k num (j + 1) = nd dg k num j := if_pos c71
        have := ih (j + 1) (f) h (by omega) (by omega) (by rw [e]; exact hf) s1 s2 s3 s4 (hfr)
        rw [e] at this
        exact this
      · have hdiv := Nat.div_le_self num (ut j)
        refine g_aload_n dX6_hashWith_74 rfl rfl ?_
        refine g_iload_n dX6_hashWith_75 rfl rfl ?_
        refine g_bipush (v := nI 48) dX6_hashWith_76 (by decide) ?_
        refine g_iload_n dX6_hashWith_78 rfl rfl ?_
        refine g_iload_n dX6_hashWith_79 rfl rfl ?_
        refine g_idivN dX6_hashWith_80 (by omega) (by omega) (by omega) ?_
        refine g_bipush (v := nI 10) dX6_hashWith_81 (by decide) ?_
        refine g_iremN dX6_hashWith_83 (by omega) (by omega) (by omega) ?_
        refine g_iaddN dX6_hashWith_84 ?_
        refine cVi (st := []) dX6_hashWith_85 (c_putByte G d n ex h (s1) (s2) (s3) (s4) (p := ((nd dg k num j).1)) (v := (48 + ((num / (ut j)) % 10))) (by omega)) sX6_35 s1 rfl rfl (by simp only [g_rm]; omega) (by simp only [g_rm]; omega) (Nat.le_of_ble_eq_true rfl) ⟨Nat.le_of_ble_eq_true rfl, Nat.le_of_ble_eq_true rfl⟩ (fun r16 h13 fr14 p15 => ?_)
        obtain ⟨rfl, p15b⟩ := p15
        have p15 := And.intro trivial p15b
        refine g_istore_n (ls' := [(2, .int (nI (((nd dg k num j).1) + 1))), (3, .int (nI (ut j))), (0, .ref 8), (1, .int (nI num))]) dX6_hashWith_88 rfl (by decide) rfl ?_
        refine g_iload_n dX6_hashWith_89 rfl rfl ?_
        refine g_bipush (v := nI 10) dX6_hashWith_90 (by decide) ?_
        refine g_idivN dX6_hashWith_92 (by omega) (by omega) (by omega) ?_
        refine g_istore_n (ls' := [(3, .int (nI ((ut j) / 10))), (2, .int (nI (((nd dg k num j).1) + 1))), (0, .ref 8), (1, .int (nI num))]) dX6_hashWith_93 rfl (by decide) rfl ?_
        refine g_goto (tgt := 65) dX6_hashWith_94 (by decide) ?_
        refine g_pick [0, 1, 2, 3] (ls' := [(3, .int (nI ((ut j) / 10))), (2, .int (nI (((nd dg k num j).1) + 1))), (0, .ref 8), (1, .int (nI num))]) rfl ?_
        rw [ut_s]
        have e : nd dg k num (j + 1) = ((nd dg k num j).1 + 1, va_up (nd dg k num j).2 (nd dg k num j).1 (48 + num / ut j % 10)) := if_neg (by omega)
        have := ih (j + 1) ((upd f (((nd dg k num j).1) / 4) (f (((nd dg k num j).1) / 4) ||| nI ((48 + ((num / (ut j)) % 10))) <<< (nI (24 - 8 * (((nd dg k num j).1) % 4)) &&& 31)))) h13 (by omega) (by omega) (by rw [e]; exact pk_put (by omega) (nd_0 dg k num j _ (Nat.le_refl _)) hf) (fr14.at (by intro q; simp only [List.mem_cons, List.not_mem_nil, or_false] at q; omega) s1) (fr14.at (by intro q; simp only [List.mem_cons, List.not_mem_nil, or_false] at q; omega) s2) p15.2 (fr14.at (by intro q; simp only [List.mem_cons, List.not_mem_nil, or_false] at q; omega) s4) ((hfr).tr fr14 (by simp))
        rw [e] at this
        exact this
set_option maxHeartbeats 4000000 in
set_option maxRecDepth 100000 in
theorem lp_hash2 (G : gG) (d n : Nat) (ex : Bool) (h0 : gH) {dg : Nat → Nat} {k num : Nat} {g : Nat → Int32} (hk : k ≤ 20) (hdg : ∀ i, dg i < 2 ^ 30) (hn1 : num < 2 ^ 31) : ∀ (t i : Nat) (f : Nat → Int32) (h : gH), k - i < t → i ≤ k → (∀ j, j < 16 → f j = pk_ (dM dg i) j) → h 8 = some (.inr (6, [.ref 9, .ref 10, .ref 11, .int (nI k)])) → h 9 = some (.inl (0, 20, .inl (fun i => nI (dg i)))) → h 10 = some (.inl (0, 64, .inl f)) → h 11 = some (.inl (0, 8, .inl g)) → g_fr [10, 11] h0 h →
    g_W G mX6_hashWith (g_rm (d + 2) 0 0) (g_K G (q_v n ex [10, 11] h0 (fun h' => (∃ f', h' 10 = some (.inl (0, 64, .inl f'))) ∧ ∃ g', h' 11 = some (.inl (0, 8, .inl g')) ∧ ∀ i, i < 8 → g' i = shaO dg k num i)) 0 0) n ex h 0 0 25 [(3, .int (nI i)), (2, .int (nI i)), (0, .ref 8), (1, .int (nI num))] [] := by
  intro t
  induction t with
  | zero => intro i f h hm; exact absurd hm (by omega)
  | succ t ih =>
    intro i f h ht hi hf s1 s2 s3 s4 hfr
    refine g_iload_n dX6_hashWith_25 rfl rfl ?_
    refine g_aload_n dX6_hashWith_26 rfl rfl ?_
    refine g_getf dX6_hashWith_27 fX6_21 s1 rfl ?_
    refine g_icmp_geN (tgt := 54) dX6_hashWith_30 (by decide) (by omega) (by omega) (fun c30 => ?_) (fun c30 => ?_)
    · refine g_aload_n dX6_hashWith_54 rfl rfl ?_
      refine g_iload_n dX6_hashWith_55 rfl rfl ?_
      refine g_bipush (v := nI 44) dX6_hashWith_56 (by decide) ?_
      refine cVi (st := []) dX6_hashWith_58 (c_putByte G d n ex h (s1) (s2) (s3) (s4) (p := i) (v := 44) (by omega)) sX6_35 s1 rfl rfl (by simp only [g_rm]; omega) (by simp only [g_rm]; omega) (Nat.le_of_ble_eq_true rfl) ⟨Nat.le_of_ble_eq_true rfl, Nat.le_of_ble_eq_true rfl⟩ (fun r4 h1 fr2 p3 => ?_)
      obtain ⟨rfl, p3b⟩ := p3
      have p3 := And.intro trivial p3b
      refine g_istore_n (ls' := [(2, .int (nI (i + 1))), (3, .int (nI i)), (0, .ref 8), (1, .int (nI num))]) dX6_hashWith_61 rfl (by decide) rfl ?_
      refine g_ldc dX6_hashWith_62 kX6_39 rfl ?_
      refine g_top (show (1000000000 : Int32) = nI 1000000000 by decide) ?_
      refine g_istore_n (ls' := [(3, .int (nI 1000000000)), (2, .int (nI (i + 1))), (0, .ref 8), (1, .int (nI num))]) dX6_hashWith_64 rfl (by decide) rfl ?_
      have e : i = k := by omega
      subst e
      refine g_pick [0, 1, 2, 3] (ls' := [(3, .int (nI 1000000000)), (2, .int (nI (i + 1))), (0, .ref 8), (1, .int (nI num))]) rfl ?_
      exact lp_hash3 G d n ex h0 hk hdg hn1 11 0 ((upd f (i / 4) (f (i / 4) ||| nI (44) <<< (nI (24 - 8 * (i % 4)) &&& 31)))) h1 (by omega) (by omega) (pk_put (by omega) (if_neg (Nat.lt_irrefl i)) hf) (fr2.at (by intro q; simp only [List.mem_cons, List.not_mem_nil, or_false] at q; omega) s1) (fr2.at (by intro q; simp only [List.mem_cons, List.not_mem_nil, or_false] at q; omega) s2) p3.2 (fr2.at (by intro q; simp only [List.mem_cons, List.not_mem_nil, or_false] at q; omega) s4) ((hfr).tr fr2 (by simp))
    · have hdi := hdg i
      refine g_aload_n dX6_hashWith_33 rfl rfl ?_
      refine g_iload_n dX6_hashWith_34 rfl rfl ?_
      refine g_bipush (v := nI 48) dX6_hashWith_35 (by decide) ?_
      refine g_aload_n dX6_hashWith_37 rfl rfl ?_
      refine g_getf dX6_hashWith_38 fX6_9 s1 rfl ?_
      refine g_iload_n dX6_hashWith_41 rfl rfl ?_
      refine g_ialdN dX6_hashWith_42 s2 (by omega) (by decide) ?_
      refine g_iaddN dX6_hashWith_43 ?_
      refine cVi (st := []) dX6_hashWith_44 (c_putByte G d n ex h (s1) (s2) (s3) (s4) (p := i) (v := (48 + (dg i))) (by omega)) sX6_35 s1 rfl rfl (by simp only [g_rm]; omega) (by simp only [g_rm]; omega) (Nat.le_of_ble_eq_true rfl) ⟨Nat.le_of_ble_eq_true rfl, Nat.le_of_ble_eq_true rfl⟩ (fun r8 h5 fr6 p7 => ?_)
      obtain ⟨rfl, p7b⟩ := p7
      have p7 := And.intro trivial p7b
      refine g_istore_n (ls' := [(2, .int (nI (i + 1))), (3, .int (nI i)), (0, .ref 8), (1, .int (nI num))]) dX6_hashWith_47 rfl (by decide) rfl ?_
      refine g_iincN (z := 1) (ls' := [(3, .int (nI (i + 1))), (2, .int (nI (i + 1))), (0, .ref 8), (1, .int (nI num))]) dX6_hashWith_48 rfl (by decide) rfl ?_
      refine g_goto (tgt := 25) dX6_hashWith_51 (by decide) ?_
      refine g_pick [0, 1, 2, 3] (ls' := [(3, .int (nI (i + 1))), (2, .int (nI (i + 1))), (0, .ref 8), (1, .int (nI num))]) rfl ?_
      exact ih (i + 1) ((upd f (i / 4) (f (i / 4) ||| nI ((48 + (dg i))) <<< (nI (24 - 8 * (i % 4)) &&& 31)))) h5 (by omega) (by omega) (by rw [← dM_s]; exact pk_put (by omega) (if_neg (Nat.lt_irrefl i)) hf) (fr6.at (by intro q; simp only [List.mem_cons, List.not_mem_nil, or_false] at q; omega) s1) (fr6.at (by intro q; simp only [List.mem_cons, List.not_mem_nil, or_false] at q; omega) s2) p7.2 (fr6.at (by intro q; simp only [List.mem_cons, List.not_mem_nil, or_false] at q; omega) s4) ((hfr).tr fr6 (by simp))
set_option maxHeartbeats 4000000 in
set_option maxRecDepth 100000 in
theorem lp_hash1 (G : gG) (d n : Nat) (ex : Bool) (h0 : gH) {dg : Nat → Nat} {k num : Nat} {g : Nat → Int32} (hk : k ≤ 20) (hdg : ∀ i, dg i < 2 ^ 30) (hn1 : num < 2 ^ 31) : ∀ (t i : Nat) (f : Nat → Int32) (h : gH), 16 - i < t → i ≤ 16 → (∀ j, j < i → f j = 0) → h 8 = some (.inr (6, [.ref 9, .ref 10, .ref 11, .int (nI k)])) → h 9 = some (.inl (0, 20, .inl (fun i => nI (dg i)))) → h 10 = some (.inl (0, 64, .inl f)) → h 11 = some (.inl (0, 8, .inl g)) → g_fr [10, 11] h0 h →
    g_W G mX6_hashWith (g_rm (d + 2) 0 0) (g_K G (q_v n ex [10, 11] h0 (fun h' => (∃ f', h' 10 = some (.inl (0, 64, .inl f'))) ∧ ∃ g', h' 11 = some (.inl (0, 8, .inl g')) ∧ ∀ i, i < 8 → g' i = shaO dg k num i)) 0 0) n ex h 0 0 2 [(2, .int (nI i)), (0, .ref 8), (1, .int (nI num))] [] := by
  intro t
  induction t with
  | zero => intro i f h hm; exact absurd hm (by omega)
  | succ t ih =>
    intro i f h ht hi hf s1 s2 s3 s4 hfr
    refine g_iload_n dX6_hashWith_2 rfl rfl ?_
    refine g_bipush (v := nI 16) dX6_hashWith_3 (by decide) ?_
    refine g_icmp_geN (tgt := 21) dX6_hashWith_5 (by decide) (by omega) (by decide) (fun c5 => ?_) (fun c5 => ?_)
    · refine g_iconst (v := nI 0) dX6_hashWith_21 (by decide) ?_
      refine g_istore_n (ls' := [(2, .int (nI 0)), (0, .ref 8), (1, .int (nI num))]) dX6_hashWith_22 rfl (by decide) rfl ?_
      refine g_iconst (v := nI 0) dX6_hashWith_23 (by decide) ?_
      refine g_istore_n (ls' := [(3, .int (nI 0)), (2, .int (nI 0)), (0, .ref 8), (1, .int (nI num))]) dX6_hashWith_24 rfl (by decide) rfl ?_
      refine g_pick [0, 1, 2, 3] (ls' := [(3, .int (nI 0)), (2, .int (nI 0)), (0, .ref 8), (1, .int (nI num))]) rfl ?_
      exact lp_hash2 G d n ex h0 hk hdg hn1 (k + 1) 0 (f) h (by omega) (by omega) (fun j hj => by rw [hf j (by omega)]; unfold pk_ dM; rw [if_neg (by omega), if_neg (by omega), if_neg (by omega), if_neg (by omega)]; rfl) s1 s2 s3 s4 (hfr)
    · refine g_aload_n dX6_hashWith_8 rfl rfl ?_
      refine g_getf dX6_hashWith_9 fX6_15 s1 rfl ?_
      refine g_iload_n dX6_hashWith_12 rfl rfl ?_
      refine g_iconst (v := nI 0) dX6_hashWith_13 (by decide) ?_
      refine g_iastN dX6_hashWith_14 s3 (by omega) (by decide) ?_
      refine g_iincN (z := 1) (ls' := [(2, .int (nI (i + 1))), (0, .ref 8), (1, .int (nI num))]) dX6_hashWith_15 rfl (by decide) rfl ?_
      refine g_goto (tgt := 2) dX6_hashWith_18 (by decide) ?_
      refine g_pick [0, 1, 2] (ls' := [(2, .int (nI (i + 1))), (0, .ref 8), (1, .int (nI num))]) rfl ?_
      exact ih (i + 1) (upd f i (nI 0)) (g_up h 10 (.inl (0, 64, .inl (upd f i (nI 0))))) (by omega) (by omega) (fun j hj => by show (if j = i then _ else _) = _; by_cases q : j = i; (rw [if_pos q]; rfl); (rw [if_neg q]; exact hf j (by omega))) (g_ne (by decide) s1) (g_ne (by decide) s2) g_eq (g_ne (by decide) s4) (hfr.up (by simp))
set_option maxHeartbeats 4000000 in
set_option maxRecDepth 100000 in
theorem c_hashWith (G : gG) (d n : Nat) (ex : Bool) (h : gH) {dg : Nat → Nat} {k num : Nat} (hk : k ≤ 20) (hdg : ∀ i, dg i < 2 ^ 30) (hn1 : num < 2 ^ 31) (hS : Sd h dg k) : g_M G mX6_hashWith (d + 2) 0 0 [.ref 8, .int (nI num)] n ex h (q_v n ex [10, 11] h (fun h' => (∃ f', h' 10 = some (.inl (0, 64, .inl f'))) ∧ ∃ g', h' 11 = some (.inl (0, 8, .inl g')) ∧ ∀ i, i < 8 → g' i = shaO dg k num i)) := by
  obtain ⟨s1, s2, ⟨f, s3⟩, g, s4⟩ := hS
  refine g_enter (by decide) (Nat.le_of_ble_eq_true rfl) ?_
  show g_W G _ _ _ n ex h 0 0 0 [(0, .ref 8), (1, .int (nI num))] []
  refine g_iconst (v := nI 0) dX6_hashWith_0 (by decide) ?_
  refine g_istore_n (ls' := [(2, .int (nI 0)), (0, .ref 8), (1, .int (nI num))]) dX6_hashWith_1 rfl (by decide) rfl ?_
  refine g_pick [0, 1, 2] (ls' := [(2, .int (nI 0)), (0, .ref 8), (1, .int (nI num))]) rfl ?_
  exact lp_hash1 G d n ex h hk hdg hn1 17 0 f h (by omega) (by omega) (fun j hj => absurd hj (Nat.not_lt_zero j)) s1 s2 s3 s4 g_fr.rf
