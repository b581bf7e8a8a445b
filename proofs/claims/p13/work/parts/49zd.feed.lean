/-! what feed writes: four bytes of each number, the highest first -/
theorem fe_25 : ∀ i : Fin 32, ¬ i.val < 8 → (255#32)[i.val] = false := by decide
theorem fe_bv (x : BitVec 32) (s : Nat) (hs : s ≤ 24) : (x.sshiftRight s) &&& 255#32 = (x >>> s) &&& 255#32 := by
  ext i hi
  rw [BitVec.getElem_and, BitVec.getElem_and, BitVec.getElem_sshiftRight, BitVec.getElem_ushiftRight]
  by_cases h : i < 8
  · have : s + i < 32 := by omega
    simp [this]
  · rw [fe_25 ⟨i, hi⟩ h, Bool.and_false, Bool.and_false]
def fe_y (v s : Int32) : Int32 := (v.toUInt32 >>> (s.toUInt32 &&& Int32.toUInt32 31)).toInt32 &&& 255
theorem fe_sh (x s : Int32) (hs : s = 0 ∨ s = 8 ∨ s = 16 ∨ s = 24) : (x >>> (s &&& 31)) &&& 255 = fe_y x s := by
  unfold fe_y
  rcases hs with h | h | h | h <;> subst h <;> (apply Int32.toBitVec_inj.mp; exact fe_bv x.toBitVec _ (by decide))
def fe_n (k : Nat) : Int32 := if k % 4 = 0 then 24 else if k % 4 = 1 then 16 else if k % 4 = 2 then 8 else 0
theorem fe_n4 {k : Nat} : fe_n k = 0 ∨ fe_n k = 8 ∨ fe_n k = 16 ∨ fe_n k = 24 := by
  unfold fe_n
  split
  · exact Or.inr (Or.inr (Or.inr rfl))
  · split
    · exact Or.inr (Or.inr (Or.inl rfl))
    · split
      · exact Or.inr (Or.inl rfl)
      · exact Or.inl rfl
theorem fe_nI {k : Nat} {x : Int32} (h : x.toInt = 24 - 8 * ((k % 4 : Nat) : Int)) : x = fe_n k := by
  apply Int32.toInt_inj.mp
  have e24 : (24 : Int32).toInt = 24 := rfl
  have e16 : (16 : Int32).toInt = 16 := rfl
  have e8 : (8 : Int32).toInt = 8 := rfl
  have e0 : (0 : Int32).toInt = 0 := rfl
  unfold fe_n
  split
  · omega
  · split
    · omega
    · split
      · omega
      · omega
theorem fe_nM {k : Nat} : fe_n (k % 4) = fe_n k := by
  unfold fe_n
  rw [Nat.mod_mod]
theorem fe_nR {x5 x24 x25 x26 : Int32} (h0 : 0 ≤ x5.toInt) (h24 : x24.toInt = x5.toInt.tmod (4 : Int32).toInt) (h25 : x25.toInt = 8 * x24.toInt) (h26 : x26.toInt = 24 - x25.toInt) : x26 = fe_n x5.toInt.toNat := by
  apply fe_nI
  have e4 : (4 : Int32).toInt = 4 := rfl
  rw [e4, Int.tmod_eq_emod_of_nonneg h0] at h24
  omega
def fe_a (a b c d e : Int32) (k : Nat) : Int32 := if k < 4 then a else if k < 8 then b else if k < 12 then c else if k < 16 then d else e
def fe_b (a b c d e : Int32) (k : Nat) : Int32 := fe_y (fe_a a b c d e k) (fe_n k)
theorem fe_b0 {a b c d e : Int32} {k : Nat} (h : k < 4) : fe_b a b c d e k = fe_y a (fe_n k) := by
  unfold fe_b fe_a
  rw [if_pos h]
theorem fe_b1 {a b c d e : Int32} {k : Nat} (h : 4 ≤ k ∧ k < 8) : fe_b a b c d e k = fe_y b (fe_n k) := by
  unfold fe_b fe_a
  rw [if_neg (by omega), if_pos h.2]
theorem fe_b2 {a b c d e : Int32} {k : Nat} (h : 8 ≤ k ∧ k < 12) : fe_b a b c d e k = fe_y c (fe_n k) := by
  unfold fe_b fe_a
  rw [if_neg (by omega), if_neg (by omega), if_pos h.2]
theorem fe_b3 {a b c d e : Int32} {k : Nat} (h : 12 ≤ k ∧ k < 16) : fe_b a b c d e k = fe_y d (fe_n k) := by
  unfold fe_b fe_a
  rw [if_neg (by omega), if_neg (by omega), if_neg (by omega), if_pos h.2]
theorem fe_b4 {a b c d e : Int32} {k : Nat} (h : 16 ≤ k) : fe_b a b c d e k = fe_y e (fe_n k) := by
  unfold fe_b fe_a
  rw [if_neg (by omega), if_neg (by omega), if_neg (by omega), if_neg (by omega)]
theorem fe_n8 {k q : Nat} : fe_n (4 * q + k) = fe_n k := by
  unfold fe_n
  rw [show (4 * q + k) % 4 = k % 4 by omega]
/-- the tape ref of c at a: as it was below n, then the bytes f below m -/
def fe_T (c a n m : Nat) (gt : Nat → Int32) (f : Nat → Int32) (G : iv_G) : Prop := ∃ (gt' : Nat → Int32) (rt' : Nat → Nat), G a = some (c, gt', rt') ∧ (∀ i, i < n → gt' i = gt i) ∧ ∀ k, k < m → gt' (n + k) = f k
theorem fe_T.zero {c a n : Nat} {gt f : Nat → Int32} {rt : Nat → Nat} {G : iv_G} (h : G a = some (c, gt, rt)) : fe_T c a n 0 gt f G := ⟨gt, rt, h, fun _ _ => rfl, fun _ h => absurd h (Nat.not_lt_zero _)⟩
theorem fe_T.keep {c a n m : Nat} {gt f : Nat → Int32} {R : iv_K → iv_K → Prop} {S : List Nat} {G G' : iv_G} (h : fe_T c a n m gt f G) (hm : iv_mod R S G G') (hS : c ∉ S) : fe_T c a n m gt f G' := by
  obtain ⟨g, r, h1, h2⟩ := h
  exact ⟨g, r, hm.at h1 hS, h2⟩
theorem fe_T.put {c a b n m : Nat} {gt f g : Nat → Int32} {r : Nat → Nat} {G : iv_G} {j : Nat} {x : Int32} (h : fe_T c a n m gt f G) (eb : b = a) (hb : G b = some (c, g, r)) (hj : j = n + m) (hx : x = f m) : fe_T c a n (m + 1) gt f (iv_up G b (c, upd g j x, r)) := by
  subst eb
  obtain ⟨g', r', h1, h2, h3⟩ := h
  cases hb.symm.trans h1
  refine ⟨_, _, iv_up_eq, fun i hi => ?_, fun k hk => ?_⟩
  · show (if i = j then x else g i) = gt i
    rw [if_neg (by omega)]
    exact h2 i hi
  · show (if n + k = j then x else g (n + k)) = f k
    by_cases e : k = m
    · rw [if_pos (by omega), hx, e]
    · rw [if_neg (by omega)]
      exact h3 k (by omega)
theorem fe_T.cut {c a n m : Nat} {gt f f' : Nat → Int32} {G : iv_G} (h : fe_T c a n m gt f G) {m' : Nat} (hm : m' ≤ m) (e : ∀ k, k < m' → f k = f' k) : fe_T c a n m' gt f' G := by
  obtain ⟨g, r, h1, h2, h3⟩ := h
  exact ⟨g, r, h1, h2, fun k hk => (h3 k (by omega)).trans (e k hk)⟩
/-- four more -/
theorem fe_T.more {c a n m m2 n2 : Nat} {gt f f2 : Nat → Int32} {G G' : iv_G} (h : fe_T c a n m gt f G) (h2 : ∀ (g : Nat → Int32) (r : Nat → Nat), G a = some (c, g, r) → fe_T c a n2 m2 g f2 G') (en : n2 = n + m) (ef : ∀ k, k < m2 → f2 k = f (m + k)) : fe_T c a n (m + m2) gt f G' := by
  obtain ⟨g, r, w1, w2, w3⟩ := h
  obtain ⟨g', r', u1, u2, u3⟩ := h2 g r w1
  refine ⟨g', r', u1, fun i hi => (u2 i (by omega)).trans (w2 i hi), fun k hk => ?_⟩
  by_cases e : k < m
  · exact (u2 _ (by omega)).trans (w3 k e)
  · have w := u3 (k - m) (by omega)
    rw [show n2 + (k - m) = n + k by omega, ef _ (by omega), show m + (k - m) = k by omega] at w
    exact w
set_option maxHeartbeats 4000000 in
set_option maxRecDepth 100000 in
theorem f_X11_putNumber (l : Launch) (D : va_G) (tys : List (ClassId × FieldType)) (base : Nat) (G : iv_G) (h0 : Nat) (g_h0 : Nat → Int32) (r_h0 : Nat → Nat) (a_h0 : G h0 = some (11, g_h0, r_h0)) (n_g_h0 : iv_R 0 396 (g_h0 5)) (x_0 : Int32) (i_x_0 : iv_R (-2147483648) 2147483647 x_0) (gt : Nat → Int32) (rt9 : Nat → Nat) (ht : G (r_h0 4) = some (45, gt, rt9)) : Met l yX11_putNumber (Cond.code yX11_putNumber cX11_putNumber 3 none :: iv_W0) ({ frames := 0, cells := 0, slots := 0, locals := 0 }) (iv_Pc iv_sh D classes tys base G [.ref h0, .int x_0]) (iv_Qv iv_sh D classes tys base (fun G' => iv_MdT [11, 45] G G' ∧ (∀ (g' : Nat → Int32) (r' : Nat → Nat), G' h0 = some (11, g', r') → (g' 5).toInt = (g_h0 5).toInt + 4) ∧ (fe_T 45 (r_h0 4) (g_h0 5).toInt.toNat 4 gt (fun k => fe_y x_0 (fe_n k)) G'))) 0 0 (iv_A base) := by
  refine iv_head (by decide) (Nat.le_of_ble_eq_true rfl) ?_
  intro p e s m args below meth c ls X hr hlocks hname hB hl
  have X := X
  have hx := X.1.1
  have hb := X.1.2.1
  have hM : iv_MdT [11, 45] G G := iv_MdT.rf
  have hl : lv_has ls 3 [(0, .ref h0), (1, .int x_0)] := hl
  refine lv_bipush (v := 24) hx hb dX11_putNumber_0 (by decide) ?_
  refine lv_istore_n (lv' := [(2, .int 24), (0, .ref h0), (1, .int x_0)]) hx hb dX11_putNumber_2 rfl hl (by decide) rfl (fun ls hl => ?_)
  have L_3 : ∀ (n_3 : Nat) (G4 : iv_G) (hM : iv_MdT [11, 45] G G4) (H : Heap) (locs : List Loc) (hB : iv_B iv_sh D classes tys base G4 s.heap H locs) (g2 : Nat → Int32) (r3 : Nat → Nat) (a_h0 : G4 h0 = some (11, g2, r3)) (x1 : Int32) (i_x1 : iv_R (-8) 24 x1) (hn_3 : (x1.toInt - (-9)).toNat < n_3) (gi_3 : 8 * ((g2 5).toInt - (g_h0 5).toInt) = 24 - x1.toInt) (er3 : r3 4 = r_h0 4) (FT : fe_T 45 (r_h0 4) (g_h0 5).toInt.toNat ((g2 5).toInt - (g_h0 5).toInt).toNat gt (fun k => fe_y x_0 (fe_n k)) G4) (ls : Array Slot) (hl : lv_has ls 3 [(2, .int x1), (0, .ref h0), (1, .int x_0)]), W p l e ({ frames := 0, cells := 0, slots := 0, locals := 0 } : Room) s m args below meth c H locs 0 0 (MQ below (iv_Qv iv_sh D classes tys base (fun G' => iv_MdT [11, 45] G G' ∧ (∀ (g' : Nat → Int32) (r' : Nat → Nat), G' h0 = some (11, g', r') → (g' 5).toInt = (g_h0 5).toInt + 4) ∧ (fe_T 45 (r_h0 4) (g_h0 5).toInt.toNat 4 gt (fun k => fe_y x_0 (fe_n k)) G'))) args s 0 0 (iv_A base)) (F0 m 3 ls []) := by
    intro n_3
    induction n_3 with
    | zero => intro G4 hM H locs hB g2 r3 a_h0 x1 i_x1 hn_3 gi_3 er3 FT ls hl; exact absurd hn_3 (Nat.not_lt_zero _)
    | succ n_3 ih_3 =>
      intro G4 hM H locs hB g2 r3 a_h0 x1 i_x1 hn_3 gi_3 er3 FT ls hl
      refine lv_iload_n hx hb dX11_putNumber_3 rfl (lv_at hl 0 rfl) ?_
      refine lv_if_lt (tgt := 49) hx hb dX11_putNumber_4 (by decide) (fun c5 => ?_) (fun c5 => ?_)
      · skip
        have i5_x1 : iv_R (-8) (-1) x1 := (i_x1.cutHi (n := (-1)) (iv_lt_r c5 q_0 (by decide)))
        exact iv_vret X hr hlocks hB ⟨hM, fun g9 r9 h9 => by have h8 := a_h0.symm.trans h9; cases h8; have w1 := gi_3; have w2 := i5_x1.1; have w3 := i5_x1.2; have w6 := n_g_h0.2; omega, (FT.cut (by have w1 := gi_3; have w2 := i5_x1.2; omega) (fun _ _ => rfl))⟩ dX11_putNumber_49
      · skip
        have i6_x1 : iv_R 0 24 x1 := (i_x1.cutLo (n := 0) (iv_le_l (iv_nlt c5) q_0))
        refine lv_aload_n hx hb dX11_putNumber_7 rfl (lv_at hl 1 rfl) ?_
        refine iv_geti X ft_X11 hB a_h0 sh_11 5 (by decide) rfl k_fl_X11_172 dX11_putNumber_8 (fun x8 e_x8 i_x8 => ?_)
        refine lv_sipush (v := 400) hx hb dX11_putNumber_11 (by decide) ?_
        refine lv_icmp_ge (tgt := 49) hx hb dX11_putNumber_14 (by decide) (fun c9 => ?_) (fun c9 => ?_)
        · skip
          have i9_x8 : iv_R 400 400 x8 := (i_x8.cutLo (n := 400) (iv_le_l c9 q_400))
          exact iv_vret X hr hlocks hB ⟨hM, fun g9 r9 h9 => by have h8 := a_h0.symm.trans h9; cases h8; have w1 := gi_3; have w2 := i6_x1.1; have w3 := i6_x1.2; have w6 := n_g_h0.2; have w4 := i9_x8.1; have w5 := congrArg Int32.toInt e_x8; omega, (FT.cut (by have w1 := gi_3; have w2 := n_g_h0.2; have w4 := i9_x8.1; have w5 := congrArg Int32.toInt e_x8; omega) (fun _ _ => rfl))⟩ dX11_putNumber_49
        · skip
          have i10_x8 : iv_R 0 399 x8 := (i_x8.cutHi (n := 399) (iv_lt_r (iv_nle c9) q_400 (by decide)))
          refine lv_aload_n hx hb dX11_putNumber_17 rfl (lv_at hl 1 rfl) ?_
          refine iv_getr X ft_X11 hB a_h0 sh_11 4 (by decide) rfl k_fl_X11_26 dX11_putNumber_18 (fun b12 g_b12 r_b12 e_b12 a_b12 => ?_)
          refine lv_aload_n hx hb dX11_putNumber_21 rfl (lv_at hl 1 rfl) ?_
          refine iv_geti0 X ft_X11 hB a_h0 sh_11 5 (by decide) rfl k_fl_X11_172 dX11_putNumber_22 e_x8 ?_
          refine lv_iload_n hx hb dX11_putNumber_25 rfl (lv_at hl 2 rfl) ?_
          refine lv_iload_n hx hb dX11_putNumber_26 rfl (lv_at hl 0 rfl) ?_
          refine lv_iushr hx hb dX11_putNumber_27 rfl ?_
          refine lv_topi (fun x13 e_x13 => ?_)
          have i_x13 := iv_R.all x13
          refine lv_sipush (v := 255) hx hb dX11_putNumber_28 (by decide) ?_
          refine iv_iand_r hx hb q_255 (by decide) dX11_putNumber_31 (fun x14 e_x14 i_x14 => ?_)
          refine iv_ast X hB a_b12 sh_45 (iv_in i10_x8 (by decide)) (i_x14.wk (by decide)) dX11_putNumber_32 (fun H locs hB => ?_)
          have hm := iv_Md.ast (j := x8.toNatClampNeg) (x := x14) a_b12 rfl (by decide)
          have h9 := iv_up_eq (G := G4) (a := b12) (k := (45, upd g_b12 x8.toNatClampNeg x14, r_b12))
          have FT := FT.put (j := x8.toNatClampNeg) (x := x14) (e_b12.trans er3) a_b12 (by show x8.toInt.toNat = _; have w1 := congrArg Int32.toInt e_x8; have w2 := gi_3; have w3 := i6_x1.2; have w4 := n_g_h0.1; omega) (by rw [e_x14, e_x13, show x1 = fe_n ((g2 5).toInt - (g_h0 5).toInt).toNat from fe_nI (by have w2 := gi_3; have w3 := i6_x1.2; have w4 := i6_x1.1; omega)]; rfl)
          generalize iv_up G4 b12 _ = G15 at hB hm h9 FT
          have hM := hM.stp (iv_MdT.of hm) (by decide)
          have a_h0 := hm.at a_h0 (by decide)
          refine lv_aload_n hx hb dX11_putNumber_33 rfl (lv_at hl 1 rfl) ?_
          refine lv_dup hx hb dX11_putNumber_34 rfl ?_
          refine iv_geti0 X ft_X11 hB a_h0 sh_11 5 (by decide) rfl k_fl_X11_172 dX11_putNumber_35 e_x8 ?_
          refine lv_iconst (v := 1) hx hb dX11_putNumber_38 (by decide) ?_
          refine iv_iadd hx hb i10_x8 q_1 (lo := 1) (hi := 400) (by decide) dX11_putNumber_39 (fun x17 e_x17 i_x17 => ?_)
          have e_x17 : x17.toInt = x8.toInt + 1 := e_x17
          refine iv_puti X ft_X11 hB a_h0 sh_11 5 (by decide) rfl rfl k_fl_X11_172 rfl (i_x17.wk (by decide)) rfl rfl dX11_putNumber_40 (fun H locs hB => ?_)
          have hm := iv_MdT.put (x := x17) a_h0 (j := 5) (by decide)
          have h9 := iv_up_eq (G := G15) (a := h0) (k := (11, upd g2 5 x17, r3))
          generalize iv_up G15 h0 _ = G18 at hB hm h9
          have FT := FT.keep hm (by decide)
          have hM := hM.stp hm (by decide)
          generalize hgn_g19 : upd g2 _ _ = g19 at h9
          have a_h0 := h9
          have e9_g19 : x17 = g19 5 := by rw [← hgn_g19]; simp [upd]
          refine iv_iinc hx hb i6_x1 (lo := (-8)) (hi := 16) (by decide) dX11_putNumber_43 hl (k := 0) rfl (by decide) (fun x20 ls e_x20 i_x20 hl => ?_)
          have hl : lv_has ls 3 [(2, .int x20), (0, .ref h0), (1, .int x_0)] := hl
          refine lv_goto (tgt := 3) hx hb dX11_putNumber_46 (by decide) ?_
          exact ih_3 G18 hM _ _ hB g19 r3 a_h0 x20 (i_x20.wk (by decide)) (iv_mdn (c := 8) i_x1 (by decide) (by decide) (by omega) hn_3) (by have w1 := congrArg Int32.toInt e9_g19; have w2 := congrArg Int32.toInt e_x8; have w3 : x17.toInt = x8.toInt + 1 := e_x17; have w4 := gi_3; have w5 : x20.toInt = x1.toInt + (-8) := e_x20; omega) er3 (by rw [show ((g19 5).toInt - (g_h0 5).toInt).toNat = ((g2 5).toInt - (g_h0 5).toInt).toNat + 1 from by (have w1 := congrArg Int32.toInt e9_g19; have w2 := congrArg Int32.toInt e_x8; have w3 : x17.toInt = x8.toInt + 1 := e_x17; have w4 := gi_3; have w5 := i6_x1.2; omega)]; exact FT) _ (lv_sub hl [0, 1, 2] rfl)
  exact L_3 _ G hM _ _ hB g_h0 r_h0 a_h0 24 (q_24.wk (by decide)) (Nat.lt_succ_self _) (by have z0 := q_24.1; have z1 := q_24.2; omega) rfl (by rw [Int.sub_self]; exact fe_T.zero ht) _ (lv_sub hl [0, 1, 2] rfl)
set_option maxHeartbeats 4000000 in
set_option maxRecDepth 100000 in
theorem f_X11_feed (l : Launch) (D : va_G) (tys : List (ClassId × FieldType)) (base : Nat) (G : iv_G) (h0 : Nat) (g_h0 : Nat → Int32) (r_h0 : Nat → Nat) (a_h0 : G h0 = some (11, g_h0, r_h0)) (x_0 : Int32) (i_x_0 : iv_R (-2147483648) 2147483647 x_0) (x_1 : Int32) (i_x_1 : iv_R (-2147483648) 2147483647 x_1) (x_2 : Int32) (i_x_2 : iv_R (-2147483648) 2147483647 x_2) (x_3 : Int32) (i_x_3 : iv_R (-2147483648) 2147483647 x_3) (x_4 : Int32) (i_x_4 : iv_R (-2147483648) 2147483647 x_4) (gt : Nat → Int32) (rt9 : Nat → Nat) (ht : G (r_h0 4) = some (45, gt, rt9)) : Met l yX11_feed (Cond.code yX11_feed cX11_feed 6 (some .int) :: iv_W0) ({ frames := 1, cells := 0, slots := 0, locals := 22 }) (iv_Pc iv_sh D classes tys base G [.ref h0, .int x_0, .int x_1, .int x_2, .int x_3, .int x_4]) (iv_Qi iv_sh D classes tys base (fun v G' => iv_MdT [11, 45] G G' ∧ iv_R (-1) 400 v ∧ ((400 < (g_h0 5).toInt + 20 → v = -1 ∧ ∀ (g' : Nat → Int32) (r' : Nat → Nat), G' h0 = some (11, g', r') → g' 5 = g_h0 5) ∧ ((g_h0 5).toInt + 20 ≤ 400 → ∀ (g' : Nat → Int32) (r' : Nat → Nat), G' h0 = some (11, g', r') → (g' 5).toInt = (g_h0 5).toInt + 20 ∧ v = g' 5)) ∧ ((400 < (g_h0 5).toInt + 20 → fe_T 45 (r_h0 4) (g_h0 5).toInt.toNat 0 gt (fe_b x_0 x_1 x_2 x_3 x_4) G') ∧ ((g_h0 5).toInt + 20 ≤ 400 → fe_T 45 (r_h0 4) (g_h0 5).toInt.toNat 20 gt (fe_b x_0 x_1 x_2 x_3 x_4) G')))) 0 0 (iv_A base) := by
  refine iv_head (by decide) (Nat.le_of_ble_eq_true rfl) ?_
  intro p e s m args below meth c ls X hr hlocks hname hB hl
  have X := X
  have hx := X.1.1
  have hb := X.1.2.1
  have hM : iv_MdT [11, 45] G G := iv_MdT.rf
  have hl : lv_has ls 6 [(0, .ref h0), (1, .int x_0), (2, .int x_1), (3, .int x_2), (4, .int x_3), (5, .int x_4)] := hl
  refine lv_aload_n hx hb dX11_feed_0 rfl (lv_at hl 0 rfl) ?_
  refine iv_geti X ft_X11 hB a_h0 sh_11 5 (by decide) rfl k_fl_X11_172 dX11_feed_1 (fun x1 e_x1 i_x1 => ?_)
  refine lv_bipush (v := 20) hx hb dX11_feed_4 (by decide) ?_
  refine iv_iadd hx hb i_x1 q_20 (lo := 20) (hi := 420) (by decide) dX11_feed_6 (fun x2 e_x2 i_x2 => ?_)
  have e_x2 : x2.toInt = x1.toInt + 20 := e_x2
  refine lv_sipush (v := 400) hx hb dX11_feed_7 (by decide) ?_
  refine lv_icmp_le (tgt := 15) hx hb dX11_feed_10 (by decide) (fun c3 => ?_) (fun c3 => ?_)
  · skip
    have i3_x2 : iv_R 20 400 x2 := (i_x2.cutHi (n := 400) (iv_le_r c3 q_400))
    have fd0 : 0 ≤ (g_h0 5).toInt := by rw [← e_x1]; exact i_x1.1
    have fd1 : (g_h0 5).toInt ≤ 380 := by have w1 := i3_x2.2; have w2 : x2.toInt = x1.toInt + 20 := e_x2; have w3 := congrArg Int32.toInt e_x1; omega
    have j0 : iv_R 0 396 (g_h0 5) := ⟨by omega, by omega⟩
    refine lv_aload_n hx hb dX11_feed_15 rfl (lv_at hl 0 rfl) ?_
    refine lv_iload_n hx hb dX11_feed_16 rfl (lv_at hl 1 rfl) ?_
    skip
    refine iv_cVv X k_good k_mf_X11_putNumber k_im_X11_putNumber k_sel_X11_putNumber k_ml_X11_175 ft_X11 hB a_h0 sh_11 (As := [.int x_0]) (f_X11_putNumber l D tys base G h0 g_h0 r_h0 a_h0 j0 x_0 i_x_0 gt rt9 ht) ⟨rfl, rfl⟩ ⟨Nat.le_of_ble_eq_true rfl, Nat.le_of_ble_eq_true rfl⟩ ⟨Nat.le_of_ble_eq_true rfl, Nat.le_of_ble_eq_true rfl⟩ rfl rfl hl.1 (Nat.le_of_ble_eq_true rfl) dX11_feed_17 (fun G9 H locs hq hB => ?_)
    obtain ⟨hm, xp5, xf⟩ := hq
    obtain ⟨G6, hG9⟩ : ∃ g, g = G9 := ⟨_, rfl⟩
    rw [← hG9] at hm hB xp5 xf
    have hM := hM.stp hm (by decide)
    obtain ⟨g7, r8, a_h0, f_g7⟩ := hm.ex a_h0
    have u4 : (g7 5).toInt = (g_h0 5).toInt + 4 := by have w1 := xp5 _ _ a_h0; omega
    have er1 : r8 4 = r_h0 4 := (f_g7.1 4 (fun h => absurd (show (11 : Nat) = 5 from h) (by decide)))
    have FT : fe_T 45 (r_h0 4) (g_h0 5).toInt.toNat 4 gt (fe_b x_0 x_1 x_2 x_3 x_4) G6 := xf.cut (Nat.le_refl _) (fun k hk => (fe_b0 hk).symm)
    have j4 : iv_R 0 396 (g7 5) := ⟨by have w3 := fd0; omega, by have w3 := fd0; have w4 := fd1; omega⟩
    refine lv_aload_n hx hb dX11_feed_20 rfl (lv_at hl 0 rfl) ?_
    refine lv_iload_n hx hb dX11_feed_21 rfl (lv_at hl 2 rfl) ?_
    obtain ⟨gt1, rt1, ht1, fa1, fb1⟩ := FT
    refine iv_cVv X k_good k_mf_X11_putNumber k_im_X11_putNumber k_sel_X11_putNumber k_ml_X11_175 ft_X11 hB a_h0 sh_11 (As := [.int x_1]) (f_X11_putNumber l D tys base G6 h0 g7 r8 a_h0 j4 x_1 i_x_1 gt1 rt1 (by rw [er1]; exact ht1)) ⟨rfl, rfl⟩ ⟨Nat.le_of_ble_eq_true rfl, Nat.le_of_ble_eq_true rfl⟩ ⟨Nat.le_of_ble_eq_true rfl, Nat.le_of_ble_eq_true rfl⟩ rfl rfl hl.1 (Nat.le_of_ble_eq_true rfl) dX11_feed_22 (fun G9 H locs hq hB => ?_)
    obtain ⟨hm, xp9, xf⟩ := hq
    obtain ⟨G10, hG9⟩ : ∃ g, g = G9 := ⟨_, rfl⟩
    rw [← hG9] at hm hB xp9 xf
    have hM := hM.stp hm (by decide)
    obtain ⟨g11, r12, a_h0, f_g11⟩ := hm.ex a_h0
    have u8 : (g11 5).toInt = (g_h0 5).toInt + 8 := by have w1 := xp9 _ _ a_h0; have w2 := u4; omega
    have er2 : r12 4 = r_h0 4 := (f_g11.1 4 (fun h => absurd (show (11 : Nat) = 5 from h) (by decide))).trans er1
    rw [er1] at xf
    have FT : fe_T 45 (r_h0 4) (g_h0 5).toInt.toNat 8 gt (fe_b x_0 x_1 x_2 x_3 x_4) G10 := (show fe_T 45 (r_h0 4) (g_h0 5).toInt.toNat 4 gt (fe_b x_0 x_1 x_2 x_3 x_4) _ from ⟨gt1, rt1, ht1, fa1, fb1⟩).more (fun g9 r9 h9 => by cases ht1.symm.trans h9; exact xf) (by have w := u4; have w3 := fd0; omega) (fun k hk => by rw [fe_b1 (by omega)]; show fe_y x_1 (fe_n k) = _; rw [show 4 + k = 4 * 1 + k by omega, fe_n8])
    have j8 : iv_R 0 396 (g11 5) := ⟨by have w3 := fd0; omega, by have w3 := fd0; have w4 := fd1; omega⟩
    refine lv_aload_n hx hb dX11_feed_25 rfl (lv_at hl 0 rfl) ?_
    refine lv_iload_n hx hb dX11_feed_26 rfl (lv_at hl 3 rfl) ?_
    obtain ⟨gt2, rt2, ht2, fa2, fb2⟩ := FT
    refine iv_cVv X k_good k_mf_X11_putNumber k_im_X11_putNumber k_sel_X11_putNumber k_ml_X11_175 ft_X11 hB a_h0 sh_11 (As := [.int x_2]) (f_X11_putNumber l D tys base G10 h0 g11 r12 a_h0 j8 x_2 i_x_2 gt2 rt2 (by rw [er2]; exact ht2)) ⟨rfl, rfl⟩ ⟨Nat.le_of_ble_eq_true rfl, Nat.le_of_ble_eq_true rfl⟩ ⟨Nat.le_of_ble_eq_true rfl, Nat.le_of_ble_eq_true rfl⟩ rfl rfl hl.1 (Nat.le_of_ble_eq_true rfl) dX11_feed_27 (fun G9 H locs hq hB => ?_)
    obtain ⟨hm, xp13, xf⟩ := hq
    obtain ⟨G14, hG9⟩ : ∃ g, g = G9 := ⟨_, rfl⟩
    rw [← hG9] at hm hB xp13 xf
    have hM := hM.stp hm (by decide)
    obtain ⟨g15, r16, a_h0, f_g15⟩ := hm.ex a_h0
    have u12 : (g15 5).toInt = (g_h0 5).toInt + 12 := by have w1 := xp13 _ _ a_h0; have w2 := u8; omega
    have er3 : r16 4 = r_h0 4 := (f_g15.1 4 (fun h => absurd (show (11 : Nat) = 5 from h) (by decide))).trans er2
    rw [er2] at xf
    have FT : fe_T 45 (r_h0 4) (g_h0 5).toInt.toNat 12 gt (fe_b x_0 x_1 x_2 x_3 x_4) G14 := (show fe_T 45 (r_h0 4) (g_h0 5).toInt.toNat 8 gt (fe_b x_0 x_1 x_2 x_3 x_4) _ from ⟨gt2, rt2, ht2, fa2, fb2⟩).more (fun g9 r9 h9 => by cases ht2.symm.trans h9; exact xf) (by have w := u8; have w3 := fd0; omega) (fun k hk => by rw [fe_b2 (by omega)]; show fe_y x_2 (fe_n k) = _; rw [show 8 + k = 4 * 2 + k by omega, fe_n8])
    have j12 : iv_R 0 396 (g15 5) := ⟨by have w3 := fd0; omega, by have w3 := fd0; have w4 := fd1; omega⟩
    refine lv_aload_n hx hb dX11_feed_30 rfl (lv_at hl 0 rfl) ?_
    refine lv_iload hx hb dX11_feed_31 (lv_at hl 4 rfl) ?_
    obtain ⟨gt3, rt3, ht3, fa3, fb3⟩ := FT
    refine iv_cVv X k_good k_mf_X11_putNumber k_im_X11_putNumber k_sel_X11_putNumber k_ml_X11_175 ft_X11 hB a_h0 sh_11 (As := [.int x_3]) (f_X11_putNumber l D tys base G14 h0 g15 r16 a_h0 j12 x_3 i_x_3 gt3 rt3 (by rw [er3]; exact ht3)) ⟨rfl, rfl⟩ ⟨Nat.le_of_ble_eq_true rfl, Nat.le_of_ble_eq_true rfl⟩ ⟨Nat.le_of_ble_eq_true rfl, Nat.le_of_ble_eq_true rfl⟩ rfl rfl hl.1 (Nat.le_of_ble_eq_true rfl) dX11_feed_33 (fun G9 H locs hq hB => ?_)
    obtain ⟨hm, xp17, xf⟩ := hq
    obtain ⟨G18, hG9⟩ : ∃ g, g = G9 := ⟨_, rfl⟩
    rw [← hG9] at hm hB xp17 xf
    have hM := hM.stp hm (by decide)
    obtain ⟨g19, r20, a_h0, f_g19⟩ := hm.ex a_h0
    have u16 : (g19 5).toInt = (g_h0 5).toInt + 16 := by have w1 := xp17 _ _ a_h0; have w2 := u12; omega
    have er4 : r20 4 = r_h0 4 := (f_g19.1 4 (fun h => absurd (show (11 : Nat) = 5 from h) (by decide))).trans er3
    rw [er3] at xf
    have FT : fe_T 45 (r_h0 4) (g_h0 5).toInt.toNat 16 gt (fe_b x_0 x_1 x_2 x_3 x_4) G18 := (show fe_T 45 (r_h0 4) (g_h0 5).toInt.toNat 12 gt (fe_b x_0 x_1 x_2 x_3 x_4) _ from ⟨gt3, rt3, ht3, fa3, fb3⟩).more (fun g9 r9 h9 => by cases ht3.symm.trans h9; exact xf) (by have w := u12; have w3 := fd0; omega) (fun k hk => by rw [fe_b3 (by omega)]; show fe_y x_3 (fe_n k) = _; rw [show 12 + k = 4 * 3 + k by omega, fe_n8])
    have j16 : iv_R 0 396 (g19 5) := ⟨by have w3 := fd0; omega, by have w3 := fd0; have w4 := fd1; omega⟩
    refine lv_aload_n hx hb dX11_feed_36 rfl (lv_at hl 0 rfl) ?_
    refine lv_iload hx hb dX11_feed_37 (lv_at hl 5 rfl) ?_
    obtain ⟨gt4, rt4, ht4, fa4, fb4⟩ := FT
    refine iv_cVv X k_good k_mf_X11_putNumber k_im_X11_putNumber k_sel_X11_putNumber k_ml_X11_175 ft_X11 hB a_h0 sh_11 (As := [.int x_4]) (f_X11_putNumber l D tys base G18 h0 g19 r20 a_h0 j16 x_4 i_x_4 gt4 rt4 (by rw [er4]; exact ht4)) ⟨rfl, rfl⟩ ⟨Nat.le_of_ble_eq_true rfl, Nat.le_of_ble_eq_true rfl⟩ ⟨Nat.le_of_ble_eq_true rfl, Nat.le_of_ble_eq_true rfl⟩ rfl rfl hl.1 (Nat.le_of_ble_eq_true rfl) dX11_feed_39 (fun G9 H locs hq hB => ?_)
    obtain ⟨hm, xp21, xf⟩ := hq
    obtain ⟨G22, hG9⟩ : ∃ g, g = G9 := ⟨_, rfl⟩
    rw [← hG9] at hm hB xp21 xf
    have hM := hM.stp hm (by decide)
    obtain ⟨g23, r24, a_h0, f_g23⟩ := hm.ex a_h0
    have u20 : (g23 5).toInt = (g_h0 5).toInt + 20 := by have w1 := xp21 _ _ a_h0; have w2 := u16; omega
    have er5 : r24 4 = r_h0 4 := (f_g23.1 4 (fun h => absurd (show (11 : Nat) = 5 from h) (by decide))).trans er4
    rw [er4] at xf
    have FT : fe_T 45 (r_h0 4) (g_h0 5).toInt.toNat 20 gt (fe_b x_0 x_1 x_2 x_3 x_4) G22 := (show fe_T 45 (r_h0 4) (g_h0 5).toInt.toNat 16 gt (fe_b x_0 x_1 x_2 x_3 x_4) _ from ⟨gt4, rt4, ht4, fa4, fb4⟩).more (fun g9 r9 h9 => by cases ht4.symm.trans h9; exact xf) (by have w := u16; have w3 := fd0; omega) (fun k hk => by rw [fe_b4 (by omega)]; show fe_y x_4 (fe_n k) = _; rw [show 16 + k = 4 * 4 + k by omega, fe_n8])
    skip
    refine lv_aload_n hx hb dX11_feed_42 rfl (lv_at hl 0 rfl) ?_
    refine iv_geti X ft_X11 hB a_h0 sh_11 5 (by decide) rfl k_fl_X11_172 dX11_feed_43 (fun x25 e_x25 i_x25 => ?_)
    exact iv_iret X hr hlocks hB ⟨hM, (i_x25.wk (by decide)), ⟨fun h => absurd h (by have w3 := fd1; omega), fun _ => fun g9 r9 h9 => by have h8 := a_h0.symm.trans h9; cases h8; exact ⟨u20, e_x25⟩⟩, ⟨fun h => absurd h (by have w3 := fd1; omega), fun _ => FT⟩⟩ dX11_feed_46
  · skip
    have i25_x2 : iv_R 401 420 x2 := (i_x2.cutLo (n := 401) (iv_lt_l (iv_nle c3) q_400 (by decide)))
    refine lv_iconst (v := (-1)) hx hb dX11_feed_13 (by decide) ?_
    exact iv_iret X hr hlocks hB ⟨hM, (q_n1.wk (by decide)), ⟨fun _ => ⟨rfl, fun g9 r9 h9 => by have h8 := a_h0.symm.trans h9; cases h8; rfl⟩, fun h => absurd h (by have w0 := q_400.1; have w1 := Int32.lt_iff_toInt_lt.mp (iv_nle c3); have w4 : x2.toInt = x1.toInt + 20 := e_x2; have w5 := congrArg Int32.toInt e_x1; omega)⟩, ⟨fun _ => fe_T.zero ht, fun h => absurd h (by have w1 := i25_x2.1; have w4 : x2.toInt = x1.toInt + 20 := e_x2; have w5 := congrArg Int32.toInt e_x1; omega)⟩⟩ dX11_feed_14
set_option maxHeartbeats 4000000 in
set_option maxRecDepth 100000 in
theorem f_X12_feed (l : Launch) (D : va_G) (tys : List (ClassId × FieldType)) (base : Nat) (G : iv_G) (h0 : Nat) (g_h0 : Nat → Int32) (r_h0 : Nat → Nat) (a_h0 : G h0 = some (12, g_h0, r_h0)) (x_0 : Int32) (i_x_0 : iv_R (-2147483648) 2147483647 x_0) (x_1 : Int32) (i_x_1 : iv_R (-2147483648) 2147483647 x_1) (x_2 : Int32) (i_x_2 : iv_R (-2147483648) 2147483647 x_2) (x_3 : Int32) (i_x_3 : iv_R (-2147483648) 2147483647 x_3) (x_4 : Int32) (i_x_4 : iv_R (-2147483648) 2147483647 x_4) (gt : Nat → Int32) (rt9 : Nat → Nat) (ht : G (r_h0 8) = some (66, gt, rt9)) : Met l yX12_feed (Cond.code yX12_feed cX12_feed 8 (some .int) :: iv_W0) ({ frames := 0, cells := 0, slots := 0, locals := 0 }) (iv_Pc iv_sh D classes tys base G [.ref h0, .int x_0, .int x_1, .int x_2, .int x_3, .int x_4]) (iv_Qi iv_sh D classes tys base (fun v G' => iv_MdT [12, 66] G G' ∧ iv_R (-1) 400 v ∧ ((400 < (g_h0 15).toInt + 20 → v = -1 ∧ ∀ (g' : Nat → Int32) (r' : Nat → Nat), G' h0 = some (12, g', r') → g' 15 = g_h0 15) ∧ ((g_h0 15).toInt + 20 ≤ 400 → ∀ (g' : Nat → Int32) (r' : Nat → Nat), G' h0 = some (12, g', r') → (g' 15).toInt = (g_h0 15).toInt + 20 ∧ v = g' 15)) ∧ ((400 < (g_h0 15).toInt + 20 → fe_T 66 (r_h0 8) (g_h0 15).toInt.toNat 0 gt (fe_b x_0 x_1 x_2 x_3 x_4) G') ∧ ((g_h0 15).toInt + 20 ≤ 400 → fe_T 66 (r_h0 8) (g_h0 15).toInt.toNat 20 gt (fe_b x_0 x_1 x_2 x_3 x_4) G')))) 0 0 (iv_A base) := by
  refine iv_head (by decide) (Nat.le_of_ble_eq_true rfl) ?_
  intro p e s m args below meth c ls X hr hlocks hname hB hl
  have X := X
  have hx := X.1.1
  have hb := X.1.2.1
  have hM : iv_MdT [12, 66] G G := iv_MdT.rf
  have hl : lv_has ls 8 [(0, .ref h0), (1, .int x_0), (2, .int x_1), (3, .int x_2), (4, .int x_3), (5, .int x_4)] := hl
  refine lv_aload_n hx hb dX12_feed_0 rfl (lv_at hl 0 rfl) ?_
  refine iv_geti X ft_X12 hB a_h0 sh_12 15 (by decide) rfl k_fl_X12_82 dX12_feed_1 (fun x1 e_x1 i_x1 => ?_)
  refine lv_bipush (v := 20) hx hb dX12_feed_4 (by decide) ?_
  refine iv_iadd hx hb i_x1 q_20 (lo := 20) (hi := 420) (by decide) dX12_feed_6 (fun x2 e_x2 i_x2 => ?_)
  have e_x2 : x2.toInt = x1.toInt + 20 := e_x2
  refine lv_sipush (v := 400) hx hb dX12_feed_7 (by decide) ?_
  refine lv_icmp_le (tgt := 15) hx hb dX12_feed_10 (by decide) (fun c3 => ?_) (fun c3 => ?_)
  · skip
    have i3_x2 : iv_R 20 400 x2 := (i_x2.cutHi (n := 400) (iv_le_r c3 q_400))
    refine lv_iconst (v := 0) hx hb dX12_feed_15 (by decide) ?_
    refine lv_istore (lv' := [(6, .int 0), (0, .ref h0), (1, .int x_0), (2, .int x_1), (3, .int x_2), (4, .int x_3), (5, .int x_4)]) hx hb dX12_feed_16 hl (by decide) rfl (fun ls hl => ?_)
    have L_18 : ∀ (n_18 : Nat) (G8 : iv_G) (hM : iv_MdT [12, 66] G G8) (H : Heap) (locs : List Loc) (hB : iv_B iv_sh D classes tys base G8 s.heap H locs) (g6 : Nat → Int32) (r7 : Nat → Nat) (a_h0 : G8 h0 = some (12, g6, r7)) (x5 : Int32) (i_x5 : iv_R 0 20 x5) (hn_18 : (21 - x5.toInt).toNat < n_18) (gi_18 : (g6 15).toInt = (g_h0 15).toInt + x5.toInt) (er9 : r7 8 = r_h0 8) (FT : fe_T 66 (r_h0 8) (g_h0 15).toInt.toNat x5.toInt.toNat gt (fe_b x_0 x_1 x_2 x_3 x_4) G8) (ls : Array Slot) (hl : lv_has ls 8 [(6, .int x5), (0, .ref h0), (1, .int x_0), (2, .int x_1), (3, .int x_2), (4, .int x_3), (5, .int x_4)]), W p l e ({ frames := 0, cells := 0, slots := 0, locals := 0 } : Room) s m args below meth c H locs 0 0 (MQ below (iv_Qi iv_sh D classes tys base (fun v G' => iv_MdT [12, 66] G G' ∧ iv_R (-1) 400 v ∧ ((400 < (g_h0 15).toInt + 20 → v = -1 ∧ ∀ (g' : Nat → Int32) (r' : Nat → Nat), G' h0 = some (12, g', r') → g' 15 = g_h0 15) ∧ ((g_h0 15).toInt + 20 ≤ 400 → ∀ (g' : Nat → Int32) (r' : Nat → Nat), G' h0 = some (12, g', r') → (g' 15).toInt = (g_h0 15).toInt + 20 ∧ v = g' 15)) ∧ ((400 < (g_h0 15).toInt + 20 → fe_T 66 (r_h0 8) (g_h0 15).toInt.toNat 0 gt (fe_b x_0 x_1 x_2 x_3 x_4) G') ∧ ((g_h0 15).toInt + 20 ≤ 400 → fe_T 66 (r_h0 8) (g_h0 15).toInt.toNat 20 gt (fe_b x_0 x_1 x_2 x_3 x_4) G')))) args s 0 0 (iv_A base)) (F0 m 18 ls []) := by
      intro n_18
      induction n_18 with
      | zero => intro G8 hM H locs hB g6 r7 a_h0 x5 i_x5 hn_18 gi_18 er9 FT ls hl; exact absurd hn_18 (Nat.not_lt_zero _)
      | succ n_18 ih_18 =>
        intro G8 hM H locs hB g6 r7 a_h0 x5 i_x5 hn_18 gi_18 er9 FT ls hl
        refine lv_iload hx hb dX12_feed_18 (lv_at hl 0 rfl) ?_
        refine lv_bipush (v := 20) hx hb dX12_feed_20 (by decide) ?_
        refine lv_icmp_ge (tgt := 115) hx hb dX12_feed_22 (by decide) (fun c9 => ?_) (fun c9 => ?_)
        · skip
          have i9_x5 : iv_R 20 20 x5 := (i_x5.cutLo (n := 20) (iv_le_l c9 q_20))
          refine lv_aload_n hx hb dX12_feed_115 rfl (lv_at hl 1 rfl) ?_
          refine iv_geti X ft_X12 hB a_h0 sh_12 15 (by decide) rfl k_fl_X12_82 dX12_feed_116 (fun x11 e_x11 i_x11 => ?_)
          exact iv_iret X hr hlocks hB ⟨hM, (i_x11.wk (by decide)), ⟨fun h => absurd h (by have w3 := i3_x2.2; have w4 : x2.toInt = x1.toInt + 20 := e_x2; have w5 := congrArg Int32.toInt e_x1; omega), fun _ => fun g9 r9 h9 => by have h8 := a_h0.symm.trans h9; cases h8; exact ⟨by have w1 := gi_18; have w2 := i9_x5.1; have w3 := i9_x5.2; omega, e_x11⟩⟩, ⟨fun h => absurd h (by have w3 := i3_x2.2; have w4 : x2.toInt = x1.toInt + 20 := e_x2; have w5 := congrArg Int32.toInt e_x1; omega), fun _ => FT.cut (by have w := i9_x5.1; omega) (fun _ _ => rfl)⟩⟩ dX12_feed_119
        · skip
          have i11_x5 : iv_R 0 19 x5 := (i_x5.cutHi (n := 19) (iv_lt_r (iv_nle c9) q_20 (by decide)))
          refine lv_iload hx hb dX12_feed_25 (lv_at hl 0 rfl) ?_
          refine lv_iconst (v := 4) hx hb dX12_feed_27 (by decide) ?_
          refine lv_icmp_ge (tgt := 35) hx hb dX12_feed_28 (by decide) (fun c13 => ?_) (fun c13 => ?_)
          · skip
            have i13_x5 : iv_R 4 19 x5 := (i11_x5.cutLo (n := 4) (iv_le_l c13 q_4))
            refine lv_iload hx hb dX12_feed_35 (lv_at hl 0 rfl) ?_
            refine lv_bipush (v := 8) hx hb dX12_feed_37 (by decide) ?_
            refine lv_icmp_ge (tgt := 46) hx hb dX12_feed_39 (by decide) (fun c15 => ?_) (fun c15 => ?_)
            · skip
              have i15_x5 : iv_R 8 19 x5 := (i13_x5.cutLo (n := 8) (iv_le_l c15 q_8))
              refine lv_iload hx hb dX12_feed_46 (lv_at hl 0 rfl) ?_
              refine lv_bipush (v := 12) hx hb dX12_feed_48 (by decide) ?_
              refine lv_icmp_ge (tgt := 57) hx hb dX12_feed_50 (by decide) (fun c17 => ?_) (fun c17 => ?_)
              · skip
                have i17_x5 : iv_R 12 19 x5 := (i15_x5.cutLo (n := 12) (iv_le_l c17 q_12))
                refine lv_iload hx hb dX12_feed_57 (lv_at hl 0 rfl) ?_
                refine lv_bipush (v := 16) hx hb dX12_feed_59 (by decide) ?_
                refine lv_icmp_ge (tgt := 69) hx hb dX12_feed_61 (by decide) (fun c19 => ?_) (fun c19 => ?_)
                · skip
                  have i19_x5 : iv_R 16 19 x5 := (i17_x5.cutLo (n := 16) (iv_le_l c19 q_16))
                  refine lv_iload hx hb dX12_feed_69 (lv_at hl 6 rfl) ?_
                  refine lv_istore (lv' := [(7, .int x_4), (6, .int x5), (0, .ref h0), (1, .int x_0), (2, .int x_1), (3, .int x_2), (4, .int x_3), (5, .int x_4)]) hx hb dX12_feed_71 hl (by decide) rfl (fun ls hl => ?_)
                  refine lv_aload_n hx hb dX12_feed_73 rfl (lv_at hl 2 rfl) ?_
                  refine iv_getr X ft_X12 hB a_h0 sh_12 8 (by decide) rfl k_fl_X12_28 dX12_feed_74 (fun b21 g_b21 r_b21 e_b21 a_b21 => ?_)
                  refine lv_aload_n hx hb dX12_feed_77 rfl (lv_at hl 2 rfl) ?_
                  refine iv_geti X ft_X12 hB a_h0 sh_12 15 (by decide) rfl k_fl_X12_82 dX12_feed_78 (fun x22 e_x22 i_x22 => ?_)
                  have i22_x22 : iv_R 0 399 x22 := ⟨i_x22.1, by have w1 := congrArg Int32.toInt e_x22; have w2 := gi_18; have w3 := i3_x2.2; have w4 : x2.toInt = x1.toInt + 20 := e_x2; have w5 := congrArg Int32.toInt e_x1; have w6 := i19_x5.2; omega⟩
                  refine lv_iload hx hb dX12_feed_81 (lv_at hl 0 rfl) ?_
                  refine lv_bipush (v := 24) hx hb dX12_feed_83 (by decide) ?_
                  refine lv_bipush (v := 8) hx hb dX12_feed_85 (by decide) ?_
                  refine lv_iload hx hb dX12_feed_87 (lv_at hl 1 rfl) ?_
                  refine lv_iconst (v := 4) hx hb dX12_feed_89 (by decide) ?_
                  refine iv_iremp hx hb i19_x5 q_4 (lo := 0) (hi := 3) (by decide) dX12_feed_90 (fun x24 e_x24 i_x24 => ?_)
                  refine iv_imul hx hb q_8 i_x24 (lo := 0) (hi := 24) (by decide) dX12_feed_91 (fun x25 e_x25 i_x25 => ?_)
                  have e_x25 : x25.toInt = 8 * x24.toInt := e_x25
                  refine iv_isub hx hb q_24 i_x25 (lo := 0) (hi := 24) (by decide) dX12_feed_92 (fun x26 e_x26 i_x26 => ?_)
                  have e_x26 : x26.toInt = 24 - x25.toInt := e_x26
                  refine lv_ishr hx hb dX12_feed_93 ?_
                  refine lv_topi (fun x27 e_x27 => ?_)
                  have i_x27 := iv_R.all x27
                  refine lv_sipush (v := 255) hx hb dX12_feed_94 (by decide) ?_
                  refine iv_iand_r hx hb q_255 (by decide) dX12_feed_97 (fun x28 e_x28 i_x28 => ?_)
                  refine iv_ast X hB a_b21 sh_66 (iv_in i22_x22 (by decide)) i_x28 dX12_feed_98 (fun H locs hB => ?_)
                  have hm := iv_Md.ast (j := x22.toNatClampNeg) (x := x28) a_b21 rfl (by decide)
                  have h9 := iv_up_eq (G := G8) (a := b21) (k := (66, upd g_b21 x22.toNatClampNeg x28, r_b21))
                  have hsn := fe_nR (x5 := x5) (by have w := i19_x5.1; omega) e_x24 e_x25 e_x26
                  have FT := FT.put (j := x22.toNatClampNeg) (x := x28) (e_b21.trans er9) a_b21 (by show x22.toInt.toNat = _; have w1 := congrArg Int32.toInt e_x22; have w2 := gi_18; have w3 := i19_x5.1; have w4 := i_x1.1; have w5 := congrArg Int32.toInt e_x1; omega) (by rw [e_x28, e_x27, hsn, fe_sh _ _ fe_n4, fe_b4 (by have w := i19_x5.1; omega)])
                  generalize iv_up G8 b21 _ = G29 at hB hm h9 FT
                  have hM := hM.stp (iv_MdT.of hm) (by decide)
                  have a_h0 := hm.at a_h0 (by decide)
                  refine lv_aload_n hx hb dX12_feed_99 rfl (lv_at hl 2 rfl) ?_
                  refine lv_dup hx hb dX12_feed_100 rfl ?_
                  refine iv_geti0 X ft_X12 hB a_h0 sh_12 15 (by decide) rfl k_fl_X12_82 dX12_feed_101 e_x22 ?_
                  refine lv_iconst (v := 1) hx hb dX12_feed_104 (by decide) ?_
                  refine iv_iadd hx hb i22_x22 q_1 (lo := 1) (hi := 400) (by decide) dX12_feed_105 (fun x31 e_x31 i_x31 => ?_)
                  have e_x31 : x31.toInt = x22.toInt + 1 := e_x31
                  refine iv_puti X ft_X12 hB a_h0 sh_12 15 (by decide) rfl rfl k_fl_X12_82 rfl (i_x31.wk (by decide)) rfl rfl dX12_feed_106 (fun H locs hB => ?_)
                  have hm := iv_MdT.put (x := x31) a_h0 (j := 15) (by decide)
                  have h9 := iv_up_eq (G := G29) (a := h0) (k := (12, upd g6 15 x31, r7))
                  generalize iv_up G29 h0 _ = G32 at hB hm h9
                  have FT := FT.keep hm (by decide)
                  have hM := hM.stp hm (by decide)
                  generalize hgn_g33 : upd g6 _ _ = g33 at h9
                  have a_h0 := h9
                  have e9_g33 : x31 = g33 15 := by rw [← hgn_g33]; simp [upd]
                  refine iv_iinc hx hb i19_x5 (lo := 17) (hi := 20) (by decide) dX12_feed_109 hl (k := 1) rfl (by decide) (fun x34 ls e_x34 i_x34 hl => ?_)
                  have hl : lv_has ls 8 [(6, .int x34), (7, .int x_4), (0, .ref h0), (1, .int x_0), (2, .int x_1), (3, .int x_2), (4, .int x_3), (5, .int x_4)] := hl
                  refine lv_goto (tgt := 18) hx hb dX12_feed_112 (by decide) ?_
                  exact ih_18 G32 hM _ _ hB g33 r7 a_h0 x34 (i_x34.wk (by decide)) (iv_mup (c := 1) i_x5 (by decide) (by decide) (by omega) hn_18) (by have w1 := congrArg Int32.toInt e9_g33; have w2 := congrArg Int32.toInt e_x22; have w3 : x31.toInt = x22.toInt + 1 := e_x31; have w4 := gi_18; have w5 : x34.toInt = x5.toInt + 1 := e_x34; omega) er9 (by rw [show x34.toInt.toNat = x5.toInt.toNat + 1 from by (have w5 : x34.toInt = x5.toInt + 1 := e_x34; have w3 := i19_x5.1; omega)]; exact FT) _ (lv_sub hl [0, 2, 3, 4, 5, 6, 7] rfl)
                · skip
                  have i34_x5 : iv_R 12 15 x5 := (i17_x5.cutHi (n := 15) (iv_lt_r (iv_nle c19) q_16 (by decide)))
                  refine lv_iload hx hb dX12_feed_64 (lv_at hl 5 rfl) ?_
                  refine lv_goto (tgt := 71) hx hb dX12_feed_66 (by decide) ?_
                  refine lv_istore (lv' := [(7, .int x_3), (6, .int x5), (0, .ref h0), (1, .int x_0), (2, .int x_1), (3, .int x_2), (4, .int x_3), (5, .int x_4)]) hx hb dX12_feed_71 hl (by decide) rfl (fun ls hl => ?_)
                  refine lv_aload_n hx hb dX12_feed_73 rfl (lv_at hl 2 rfl) ?_
                  refine iv_getr X ft_X12 hB a_h0 sh_12 8 (by decide) rfl k_fl_X12_28 dX12_feed_74 (fun b36 g_b36 r_b36 e_b36 a_b36 => ?_)
                  refine lv_aload_n hx hb dX12_feed_77 rfl (lv_at hl 2 rfl) ?_
                  refine iv_geti X ft_X12 hB a_h0 sh_12 15 (by decide) rfl k_fl_X12_82 dX12_feed_78 (fun x37 e_x37 i_x37 => ?_)
                  have i37_x37 : iv_R 0 399 x37 := ⟨i_x37.1, by have w1 := congrArg Int32.toInt e_x37; have w2 := gi_18; have w3 := i3_x2.2; have w4 : x2.toInt = x1.toInt + 20 := e_x2; have w5 := congrArg Int32.toInt e_x1; have w6 := i34_x5.2; omega⟩
                  refine lv_iload hx hb dX12_feed_81 (lv_at hl 0 rfl) ?_
                  refine lv_bipush (v := 24) hx hb dX12_feed_83 (by decide) ?_
                  refine lv_bipush (v := 8) hx hb dX12_feed_85 (by decide) ?_
                  refine lv_iload hx hb dX12_feed_87 (lv_at hl 1 rfl) ?_
                  refine lv_iconst (v := 4) hx hb dX12_feed_89 (by decide) ?_
                  refine iv_iremp hx hb i34_x5 q_4 (lo := 0) (hi := 3) (by decide) dX12_feed_90 (fun x39 e_x39 i_x39 => ?_)
                  refine iv_imul hx hb q_8 i_x39 (lo := 0) (hi := 24) (by decide) dX12_feed_91 (fun x40 e_x40 i_x40 => ?_)
                  have e_x40 : x40.toInt = 8 * x39.toInt := e_x40
                  refine iv_isub hx hb q_24 i_x40 (lo := 0) (hi := 24) (by decide) dX12_feed_92 (fun x41 e_x41 i_x41 => ?_)
                  have e_x41 : x41.toInt = 24 - x40.toInt := e_x41
                  refine lv_ishr hx hb dX12_feed_93 ?_
                  refine lv_topi (fun x42 e_x42 => ?_)
                  have i_x42 := iv_R.all x42
                  refine lv_sipush (v := 255) hx hb dX12_feed_94 (by decide) ?_
                  refine iv_iand_r hx hb q_255 (by decide) dX12_feed_97 (fun x43 e_x43 i_x43 => ?_)
                  refine iv_ast X hB a_b36 sh_66 (iv_in i37_x37 (by decide)) i_x43 dX12_feed_98 (fun H locs hB => ?_)
                  have hm := iv_Md.ast (j := x37.toNatClampNeg) (x := x43) a_b36 rfl (by decide)
                  have h9 := iv_up_eq (G := G8) (a := b36) (k := (66, upd g_b36 x37.toNatClampNeg x43, r_b36))
                  have hsn := fe_nR (x5 := x5) (by have w := i34_x5.1; omega) e_x39 e_x40 e_x41
                  have FT := FT.put (j := x37.toNatClampNeg) (x := x43) (e_b36.trans er9) a_b36 (by show x37.toInt.toNat = _; have w1 := congrArg Int32.toInt e_x37; have w2 := gi_18; have w3 := i34_x5.1; have w4 := i_x1.1; have w5 := congrArg Int32.toInt e_x1; omega) (by rw [e_x43, e_x42, hsn, fe_sh _ _ fe_n4, fe_b3 ⟨by have w := i34_x5.1; omega, by have w := i34_x5.2; omega⟩])
                  generalize iv_up G8 b36 _ = G44 at hB hm h9 FT
                  have hM := hM.stp (iv_MdT.of hm) (by decide)
                  have a_h0 := hm.at a_h0 (by decide)
                  refine lv_aload_n hx hb dX12_feed_99 rfl (lv_at hl 2 rfl) ?_
                  refine lv_dup hx hb dX12_feed_100 rfl ?_
                  refine iv_geti0 X ft_X12 hB a_h0 sh_12 15 (by decide) rfl k_fl_X12_82 dX12_feed_101 e_x37 ?_
                  refine lv_iconst (v := 1) hx hb dX12_feed_104 (by decide) ?_
                  refine iv_iadd hx hb i37_x37 q_1 (lo := 1) (hi := 400) (by decide) dX12_feed_105 (fun x46 e_x46 i_x46 => ?_)
                  have e_x46 : x46.toInt = x37.toInt + 1 := e_x46
                  refine iv_puti X ft_X12 hB a_h0 sh_12 15 (by decide) rfl rfl k_fl_X12_82 rfl (i_x46.wk (by decide)) rfl rfl dX12_feed_106 (fun H locs hB => ?_)
                  have hm := iv_MdT.put (x := x46) a_h0 (j := 15) (by decide)
                  have h9 := iv_up_eq (G := G44) (a := h0) (k := (12, upd g6 15 x46, r7))
                  generalize iv_up G44 h0 _ = G47 at hB hm h9
                  have FT := FT.keep hm (by decide)
                  have hM := hM.stp hm (by decide)
                  generalize hgn_g48 : upd g6 _ _ = g48 at h9
                  have a_h0 := h9
                  have e9_g48 : x46 = g48 15 := by rw [← hgn_g48]; simp [upd]
                  refine iv_iinc hx hb i34_x5 (lo := 13) (hi := 16) (by decide) dX12_feed_109 hl (k := 1) rfl (by decide) (fun x49 ls e_x49 i_x49 hl => ?_)
                  have hl : lv_has ls 8 [(6, .int x49), (7, .int x_3), (0, .ref h0), (1, .int x_0), (2, .int x_1), (3, .int x_2), (4, .int x_3), (5, .int x_4)] := hl
                  refine lv_goto (tgt := 18) hx hb dX12_feed_112 (by decide) ?_
                  exact ih_18 G47 hM _ _ hB g48 r7 a_h0 x49 (i_x49.wk (by decide)) (iv_mup (c := 1) i_x5 (by decide) (by decide) (by omega) hn_18) (by have w1 := congrArg Int32.toInt e9_g48; have w2 := congrArg Int32.toInt e_x37; have w3 : x46.toInt = x37.toInt + 1 := e_x46; have w4 := gi_18; have w5 : x49.toInt = x5.toInt + 1 := e_x49; omega) er9 (by rw [show x49.toInt.toNat = x5.toInt.toNat + 1 from by (have w5 : x49.toInt = x5.toInt + 1 := e_x49; have w3 := i34_x5.1; omega)]; exact FT) _ (lv_sub hl [0, 2, 3, 4, 5, 6, 7] rfl)
              · skip
                have i49_x5 : iv_R 8 11 x5 := (i15_x5.cutHi (n := 11) (iv_lt_r (iv_nle c17) q_12 (by decide)))
                refine lv_iload_n hx hb dX12_feed_53 rfl (lv_at hl 4 rfl) ?_
                refine lv_goto (tgt := 71) hx hb dX12_feed_54 (by decide) ?_
                refine lv_istore (lv' := [(7, .int x_2), (6, .int x5), (0, .ref h0), (1, .int x_0), (2, .int x_1), (3, .int x_2), (4, .int x_3), (5, .int x_4)]) hx hb dX12_feed_71 hl (by decide) rfl (fun ls hl => ?_)
                refine lv_aload_n hx hb dX12_feed_73 rfl (lv_at hl 2 rfl) ?_
                refine iv_getr X ft_X12 hB a_h0 sh_12 8 (by decide) rfl k_fl_X12_28 dX12_feed_74 (fun b51 g_b51 r_b51 e_b51 a_b51 => ?_)
                refine lv_aload_n hx hb dX12_feed_77 rfl (lv_at hl 2 rfl) ?_
                refine iv_geti X ft_X12 hB a_h0 sh_12 15 (by decide) rfl k_fl_X12_82 dX12_feed_78 (fun x52 e_x52 i_x52 => ?_)
                have i52_x52 : iv_R 0 399 x52 := ⟨i_x52.1, by have w1 := congrArg Int32.toInt e_x52; have w2 := gi_18; have w3 := i3_x2.2; have w4 : x2.toInt = x1.toInt + 20 := e_x2; have w5 := congrArg Int32.toInt e_x1; have w6 := i49_x5.2; omega⟩
                refine lv_iload hx hb dX12_feed_81 (lv_at hl 0 rfl) ?_
                refine lv_bipush (v := 24) hx hb dX12_feed_83 (by decide) ?_
                refine lv_bipush (v := 8) hx hb dX12_feed_85 (by decide) ?_
                refine lv_iload hx hb dX12_feed_87 (lv_at hl 1 rfl) ?_
                refine lv_iconst (v := 4) hx hb dX12_feed_89 (by decide) ?_
                refine iv_iremp hx hb i49_x5 q_4 (lo := 0) (hi := 3) (by decide) dX12_feed_90 (fun x54 e_x54 i_x54 => ?_)
                refine iv_imul hx hb q_8 i_x54 (lo := 0) (hi := 24) (by decide) dX12_feed_91 (fun x55 e_x55 i_x55 => ?_)
                have e_x55 : x55.toInt = 8 * x54.toInt := e_x55
                refine iv_isub hx hb q_24 i_x55 (lo := 0) (hi := 24) (by decide) dX12_feed_92 (fun x56 e_x56 i_x56 => ?_)
                have e_x56 : x56.toInt = 24 - x55.toInt := e_x56
                refine lv_ishr hx hb dX12_feed_93 ?_
                refine lv_topi (fun x57 e_x57 => ?_)
                have i_x57 := iv_R.all x57
                refine lv_sipush (v := 255) hx hb dX12_feed_94 (by decide) ?_
                refine iv_iand_r hx hb q_255 (by decide) dX12_feed_97 (fun x58 e_x58 i_x58 => ?_)
                refine iv_ast X hB a_b51 sh_66 (iv_in i52_x52 (by decide)) i_x58 dX12_feed_98 (fun H locs hB => ?_)
                have hm := iv_Md.ast (j := x52.toNatClampNeg) (x := x58) a_b51 rfl (by decide)
                have h9 := iv_up_eq (G := G8) (a := b51) (k := (66, upd g_b51 x52.toNatClampNeg x58, r_b51))
                have hsn := fe_nR (x5 := x5) (by have w := i49_x5.1; omega) e_x54 e_x55 e_x56
                have FT := FT.put (j := x52.toNatClampNeg) (x := x58) (e_b51.trans er9) a_b51 (by show x52.toInt.toNat = _; have w1 := congrArg Int32.toInt e_x52; have w2 := gi_18; have w3 := i49_x5.1; have w4 := i_x1.1; have w5 := congrArg Int32.toInt e_x1; omega) (by rw [e_x58, e_x57, hsn, fe_sh _ _ fe_n4, fe_b2 ⟨by have w := i49_x5.1; omega, by have w := i49_x5.2; omega⟩])
                generalize iv_up G8 b51 _ = G59 at hB hm h9 FT
                have hM := hM.stp (iv_MdT.of hm) (by decide)
                have a_h0 := hm.at a_h0 (by decide)
                refine lv_aload_n hx hb dX12_feed_99 rfl (lv_at hl 2 rfl) ?_
                refine lv_dup hx hb dX12_feed_100 rfl ?_
                refine iv_geti0 X ft_X12 hB a_h0 sh_12 15 (by decide) rfl k_fl_X12_82 dX12_feed_101 e_x52 ?_
                refine lv_iconst (v := 1) hx hb dX12_feed_104 (by decide) ?_
                refine iv_iadd hx hb i52_x52 q_1 (lo := 1) (hi := 400) (by decide) dX12_feed_105 (fun x61 e_x61 i_x61 => ?_)
                have e_x61 : x61.toInt = x52.toInt + 1 := e_x61
                refine iv_puti X ft_X12 hB a_h0 sh_12 15 (by decide) rfl rfl k_fl_X12_82 rfl (i_x61.wk (by decide)) rfl rfl dX12_feed_106 (fun H locs hB => ?_)
                have hm := iv_MdT.put (x := x61) a_h0 (j := 15) (by decide)
                have h9 := iv_up_eq (G := G59) (a := h0) (k := (12, upd g6 15 x61, r7))
                generalize iv_up G59 h0 _ = G62 at hB hm h9
                have FT := FT.keep hm (by decide)
                have hM := hM.stp hm (by decide)
                generalize hgn_g63 : upd g6 _ _ = g63 at h9
                have a_h0 := h9
                have e9_g63 : x61 = g63 15 := by rw [← hgn_g63]; simp [upd]
                refine iv_iinc hx hb i49_x5 (lo := 9) (hi := 12) (by decide) dX12_feed_109 hl (k := 1) rfl (by decide) (fun x64 ls e_x64 i_x64 hl => ?_)
                have hl : lv_has ls 8 [(6, .int x64), (7, .int x_2), (0, .ref h0), (1, .int x_0), (2, .int x_1), (3, .int x_2), (4, .int x_3), (5, .int x_4)] := hl
                refine lv_goto (tgt := 18) hx hb dX12_feed_112 (by decide) ?_
                exact ih_18 G62 hM _ _ hB g63 r7 a_h0 x64 (i_x64.wk (by decide)) (iv_mup (c := 1) i_x5 (by decide) (by decide) (by omega) hn_18) (by have w1 := congrArg Int32.toInt e9_g63; have w2 := congrArg Int32.toInt e_x52; have w3 : x61.toInt = x52.toInt + 1 := e_x61; have w4 := gi_18; have w5 : x64.toInt = x5.toInt + 1 := e_x64; omega) er9 (by rw [show x64.toInt.toNat = x5.toInt.toNat + 1 from by (have w5 : x64.toInt = x5.toInt + 1 := e_x64; have w3 := i49_x5.1; omega)]; exact FT) _ (lv_sub hl [0, 2, 3, 4, 5, 6, 7] rfl)
            · skip
              have i64_x5 : iv_R 4 7 x5 := (i13_x5.cutHi (n := 7) (iv_lt_r (iv_nle c15) q_8 (by decide)))
              refine lv_iload_n hx hb dX12_feed_42 rfl (lv_at hl 3 rfl) ?_
              refine lv_goto (tgt := 71) hx hb dX12_feed_43 (by decide) ?_
              refine lv_istore (lv' := [(7, .int x_1), (6, .int x5), (0, .ref h0), (1, .int x_0), (2, .int x_1), (3, .int x_2), (4, .int x_3), (5, .int x_4)]) hx hb dX12_feed_71 hl (by decide) rfl (fun ls hl => ?_)
              refine lv_aload_n hx hb dX12_feed_73 rfl (lv_at hl 2 rfl) ?_
              refine iv_getr X ft_X12 hB a_h0 sh_12 8 (by decide) rfl k_fl_X12_28 dX12_feed_74 (fun b66 g_b66 r_b66 e_b66 a_b66 => ?_)
              refine lv_aload_n hx hb dX12_feed_77 rfl (lv_at hl 2 rfl) ?_
              refine iv_geti X ft_X12 hB a_h0 sh_12 15 (by decide) rfl k_fl_X12_82 dX12_feed_78 (fun x67 e_x67 i_x67 => ?_)
              have i67_x67 : iv_R 0 399 x67 := ⟨i_x67.1, by have w1 := congrArg Int32.toInt e_x67; have w2 := gi_18; have w3 := i3_x2.2; have w4 : x2.toInt = x1.toInt + 20 := e_x2; have w5 := congrArg Int32.toInt e_x1; have w6 := i64_x5.2; omega⟩
              refine lv_iload hx hb dX12_feed_81 (lv_at hl 0 rfl) ?_
              refine lv_bipush (v := 24) hx hb dX12_feed_83 (by decide) ?_
              refine lv_bipush (v := 8) hx hb dX12_feed_85 (by decide) ?_
              refine lv_iload hx hb dX12_feed_87 (lv_at hl 1 rfl) ?_
              refine lv_iconst (v := 4) hx hb dX12_feed_89 (by decide) ?_
              refine iv_iremp hx hb i64_x5 q_4 (lo := 0) (hi := 3) (by decide) dX12_feed_90 (fun x69 e_x69 i_x69 => ?_)
              refine iv_imul hx hb q_8 i_x69 (lo := 0) (hi := 24) (by decide) dX12_feed_91 (fun x70 e_x70 i_x70 => ?_)
              have e_x70 : x70.toInt = 8 * x69.toInt := e_x70
              refine iv_isub hx hb q_24 i_x70 (lo := 0) (hi := 24) (by decide) dX12_feed_92 (fun x71 e_x71 i_x71 => ?_)
              have e_x71 : x71.toInt = 24 - x70.toInt := e_x71
              refine lv_ishr hx hb dX12_feed_93 ?_
              refine lv_topi (fun x72 e_x72 => ?_)
              have i_x72 := iv_R.all x72
              refine lv_sipush (v := 255) hx hb dX12_feed_94 (by decide) ?_
              refine iv_iand_r hx hb q_255 (by decide) dX12_feed_97 (fun x73 e_x73 i_x73 => ?_)
              refine iv_ast X hB a_b66 sh_66 (iv_in i67_x67 (by decide)) i_x73 dX12_feed_98 (fun H locs hB => ?_)
              have hm := iv_Md.ast (j := x67.toNatClampNeg) (x := x73) a_b66 rfl (by decide)
              have h9 := iv_up_eq (G := G8) (a := b66) (k := (66, upd g_b66 x67.toNatClampNeg x73, r_b66))
              have hsn := fe_nR (x5 := x5) (by have w := i64_x5.1; omega) e_x69 e_x70 e_x71
              have FT := FT.put (j := x67.toNatClampNeg) (x := x73) (e_b66.trans er9) a_b66 (by show x67.toInt.toNat = _; have w1 := congrArg Int32.toInt e_x67; have w2 := gi_18; have w3 := i64_x5.1; have w4 := i_x1.1; have w5 := congrArg Int32.toInt e_x1; omega) (by rw [e_x73, e_x72, hsn, fe_sh _ _ fe_n4, fe_b1 ⟨by have w := i64_x5.1; omega, by have w := i64_x5.2; omega⟩])
              generalize iv_up G8 b66 _ = G74 at hB hm h9 FT
              have hM := hM.stp (iv_MdT.of hm) (by decide)
              have a_h0 := hm.at a_h0 (by decide)
              refine lv_aload_n hx hb dX12_feed_99 rfl (lv_at hl 2 rfl) ?_
              refine lv_dup hx hb dX12_feed_100 rfl ?_
              refine iv_geti0 X ft_X12 hB a_h0 sh_12 15 (by decide) rfl k_fl_X12_82 dX12_feed_101 e_x67 ?_
              refine lv_iconst (v := 1) hx hb dX12_feed_104 (by decide) ?_
              refine iv_iadd hx hb i67_x67 q_1 (lo := 1) (hi := 400) (by decide) dX12_feed_105 (fun x76 e_x76 i_x76 => ?_)
              have e_x76 : x76.toInt = x67.toInt + 1 := e_x76
              refine iv_puti X ft_X12 hB a_h0 sh_12 15 (by decide) rfl rfl k_fl_X12_82 rfl (i_x76.wk (by decide)) rfl rfl dX12_feed_106 (fun H locs hB => ?_)
              have hm := iv_MdT.put (x := x76) a_h0 (j := 15) (by decide)
              have h9 := iv_up_eq (G := G74) (a := h0) (k := (12, upd g6 15 x76, r7))
              generalize iv_up G74 h0 _ = G77 at hB hm h9
              have FT := FT.keep hm (by decide)
              have hM := hM.stp hm (by decide)
              generalize hgn_g78 : upd g6 _ _ = g78 at h9
              have a_h0 := h9
              have e9_g78 : x76 = g78 15 := by rw [← hgn_g78]; simp [upd]
              refine iv_iinc hx hb i64_x5 (lo := 5) (hi := 8) (by decide) dX12_feed_109 hl (k := 1) rfl (by decide) (fun x79 ls e_x79 i_x79 hl => ?_)
              have hl : lv_has ls 8 [(6, .int x79), (7, .int x_1), (0, .ref h0), (1, .int x_0), (2, .int x_1), (3, .int x_2), (4, .int x_3), (5, .int x_4)] := hl
              refine lv_goto (tgt := 18) hx hb dX12_feed_112 (by decide) ?_
              exact ih_18 G77 hM _ _ hB g78 r7 a_h0 x79 (i_x79.wk (by decide)) (iv_mup (c := 1) i_x5 (by decide) (by decide) (by omega) hn_18) (by have w1 := congrArg Int32.toInt e9_g78; have w2 := congrArg Int32.toInt e_x67; have w3 : x76.toInt = x67.toInt + 1 := e_x76; have w4 := gi_18; have w5 : x79.toInt = x5.toInt + 1 := e_x79; omega) er9 (by rw [show x79.toInt.toNat = x5.toInt.toNat + 1 from by (have w5 : x79.toInt = x5.toInt + 1 := e_x79; have w3 := i64_x5.1; omega)]; exact FT) _ (lv_sub hl [0, 2, 3, 4, 5, 6, 7] rfl)
          · skip
            have i79_x5 : iv_R 0 3 x5 := (i11_x5.cutHi (n := 3) (iv_lt_r (iv_nle c13) q_4 (by decide)))
            refine lv_iload_n hx hb dX12_feed_31 rfl (lv_at hl 2 rfl) ?_
            refine lv_goto (tgt := 71) hx hb dX12_feed_32 (by decide) ?_
            refine lv_istore (lv' := [(7, .int x_0), (6, .int x5), (0, .ref h0), (1, .int x_0), (2, .int x_1), (3, .int x_2), (4, .int x_3), (5, .int x_4)]) hx hb dX12_feed_71 hl (by decide) rfl (fun ls hl => ?_)
            refine lv_aload_n hx hb dX12_feed_73 rfl (lv_at hl 2 rfl) ?_
            refine iv_getr X ft_X12 hB a_h0 sh_12 8 (by decide) rfl k_fl_X12_28 dX12_feed_74 (fun b81 g_b81 r_b81 e_b81 a_b81 => ?_)
            refine lv_aload_n hx hb dX12_feed_77 rfl (lv_at hl 2 rfl) ?_
            refine iv_geti X ft_X12 hB a_h0 sh_12 15 (by decide) rfl k_fl_X12_82 dX12_feed_78 (fun x82 e_x82 i_x82 => ?_)
            have i82_x82 : iv_R 0 399 x82 := ⟨i_x82.1, by have w1 := congrArg Int32.toInt e_x82; have w2 := gi_18; have w3 := i3_x2.2; have w4 : x2.toInt = x1.toInt + 20 := e_x2; have w5 := congrArg Int32.toInt e_x1; have w6 := i79_x5.2; omega⟩
            refine lv_iload hx hb dX12_feed_81 (lv_at hl 0 rfl) ?_
            refine lv_bipush (v := 24) hx hb dX12_feed_83 (by decide) ?_
            refine lv_bipush (v := 8) hx hb dX12_feed_85 (by decide) ?_
            refine lv_iload hx hb dX12_feed_87 (lv_at hl 1 rfl) ?_
            refine lv_iconst (v := 4) hx hb dX12_feed_89 (by decide) ?_
            refine iv_iremp hx hb i79_x5 q_4 (lo := 0) (hi := 3) (by decide) dX12_feed_90 (fun x84 e_x84 i_x84 => ?_)
            refine iv_imul hx hb q_8 i_x84 (lo := 0) (hi := 24) (by decide) dX12_feed_91 (fun x85 e_x85 i_x85 => ?_)
            have e_x85 : x85.toInt = 8 * x84.toInt := e_x85
            refine iv_isub hx hb q_24 i_x85 (lo := 0) (hi := 24) (by decide) dX12_feed_92 (fun x86 e_x86 i_x86 => ?_)
            have e_x86 : x86.toInt = 24 - x85.toInt := e_x86
            refine lv_ishr hx hb dX12_feed_93 ?_
            refine lv_topi (fun x87 e_x87 => ?_)
            have i_x87 := iv_R.all x87
            refine lv_sipush (v := 255) hx hb dX12_feed_94 (by decide) ?_
            refine iv_iand_r hx hb q_255 (by decide) dX12_feed_97 (fun x88 e_x88 i_x88 => ?_)
            refine iv_ast X hB a_b81 sh_66 (iv_in i82_x82 (by decide)) i_x88 dX12_feed_98 (fun H locs hB => ?_)
            have hm := iv_Md.ast (j := x82.toNatClampNeg) (x := x88) a_b81 rfl (by decide)
            have h9 := iv_up_eq (G := G8) (a := b81) (k := (66, upd g_b81 x82.toNatClampNeg x88, r_b81))
            have hsn := fe_nR (x5 := x5) (by have w := i79_x5.1; omega) e_x84 e_x85 e_x86
            have FT := FT.put (j := x82.toNatClampNeg) (x := x88) (e_b81.trans er9) a_b81 (by show x82.toInt.toNat = _; have w1 := congrArg Int32.toInt e_x82; have w2 := gi_18; have w3 := i79_x5.1; have w4 := i_x1.1; have w5 := congrArg Int32.toInt e_x1; omega) (by rw [e_x88, e_x87, hsn, fe_sh _ _ fe_n4, fe_b0 (by have w := i79_x5.2; omega)])
            generalize iv_up G8 b81 _ = G89 at hB hm h9 FT
            have hM := hM.stp (iv_MdT.of hm) (by decide)
            have a_h0 := hm.at a_h0 (by decide)
            refine lv_aload_n hx hb dX12_feed_99 rfl (lv_at hl 2 rfl) ?_
            refine lv_dup hx hb dX12_feed_100 rfl ?_
            refine iv_geti0 X ft_X12 hB a_h0 sh_12 15 (by decide) rfl k_fl_X12_82 dX12_feed_101 e_x82 ?_
            refine lv_iconst (v := 1) hx hb dX12_feed_104 (by decide) ?_
            refine iv_iadd hx hb i82_x82 q_1 (lo := 1) (hi := 400) (by decide) dX12_feed_105 (fun x91 e_x91 i_x91 => ?_)
            have e_x91 : x91.toInt = x82.toInt + 1 := e_x91
            refine iv_puti X ft_X12 hB a_h0 sh_12 15 (by decide) rfl rfl k_fl_X12_82 rfl (i_x91.wk (by decide)) rfl rfl dX12_feed_106 (fun H locs hB => ?_)
            have hm := iv_MdT.put (x := x91) a_h0 (j := 15) (by decide)
            have h9 := iv_up_eq (G := G89) (a := h0) (k := (12, upd g6 15 x91, r7))
            generalize iv_up G89 h0 _ = G92 at hB hm h9
            have FT := FT.keep hm (by decide)
            have hM := hM.stp hm (by decide)
            generalize hgn_g93 : upd g6 _ _ = g93 at h9
            have a_h0 := h9
            have e9_g93 : x91 = g93 15 := by rw [← hgn_g93]; simp [upd]
            refine iv_iinc hx hb i79_x5 (lo := 1) (hi := 4) (by decide) dX12_feed_109 hl (k := 1) rfl (by decide) (fun x94 ls e_x94 i_x94 hl => ?_)
            have hl : lv_has ls 8 [(6, .int x94), (7, .int x_0), (0, .ref h0), (1, .int x_0), (2, .int x_1), (3, .int x_2), (4, .int x_3), (5, .int x_4)] := hl
            refine lv_goto (tgt := 18) hx hb dX12_feed_112 (by decide) ?_
            exact ih_18 G92 hM _ _ hB g93 r7 a_h0 x94 (i_x94.wk (by decide)) (iv_mup (c := 1) i_x5 (by decide) (by decide) (by omega) hn_18) (by have w1 := congrArg Int32.toInt e9_g93; have w2 := congrArg Int32.toInt e_x82; have w3 : x91.toInt = x82.toInt + 1 := e_x91; have w4 := gi_18; have w5 : x94.toInt = x5.toInt + 1 := e_x94; omega) er9 (by rw [show x94.toInt.toNat = x5.toInt.toNat + 1 from by (have w5 : x94.toInt = x5.toInt + 1 := e_x94; have w3 := i79_x5.1; omega)]; exact FT) _ (lv_sub hl [0, 2, 3, 4, 5, 6, 7] rfl)
    exact L_18 _ G hM _ _ hB g_h0 r_h0 a_h0 0 (q_0.wk (by decide)) (Nat.lt_succ_self _) (by have z0 : (0 : Int32).toInt = 0 := rfl; omega) rfl (fe_T.zero ht) _ (lv_sub hl [0, 1, 2, 3, 4, 5, 6] rfl)
  · skip
    have i94_x2 : iv_R 401 420 x2 := (i_x2.cutLo (n := 401) (iv_lt_l (iv_nle c3) q_400 (by decide)))
    refine lv_iconst (v := (-1)) hx hb dX12_feed_13 (by decide) ?_
    exact iv_iret X hr hlocks hB ⟨hM, (q_n1.wk (by decide)), ⟨fun _ => ⟨rfl, fun g9 r9 h9 => by have h8 := a_h0.symm.trans h9; cases h8; rfl⟩, fun h => absurd h (by have w1 := i94_x2.1; have w4 : x2.toInt = x1.toInt + 20 := e_x2; have w5 := congrArg Int32.toInt e_x1; omega)⟩, ⟨fun _ => fe_T.zero ht, fun h => absurd h (by have w1 := i94_x2.1; have w4 : x2.toInt = x1.toInt + 20 := e_x2; have w5 := congrArg Int32.toInt e_x1; omega)⟩⟩ dX12_feed_14
