theorem dX11_end_0 : decode cX11_end 0 = .ok (.iload_n 1, 1) := by decide +kernel
theorem dX11_end_1 : decode cX11_end 1 = .ok (.ifCond .lt 11, 3) := by decide +kernel
theorem dX11_end_4 : decode cX11_end 4 = .ok (.iload_n 1, 1) := by decide +kernel
theorem dX11_end_5 : decode cX11_end 5 = .ok (.aload_n 0, 1) := by decide +kernel
theorem dX11_end_6 : decode cX11_end 6 = .ok (.getfield 172, 3) := by decide +kernel
theorem dX11_end_9 : decode cX11_end 9 = .ok (.if_icmp .le 5, 3) := by decide +kernel
theorem dX11_end_12 : decode cX11_end 12 = .ok (.iconst 0, 1) := by decide +kernel
theorem dX11_end_13 : decode cX11_end 13 = .ok (.ireturn, 1) := by decide +kernel
theorem dX11_end_14 : decode cX11_end 14 = .ok (.aload_n 0, 1) := by decide +kernel
theorem dX11_end_15 : decode cX11_end 15 = .ok (.iload_n 1, 1) := by decide +kernel
theorem dX11_end_16 : decode cX11_end 16 = .ok (.putfield 172, 3) := by decide +kernel
theorem dX11_end_19 : decode cX11_end 19 = .ok (.iconst 1, 1) := by decide +kernel
theorem dX11_end_20 : decode cX11_end 20 = .ok (.ireturn, 1) := by decide +kernel
set_option maxHeartbeats 4000000 in
set_option maxRecDepth 100000 in
theorem c_X11_end (l : Launch) (D : va_G) (tys : List (ClassId × FieldType)) (base : Nat) (G : iv_G) (h0 : Nat) (g_h0 : Nat → Int32) (r_h0 : Nat → Nat) (a_h0 : G h0 = some (11, g_h0, r_h0)) (x_0 : Int32) (i_x_0 : iv_R (-2147483648) 2147483647 x_0) : Met l yX11_end (Cond.code yX11_end cX11_end 2 (some .boolean) :: iv_W0) ({ frames := 0, cells := 0, slots := 0, locals := 0 }) (iv_Pc iv_sh D classes tys base G [.ref h0, .int x_0]) (iv_Qi iv_sh D classes tys base (fun v G' => iv_MdT [11] G G' ∧ iv_R 0 1 v ∧ (¬ v = 0 → iv_R 0 400 x_0) ∧ ((v = 0 → (x_0.toInt < 0 ∨ (g_h0 5).toInt < x_0.toInt) ∧ ∀ (g' : Nat → Int32) (r' : Nat → Nat), G' h0 = some (11, g', r') → g' 5 = g_h0 5) ∧ (¬ v = 0 → (0 ≤ x_0.toInt ∧ x_0.toInt ≤ (g_h0 5).toInt) ∧ ∀ (g' : Nat → Int32) (r' : Nat → Nat), G' h0 = some (11, g', r') → g' 5 = x_0)))) 0 0 (iv_A base) := by
  refine iv_head (by decide) (Nat.le_of_ble_eq_true rfl) ?_
  intro p e s m args below meth c ls X hr hlocks hname hB hl
  have X := X
  have hx := X.1.1
  have hb := X.1.2.1
  have hM : iv_MdT [11] G G := iv_MdT.rf
  have hl : lv_has ls 2 [(0, .ref h0), (1, .int x_0)] := hl
  refine lv_iload_n hx hb dX11_end_0 rfl (lv_at hl 1 rfl) ?_
  refine lv_if_lt (tgt := 12) hx hb dX11_end_1 (by decide) (fun c1 => ?_) (fun c1 => ?_)
  · skip
    have i1_x_0 : iv_R (-2147483648) (-1) x_0 := (i_x_0.cutHi (n := (-1)) (iv_lt_r c1 q_0 (by decide)))
    refine lv_iconst (v := 0) hx hb dX11_end_12 (by decide) ?_
    exact iv_zret X hr hlocks hB (q_0.wk (by decide)) ⟨hM, (q_0.wk (by decide)), fun h => absurd (iv_z q_0) h, ⟨fun _ => ⟨(by have w0 := i1_x_0.2; omega), fun g9 r9 h9 => by have h8 := a_h0.symm.trans h9; cases h8; rfl⟩, fun h => absurd rfl h⟩⟩ dX11_end_13
  · skip
    have i2_x_0 : iv_R 0 2147483647 x_0 := (i_x_0.cutLo (n := 0) (iv_le_l (iv_nlt c1) q_0))
    refine lv_iload_n hx hb dX11_end_4 rfl (lv_at hl 1 rfl) ?_
    refine lv_aload_n hx hb dX11_end_5 rfl (lv_at hl 0 rfl) ?_
    refine iv_geti X ft_X11 hB a_h0 sh_11 5 (by decide) rfl k_fl_X11_172 dX11_end_6 (fun x4 e_x4 i_x4 => ?_)
    refine lv_icmp_le (tgt := 14) hx hb dX11_end_9 (by decide) (fun c5 => ?_) (fun c5 => ?_)
    · skip
      have i5_x_0 : iv_R 0 400 x_0 := (i2_x_0.cutHi (n := 400) (iv_le_r c5 i_x4))
      refine lv_aload_n hx hb dX11_end_14 rfl (lv_at hl 0 rfl) ?_
      refine lv_iload_n hx hb dX11_end_15 rfl (lv_at hl 1 rfl) ?_
      refine iv_puti X ft_X11 hB a_h0 sh_11 5 (by decide) rfl rfl k_fl_X11_172 rfl i5_x_0 rfl rfl dX11_end_16 (fun H locs hB => ?_)
      have hm := iv_MdT.put (x := x_0) a_h0 (j := 5) (by decide)
      have h9 := iv_up_eq (G := G) (a := h0) (k := (11, upd g_h0 5 x_0, r_h0))
      generalize iv_up G h0 _ = G7 at hB hm h9
      have hM := hM.stp hm (by decide)
      generalize hgn_g8 : upd g_h0 _ _ = g8 at h9
      have a_h0 := h9
      have e9_g8 : x_0 = g8 5 := by rw [← hgn_g8]; simp [upd]
      refine lv_iconst (v := 1) hx hb dX11_end_19 (by decide) ?_
      exact iv_zret X hr hlocks hB (q_1.wk (by decide)) ⟨hM, (q_1.wk (by decide)), fun _ => i5_x_0, ⟨fun h => absurd h (by decide), fun _ => ⟨⟨i5_x_0.1, by have w1 := Int32.le_iff_toInt_le.mp c5; have w2 := congrArg Int32.toInt e_x4; omega⟩, fun g9 r9 h9 => by have h8 := a_h0.symm.trans h9; cases h8; exact e9_g8.symm⟩⟩⟩ dX11_end_20
    · skip
      have i8_x_0 : iv_R 1 2147483647 x_0 := (i2_x_0.cutLo (n := 1) (iv_lt_l (iv_nle c5) i_x4 (by decide)))
      refine lv_iconst (v := 0) hx hb dX11_end_12 (by decide) ?_
      exact iv_zret X hr hlocks hB (q_0.wk (by decide)) ⟨hM, (q_0.wk (by decide)), fun h => absurd (iv_z q_0) h, ⟨fun _ => ⟨(by have w1 := Int32.lt_iff_toInt_lt.mp (iv_nle c5); have w2 := congrArg Int32.toInt e_x4; omega), fun g9 r9 h9 => by have h8 := a_h0.symm.trans h9; cases h8; rfl⟩, fun h => absurd rfl h⟩⟩ dX11_end_13
theorem dX11_putNumber_0 : decode cX11_putNumber 0 = .ok (.bipush 24, 2) := by decide +kernel
theorem dX11_putNumber_2 : decode cX11_putNumber 2 = .ok (.istore_n 2, 1) := by decide +kernel
theorem dX11_putNumber_3 : decode cX11_putNumber 3 = .ok (.iload_n 2, 1) := by decide +kernel
theorem dX11_putNumber_4 : decode cX11_putNumber 4 = .ok (.ifCond .lt 45, 3) := by decide +kernel
theorem dX11_putNumber_7 : decode cX11_putNumber 7 = .ok (.aload_n 0, 1) := by decide +kernel
theorem dX11_putNumber_8 : decode cX11_putNumber 8 = .ok (.getfield 172, 3) := by decide +kernel
theorem dX11_putNumber_11 : decode cX11_putNumber 11 = .ok (.sipush 400, 3) := by decide +kernel
theorem dX11_putNumber_14 : decode cX11_putNumber 14 = .ok (.if_icmp .ge 35, 3) := by decide +kernel
theorem dX11_putNumber_17 : decode cX11_putNumber 17 = .ok (.aload_n 0, 1) := by decide +kernel
theorem dX11_putNumber_18 : decode cX11_putNumber 18 = .ok (.getfield 26, 3) := by decide +kernel
theorem dX11_putNumber_21 : decode cX11_putNumber 21 = .ok (.aload_n 0, 1) := by decide +kernel
theorem dX11_putNumber_22 : decode cX11_putNumber 22 = .ok (.getfield 172, 3) := by decide +kernel
theorem dX11_putNumber_25 : decode cX11_putNumber 25 = .ok (.iload_n 1, 1) := by decide +kernel
theorem dX11_putNumber_26 : decode cX11_putNumber 26 = .ok (.iload_n 2, 1) := by decide +kernel
theorem dX11_putNumber_27 : decode cX11_putNumber 27 = .ok (.iushr, 1) := by decide +kernel
theorem dX11_putNumber_28 : decode cX11_putNumber 28 = .ok (.sipush 255, 3) := by decide +kernel
theorem dX11_putNumber_31 : decode cX11_putNumber 31 = .ok (.iand, 1) := by decide +kernel
theorem dX11_putNumber_32 : decode cX11_putNumber 32 = .ok (.iastore, 1) := by decide +kernel
theorem dX11_putNumber_33 : decode cX11_putNumber 33 = .ok (.aload_n 0, 1) := by decide +kernel
theorem dX11_putNumber_34 : decode cX11_putNumber 34 = .ok (.dup, 1) := by decide +kernel
theorem dX11_putNumber_35 : decode cX11_putNumber 35 = .ok (.getfield 172, 3) := by decide +kernel
theorem dX11_putNumber_38 : decode cX11_putNumber 38 = .ok (.iconst 1, 1) := by decide +kernel
theorem dX11_putNumber_39 : decode cX11_putNumber 39 = .ok (.iadd, 1) := by decide +kernel
theorem dX11_putNumber_40 : decode cX11_putNumber 40 = .ok (.putfield 172, 3) := by decide +kernel
theorem dX11_putNumber_43 : decode cX11_putNumber 43 = .ok (.iinc 2 (-8), 3) := by decide +kernel
theorem dX11_putNumber_46 : decode cX11_putNumber 46 = .ok (.goto (-43), 3) := by decide +kernel
theorem dX11_putNumber_49 : decode cX11_putNumber 49 = .ok (.return_, 1) := by decide +kernel
set_option maxHeartbeats 4000000 in
set_option maxRecDepth 100000 in
theorem c_X11_putNumber (l : Launch) (D : va_G) (tys : List (ClassId × FieldType)) (base : Nat) (G : iv_G) (h0 : Nat) (g_h0 : Nat → Int32) (r_h0 : Nat → Nat) (a_h0 : G h0 = some (11, g_h0, r_h0)) (n_g_h0 : iv_R 0 396 (g_h0 5)) (x_0 : Int32) (i_x_0 : iv_R (-2147483648) 2147483647 x_0) : Met l yX11_putNumber (Cond.code yX11_putNumber cX11_putNumber 3 none :: iv_W0) ({ frames := 0, cells := 0, slots := 0, locals := 0 }) (iv_Pc iv_sh D classes tys base G [.ref h0, .int x_0]) (iv_Qv iv_sh D classes tys base (fun G' => iv_MdT [11, 45] G G' ∧ (∀ (g' : Nat → Int32) (r' : Nat → Nat), G' h0 = some (11, g', r') → (g' 5).toInt = (g_h0 5).toInt + 4))) 0 0 (iv_A base) := by
  refine iv_head (by decide) (Nat.le_of_ble_eq_true rfl) ?_
  intro p e s m args below meth c ls X hr hlocks hname hB hl
  have X := X
  have hx := X.1.1
  have hb := X.1.2.1
  have hM : iv_MdT [11, 45] G G := iv_MdT.rf
  have hl : lv_has ls 3 [(0, .ref h0), (1, .int x_0)] := hl
  refine lv_bipush (v := 24) hx hb dX11_putNumber_0 (by decide) ?_
  refine lv_istore_n (lv' := [(2, .int 24), (0, .ref h0), (1, .int x_0)]) hx hb dX11_putNumber_2 rfl hl (by decide) rfl (fun ls hl => ?_)
  have L_3 : ∀ (n_3 : Nat) (G4 : iv_G) (hM : iv_MdT [11, 45] G G4) (H : Heap) (locs : List Loc) (hB : iv_B iv_sh D classes tys base G4 s.heap H locs) (g2 : Nat → Int32) (r3 : Nat → Nat) (a_h0 : G4 h0 = some (11, g2, r3)) (x1 : Int32) (i_x1 : iv_R (-8) 24 x1) (hn_3 : (x1.toInt - (-9)).toNat < n_3) (gi_3 : 8 * ((g2 5).toInt - (g_h0 5).toInt) = 24 - x1.toInt) (ls : Array Slot) (hl : lv_has ls 3 [(2, .int x1), (0, .ref h0), (1, .int x_0)]), W p l e ({ frames := 0, cells := 0, slots := 0, locals := 0 } : Room) s m args below meth c H locs 0 0 (MQ below (iv_Qv iv_sh D classes tys base (fun G' => iv_MdT [11, 45] G G' ∧ (∀ (g' : Nat → Int32) (r' : Nat → Nat), G' h0 = some (11, g', r') → (g' 5).toInt = (g_h0 5).toInt + 4))) args s 0 0 (iv_A base)) (F0 m 3 ls []) := by
    intro n_3
    induction n_3 with
    | zero => intro G4 hM H locs hB g2 r3 a_h0 x1 i_x1 hn_3 gi_3 ls hl; exact absurd hn_3 (Nat.not_lt_zero _)
    | succ n_3 ih_3 =>
      intro G4 hM H locs hB g2 r3 a_h0 x1 i_x1 hn_3 gi_3 ls hl
      refine lv_iload_n hx hb dX11_putNumber_3 rfl (lv_at hl 0 rfl) ?_
      refine lv_if_lt (tgt := 49) hx hb dX11_putNumber_4 (by decide) (fun c5 => ?_) (fun c5 => ?_)
      · skip
        have i5_x1 : iv_R (-8) (-1) x1 := (i_x1.cutHi (n := (-1)) (iv_lt_r c5 q_0 (by decide)))
        exact iv_vret X hr hlocks hB ⟨hM, fun g9 r9 h9 => by have h8 := a_h0.symm.trans h9; cases h8; have w1 := gi_3; have w2 := i5_x1.1; have w3 := i5_x1.2; have w6 := n_g_h0.2; omega⟩ dX11_putNumber_49
      · skip
        have i6_x1 : iv_R 0 24 x1 := (i_x1.cutLo (n := 0) (iv_le_l (iv_nlt c5) q_0))
        refine lv_aload_n hx hb dX11_putNumber_7 rfl (lv_at hl 1 rfl) ?_
        refine iv_geti X ft_X11 hB a_h0 sh_11 5 (by decide) rfl k_fl_X11_172 dX11_putNumber_8 (fun x8 e_x8 i_x8 => ?_)
        refine lv_sipush (v := 400) hx hb dX11_putNumber_11 (by decide) ?_
        refine lv_icmp_ge (tgt := 49) hx hb dX11_putNumber_14 (by decide) (fun c9 => ?_) (fun c9 => ?_)
        · skip
          have i9_x8 : iv_R 400 400 x8 := (i_x8.cutLo (n := 400) (iv_le_l c9 q_400))
          exact iv_vret X hr hlocks hB ⟨hM, fun g9 r9 h9 => by have h8 := a_h0.symm.trans h9; cases h8; have w1 := gi_3; have w2 := i6_x1.1; have w3 := i6_x1.2; have w6 := n_g_h0.2; have w4 := i9_x8.1; have w5 := congrArg Int32.toInt e_x8; omega⟩ dX11_putNumber_49
        · skip
          have i10_x8 : iv_R 0 399 x8 := (i_x8.cutHi (n := 399) (iv_lt_r (iv_nle c9) q_400 (by decide)))
          refine lv_aload_n hx hb dX11_putNumber_17 rfl (lv_at hl 1 rfl) ?_
          refine iv_getr X ft_X11 hB a_h0 sh_11 4 (by decide) rfl k_fl_X11_26 dX11_putNumber_18 (fun b12 g_b12 r_b12 e_b12 a_b12 => ?_)
          refine lv_aload_n hx hb dX11_putNumber_21 rfl (lv_at hl 1 rfl) ?_
          refine iv_geti0 X ft_X11 hB a_h0 sh_11 5 (by decide) rfl k_fl_X11_172 dX11_putNumber_22 e_x8 ?_
          refine lv_iload_n hx hb dX11_putNumber_25 rfl (lv_at hl 2 rfl) ?_
          refine lv_iload_n hx hb dX11_putNumber_26 rfl (lv_at hl 0 rfl) ?_
          refine lv_iushr hx hb dX11_putNumber_27 rfl ?_
          refine lv_topi (fun x13 e_x13 => ?_)
          have i_x13 := iv_R.all x13
          refine lv_sipush (v := 255) hx hb dX11_putNumber_28 (by decide) ?_
          refine iv_iand_r hx hb q_255 (by decide) dX11_putNumber_31 (fun x14 e_x14 i_x14 => ?_)
          refine iv_ast X hB a_b12 sh_45 (iv_in i10_x8 (by decide)) (i_x14.wk (by decide)) dX11_putNumber_32 (fun H locs hB => ?_)
          have hm := iv_Md.ast (j := x8.toNatClampNeg) (x := x14) a_b12 rfl (by decide)
          have h9 := iv_up_eq (G := G4) (a := b12) (k := (45, upd g_b12 x8.toNatClampNeg x14, r_b12))
          generalize iv_up G4 b12 _ = G15 at hB hm h9
          have hM := hM.stp (iv_MdT.of hm) (by decide)
          have a_h0 := hm.at a_h0 (by decide)
          refine lv_aload_n hx hb dX11_putNumber_33 rfl (lv_at hl 1 rfl) ?_
          refine lv_dup hx hb dX11_putNumber_34 rfl ?_
          refine iv_geti0 X ft_X11 hB a_h0 sh_11 5 (by decide) rfl k_fl_X11_172 dX11_putNumber_35 e_x8 ?_
          refine lv_iconst (v := 1) hx hb dX11_putNumber_38 (by decide) ?_
          refine iv_iadd hx hb i10_x8 q_1 (lo := 1) (hi := 400) (by decide) dX11_putNumber_39 (fun x17 e_x17 i_x17 => ?_)
          have e_x17 : x17.toInt = x8.toInt + 1 := e_x17
          refine iv_puti X ft_X11 hB a_h0 sh_11 5 (by decide) rfl rfl k_fl_X11_172 rfl (i_x17.wk (by decide)) rfl rfl dX11_putNumber_40 (fun H locs hB => ?_)
          have hm := iv_MdT.put (x := x17) a_h0 (j := 5) (by decide)
          have h9 := iv_up_eq (G := G15) (a := h0) (k := (11, upd g2 5 x17, r3))
          generalize iv_up G15 h0 _ = G18 at hB hm h9
          have hM := hM.stp hm (by decide)
          generalize hgn_g19 : upd g2 _ _ = g19 at h9
          have a_h0 := h9
          have e9_g19 : x17 = g19 5 := by rw [← hgn_g19]; simp [upd]
          refine iv_iinc hx hb i6_x1 (lo := (-8)) (hi := 16) (by decide) dX11_putNumber_43 hl (k := 0) rfl (by decide) (fun x20 ls e_x20 i_x20 hl => ?_)
          have hl : lv_has ls 3 [(2, .int x20), (0, .ref h0), (1, .int x_0)] := hl
          refine lv_goto (tgt := 3) hx hb dX11_putNumber_46 (by decide) ?_
          exact ih_3 G18 hM _ _ hB g19 r3 a_h0 x20 (i_x20.wk (by decide)) (iv_mdn (c := 8) i_x1 (by decide) (by decide) (by omega) hn_3) (by have w1 := congrArg Int32.toInt e9_g19; have w2 := congrArg Int32.toInt e_x8; have w3 : x17.toInt = x8.toInt + 1 := e_x17; have w4 := gi_3; have w5 : x20.toInt = x1.toInt + (-8) := e_x20; omega) _ (lv_sub hl [0, 1, 2] rfl)
  exact L_3 _ G hM _ _ hB g_h0 r_h0 a_h0 24 (q_24.wk (by decide)) (Nat.lt_succ_self _) (by have z0 := q_24.1; have z1 := q_24.2; omega) _ (lv_sub hl [0, 1, 2] rfl)
theorem dX11_feed_0 : decode cX11_feed 0 = .ok (.aload_n 0, 1) := by decide +kernel
theorem dX11_feed_1 : decode cX11_feed 1 = .ok (.getfield 172, 3) := by decide +kernel
theorem dX11_feed_4 : decode cX11_feed 4 = .ok (.bipush 20, 2) := by decide +kernel
theorem dX11_feed_6 : decode cX11_feed 6 = .ok (.iadd, 1) := by decide +kernel
theorem dX11_feed_7 : decode cX11_feed 7 = .ok (.sipush 400, 3) := by decide +kernel
theorem dX11_feed_10 : decode cX11_feed 10 = .ok (.if_icmp .le 5, 3) := by decide +kernel
theorem dX11_feed_13 : decode cX11_feed 13 = .ok (.iconst (-1), 1) := by decide +kernel
theorem dX11_feed_14 : decode cX11_feed 14 = .ok (.ireturn, 1) := by decide +kernel
theorem dX11_feed_15 : decode cX11_feed 15 = .ok (.aload_n 0, 1) := by decide +kernel
theorem dX11_feed_16 : decode cX11_feed 16 = .ok (.iload_n 1, 1) := by decide +kernel
theorem dX11_feed_17 : decode cX11_feed 17 = .ok (.invokevirtual 175, 3) := by decide +kernel
theorem dX11_feed_20 : decode cX11_feed 20 = .ok (.aload_n 0, 1) := by decide +kernel
theorem dX11_feed_21 : decode cX11_feed 21 = .ok (.iload_n 2, 1) := by decide +kernel
theorem dX11_feed_22 : decode cX11_feed 22 = .ok (.invokevirtual 175, 3) := by decide +kernel
theorem dX11_feed_25 : decode cX11_feed 25 = .ok (.aload_n 0, 1) := by decide +kernel
theorem dX11_feed_26 : decode cX11_feed 26 = .ok (.iload_n 3, 1) := by decide +kernel
theorem dX11_feed_27 : decode cX11_feed 27 = .ok (.invokevirtual 175, 3) := by decide +kernel
theorem dX11_feed_30 : decode cX11_feed 30 = .ok (.aload_n 0, 1) := by decide +kernel
theorem dX11_feed_31 : decode cX11_feed 31 = .ok (.iload 4, 2) := by decide +kernel
theorem dX11_feed_33 : decode cX11_feed 33 = .ok (.invokevirtual 175, 3) := by decide +kernel
theorem dX11_feed_36 : decode cX11_feed 36 = .ok (.aload_n 0, 1) := by decide +kernel
theorem dX11_feed_37 : decode cX11_feed 37 = .ok (.iload 5, 2) := by decide +kernel
theorem dX11_feed_39 : decode cX11_feed 39 = .ok (.invokevirtual 175, 3) := by decide +kernel
theorem dX11_feed_42 : decode cX11_feed 42 = .ok (.aload_n 0, 1) := by decide +kernel
theorem dX11_feed_43 : decode cX11_feed 43 = .ok (.getfield 172, 3) := by decide +kernel
theorem dX11_feed_46 : decode cX11_feed 46 = .ok (.ireturn, 1) := by decide +kernel
set_option maxHeartbeats 4000000 in
set_option maxRecDepth 100000 in
theorem c_X11_feed (l : Launch) (D : va_G) (tys : List (ClassId × FieldType)) (base : Nat) (G : iv_G) (h0 : Nat) (g_h0 : Nat → Int32) (r_h0 : Nat → Nat) (a_h0 : G h0 = some (11, g_h0, r_h0)) (x_0 : Int32) (i_x_0 : iv_R (-2147483648) 2147483647 x_0) (x_1 : Int32) (i_x_1 : iv_R (-2147483648) 2147483647 x_1) (x_2 : Int32) (i_x_2 : iv_R (-2147483648) 2147483647 x_2) (x_3 : Int32) (i_x_3 : iv_R (-2147483648) 2147483647 x_3) (x_4 : Int32) (i_x_4 : iv_R (-2147483648) 2147483647 x_4) : Met l yX11_feed (Cond.code yX11_feed cX11_feed 6 (some .int) :: iv_W0) ({ frames := 1, cells := 0, slots := 0, locals := 22 }) (iv_Pc iv_sh D classes tys base G [.ref h0, .int x_0, .int x_1, .int x_2, .int x_3, .int x_4]) (iv_Qi iv_sh D classes tys base (fun v G' => iv_MdT [11, 45] G G' ∧ iv_R (-1) 400 v ∧ ((400 < (g_h0 5).toInt + 20 → v = -1 ∧ ∀ (g' : Nat → Int32) (r' : Nat → Nat), G' h0 = some (11, g', r') → g' 5 = g_h0 5) ∧ ((g_h0 5).toInt + 20 ≤ 400 → ∀ (g' : Nat → Int32) (r' : Nat → Nat), G' h0 = some (11, g', r') → (g' 5).toInt = (g_h0 5).toInt + 20 ∧ v = g' 5)))) 0 0 (iv_A base) := by
  refine iv_head (by decide) (Nat.le_of_ble_eq_true rfl) ?_
  intro p e s m args below meth c ls X hr hlocks hname hB hl
  have X := X
  have hx := X.1.1
  have hb := X.1.2.1
  have hM : iv_MdT [11, 45] G G := iv_MdT.rf
  have hl : lv_has ls 6 [(0, .ref h0), (1, .int x_0), (2, .int x_1), (3, .int x_2), (4, .int x_3), (5, .int x_4)] := hl
  refine lv_aload_n hx hb dX11_feed_0 rfl (lv_at hl 0 rfl) ?_
  refine iv_geti X ft_X11 hB a_h0 sh_11 5 (by decide) rfl k_fl_X11_172 dX11_feed_1 (fun x1 e_x1 i_x1 => ?_)
  refine lv_bipush (v := 20) hx hb dX11_feed_4 (by decide) ?_
  refine iv_iadd hx hb i_x1 q_20 (lo := 20) (hi := 420) (by decide) dX11_feed_6 (fun x2 e_x2 i_x2 => ?_)
  have e_x2 : x2.toInt = x1.toInt + 20 := e_x2
  refine lv_sipush (v := 400) hx hb dX11_feed_7 (by decide) ?_
  refine lv_icmp_le (tgt := 15) hx hb dX11_feed_10 (by decide) (fun c3 => ?_) (fun c3 => ?_)
  · skip
    have i3_x2 : iv_R 20 400 x2 := (i_x2.cutHi (n := 400) (iv_le_r c3 q_400))
    have fd0 : 0 ≤ (g_h0 5).toInt := by rw [← e_x1]; exact i_x1.1
    have fd1 : (g_h0 5).toInt ≤ 380 := by have w1 := i3_x2.2; have w2 : x2.toInt = x1.toInt + 20 := e_x2; have w3 := congrArg Int32.toInt e_x1; omega
    have j0 : iv_R 0 396 (g_h0 5) := ⟨by omega, by omega⟩
    refine lv_aload_n hx hb dX11_feed_15 rfl (lv_at hl 0 rfl) ?_
    refine lv_iload_n hx hb dX11_feed_16 rfl (lv_at hl 1 rfl) ?_
    refine iv_cVv X k_good k_mf_X11_putNumber k_im_X11_putNumber k_sel_X11_putNumber k_ml_X11_175 ft_X11 hB a_h0 sh_11 (As := [.int x_0]) (c_X11_putNumber l D tys base G h0 g_h0 r_h0 a_h0 j0 x_0 i_x_0) ⟨rfl, rfl⟩ ⟨Nat.le_of_ble_eq_true rfl, Nat.le_of_ble_eq_true rfl⟩ ⟨Nat.le_of_ble_eq_true rfl, Nat.le_of_ble_eq_true rfl⟩ rfl rfl hl.1 (Nat.le_of_ble_eq_true rfl) dX11_feed_17 (fun G9 H locs hq hB => ?_)
    obtain ⟨hm, xp5⟩ := hq
    obtain ⟨G6, hG9⟩ : ∃ g, g = G9 := ⟨_, rfl⟩
    rw [← hG9] at hm hB xp5
    have hM := hM.stp hm (by decide)
    obtain ⟨g7, r8, a_h0, f_g7⟩ := hm.ex a_h0
    have u4 : (g7 5).toInt = (g_h0 5).toInt + 4 := by have w1 := xp5 _ _ a_h0; omega
    have j4 : iv_R 0 396 (g7 5) := ⟨by have w3 := fd0; omega, by have w3 := fd0; have w4 := fd1; omega⟩
    refine lv_aload_n hx hb dX11_feed_20 rfl (lv_at hl 0 rfl) ?_
    refine lv_iload_n hx hb dX11_feed_21 rfl (lv_at hl 2 rfl) ?_
    refine iv_cVv X k_good k_mf_X11_putNumber k_im_X11_putNumber k_sel_X11_putNumber k_ml_X11_175 ft_X11 hB a_h0 sh_11 (As := [.int x_1]) (c_X11_putNumber l D tys base G6 h0 g7 r8 a_h0 j4 x_1 i_x_1) ⟨rfl, rfl⟩ ⟨Nat.le_of_ble_eq_true rfl, Nat.le_of_ble_eq_true rfl⟩ ⟨Nat.le_of_ble_eq_true rfl, Nat.le_of_ble_eq_true rfl⟩ rfl rfl hl.1 (Nat.le_of_ble_eq_true rfl) dX11_feed_22 (fun G9 H locs hq hB => ?_)
    obtain ⟨hm, xp9⟩ := hq
    obtain ⟨G10, hG9⟩ : ∃ g, g = G9 := ⟨_, rfl⟩
    rw [← hG9] at hm hB xp9
    have hM := hM.stp hm (by decide)
    obtain ⟨g11, r12, a_h0, f_g11⟩ := hm.ex a_h0
    have u8 : (g11 5).toInt = (g_h0 5).toInt + 8 := by have w1 := xp9 _ _ a_h0; have w2 := u4; omega
    have j8 : iv_R 0 396 (g11 5) := ⟨by have w3 := fd0; omega, by have w3 := fd0; have w4 := fd1; omega⟩
    refine lv_aload_n hx hb dX11_feed_25 rfl (lv_at hl 0 rfl) ?_
    refine lv_iload_n hx hb dX11_feed_26 rfl (lv_at hl 3 rfl) ?_
    refine iv_cVv X k_good k_mf_X11_putNumber k_im_X11_putNumber k_sel_X11_putNumber k_ml_X11_175 ft_X11 hB a_h0 sh_11 (As := [.int x_2]) (c_X11_putNumber l D tys base G10 h0 g11 r12 a_h0 j8 x_2 i_x_2) ⟨rfl, rfl⟩ ⟨Nat.le_of_ble_eq_true rfl, Nat.le_of_ble_eq_true rfl⟩ ⟨Nat.le_of_ble_eq_true rfl, Nat.le_of_ble_eq_true rfl⟩ rfl rfl hl.1 (Nat.le_of_ble_eq_true rfl) dX11_feed_27 (fun G9 H locs hq hB => ?_)
    obtain ⟨hm, xp13⟩ := hq
    obtain ⟨G14, hG9⟩ : ∃ g, g = G9 := ⟨_, rfl⟩
    rw [← hG9] at hm hB xp13
    have hM := hM.stp hm (by decide)
    obtain ⟨g15, r16, a_h0, f_g15⟩ := hm.ex a_h0
    have u12 : (g15 5).toInt = (g_h0 5).toInt + 12 := by have w1 := xp13 _ _ a_h0; have w2 := u8; omega
    have j12 : iv_R 0 396 (g15 5) := ⟨by have w3 := fd0; omega, by have w3 := fd0; have w4 := fd1; omega⟩
    refine lv_aload_n hx hb dX11_feed_30 rfl (lv_at hl 0 rfl) ?_
    refine lv_iload hx hb dX11_feed_31 (lv_at hl 4 rfl) ?_
    refine iv_cVv X k_good k_mf_X11_putNumber k_im_X11_putNumber k_sel_X11_putNumber k_ml_X11_175 ft_X11 hB a_h0 sh_11 (As := [.int x_3]) (c_X11_putNumber l D tys base G14 h0 g15 r16 a_h0 j12 x_3 i_x_3) ⟨rfl, rfl⟩ ⟨Nat.le_of_ble_eq_true rfl, Nat.le_of_ble_eq_true rfl⟩ ⟨Nat.le_of_ble_eq_true rfl, Nat.le_of_ble_eq_true rfl⟩ rfl rfl hl.1 (Nat.le_of_ble_eq_true rfl) dX11_feed_33 (fun G9 H locs hq hB => ?_)
    obtain ⟨hm, xp17⟩ := hq
    obtain ⟨G18, hG9⟩ : ∃ g, g = G9 := ⟨_, rfl⟩
    rw [← hG9] at hm hB xp17
    have hM := hM.stp hm (by decide)
    obtain ⟨g19, r20, a_h0, f_g19⟩ := hm.ex a_h0
    have u16 : (g19 5).toInt = (g_h0 5).toInt + 16 := by have w1 := xp17 _ _ a_h0; have w2 := u12; omega
    have j16 : iv_R 0 396 (g19 5) := ⟨by have w3 := fd0; omega, by have w3 := fd0; have w4 := fd1; omega⟩
    refine lv_aload_n hx hb dX11_feed_36 rfl (lv_at hl 0 rfl) ?_
    refine lv_iload hx hb dX11_feed_37 (lv_at hl 5 rfl) ?_
    refine iv_cVv X k_good k_mf_X11_putNumber k_im_X11_putNumber k_sel_X11_putNumber k_ml_X11_175 ft_X11 hB a_h0 sh_11 (As := [.int x_4]) (c_X11_putNumber l D tys base G18 h0 g19 r20 a_h0 j16 x_4 i_x_4) ⟨rfl, rfl⟩ ⟨Nat.le_of_ble_eq_true rfl, Nat.le_of_ble_eq_true rfl⟩ ⟨Nat.le_of_ble_eq_true rfl, Nat.le_of_ble_eq_true rfl⟩ rfl rfl hl.1 (Nat.le_of_ble_eq_true rfl) dX11_feed_39 (fun G9 H locs hq hB => ?_)
    obtain ⟨hm, xp21⟩ := hq
    obtain ⟨G22, hG9⟩ : ∃ g, g = G9 := ⟨_, rfl⟩
    rw [← hG9] at hm hB xp21
    have hM := hM.stp hm (by decide)
    obtain ⟨g23, r24, a_h0, f_g23⟩ := hm.ex a_h0
    have u20 : (g23 5).toInt = (g_h0 5).toInt + 20 := by have w1 := xp21 _ _ a_h0; have w2 := u16; omega
    skip
    refine lv_aload_n hx hb dX11_feed_42 rfl (lv_at hl 0 rfl) ?_
    refine iv_geti X ft_X11 hB a_h0 sh_11 5 (by decide) rfl k_fl_X11_172 dX11_feed_43 (fun x25 e_x25 i_x25 => ?_)
    exact iv_iret X hr hlocks hB ⟨hM, (i_x25.wk (by decide)), ⟨fun h => absurd h (by have w3 := fd1; omega), fun _ => fun g9 r9 h9 => by have h8 := a_h0.symm.trans h9; cases h8; exact ⟨u20, e_x25⟩⟩⟩ dX11_feed_46
  · skip
    have i25_x2 : iv_R 401 420 x2 := (i_x2.cutLo (n := 401) (iv_lt_l (iv_nle c3) q_400 (by decide)))
    refine lv_iconst (v := (-1)) hx hb dX11_feed_13 (by decide) ?_
    exact iv_iret X hr hlocks hB ⟨hM, (q_n1.wk (by decide)), ⟨fun _ => ⟨rfl, fun g9 r9 h9 => by have h8 := a_h0.symm.trans h9; cases h8; rfl⟩, fun h => absurd h (by have w0 := q_400.1; have w1 := Int32.lt_iff_toInt_lt.mp (iv_nle c3); have w4 : x2.toInt = x1.toInt + 20 := e_x2; have w5 := congrArg Int32.toInt e_x1; omega)⟩⟩ dX11_feed_14
theorem dX11_bell_0 : decode cX11_bell 0 = .ok (.iload_n 1, 1) := by decide +kernel
theorem dX11_bell_1 : decode cX11_bell 1 = .ok (.invokestatic 79, 3) := by decide +kernel
theorem dX11_bell_4 : decode cX11_bell 4 = .ok (.ifCond .eq 38, 3) := by decide +kernel
theorem dX11_bell_7 : decode cX11_bell 7 = .ok (.iload_n 2, 1) := by decide +kernel
theorem dX11_bell_8 : decode cX11_bell 8 = .ok (.iconst 0, 1) := by decide +kernel
theorem dX11_bell_9 : decode cX11_bell 9 = .ok (.bipush 47, 2) := by decide +kernel
theorem dX11_bell_11 : decode cX11_bell 11 = .ok (.invokestatic 83, 3) := by decide +kernel
theorem dX11_bell_14 : decode cX11_bell 14 = .ok (.ifCond .eq 28, 3) := by decide +kernel
theorem dX11_bell_17 : decode cX11_bell 17 = .ok (.iload_n 3, 1) := by decide +kernel
theorem dX11_bell_18 : decode cX11_bell 18 = .ok (.iconst 1, 1) := by decide +kernel
theorem dX11_bell_19 : decode cX11_bell 19 = .ok (.bipush 99, 2) := by decide +kernel
theorem dX11_bell_21 : decode cX11_bell 21 = .ok (.invokestatic 83, 3) := by decide +kernel
theorem dX11_bell_24 : decode cX11_bell 24 = .ok (.ifCond .eq 18, 3) := by decide +kernel
theorem dX11_bell_27 : decode cX11_bell 27 = .ok (.iload 4, 2) := by decide +kernel
theorem dX11_bell_29 : decode cX11_bell 29 = .ok (.iconst 0, 1) := by decide +kernel
theorem dX11_bell_30 : decode cX11_bell 30 = .ok (.bipush 99, 2) := by decide +kernel
theorem dX11_bell_32 : decode cX11_bell 32 = .ok (.invokestatic 83, 3) := by decide +kernel
theorem dX11_bell_35 : decode cX11_bell 35 = .ok (.ifCond .eq 7, 3) := by decide +kernel
theorem dX11_bell_38 : decode cX11_bell 38 = .ok (.iconst 1, 1) := by decide +kernel
theorem dX11_bell_39 : decode cX11_bell 39 = .ok (.goto 4, 3) := by decide +kernel
theorem dX11_bell_42 : decode cX11_bell 42 = .ok (.iconst 0, 1) := by decide +kernel
theorem dX11_bell_43 : decode cX11_bell 43 = .ok (.istore 5, 2) := by decide +kernel
theorem dX11_bell_45 : decode cX11_bell 45 = .ok (.iload 5, 2) := by decide +kernel
theorem dX11_bell_47 : decode cX11_bell 47 = .ok (.ifCond .eq 15, 3) := by decide +kernel
theorem dX11_bell_50 : decode cX11_bell 50 = .ok (.aload_n 0, 1) := by decide +kernel
theorem dX11_bell_51 : decode cX11_bell 51 = .ok (.getfield 12, 3) := by decide +kernel
theorem dX11_bell_54 : decode cX11_bell 54 = .ok (.getfield 90, 3) := by decide +kernel
theorem dX11_bell_57 : decode cX11_bell 57 = .ok (.bipush 10, 2) := by decide +kernel
theorem dX11_bell_59 : decode cX11_bell 59 = .ok (.if_icmp .lt 5, 3) := by decide +kernel
theorem dX11_bell_62 : decode cX11_bell 62 = .ok (.iconst (-1), 1) := by decide +kernel
theorem dX11_bell_63 : decode cX11_bell 63 = .ok (.ireturn, 1) := by decide +kernel
theorem dX11_bell_64 : decode cX11_bell 64 = .ok (.aload_n 0, 1) := by decide +kernel
theorem dX11_bell_65 : decode cX11_bell 65 = .ok (.getfield 12, 3) := by decide +kernel
theorem dX11_bell_68 : decode cX11_bell 68 = .ok (.getfield 93, 3) := by decide +kernel
theorem dX11_bell_71 : decode cX11_bell 71 = .ok (.aload_n 0, 1) := by decide +kernel
theorem dX11_bell_72 : decode cX11_bell 72 = .ok (.getfield 12, 3) := by decide +kernel
theorem dX11_bell_75 : decode cX11_bell 75 = .ok (.getfield 90, 3) := by decide +kernel
theorem dX11_bell_78 : decode cX11_bell 78 = .ok (.aaload, 1) := by decide +kernel
theorem dX11_bell_79 : decode cX11_bell 79 = .ok (.iload_n 1, 1) := by decide +kernel
theorem dX11_bell_80 : decode cX11_bell 80 = .ok (.iload_n 2, 1) := by decide +kernel
theorem dX11_bell_81 : decode cX11_bell 81 = .ok (.iload_n 3, 1) := by decide +kernel
theorem dX11_bell_82 : decode cX11_bell 82 = .ok (.iload 4, 2) := by decide +kernel
theorem dX11_bell_84 : decode cX11_bell 84 = .ok (.invokevirtual 97, 3) := by decide +kernel
theorem dX11_bell_87 : decode cX11_bell 87 = .ok (.aload_n 0, 1) := by decide +kernel
theorem dX11_bell_88 : decode cX11_bell 88 = .ok (.getfield 12, 3) := by decide +kernel
theorem dX11_bell_91 : decode cX11_bell 91 = .ok (.dup, 1) := by decide +kernel
theorem dX11_bell_92 : decode cX11_bell 92 = .ok (.getfield 90, 3) := by decide +kernel
theorem dX11_bell_95 : decode cX11_bell 95 = .ok (.iconst 1, 1) := by decide +kernel
theorem dX11_bell_96 : decode cX11_bell 96 = .ok (.iadd, 1) := by decide +kernel
theorem dX11_bell_97 : decode cX11_bell 97 = .ok (.putfield 90, 3) := by decide +kernel
theorem dX11_bell_100 : decode cX11_bell 100 = .ok (.aload_n 0, 1) := by decide +kernel
theorem dX11_bell_101 : decode cX11_bell 101 = .ok (.getfield 22, 3) := by decide +kernel
theorem dX11_bell_104 : decode cX11_bell 104 = .ok (.invokevirtual 76, 3) := by decide +kernel
theorem dX11_bell_107 : decode cX11_bell 107 = .ok (.aload_n 0, 1) := by decide +kernel
theorem dX11_bell_108 : decode cX11_bell 108 = .ok (.getfield 12, 3) := by decide +kernel
theorem dX11_bell_111 : decode cX11_bell 111 = .ok (.getfield 90, 3) := by decide +kernel
theorem dX11_bell_114 : decode cX11_bell 114 = .ok (.iconst 1, 1) := by decide +kernel
theorem dX11_bell_115 : decode cX11_bell 115 = .ok (.isub, 1) := by decide +kernel
theorem dX11_bell_116 : decode cX11_bell 116 = .ok (.ireturn, 1) := by decide +kernel
set_option maxHeartbeats 4000000 in
set_option maxRecDepth 100000 in
theorem e_X11_bell (l : Launch) (D : va_G) (tys : List (ClassId × FieldType)) (base : Nat) (G : iv_G) (h0 : Nat) (g_h0 : Nat → Int32) (r_h0 : Nat → Nat) (a_h0 : G h0 = some (11, g_h0, r_h0)) (x_0 : Int32) (i_x_0 : iv_R (-2147483648) 2147483647 x_0) (x_1 : Int32) (i_x_1 : iv_R (-2147483648) 2147483647 x_1) (x_2 : Int32) (i_x_2 : iv_R (-2147483648) 2147483647 x_2) (x_3 : Int32) (i_x_3 : iv_R (-2147483648) 2147483647 x_3) : Met l yX11_bell (Cond.code yX11_bell cX11_bell 6 (some .int) :: iv_W0) ({ frames := 2, cells := 0, slots := 0, locals := 42 }) (iv_Pc iv_sh D classes tys base G [.ref h0, .int x_0, .int x_1, .int x_2, .int x_3]) (iv_Qi iv_sh D classes tys base (fun v G' => iv_MdF [1, 5, 6] G G' ∧ iv_R (-1) 9 v ∧ lb_P 5 1 (r_h0 0) x_0 x_1 x_2 x_3 v G G')) 0 0 (iv_A base) := by
  refine iv_head (by decide) (Nat.le_of_ble_eq_true rfl) ?_
  intro p e s m args below meth c ls X hr hlocks hname hB hl
  have X := X
  have hx := X.1.1
  have hb := X.1.2.1
  have hM : iv_MdT [1, 5, 6] G G := iv_MdT.rf
  have hl : lv_has ls 6 [(0, .ref h0), (1, .int x_0), (2, .int x_1), (3, .int x_2), (4, .int x_3)] := hl
  refine lv_iload_n hx hb dX11_bell_0 rfl (lv_at hl 1 rfl) ?_
  refine iv_cSi X k_good k_mf_X11_isTower k_st_X11_isTower k_ml_X11_79 hB (As := [.int x_0]) (e_X11_isTower l D tys base G x_0 i_x_0) ⟨rfl, rfl⟩ ⟨Nat.le_of_ble_eq_true rfl, Nat.le_of_ble_eq_true rfl⟩ ⟨Nat.le_of_ble_eq_true rfl, Nat.le_of_ble_eq_true rfl⟩ rfl rfl hl.1 (Nat.le_of_ble_eq_true rfl) dX11_bell_1 (fun x1 G9 H locs hq hB => ?_)
  obtain ⟨rfl, i_x1, hp2⟩ := hq
  refine lv_if_eq (tgt := 42) hx hb dX11_bell_4 (by decide) (fun c3 => ?_) (fun c3 => ?_)
  · skip
    have i3_x1 : iv_R 0 0 x1 := (i_x1.cutHi (n := 0) (iv_eq_r c3 q_0).2)
    refine lv_iconst (v := 0) hx hb dX11_bell_42 (by decide) ?_
    refine lv_istore (lv' := [(5, .int 0), (0, .ref h0), (1, .int x_0), (2, .int x_1), (3, .int x_2), (4, .int x_3)]) hx hb dX11_bell_43 hl (by decide) rfl (fun ls hl => ?_)
    refine lv_iload hx hb dX11_bell_45 (lv_at hl 0 rfl) ?_
    refine lv_if_eq (tgt := 62) hx hb dX11_bell_47 (by decide) (fun c5 => ?_) (fun c5 => ?_)
    · skip
      refine lv_iconst (v := (-1)) hx hb dX11_bell_62 (by decide) ?_
      exact iv_iret X hr hlocks hB ⟨iv_MdF.of hM, (q_n1.wk (by decide)), lb_no (fun x hx h9 => hp2.2 c3 h9.1)⟩ dX11_bell_63
    · skip
      exact absurd rfl c5
  · skip
    have i5_x1 : iv_R 1 1 x1 := iv_ne_lo c3 i_x1 q_0 (by decide)
    have i6_x_0 : iv_R 0 3 x_0 := ((i_x_0.cutLo (n := 0) (hp2.1 c3).1).cutHi (n := 3) (hp2.1 c3).2)
    refine lv_iload_n hx hb dX11_bell_7 rfl (lv_at hl 2 rfl) ?_
    refine lv_iconst (v := 0) hx hb dX11_bell_8 (by decide) ?_
    refine lv_bipush (v := 47) hx hb dX11_bell_9 (by decide) ?_
    refine iv_cSi X k_good k_mf_X11_isWithin k_st_X11_isWithin k_ml_X11_83 hB (As := [.int x_1, .int 0, .int 47]) (c_X11_isWithin l D tys base G x_1 i_x_1 0 (q_0.wk (by decide)) 47 (q_47.wk (by decide))) ⟨rfl, rfl⟩ ⟨Nat.le_of_ble_eq_true rfl, Nat.le_of_ble_eq_true rfl⟩ ⟨Nat.le_of_ble_eq_true rfl, Nat.le_of_ble_eq_true rfl⟩ rfl rfl hl.1 (Nat.le_of_ble_eq_true rfl) dX11_bell_11 (fun x8 G9 H locs hq hB => ?_)
    obtain ⟨rfl, i_x8, hp9⟩ := hq
    have k10 : ¬ x8 = 0 → iv_R 0 47 x_1 := fun h => ⟨iv_max i_x_1.1 (Int.le_trans q_0.1 (hp9.1 h).1) (by decide), iv_min i_x_1.2 (Int.le_trans (hp9.1 h).2 q_47.2) (by decide)⟩
    refine lv_if_eq (tgt := 42) hx hb dX11_bell_14 (by decide) (fun c11 => ?_) (fun c11 => ?_)
    · skip
      have i11_x8 : iv_R 0 0 x8 := (i_x8.cutHi (n := 0) (iv_eq_r c11 q_0).2)
      refine lv_iconst (v := 0) hx hb dX11_bell_42 (by decide) ?_
      refine lv_istore (lv' := [(5, .int 0), (0, .ref h0), (1, .int x_0), (2, .int x_1), (3, .int x_2), (4, .int x_3)]) hx hb dX11_bell_43 hl (by decide) rfl (fun ls hl => ?_)
      refine lv_iload hx hb dX11_bell_45 (lv_at hl 0 rfl) ?_
      refine lv_if_eq (tgt := 62) hx hb dX11_bell_47 (by decide) (fun c13 => ?_) (fun c13 => ?_)
      · skip
        refine lv_iconst (v := (-1)) hx hb dX11_bell_62 (by decide) ?_
        exact iv_iret X hr hlocks hB ⟨iv_MdF.of hM, (q_n1.wk (by decide)), lb_no (fun x hx h9 => by have w1 := hp9.2 c11; have w2 := h9.2.1.1; have w3 := h9.2.1.2; have e0 : (0 : Int32).toInt = 0 := rfl; have e1 : (1 : Int32).toInt = 1 := rfl; have e47 : (47 : Int32).toInt = 47 := rfl; have e99 : (99 : Int32).toInt = 99 := rfl; have e10 : (10 : Int32).toInt = 10 := rfl; omega)⟩ dX11_bell_63
      · skip
        exact absurd rfl c13
    · skip
      have i13_x8 : iv_R 1 1 x8 := iv_ne_lo c11 i_x8 q_0 (by decide)
      have i14_x_1 : iv_R 0 47 x_1 := ((i_x_1.cutLo (n := 0) (k10 c11).1).cutHi (n := 47) (k10 c11).2)
      refine lv_iload_n hx hb dX11_bell_17 rfl (lv_at hl 3 rfl) ?_
      refine lv_iconst (v := 1) hx hb dX11_bell_18 (by decide) ?_
      refine lv_bipush (v := 99) hx hb dX11_bell_19 (by decide) ?_
      refine iv_cSi X k_good k_mf_X11_isWithin k_st_X11_isWithin k_ml_X11_83 hB (As := [.int x_2, .int 1, .int 99]) (c_X11_isWithin l D tys base G x_2 i_x_2 1 (q_1.wk (by decide)) 99 (q_99.wk (by decide))) ⟨rfl, rfl⟩ ⟨Nat.le_of_ble_eq_true rfl, Nat.le_of_ble_eq_true rfl⟩ ⟨Nat.le_of_ble_eq_true rfl, Nat.le_of_ble_eq_true rfl⟩ rfl rfl hl.1 (Nat.le_of_ble_eq_true rfl) dX11_bell_21 (fun x16 G9 H locs hq hB => ?_)
      obtain ⟨rfl, i_x16, hp17⟩ := hq
      have k18 : ¬ x16 = 0 → iv_R 1 99 x_2 := fun h => ⟨iv_max i_x_2.1 (Int.le_trans q_1.1 (hp17.1 h).1) (by decide), iv_min i_x_2.2 (Int.le_trans (hp17.1 h).2 q_99.2) (by decide)⟩
      refine lv_if_eq (tgt := 42) hx hb dX11_bell_24 (by decide) (fun c19 => ?_) (fun c19 => ?_)
      · skip
        have i19_x16 : iv_R 0 0 x16 := (i_x16.cutHi (n := 0) (iv_eq_r c19 q_0).2)
        refine lv_iconst (v := 0) hx hb dX11_bell_42 (by decide) ?_
        refine lv_istore (lv' := [(5, .int 0), (0, .ref h0), (1, .int x_0), (2, .int x_1), (3, .int x_2), (4, .int x_3)]) hx hb dX11_bell_43 hl (by decide) rfl (fun ls hl => ?_)
        refine lv_iload hx hb dX11_bell_45 (lv_at hl 0 rfl) ?_
        refine lv_if_eq (tgt := 62) hx hb dX11_bell_47 (by decide) (fun c21 => ?_) (fun c21 => ?_)
        · skip
          refine lv_iconst (v := (-1)) hx hb dX11_bell_62 (by decide) ?_
          exact iv_iret X hr hlocks hB ⟨iv_MdF.of hM, (q_n1.wk (by decide)), lb_no (fun x hx h9 => by have w1 := hp17.2 c19; have w2 := h9.2.2.1.1; have w3 := h9.2.2.1.2; have e0 : (0 : Int32).toInt = 0 := rfl; have e1 : (1 : Int32).toInt = 1 := rfl; have e47 : (47 : Int32).toInt = 47 := rfl; have e99 : (99 : Int32).toInt = 99 := rfl; have e10 : (10 : Int32).toInt = 10 := rfl; omega)⟩ dX11_bell_63
        · skip
          exact absurd rfl c21
      · skip
        have i21_x16 : iv_R 1 1 x16 := iv_ne_lo c19 i_x16 q_0 (by decide)
        have i22_x_2 : iv_R 1 99 x_2 := ((i_x_2.cutLo (n := 1) (k18 c19).1).cutHi (n := 99) (k18 c19).2)
        refine lv_iload hx hb dX11_bell_27 (lv_at hl 4 rfl) ?_
        refine lv_iconst (v := 0) hx hb dX11_bell_29 (by decide) ?_
        refine lv_bipush (v := 99) hx hb dX11_bell_30 (by decide) ?_
        refine iv_cSi X k_good k_mf_X11_isWithin k_st_X11_isWithin k_ml_X11_83 hB (As := [.int x_3, .int 0, .int 99]) (c_X11_isWithin l D tys base G x_3 i_x_3 0 (q_0.wk (by decide)) 99 (q_99.wk (by decide))) ⟨rfl, rfl⟩ ⟨Nat.le_of_ble_eq_true rfl, Nat.le_of_ble_eq_true rfl⟩ ⟨Nat.le_of_ble_eq_true rfl, Nat.le_of_ble_eq_true rfl⟩ rfl rfl hl.1 (Nat.le_of_ble_eq_true rfl) dX11_bell_32 (fun x24 G9 H locs hq hB => ?_)
        obtain ⟨rfl, i_x24, hp25⟩ := hq
        have k26 : ¬ x24 = 0 → iv_R 0 99 x_3 := fun h => ⟨iv_max i_x_3.1 (Int.le_trans q_0.1 (hp25.1 h).1) (by decide), iv_min i_x_3.2 (Int.le_trans (hp25.1 h).2 q_99.2) (by decide)⟩
        refine lv_if_eq (tgt := 42) hx hb dX11_bell_35 (by decide) (fun c27 => ?_) (fun c27 => ?_)
        · skip
          have i27_x24 : iv_R 0 0 x24 := (i_x24.cutHi (n := 0) (iv_eq_r c27 q_0).2)
          refine lv_iconst (v := 0) hx hb dX11_bell_42 (by decide) ?_
          refine lv_istore (lv' := [(5, .int 0), (0, .ref h0), (1, .int x_0), (2, .int x_1), (3, .int x_2), (4, .int x_3)]) hx hb dX11_bell_43 hl (by decide) rfl (fun ls hl => ?_)
          refine lv_iload hx hb dX11_bell_45 (lv_at hl 0 rfl) ?_
          refine lv_if_eq (tgt := 62) hx hb dX11_bell_47 (by decide) (fun c29 => ?_) (fun c29 => ?_)
          · skip
            refine lv_iconst (v := (-1)) hx hb dX11_bell_62 (by decide) ?_
            exact iv_iret X hr hlocks hB ⟨iv_MdF.of hM, (q_n1.wk (by decide)), lb_no (fun x hx h9 => by have w1 := hp25.2 c27; have w2 := h9.2.2.2.1.1; have w3 := h9.2.2.2.1.2; have e0 : (0 : Int32).toInt = 0 := rfl; have e1 : (1 : Int32).toInt = 1 := rfl; have e47 : (47 : Int32).toInt = 47 := rfl; have e99 : (99 : Int32).toInt = 99 := rfl; have e10 : (10 : Int32).toInt = 10 := rfl; omega)⟩ dX11_bell_63
          · skip
            exact absurd rfl c29
        · skip
          have i29_x24 : iv_R 1 1 x24 := iv_ne_lo c27 i_x24 q_0 (by decide)
          have i30_x_3 : iv_R 0 99 x_3 := ((i_x_3.cutLo (n := 0) (k26 c27).1).cutHi (n := 99) (k26 c27).2)
          refine lv_iconst (v := 1) hx hb dX11_bell_38 (by decide) ?_
          refine lv_goto (tgt := 43) hx hb dX11_bell_39 (by decide) ?_
          refine lv_istore (lv' := [(5, .int 1), (0, .ref h0), (1, .int x_0), (2, .int x_1), (3, .int x_2), (4, .int x_3)]) hx hb dX11_bell_43 hl (by decide) rfl (fun ls hl => ?_)
          refine lv_iload hx hb dX11_bell_45 (lv_at hl 0 rfl) ?_
          refine lv_if_eq (tgt := 62) hx hb dX11_bell_47 (by decide) (fun c32 => ?_) (fun c32 => ?_)
          · skip
            exact (q_1.cutHi (n := 0) (iv_eq_r c32 q_0).2).no (by decide)
          · skip
            refine lv_aload_n hx hb dX11_bell_50 rfl (lv_at hl 1 rfl) ?_
            refine iv_getr X ft_X11 hB a_h0 sh_11 0 (by decide) rfl k_fl_X11_12 dX11_bell_51 (fun b33 g_b33 r_b33 e_b33 a_b33 => ?_)
            have a_b33o := a_b33
            refine iv_geti X ft_X5 hB a_b33 sh_5 1 (by decide) rfl k_fl_X11_90 dX11_bell_54 (fun x34 e_x34 i_x34 => ?_)
            refine lv_bipush (v := 10) hx hb dX11_bell_57 (by decide) ?_
            refine lv_icmp_lt (tgt := 64) hx hb dX11_bell_59 (by decide) (fun c35 => ?_) (fun c35 => ?_)
            · skip
              have i35_x34 : iv_R 0 9 x34 := (i_x34.cutHi (n := 9) (iv_lt_r c35 q_10 (by decide)))
              refine lv_aload_n hx hb dX11_bell_64 rfl (lv_at hl 1 rfl) ?_
              refine iv_getr0 X ft_X11 hB a_h0 sh_11 0 (by decide) rfl k_fl_X11_12 dX11_bell_65 e_b33 ?_
              refine iv_getr X ft_X5 hB a_b33 sh_5 0 (by decide) rfl k_fl_X11_93 dX11_bell_68 (fun b37 g_b37 r_b37 e_b37 a_b37 => ?_)
              refine lv_aload_n hx hb dX11_bell_71 rfl (lv_at hl 1 rfl) ?_
              refine iv_getr0 X ft_X11 hB a_h0 sh_11 0 (by decide) rfl k_fl_X11_12 dX11_bell_72 e_b33 ?_
              refine iv_geti0 X ft_X5 hB a_b33 sh_5 1 (by decide) rfl k_fl_X11_90 dX11_bell_75 e_x34 ?_
              refine iv_aald X hB a_b37 sh_40 (iv_in i35_x34 (by decide)) dX11_bell_78 (fun b38 g_b38 r_b38 e_b38 a_b38 => ?_)
              refine lv_iload_n hx hb dX11_bell_79 rfl (lv_at hl 2 rfl) ?_
              refine lv_iload_n hx hb dX11_bell_80 rfl (lv_at hl 3 rfl) ?_
              refine lv_iload_n hx hb dX11_bell_81 rfl (lv_at hl 4 rfl) ?_
              refine lv_iload hx hb dX11_bell_82 (lv_at hl 5 rfl) ?_
              refine iv_cVv X k_good k_mf_X1_begin k_im_X1_begin k_sel_X1_begin k_ml_X11_97 ft_X1 hB a_b38 sh_1 (As := [.int x_0, .int x_1, .int x_2, .int x_3]) (c_X1_begin l D tys base G b38 g_b38 r_b38 a_b38 x_0 (i6_x_0.wk (by decide)) x_1 (i14_x_1.wk (by decide)) x_2 (i22_x_2.wk (by decide)) x_3 (i30_x_3.wk (by decide))) ⟨rfl, rfl⟩ ⟨Nat.le_of_ble_eq_true rfl, Nat.le_of_ble_eq_true rfl⟩ ⟨Nat.le_of_ble_eq_true rfl, Nat.le_of_ble_eq_true rfl⟩ rfl rfl hl.1 (Nat.le_of_ble_eq_true rfl) dX11_bell_84 (fun G9 H locs hq hB => ?_)
              have hm := hq
              obtain ⟨G39, hG9⟩ : ∃ g, g = G9 := ⟨_, rfl⟩
              rw [← hG9] at hm hB
              have hM := hM.stp (iv_MdT.of hm) (by decide)
              have a_h0 := hm.at a_h0 (by decide)
              have a_b33 := hm.at a_b33 (by decide)
              refine lv_aload_n hx hb dX11_bell_87 rfl (lv_at hl 1 rfl) ?_
              refine iv_getr0 X ft_X11 hB a_h0 sh_11 0 (by decide) rfl k_fl_X11_12 dX11_bell_88 e_b33 ?_
              refine lv_dup hx hb dX11_bell_91 rfl ?_
              refine iv_geti0 X ft_X5 hB a_b33 sh_5 1 (by decide) rfl k_fl_X11_90 dX11_bell_92 e_x34 ?_
              refine lv_iconst (v := 1) hx hb dX11_bell_95 (by decide) ?_
              refine iv_iadd hx hb i35_x34 q_1 (lo := 1) (hi := 10) (by decide) dX11_bell_96 (fun x40 e_x40 i_x40 => ?_)
              refine iv_puti X ft_X5 hB a_b33 sh_5 1 (by decide) rfl rfl k_fl_X11_90 rfl (i_x40.wk (by decide)) rfl rfl dX11_bell_97 (fun H locs hB => ?_)
              have hK : iv_kp 5 1 b33 G G39 := iv_kp.T hM (by decide)
              have hK := hK.tr (iv_kp.up (b := b33) (k := (5, upd g_b33 1 x40, r_b33)))
              have hC : iv_kc 5 1 b33 x40 (iv_up G39 b33 (5, upd g_b33 1 x40, r_b33)) := iv_kc.up
              have hm := iv_MdF.put (x := x40) a_b33 (j := 1) (by decide)
              have h9 := iv_up_eq (G := G39) (a := b33) (k := (5, upd g_b33 1 x40, r_b33))
              generalize iv_up G39 b33 _ = G41 at hB hm h9 hK hC
              have hM := (iv_MdF.of hM).stp hm (by decide)
              generalize hgn_g42 : upd g_b33 _ _ = g42 at h9
              have a_h0 := hm.at a_h0 (by decide)
              have a_b33 := h9
              have e9_g42 : x40 = g42 1 := by rw [← hgn_g42]; simp [upd]
              refine lv_aload_n hx hb dX11_bell_100 rfl (lv_at hl 1 rfl) ?_
              refine iv_getr X ft_X11 hB a_h0 sh_11 3 (by decide) rfl k_fl_X11_22 dX11_bell_101 (fun b43 g_b43 r_b43 e_b43 a_b43 => ?_)
              refine iv_cVv X k_good k_mf_X6_forget k_im_X6_forget k_sel_X6_forget k_ml_X11_76 ft_X6 hB a_b43 sh_6 (As := []) (c_X6_forget l D tys base G41 b43 g_b43 r_b43 a_b43) ⟨rfl, rfl⟩ ⟨Nat.le_of_ble_eq_true rfl, Nat.le_of_ble_eq_true rfl⟩ ⟨Nat.le_of_ble_eq_true rfl, Nat.le_of_ble_eq_true rfl⟩ rfl rfl hl.1 (Nat.le_of_ble_eq_true rfl) dX11_bell_104 (fun G9 H locs hq hB => ?_)
              have hm := hq
              obtain ⟨G44, hG9⟩ : ∃ g, g = G9 := ⟨_, rfl⟩
              rw [← hG9] at hm hB
              have hM := hM.stp (iv_MdF.ofM hm) (by decide)
              have hK := hK.tr (iv_kp.T (iv_MdT.of hm) (by decide))
              have hC := hC.T (iv_MdT.of hm) (by decide)
              have a_h0 := hm.at a_h0 (by decide)
              have a_b33 := hm.at a_b33 (by decide)
              refine lv_aload_n hx hb dX11_bell_107 rfl (lv_at hl 1 rfl) ?_
              refine iv_getr0 X ft_X11 hB a_h0 sh_11 0 (by decide) rfl k_fl_X11_12 dX11_bell_108 e_b33 ?_
              refine iv_geti0 X ft_X5 hB a_b33 sh_5 1 (by decide) rfl k_fl_X11_90 dX11_bell_111 e9_g42 ?_
              refine lv_iconst (v := 1) hx hb dX11_bell_114 (by decide) ?_
              refine iv_isub hx hb i_x40 q_1 (lo := 0) (hi := 9) (by decide) dX11_bell_115 (fun x45 e_x45 i_x45 => ?_)
              exact iv_iret X hr hlocks hB ⟨hM, (i_x45.wk (by decide)), (by rw [← e_b33]; exact lb_yes a_b33o ⟨i6_x_0, i14_x_1, i22_x_2, i30_x_3, by rw [← e_x34]; exact i35_x34.2⟩ hK hC (by have w1 := congrArg Int32.toInt e_x34; have e1 : (1 : Int32).toInt = 1 := rfl; omega) (Int32.toInt_inj.mp (by have w1 := congrArg Int32.toInt e_x34; have e1 : (1 : Int32).toInt = 1 := rfl; omega)))⟩ dX11_bell_116
            · skip
              have i45_x34 : iv_R 10 10 x34 := (i_x34.cutLo (n := 10) (iv_le_l (iv_nlt c35) q_10))
              refine lv_iconst (v := (-1)) hx hb dX11_bell_62 (by decide) ?_
              exact iv_iret X hr hlocks hB ⟨iv_MdF.of hM, (q_n1.wk (by decide)), (by rw [← e_b33]; exact lb_no (fun x hx h9 => by have w1 := congrArg Int32.toInt (e_x34.trans (hx.val a_b33)); have w2 := i45_x34.1; have w3 := h9.2.2.2.2; omega))⟩ dX11_bell_63
