theorem dX12_draw_0 : decode cX12_draw 0 = .ok (.aload_n 0, 1) := by decide +kernel
theorem dX12_draw_1 : decode cX12_draw 1 = .ok (.getfield 7, 3) := by decide +kernel
theorem dX12_draw_4 : decode cX12_draw 4 = .ok (.iconst 2, 1) := by decide +kernel
theorem dX12_draw_5 : decode cX12_draw 5 = .ok (.ldc 66, 2) := by decide +kernel
theorem dX12_draw_7 : decode cX12_draw 7 = .ok (.aload_n 0, 1) := by decide +kernel
theorem dX12_draw_8 : decode cX12_draw 8 = .ok (.getfield 7, 3) := by decide +kernel
theorem dX12_draw_11 : decode cX12_draw 11 = .ok (.iconst 2, 1) := by decide +kernel
theorem dX12_draw_12 : decode cX12_draw 12 = .ok (.iaload, 1) := by decide +kernel
theorem dX12_draw_13 : decode cX12_draw 13 = .ok (.imul, 1) := by decide +kernel
theorem dX12_draw_14 : decode cX12_draw 14 = .ok (.ldc 67, 2) := by decide +kernel
theorem dX12_draw_16 : decode cX12_draw 16 = .ok (.iadd, 1) := by decide +kernel
theorem dX12_draw_17 : decode cX12_draw 17 = .ok (.iastore, 1) := by decide +kernel
theorem dX12_draw_18 : decode cX12_draw 18 = .ok (.aload_n 0, 1) := by decide +kernel
theorem dX12_draw_19 : decode cX12_draw 19 = .ok (.getfield 7, 3) := by decide +kernel
theorem dX12_draw_22 : decode cX12_draw 22 = .ok (.iconst 2, 1) := by decide +kernel
theorem dX12_draw_23 : decode cX12_draw 23 = .ok (.iaload, 1) := by decide +kernel
theorem dX12_draw_24 : decode cX12_draw 24 = .ok (.bipush 8, 2) := by decide +kernel
theorem dX12_draw_26 : decode cX12_draw 26 = .ok (.iushr, 1) := by decide +kernel
theorem dX12_draw_27 : decode cX12_draw 27 = .ok (.iload_n 1, 1) := by decide +kernel
theorem dX12_draw_28 : decode cX12_draw 28 = .ok (.irem, 1) := by decide +kernel
theorem dX12_draw_29 : decode cX12_draw 29 = .ok (.ireturn, 1) := by decide +kernel
set_option maxHeartbeats 4000000 in
set_option maxRecDepth 100000 in
theorem c_X12_draw (l : Launch) (D : va_G) (tys : List (ClassId × FieldType)) (base : Nat) (G : iv_G) (h0 : Nat) (g_h0 : Nat → Int32) (r_h0 : Nat → Nat) (a_h0 : G h0 = some (12, g_h0, r_h0)) (x_0 : Int32) (i_x_0 : iv_R 1000 1000 x_0) : Met l yX12_draw (Cond.code yX12_draw cX12_draw 2 (some .int) :: iv_W0) ({ frames := 0, cells := 0, slots := 0, locals := 0 }) (iv_Pc iv_sh D classes tys base G [.ref h0, .int x_0]) (iv_Qi iv_sh D classes tys base (fun v G' => iv_Md [60] G G' ∧ iv_R (-999) 999 v)) 0 0 (iv_A base) := by
  refine iv_head (by decide) (Nat.le_of_ble_eq_true rfl) ?_
  intro p e s m args below meth c ls X hr hlocks hname hB hl
  have X := X
  have hx := X.1.1
  have hb := X.1.2.1
  have hM : iv_Md [60] G G := iv_Md.rf
  have hl : lv_has ls 2 [(0, .ref h0), (1, .int x_0)] := hl
  refine lv_aload_n hx hb dX12_draw_0 rfl (lv_at hl 0 rfl) ?_
  refine iv_getr X ft_X12 hB a_h0 sh_12 0 (by decide) rfl k_fl_X12_7 dX12_draw_1 (fun b1 g_b1 r_b1 e_b1 a_b1 => ?_)
  refine lv_iconst (v := 2) hx hb dX12_draw_4 (by decide) ?_
  refine lv_ldc (v := 1664525) hx hb X.1.2.2.2.1 (X.1.2.2.2.2 _ k_ct_X12_66) dX12_draw_5 ?_
  refine lv_aload_n hx hb dX12_draw_7 rfl (lv_at hl 0 rfl) ?_
  refine iv_getr0 X ft_X12 hB a_h0 sh_12 0 (by decide) rfl k_fl_X12_7 dX12_draw_8 e_b1 ?_
  refine lv_iconst (v := 2) hx hb dX12_draw_11 (by decide) ?_
  refine iv_wald_c X hB a_b1 q_2 (by decide) (lo := (-2147483648)) (hi' := 2147483647) (by decide) dX12_draw_12 (fun x2 e_x2 i_x2 => ?_)
  refine lv_imul hx hb dX12_draw_13 ?_
  refine lv_topi (fun x3 e_x3 => ?_)
  have i_x3 := iv_R.all x3
  refine lv_ldc (v := 1013904223) hx hb X.1.2.2.2.1 (X.1.2.2.2.2 _ k_ct_X12_67) dX12_draw_14 ?_
  refine lv_iadd hx hb dX12_draw_16 ?_
  refine lv_topi (fun x4 e_x4 => ?_)
  have i_x4 := iv_R.all x4
  refine iv_wast_c X hB a_b1 q_2 (by decide) (lo := (-2147483648)) (hi' := 2147483647) (by decide) i_x4 dX12_draw_17 (fun H locs hB => ?_)
  have hB : iv_B iv_sh D classes tys base (iv_up G b1 (60, upd g_b1 2 x4, r_b1)) s.heap H locs := hB
  have hm := iv_Md.put (x := x4) a_b1 (j := 2) (by decide) (fun h => absurd h (by decide))
  have h9 := iv_up_eq (G := G) (a := b1) (k := (60, upd g_b1 2 x4, r_b1))
  generalize iv_up G b1 _ = G5 at hB hm h9
  have hM := hM.stp hm (by decide)
  generalize hgn_g6 : upd g_b1 _ _ = g6 at h9
  have a_h0 := hm.at a_h0 (by decide)
  have a_b1 := h9
  have e7 : x4 = g6 2 := by rw [← hgn_g6]; simp [upd]
  refine lv_aload_n hx hb dX12_draw_18 rfl (lv_at hl 0 rfl) ?_
  refine iv_getr0 X ft_X12 hB a_h0 sh_12 0 (by decide) rfl k_fl_X12_7 dX12_draw_19 e_b1 ?_
  refine lv_iconst (v := 2) hx hb dX12_draw_22 (by decide) ?_
  refine iv_wald_c X hB a_b1 q_2 (by decide) (lo := (-2147483648)) (hi' := 2147483647) (by decide) dX12_draw_23 (fun x8 e_x8 k_x8 => ?_)
  obtain rfl : x4 = x8 := e7.trans e_x8.symm
  refine lv_bipush (v := 8) hx hb dX12_draw_24 (by decide) ?_
  refine lv_iushr hx hb dX12_draw_26 rfl ?_
  refine lv_topi (fun x9 e_x9 => ?_)
  have i_x9 := iv_R.all x9
  refine lv_iload_n hx hb dX12_draw_27 rfl (lv_at hl 1 rfl) ?_
  refine iv_irem hx hb i_x9 i_x_0 (lo := (-999)) (hi := 999) (by decide) dX12_draw_28 (fun x10 e_x10 i_x10 => ?_)
  exact iv_iret X hr hlocks hB ⟨hM, i_x10⟩ dX12_draw_29
theorem dX12_eldest_0 : decode cX12_eldest 0 = .ok (.aload_n 0, 1) := by decide +kernel
theorem dX12_eldest_1 : decode cX12_eldest 1 = .ok (.iload_n 1, 1) := by decide +kernel
theorem dX12_eldest_2 : decode cX12_eldest 2 = .ok (.invokevirtual 76, 3) := by decide +kernel
theorem dX12_eldest_5 : decode cX12_eldest 5 = .ok (.ifCond .eq 12, 3) := by decide +kernel
theorem dX12_eldest_8 : decode cX12_eldest 8 = .ok (.iload_n 2, 1) := by decide +kernel
theorem dX12_eldest_9 : decode cX12_eldest 9 = .ok (.iconst 0, 1) := by decide +kernel
theorem dX12_eldest_10 : decode cX12_eldest 10 = .ok (.iconst 1, 1) := by decide +kernel
theorem dX12_eldest_11 : decode cX12_eldest 11 = .ok (.invokestatic 56, 3) := by decide +kernel
theorem dX12_eldest_14 : decode cX12_eldest 14 = .ok (.ifCond .ne 5, 3) := by decide +kernel
theorem dX12_eldest_17 : decode cX12_eldest 17 = .ok (.iconst (-1), 1) := by decide +kernel
theorem dX12_eldest_18 : decode cX12_eldest 18 = .ok (.ireturn, 1) := by decide +kernel
theorem dX12_eldest_19 : decode cX12_eldest 19 = .ok (.iconst 0, 1) := by decide +kernel
theorem dX12_eldest_20 : decode cX12_eldest 20 = .ok (.istore_n 3, 1) := by decide +kernel
theorem dX12_eldest_21 : decode cX12_eldest 21 = .ok (.iload_n 3, 1) := by decide +kernel
theorem dX12_eldest_22 : decode cX12_eldest 22 = .ok (.aload_n 0, 1) := by decide +kernel
theorem dX12_eldest_23 : decode cX12_eldest 23 = .ok (.getfield 7, 3) := by decide +kernel
theorem dX12_eldest_26 : decode cX12_eldest 26 = .ok (.iconst 4, 1) := by decide +kernel
theorem dX12_eldest_27 : decode cX12_eldest 27 = .ok (.iaload, 1) := by decide +kernel
theorem dX12_eldest_28 : decode cX12_eldest 28 = .ok (.if_icmp .ge 29, 3) := by decide +kernel
theorem dX12_eldest_31 : decode cX12_eldest 31 = .ok (.aload_n 0, 1) := by decide +kernel
theorem dX12_eldest_32 : decode cX12_eldest 32 = .ok (.iload_n 3, 1) := by decide +kernel
theorem dX12_eldest_33 : decode cX12_eldest 33 = .ok (.iload_n 2, 1) := by decide +kernel
theorem dX12_eldest_34 : decode cX12_eldest 34 = .ok (.ifCond .ne 7, 3) := by decide +kernel
theorem dX12_eldest_37 : decode cX12_eldest 37 = .ok (.iconst 0, 1) := by decide +kernel
theorem dX12_eldest_38 : decode cX12_eldest 38 = .ok (.goto 4, 3) := by decide +kernel
theorem dX12_eldest_41 : decode cX12_eldest 41 = .ok (.iconst 1, 1) := by decide +kernel
theorem dX12_eldest_42 : decode cX12_eldest 42 = .ok (.invokevirtual 335, 3) := by decide +kernel
theorem dX12_eldest_45 : decode cX12_eldest 45 = .ok (.iload_n 1, 1) := by decide +kernel
theorem dX12_eldest_46 : decode cX12_eldest 46 = .ok (.if_icmp .ne 5, 3) := by decide +kernel
theorem dX12_eldest_49 : decode cX12_eldest 49 = .ok (.iload_n 3, 1) := by decide +kernel
theorem dX12_eldest_50 : decode cX12_eldest 50 = .ok (.ireturn, 1) := by decide +kernel
theorem dX12_eldest_51 : decode cX12_eldest 51 = .ok (.iinc 3 1, 3) := by decide +kernel
theorem dX12_eldest_54 : decode cX12_eldest 54 = .ok (.goto (-33), 3) := by decide +kernel
theorem dX12_eldest_57 : decode cX12_eldest 57 = .ok (.iconst (-1), 1) := by decide +kernel
theorem dX12_eldest_58 : decode cX12_eldest 58 = .ok (.ireturn, 1) := by decide +kernel
set_option maxHeartbeats 4000000 in
set_option maxRecDepth 100000 in
theorem c_X12_eldest (l : Launch) (D : va_G) (tys : List (ClassId × FieldType)) (base : Nat) (G : iv_G) (h0 : Nat) (g_h0 : Nat → Int32) (r_h0 : Nat → Nat) (a_h0 : G h0 = some (12, g_h0, r_h0)) (x_0 : Int32) (i_x_0 : iv_R (-2147483648) 2147483647 x_0) (x_1 : Int32) (i_x_1 : iv_R (-2147483648) 2147483647 x_1) : Met l yX12_eldest (Cond.code yX12_eldest cX12_eldest 4 (some .int) :: iv_W0) ({ frames := 2, cells := 0, slots := 0, locals := 43 }) (iv_Pc iv_sh D classes tys base G [.ref h0, .int x_0, .int x_1]) (iv_Qi iv_sh D classes tys base (fun v G' => G = G' ∧ iv_R (-1) 19 v)) 0 0 (iv_A base) := by
  refine iv_head (by decide) (Nat.le_of_ble_eq_true rfl) ?_
  intro p e s m args below meth c ls X hr hlocks hname hB hl
  have X := X
  have hx := X.1.1
  have hb := X.1.2.1
  have hl : lv_has ls 4 [(0, .ref h0), (1, .int x_0), (2, .int x_1)] := hl
  refine lv_aload_n hx hb dX12_eldest_0 rfl (lv_at hl 0 rfl) ?_
  refine lv_iload_n hx hb dX12_eldest_1 rfl (lv_at hl 1 rfl) ?_
  refine iv_cVi X k_good k_mf_X12_isBell k_im_X12_isBell k_sel_X12_isBell k_ml_X12_76 ft_X12 hB a_h0 sh_12 (As := [.int x_0]) (c_X12_isBell l D tys base G h0 g_h0 r_h0 a_h0 x_0 i_x_0) ⟨rfl, rfl⟩ ⟨Nat.le_of_ble_eq_true rfl, Nat.le_of_ble_eq_true rfl⟩ ⟨Nat.le_of_ble_eq_true rfl, Nat.le_of_ble_eq_true rfl⟩ rfl rfl hl.1 (Nat.le_of_ble_eq_true rfl) dX12_eldest_2 (fun x1 G9 H locs hq hB => ?_)
  obtain ⟨rfl, i_x1, hp2⟩ := hq
  refine lv_if_eq (tgt := 17) hx hb dX12_eldest_5 (by decide) (fun c3 => ?_) (fun c3 => ?_)
  · skip
    have i3_x1 : iv_R 0 0 x1 := (i_x1.cutHi (n := 0) (iv_eq_r c3 q_0).2)
    refine lv_iconst (v := (-1)) hx hb dX12_eldest_17 (by decide) ?_
    exact iv_iret X hr hlocks hB ⟨rfl, (q_n1.wk (by decide))⟩ dX12_eldest_18
  · skip
    have i4_x1 : iv_R 1 1 x1 := iv_ne_lo c3 i_x1 q_0 (by decide)
    have i5_x_0 : iv_R 0 9 x_0 := ((i_x_0.cutLo (n := 0) (hp2 c3).1).cutHi (n := 9) (hp2 c3).2)
    refine lv_iload_n hx hb dX12_eldest_8 rfl (lv_at hl 2 rfl) ?_
    refine lv_iconst (v := 0) hx hb dX12_eldest_9 (by decide) ?_
    refine lv_iconst (v := 1) hx hb dX12_eldest_10 (by decide) ?_
    refine iv_cSi X k_good k_mf_X12_isIn k_st_X12_isIn k_ml_X12_56 hB (As := [.int x_1, .int 0, .int 1]) (c_X12_isIn l D tys base G x_1 i_x_1 0 (q_0.wk (by decide)) 1 (q_1.wk (by decide))) ⟨rfl, rfl⟩ ⟨Nat.le_of_ble_eq_true rfl, Nat.le_of_ble_eq_true rfl⟩ ⟨Nat.le_of_ble_eq_true rfl, Nat.le_of_ble_eq_true rfl⟩ rfl rfl hl.1 (Nat.le_of_ble_eq_true rfl) dX12_eldest_11 (fun x7 G9 H locs hq hB => ?_)
    obtain ⟨rfl, i_x7, hp8⟩ := hq
    have k9 : ¬ x7 = 0 → iv_R 0 1 x_1 := fun h => ⟨iv_max i_x_1.1 (Int.le_trans q_0.1 (hp8.1 h).1) (by decide), iv_min i_x_1.2 (Int.le_trans (hp8.1 h).2 q_1.2) (by decide)⟩
    refine lv_if_ne (tgt := 19) hx hb dX12_eldest_14 (by decide) (fun c10 => ?_) (fun c10 => ?_)
    · skip
      have i10_x7 : iv_R 1 1 x7 := iv_ne_lo c10 i_x7 q_0 (by decide)
      have i11_x_1 : iv_R 0 1 x_1 := ((i_x_1.cutLo (n := 0) (k9 c10).1).cutHi (n := 1) (k9 c10).2)
      refine lv_iconst (v := 0) hx hb dX12_eldest_19 (by decide) ?_
      refine lv_istore_n (lv' := [(3, .int 0), (0, .ref h0), (1, .int x_0), (2, .int x_1)]) hx hb dX12_eldest_20 rfl hl (by decide) rfl (fun ls hl => ?_)
      have L_21 : ∀ (n_21 : Nat) (H : Heap) (locs : List Loc) (hB : iv_B iv_sh D classes tys base G s.heap H locs) (x13 : Int32) (i_x13 : iv_R 0 20 x13) (hn_21 : (21 - x13.toInt).toNat < n_21) (ls : Array Slot) (hl : lv_has ls 4 [(3, .int x13), (0, .ref h0), (1, .int x_0), (2, .int x_1)]), W p l e ({ frames := 2, cells := 0, slots := 0, locals := 43 } : Room) s m args below meth c H locs 0 0 (MQ below (iv_Qi iv_sh D classes tys base (fun v G' => G = G' ∧ iv_R (-1) 19 v)) args s 0 0 (iv_A base)) (F0 m 21 ls []) := by
        intro n_21
        induction n_21 with
        | zero => intro H locs hB x13 i_x13 hn_21 ls hl; exact absurd hn_21 (Nat.not_lt_zero _)
        | succ n_21 ih_21 =>
          intro H locs hB x13 i_x13 hn_21 ls hl
          refine lv_iload_n hx hb dX12_eldest_21 rfl (lv_at hl 0 rfl) ?_
          refine lv_aload_n hx hb dX12_eldest_22 rfl (lv_at hl 1 rfl) ?_
          refine iv_getr X ft_X12 hB a_h0 sh_12 0 (by decide) rfl k_fl_X12_7 dX12_eldest_23 (fun b14 g_b14 r_b14 e_b14 a_b14 => ?_)
          refine lv_iconst (v := 4) hx hb dX12_eldest_26 (by decide) ?_
          refine iv_wald_c X hB a_b14 q_4 (by decide) (lo := 0) (hi' := 20) (by decide) dX12_eldest_27 (fun x15 e_x15 i_x15 => ?_)
          refine lv_icmp_ge (tgt := 57) hx hb dX12_eldest_28 (by decide) (fun c16 => ?_) (fun c16 => ?_)
          · skip
            refine lv_iconst (v := (-1)) hx hb dX12_eldest_57 (by decide) ?_
            exact iv_iret X hr hlocks hB ⟨rfl, (q_n1.wk (by decide))⟩ dX12_eldest_58
          · skip
            have i16_x13 : iv_R 0 19 x13 := (i_x13.cutHi (n := 19) (iv_lt_r (iv_nle c16) i_x15 (by decide)))
            have i17_x15 : iv_R 1 20 x15 := (i_x15.cutLo (n := 1) (iv_lt_l (iv_nle c16) i_x13 (by decide)))
            refine lv_aload_n hx hb dX12_eldest_31 rfl (lv_at hl 1 rfl) ?_
            refine lv_iload_n hx hb dX12_eldest_32 rfl (lv_at hl 0 rfl) ?_
            refine lv_iload_n hx hb dX12_eldest_33 rfl (lv_at hl 3 rfl) ?_
            refine lv_if_ne (tgt := 41) hx hb dX12_eldest_34 (by decide) (fun c19 => ?_) (fun c19 => ?_)
            · skip
              have i19_x_1 : iv_R 1 1 x_1 := iv_ne_lo c19 i11_x_1 q_0 (by decide)
              refine lv_iconst (v := 1) hx hb dX12_eldest_41 (by decide) ?_
              refine iv_cVi X k_good k_mf_X12_ofChild k_im_X12_ofChild k_sel_X12_ofChild k_ml_X12_335 ft_X12 hB a_h0 sh_12 (As := [.int x13, .int 1]) (c_X12_ofChild l D tys base G h0 g_h0 r_h0 a_h0 x13 i16_x13 1 (q_1.wk (by decide))) ⟨rfl, rfl⟩ ⟨Nat.le_of_ble_eq_true rfl, Nat.le_of_ble_eq_true rfl⟩ ⟨Nat.le_of_ble_eq_true rfl, Nat.le_of_ble_eq_true rfl⟩ rfl rfl hl.1 (Nat.le_of_ble_eq_true rfl) dX12_eldest_42 (fun x21 G9 H locs hq hB => ?_)
              obtain ⟨rfl, i_x21⟩ := hq
              refine lv_iload_n hx hb dX12_eldest_45 rfl (lv_at hl 2 rfl) ?_
              refine lv_icmp_ne (tgt := 51) hx hb dX12_eldest_46 (by decide) (fun c22 => ?_) (fun c22 => ?_)
              · skip
                refine iv_iinc hx hb i16_x13 (lo := 1) (hi := 20) (by decide) dX12_eldest_51 hl (k := 0) rfl (by decide) (fun x23 ls e_x23 i_x23 hl => ?_)
                have hl : lv_has ls 4 [(3, .int x23), (0, .ref h0), (1, .int x_0), (2, .int x_1)] := hl
                refine lv_goto (tgt := 21) hx hb dX12_eldest_54 (by decide) ?_
                exact ih_21 _ _ hB x23 (i_x23.wk (by decide)) (iv_mup (c := 1) i_x13 (by decide) (by decide) (by omega) hn_21) _ (lv_sub hl [0, 1, 2, 3] rfl)
              · skip
                have i23_x21 : iv_R 0 9 x21 := ((i_x21.cutLo (n := 0) (iv_eq_r c22 i5_x_0).1).cutHi (n := 9) (iv_eq_r c22 i5_x_0).2)
                refine lv_iload_n hx hb dX12_eldest_49 rfl (lv_at hl 0 rfl) ?_
                exact iv_iret X hr hlocks hB ⟨rfl, (i16_x13.wk (by decide))⟩ dX12_eldest_50
            · skip
              have i24_x_1 : iv_R 0 0 x_1 := (i11_x_1.cutHi (n := 0) (iv_eq_r c19 q_0).2)
              refine lv_iconst (v := 0) hx hb dX12_eldest_37 (by decide) ?_
              refine lv_goto (tgt := 42) hx hb dX12_eldest_38 (by decide) ?_
              refine iv_cVi X k_good k_mf_X12_ofChild k_im_X12_ofChild k_sel_X12_ofChild k_ml_X12_335 ft_X12 hB a_h0 sh_12 (As := [.int x13, .int 0]) (c_X12_ofChild l D tys base G h0 g_h0 r_h0 a_h0 x13 i16_x13 0 (q_0.wk (by decide))) ⟨rfl, rfl⟩ ⟨Nat.le_of_ble_eq_true rfl, Nat.le_of_ble_eq_true rfl⟩ ⟨Nat.le_of_ble_eq_true rfl, Nat.le_of_ble_eq_true rfl⟩ rfl rfl hl.1 (Nat.le_of_ble_eq_true rfl) dX12_eldest_42 (fun x26 G9 H locs hq hB => ?_)
              obtain ⟨rfl, i_x26⟩ := hq
              refine lv_iload_n hx hb dX12_eldest_45 rfl (lv_at hl 2 rfl) ?_
              refine lv_icmp_ne (tgt := 51) hx hb dX12_eldest_46 (by decide) (fun c27 => ?_) (fun c27 => ?_)
              · skip
                refine iv_iinc hx hb i16_x13 (lo := 1) (hi := 20) (by decide) dX12_eldest_51 hl (k := 0) rfl (by decide) (fun x28 ls e_x28 i_x28 hl => ?_)
                have hl : lv_has ls 4 [(3, .int x28), (0, .ref h0), (1, .int x_0), (2, .int x_1)] := hl
                refine lv_goto (tgt := 21) hx hb dX12_eldest_54 (by decide) ?_
                exact ih_21 _ _ hB x28 (i_x28.wk (by decide)) (iv_mup (c := 1) i_x13 (by decide) (by decide) (by omega) hn_21) _ (lv_sub hl [0, 1, 2, 3] rfl)
              · skip
                have i28_x26 : iv_R 0 9 x26 := ((i_x26.cutLo (n := 0) (iv_eq_r c27 i5_x_0).1).cutHi (n := 9) (iv_eq_r c27 i5_x_0).2)
                refine lv_iload_n hx hb dX12_eldest_49 rfl (lv_at hl 0 rfl) ?_
                exact iv_iret X hr hlocks hB ⟨rfl, (i16_x13.wk (by decide))⟩ dX12_eldest_50
      exact L_21 _ _ _ hB 0 (q_0.wk (by decide)) (Nat.lt_succ_self _) _ (lv_sub hl [0, 1, 2, 3] rfl)
    · skip
      have i29_x7 : iv_R 0 0 x7 := (i_x7.cutHi (n := 0) (iv_eq_r c10 q_0).2)
      refine lv_iconst (v := (-1)) hx hb dX12_eldest_17 (by decide) ?_
      exact iv_iret X hr hlocks hB ⟨rfl, (q_n1.wk (by decide))⟩ dX12_eldest_18
theorem dX12_forgets_0 : decode cX12_forgets 0 = .ok (.aload_n 0, 1) := by decide +kernel
theorem dX12_forgets_1 : decode cX12_forgets 1 = .ok (.iconst 0, 1) := by decide +kernel
theorem dX12_forgets_2 : decode cX12_forgets 2 = .ok (.putfield 60, 3) := by decide +kernel
theorem dX12_forgets_5 : decode cX12_forgets 5 = .ok (.return_, 1) := by decide +kernel
set_option maxHeartbeats 4000000 in
set_option maxRecDepth 100000 in
theorem c_X12_forgets (l : Launch) (D : va_G) (tys : List (ClassId × FieldType)) (base : Nat) (G : iv_G) (h0 : Nat) (g_h0 : Nat → Int32) (r_h0 : Nat → Nat) (a_h0 : G h0 = some (12, g_h0, r_h0)) : Met l yX12_forgets (Cond.code yX12_forgets cX12_forgets 1 none :: iv_W0) ({ frames := 0, cells := 0, slots := 0, locals := 0 }) (iv_Pc iv_sh D classes tys base G [.ref h0]) (iv_Qv iv_sh D classes tys base (fun G' => iv_Md [12] G G')) 0 0 (iv_A base) := by
  refine iv_head (by decide) (Nat.le_of_ble_eq_true rfl) ?_
  intro p e s m args below meth c ls X hr hlocks hname hB hl
  have X := X
  have hx := X.1.1
  have hb := X.1.2.1
  have hM : iv_Md [12] G G := iv_Md.rf
  have hl : lv_has ls 1 [(0, .ref h0)] := hl
  refine lv_aload_n hx hb dX12_forgets_0 rfl (lv_at hl 0 rfl) ?_
  refine lv_iconst (v := 0) hx hb dX12_forgets_1 (by decide) ?_
  refine iv_puti X ft_X12 hB a_h0 sh_12 3 (by decide) rfl rfl k_fl_X12_60 rfl (q_0.wk (by decide)) rfl rfl dX12_forgets_2 (fun H locs hB => ?_)
  have hm := iv_Md.put (x := 0) a_h0 (j := 3) (by decide) (by decide)
  have h9 := iv_up_eq (G := G) (a := h0) (k := (12, upd g_h0 3 0, r_h0))
  generalize iv_up G h0 _ = G1 at hB hm h9
  have hM := hM.stp hm (by decide)
  generalize hgn_g2 : upd g_h0 _ _ = g2 at h9
  have a_h0 := h9
  have e9_g2 : 0 = g2 3 := by rw [← hgn_g2]; simp [upd]
  exact iv_vret X hr hlocks hB hM dX12_forgets_5
theorem dX12_far_0 : decode cX12_far 0 = .ok (.iload_n 1, 1) := by decide +kernel
theorem dX12_far_1 : decode cX12_far 1 = .ok (.invokestatic 68, 3) := by decide +kernel
theorem dX12_far_4 : decode cX12_far 4 = .ok (.ifCond .eq 25, 3) := by decide +kernel
theorem dX12_far_7 : decode cX12_far 7 = .ok (.iload_n 2, 1) := by decide +kernel
theorem dX12_far_8 : decode cX12_far 8 = .ok (.invokestatic 68, 3) := by decide +kernel
theorem dX12_far_11 : decode cX12_far 11 = .ok (.ifCond .eq 18, 3) := by decide +kernel
theorem dX12_far_14 : decode cX12_far 14 = .ok (.iload_n 1, 1) := by decide +kernel
theorem dX12_far_15 : decode cX12_far 15 = .ok (.iload_n 2, 1) := by decide +kernel
theorem dX12_far_16 : decode cX12_far 16 = .ok (.if_icmp .eq 13, 3) := by decide +kernel
theorem dX12_far_19 : decode cX12_far 19 = .ok (.iload_n 3, 1) := by decide +kernel
theorem dX12_far_20 : decode cX12_far 20 = .ok (.iconst 0, 1) := by decide +kernel
theorem dX12_far_21 : decode cX12_far 21 = .ok (.bipush 99, 2) := by decide +kernel
theorem dX12_far_23 : decode cX12_far 23 = .ok (.invokestatic 56, 3) := by decide +kernel
theorem dX12_far_26 : decode cX12_far 26 = .ok (.ifCond .ne 5, 3) := by decide +kernel
theorem dX12_far_29 : decode cX12_far 29 = .ok (.iconst 0, 1) := by decide +kernel
theorem dX12_far_30 : decode cX12_far 30 = .ok (.ireturn, 1) := by decide +kernel
theorem dX12_far_31 : decode cX12_far 31 = .ok (.aload_n 0, 1) := by decide +kernel
theorem dX12_far_32 : decode cX12_far 32 = .ok (.getfield 7, 3) := by decide +kernel
theorem dX12_far_35 : decode cX12_far 35 = .ok (.sipush 190, 3) := by decide +kernel
theorem dX12_far_38 : decode cX12_far 38 = .ok (.iconst 4, 1) := by decide +kernel
theorem dX12_far_39 : decode cX12_far 39 = .ok (.iload_n 1, 1) := by decide +kernel
theorem dX12_far_40 : decode cX12_far 40 = .ok (.imul, 1) := by decide +kernel
theorem dX12_far_41 : decode cX12_far 41 = .ok (.iadd, 1) := by decide +kernel
theorem dX12_far_42 : decode cX12_far 42 = .ok (.iload_n 2, 1) := by decide +kernel
theorem dX12_far_43 : decode cX12_far 43 = .ok (.iadd, 1) := by decide +kernel
theorem dX12_far_44 : decode cX12_far 44 = .ok (.iload_n 3, 1) := by decide +kernel
theorem dX12_far_45 : decode cX12_far 45 = .ok (.iastore, 1) := by decide +kernel
theorem dX12_far_46 : decode cX12_far 46 = .ok (.aload_n 0, 1) := by decide +kernel
theorem dX12_far_47 : decode cX12_far 47 = .ok (.getfield 7, 3) := by decide +kernel
theorem dX12_far_50 : decode cX12_far 50 = .ok (.sipush 190, 3) := by decide +kernel
theorem dX12_far_53 : decode cX12_far 53 = .ok (.iconst 4, 1) := by decide +kernel
theorem dX12_far_54 : decode cX12_far 54 = .ok (.iload_n 2, 1) := by decide +kernel
theorem dX12_far_55 : decode cX12_far 55 = .ok (.imul, 1) := by decide +kernel
theorem dX12_far_56 : decode cX12_far 56 = .ok (.iadd, 1) := by decide +kernel
theorem dX12_far_57 : decode cX12_far 57 = .ok (.iload_n 1, 1) := by decide +kernel
theorem dX12_far_58 : decode cX12_far 58 = .ok (.iadd, 1) := by decide +kernel
theorem dX12_far_59 : decode cX12_far 59 = .ok (.iload_n 3, 1) := by decide +kernel
theorem dX12_far_60 : decode cX12_far 60 = .ok (.iastore, 1) := by decide +kernel
theorem dX12_far_61 : decode cX12_far 61 = .ok (.aload_n 0, 1) := by decide +kernel
theorem dX12_far_62 : decode cX12_far 62 = .ok (.invokevirtual 63, 3) := by decide +kernel
theorem dX12_far_65 : decode cX12_far 65 = .ok (.iconst 1, 1) := by decide +kernel
theorem dX12_far_66 : decode cX12_far 66 = .ok (.ireturn, 1) := by decide +kernel
set_option maxHeartbeats 4000000 in
set_option maxRecDepth 100000 in
theorem c_X12_far (l : Launch) (D : va_G) (tys : List (ClassId × FieldType)) (base : Nat) (G : iv_G) (h0 : Nat) (g_h0 : Nat → Int32) (r_h0 : Nat → Nat) (a_h0 : G h0 = some (12, g_h0, r_h0)) (x_0 : Int32) (i_x_0 : iv_R (-2147483648) 2147483647 x_0) (x_1 : Int32) (i_x_1 : iv_R (-2147483648) 2147483647 x_1) (x_2 : Int32) (i_x_2 : iv_R (-2147483648) 2147483647 x_2) : Met l yX12_far (Cond.code yX12_far cX12_far 4 (some .boolean) :: iv_W0) ({ frames := 2, cells := 0, slots := 0, locals := 42 }) (iv_Pc iv_sh D classes tys base G [.ref h0, .int x_0, .int x_1, .int x_2]) (iv_Qi iv_sh D classes tys base (fun v G' => iv_Md [12, 60] G G' ∧ iv_R 0 1 v ∧ ((¬ v = 0 → iv_R 0 3 x_0) ∧ (¬ v = 0 → iv_R 0 3 x_1) ∧ (¬ v = 0 → iv_R 0 99 x_2)))) 0 0 (iv_A base) := by
  refine iv_head (by decide) (Nat.le_of_ble_eq_true rfl) ?_
  intro p e s m args below meth c ls X hr hlocks hname hB hl
  have X := X
  have hx := X.1.1
  have hb := X.1.2.1
  have hM : iv_Md [12, 60] G G := iv_Md.rf
  have hl : lv_has ls 4 [(0, .ref h0), (1, .int x_0), (2, .int x_1), (3, .int x_2)] := hl
  refine lv_iload_n hx hb dX12_far_0 rfl (lv_at hl 1 rfl) ?_
  refine iv_cSi X k_good k_mf_X12_isTower k_st_X12_isTower k_ml_X12_68 hB (As := [.int x_0]) (c_X12_isTower l D tys base G x_0 i_x_0) ⟨rfl, rfl⟩ ⟨Nat.le_of_ble_eq_true rfl, Nat.le_of_ble_eq_true rfl⟩ ⟨Nat.le_of_ble_eq_true rfl, Nat.le_of_ble_eq_true rfl⟩ rfl rfl hl.1 (Nat.le_of_ble_eq_true rfl) dX12_far_1 (fun x1 G9 H locs hq hB => ?_)
  obtain ⟨rfl, i_x1, hp2⟩ := hq
  refine lv_if_eq (tgt := 29) hx hb dX12_far_4 (by decide) (fun c3 => ?_) (fun c3 => ?_)
  · skip
    have i3_x1 : iv_R 0 0 x1 := (i_x1.cutHi (n := 0) (iv_eq_r c3 q_0).2)
    refine lv_iconst (v := 0) hx hb dX12_far_29 (by decide) ?_
    exact iv_zret X hr hlocks hB (q_0.wk (by decide)) ⟨hM, (q_0.wk (by decide)), ⟨fun h => absurd (iv_z q_0) h, fun h => absurd (iv_z q_0) h, fun h => absurd (iv_z q_0) h⟩⟩ dX12_far_30
  · skip
    have i4_x1 : iv_R 1 1 x1 := iv_ne_lo c3 i_x1 q_0 (by decide)
    have i5_x_0 : iv_R 0 3 x_0 := ((i_x_0.cutLo (n := 0) (hp2 c3).1).cutHi (n := 3) (hp2 c3).2)
    refine lv_iload_n hx hb dX12_far_7 rfl (lv_at hl 2 rfl) ?_
    refine iv_cSi X k_good k_mf_X12_isTower k_st_X12_isTower k_ml_X12_68 hB (As := [.int x_1]) (c_X12_isTower l D tys base G x_1 i_x_1) ⟨rfl, rfl⟩ ⟨Nat.le_of_ble_eq_true rfl, Nat.le_of_ble_eq_true rfl⟩ ⟨Nat.le_of_ble_eq_true rfl, Nat.le_of_ble_eq_true rfl⟩ rfl rfl hl.1 (Nat.le_of_ble_eq_true rfl) dX12_far_8 (fun x7 G9 H locs hq hB => ?_)
    obtain ⟨rfl, i_x7, hp8⟩ := hq
    refine lv_if_eq (tgt := 29) hx hb dX12_far_11 (by decide) (fun c9 => ?_) (fun c9 => ?_)
    · skip
      have i9_x7 : iv_R 0 0 x7 := (i_x7.cutHi (n := 0) (iv_eq_r c9 q_0).2)
      refine lv_iconst (v := 0) hx hb dX12_far_29 (by decide) ?_
      exact iv_zret X hr hlocks hB (q_0.wk (by decide)) ⟨hM, (q_0.wk (by decide)), ⟨fun _ => i5_x_0, fun h => absurd (iv_z q_0) h, fun h => absurd (iv_z q_0) h⟩⟩ dX12_far_30
    · skip
      have i10_x7 : iv_R 1 1 x7 := iv_ne_lo c9 i_x7 q_0 (by decide)
      have i11_x_1 : iv_R 0 3 x_1 := ((i_x_1.cutLo (n := 0) (hp8 c9).1).cutHi (n := 3) (hp8 c9).2)
      refine lv_iload_n hx hb dX12_far_14 rfl (lv_at hl 1 rfl) ?_
      refine lv_iload_n hx hb dX12_far_15 rfl (lv_at hl 2 rfl) ?_
      refine lv_icmp_eq (tgt := 29) hx hb dX12_far_16 (by decide) (fun c13 => ?_) (fun c13 => ?_)
      · skip
        refine lv_iconst (v := 0) hx hb dX12_far_29 (by decide) ?_
        exact iv_zret X hr hlocks hB (q_0.wk (by decide)) ⟨hM, (q_0.wk (by decide)), ⟨fun _ => i5_x_0, fun _ => i11_x_1, fun h => absurd (iv_z q_0) h⟩⟩ dX12_far_30
      · skip
        refine lv_iload_n hx hb dX12_far_19 rfl (lv_at hl 3 rfl) ?_
        refine lv_iconst (v := 0) hx hb dX12_far_20 (by decide) ?_
        refine lv_bipush (v := 99) hx hb dX12_far_21 (by decide) ?_
        refine iv_cSi X k_good k_mf_X12_isIn k_st_X12_isIn k_ml_X12_56 hB (As := [.int x_2, .int 0, .int 99]) (c_X12_isIn l D tys base G x_2 i_x_2 0 (q_0.wk (by decide)) 99 (q_99.wk (by decide))) ⟨rfl, rfl⟩ ⟨Nat.le_of_ble_eq_true rfl, Nat.le_of_ble_eq_true rfl⟩ ⟨Nat.le_of_ble_eq_true rfl, Nat.le_of_ble_eq_true rfl⟩ rfl rfl hl.1 (Nat.le_of_ble_eq_true rfl) dX12_far_23 (fun x14 G9 H locs hq hB => ?_)
        obtain ⟨rfl, i_x14, hp15⟩ := hq
        have k16 : ¬ x14 = 0 → iv_R 0 99 x_2 := fun h => ⟨iv_max i_x_2.1 (Int.le_trans q_0.1 (hp15.1 h).1) (by decide), iv_min i_x_2.2 (Int.le_trans (hp15.1 h).2 q_99.2) (by decide)⟩
        refine lv_if_ne (tgt := 31) hx hb dX12_far_26 (by decide) (fun c17 => ?_) (fun c17 => ?_)
        · skip
          have i17_x14 : iv_R 1 1 x14 := iv_ne_lo c17 i_x14 q_0 (by decide)
          have i18_x_2 : iv_R 0 99 x_2 := ((i_x_2.cutLo (n := 0) (k16 c17).1).cutHi (n := 99) (k16 c17).2)
          refine lv_aload_n hx hb dX12_far_31 rfl (lv_at hl 0 rfl) ?_
          refine iv_getr X ft_X12 hB a_h0 sh_12 0 (by decide) rfl k_fl_X12_7 dX12_far_32 (fun b20 g_b20 r_b20 e_b20 a_b20 => ?_)
          refine lv_sipush (v := 190) hx hb dX12_far_35 (by decide) ?_
          refine lv_iconst (v := 4) hx hb dX12_far_38 (by decide) ?_
          refine lv_iload_n hx hb dX12_far_39 rfl (lv_at hl 1 rfl) ?_
          refine iv_imul hx hb q_4 i5_x_0 (lo := 0) (hi := 12) (by decide) dX12_far_40 (fun x21 e_x21 i_x21 => ?_)
          refine iv_iadd hx hb q_190 i_x21 (lo := 190) (hi := 202) (by decide) dX12_far_41 (fun x22 e_x22 i_x22 => ?_)
          refine lv_iload_n hx hb dX12_far_42 rfl (lv_at hl 2 rfl) ?_
          refine iv_iadd hx hb i_x22 i11_x_1 (lo := 190) (hi := 205) (by decide) dX12_far_43 (fun x23 e_x23 i_x23 => ?_)
          refine lv_iload_n hx hb dX12_far_44 rfl (lv_at hl 3 rfl) ?_
          refine iv_wast_f X hB a_b20 i_x23 (by decide) dX12_far_45 (fun H locs hB => ?_)
          have hm := iv_Md.put (x := x_2) a_b20 (j := x23.toNatClampNeg) (iv_n146 i_x23 (by decide)) (fun h => absurd h (by decide))
          have h9 := iv_up_eq (G := G) (a := b20) (k := (60, upd g_b20 x23.toNatClampNeg x_2, r_b20))
          generalize iv_up G b20 _ = G24 at hB hm h9
          have hM := hM.stp hm (by decide)
          generalize hgn_g25 : upd g_b20 _ _ = g25 at h9
          have a_h0 := hm.at a_h0 (by decide)
          have a_b20 := h9
          refine lv_aload_n hx hb dX12_far_46 rfl (lv_at hl 0 rfl) ?_
          refine iv_getr0 X ft_X12 hB a_h0 sh_12 0 (by decide) rfl k_fl_X12_7 dX12_far_47 e_b20 ?_
          refine lv_sipush (v := 190) hx hb dX12_far_50 (by decide) ?_
          refine lv_iconst (v := 4) hx hb dX12_far_53 (by decide) ?_
          refine lv_iload_n hx hb dX12_far_54 rfl (lv_at hl 2 rfl) ?_
          refine iv_imul hx hb q_4 i11_x_1 (lo := 0) (hi := 12) (by decide) dX12_far_55 (fun x26 e_x26 i_x26 => ?_)
          refine iv_iadd hx hb q_190 i_x26 (lo := 190) (hi := 202) (by decide) dX12_far_56 (fun x27 e_x27 i_x27 => ?_)
          refine lv_iload_n hx hb dX12_far_57 rfl (lv_at hl 1 rfl) ?_
          refine iv_iadd hx hb i_x27 i5_x_0 (lo := 190) (hi := 205) (by decide) dX12_far_58 (fun x28 e_x28 i_x28 => ?_)
          refine lv_iload_n hx hb dX12_far_59 rfl (lv_at hl 3 rfl) ?_
          refine iv_wast_f X hB a_b20 i_x28 (by decide) dX12_far_60 (fun H locs hB => ?_)
          have hm := iv_Md.put (x := x_2) a_b20 (j := x28.toNatClampNeg) (iv_n146 i_x28 (by decide)) (fun h => absurd h (by decide))
          have h9 := iv_up_eq (G := G24) (a := b20) (k := (60, upd g25 x28.toNatClampNeg x_2, r_b20))
          generalize iv_up G24 b20 _ = G29 at hB hm h9
          have hM := hM.stp hm (by decide)
          generalize hgn_g30 : upd g25 _ _ = g30 at h9
          have a_h0 := hm.at a_h0 (by decide)
          have a_b20 := h9
          refine lv_aload_n hx hb dX12_far_61 rfl (lv_at hl 0 rfl) ?_
          refine iv_cVv X k_good k_mf_X12_forgets k_im_X12_forgets k_sel_X12_forgets k_ml_X12_63 ft_X12 hB a_h0 sh_12 (As := []) (c_X12_forgets l D tys base G29 h0 g_h0 r_h0 a_h0) ⟨rfl, rfl⟩ ⟨Nat.le_of_ble_eq_true rfl, Nat.le_of_ble_eq_true rfl⟩ ⟨Nat.le_of_ble_eq_true rfl, Nat.le_of_ble_eq_true rfl⟩ rfl rfl hl.1 (Nat.le_of_ble_eq_true rfl) dX12_far_62 (fun G9 H locs hq hB => ?_)
          have hm := hq
          obtain ⟨G31, hG9⟩ : ∃ g, g = G9 := ⟨_, rfl⟩
          rw [← hG9] at hm hB
          have hM := hM.stp hm (by decide)
          obtain ⟨g32, r33, a_h0, f_g32⟩ := hm.ex a_h0
          have e34 : b20 = r33 0 := e_b20.trans (f_g32.1 0 (fun h => absurd (show (12 : Nat) = 5 from h) (by decide))).symm
          have a_b20 := hm.at a_b20 (by decide)
          refine lv_iconst (v := 1) hx hb dX12_far_65 (by decide) ?_
          exact iv_zret X hr hlocks hB (q_1.wk (by decide)) ⟨hM, (q_1.wk (by decide)), ⟨fun _ => i5_x_0, fun _ => i11_x_1, fun _ => i18_x_2⟩⟩ dX12_far_66
        · skip
          have i34_x14 : iv_R 0 0 x14 := (i_x14.cutHi (n := 0) (iv_eq_r c17 q_0).2)
          refine lv_iconst (v := 0) hx hb dX12_far_29 (by decide) ?_
          exact iv_zret X hr hlocks hB (q_0.wk (by decide)) ⟨hM, (q_0.wk (by decide)), ⟨fun _ => i5_x_0, fun _ => i11_x_1, fun h => absurd (iv_z q_0) h⟩⟩ dX12_far_30
theorem dX12_fault_0 : decode cX12_fault 0 = .ok (.iload_n 1, 1) := by decide +kernel
theorem dX12_fault_1 : decode cX12_fault 1 = .ok (.ifCond .ne 10, 3) := by decide +kernel
theorem dX12_fault_4 : decode cX12_fault 4 = .ok (.aload_n 0, 1) := by decide +kernel
theorem dX12_fault_5 : decode cX12_fault 5 = .ok (.getfield 250, 3) := by decide +kernel
theorem dX12_fault_8 : decode cX12_fault 8 = .ok (.goto 16, 3) := by decide +kernel
theorem dX12_fault_11 : decode cX12_fault 11 = .ok (.iload_n 1, 1) := by decide +kernel
theorem dX12_fault_12 : decode cX12_fault 12 = .ok (.iconst 1, 1) := by decide +kernel
theorem dX12_fault_13 : decode cX12_fault 13 = .ok (.if_icmp .ne 10, 3) := by decide +kernel
theorem dX12_fault_16 : decode cX12_fault 16 = .ok (.aload_n 0, 1) := by decide +kernel
theorem dX12_fault_17 : decode cX12_fault 17 = .ok (.getfield 37, 3) := by decide +kernel
theorem dX12_fault_20 : decode cX12_fault 20 = .ok (.goto 4, 3) := by decide +kernel
theorem dX12_fault_23 : decode cX12_fault 23 = .ok (.iconst (-1), 1) := by decide +kernel
theorem dX12_fault_24 : decode cX12_fault 24 = .ok (.ireturn, 1) := by decide +kernel
set_option maxHeartbeats 4000000 in
set_option maxRecDepth 100000 in
theorem c_X12_fault (l : Launch) (D : va_G) (tys : List (ClassId × FieldType)) (base : Nat) (G : iv_G) (h0 : Nat) (g_h0 : Nat → Int32) (r_h0 : Nat → Nat) (a_h0 : G h0 = some (12, g_h0, r_h0)) (x_0 : Int32) (i_x_0 : iv_R (-2147483648) 2147483647 x_0) : Met l yX12_fault (Cond.code yX12_fault cX12_fault 2 (some .int) :: iv_W0) ({ frames := 0, cells := 0, slots := 0, locals := 0 }) (iv_Pc iv_sh D classes tys base G [.ref h0, .int x_0]) (iv_Qi iv_sh D classes tys base (fun v G' => G = G' ∧ iv_R (-2147483648) 2147483647 v)) 0 0 (iv_A base) := by
  refine iv_head (by decide) (Nat.le_of_ble_eq_true rfl) ?_
  intro p e s m args below meth c ls X hr hlocks hname hB hl
  have X := X
  have hx := X.1.1
  have hb := X.1.2.1
  have hl : lv_has ls 2 [(0, .ref h0), (1, .int x_0)] := hl
  refine lv_iload_n hx hb dX12_fault_0 rfl (lv_at hl 1 rfl) ?_
  refine lv_if_ne (tgt := 11) hx hb dX12_fault_1 (by decide) (fun c1 => ?_) (fun c1 => ?_)
  · skip
    refine lv_iload_n hx hb dX12_fault_11 rfl (lv_at hl 1 rfl) ?_
    refine lv_iconst (v := 1) hx hb dX12_fault_12 (by decide) ?_
    refine lv_icmp_ne (tgt := 23) hx hb dX12_fault_13 (by decide) (fun c2 => ?_) (fun c2 => ?_)
    · skip
      refine lv_iconst (v := (-1)) hx hb dX12_fault_23 (by decide) ?_
      exact iv_iret X hr hlocks hB ⟨rfl, (q_n1.wk (by decide))⟩ dX12_fault_24
    · skip
      have i2_x_0 : iv_R 1 1 x_0 := ((i_x_0.cutLo (n := 1) (iv_eq_r c2 q_1).1).cutHi (n := 1) (iv_eq_r c2 q_1).2)
      refine lv_aload_n hx hb dX12_fault_16 rfl (lv_at hl 0 rfl) ?_
      refine iv_geti X ft_X12 hB a_h0 sh_12 24 (by decide) rfl k_fl_X12_37 dX12_fault_17 (fun x4 e_x4 i_x4 => ?_)
      refine lv_goto (tgt := 24) hx hb dX12_fault_20 (by decide) ?_
      exact iv_iret X hr hlocks hB ⟨rfl, i_x4⟩ dX12_fault_24
  · skip
    have i4_x_0 : iv_R 0 0 x_0 := ((i_x_0.cutLo (n := 0) (iv_eq_r c1 q_0).1).cutHi (n := 0) (iv_eq_r c1 q_0).2)
    refine lv_aload_n hx hb dX12_fault_4 rfl (lv_at hl 0 rfl) ?_
    refine iv_geti X ft_X12 hB a_h0 sh_12 22 (by decide) rfl k_fl_X12_250 dX12_fault_5 (fun x6 e_x6 i_x6 => ?_)
    refine lv_goto (tgt := 24) hx hb dX12_fault_8 (by decide) ?_
    exact iv_iret X hr hlocks hB ⟨rfl, i_x6⟩ dX12_fault_24
theorem dX12_fits_0 : decode cX12_fits 0 = .ok (.aload_n 0, 1) := by decide +kernel
theorem dX12_fits_1 : decode cX12_fits 1 = .ok (.iload_n 1, 1) := by decide +kernel
theorem dX12_fits_2 : decode cX12_fits 2 = .ok (.invokevirtual 338, 3) := by decide +kernel
theorem dX12_fits_5 : decode cX12_fits 5 = .ok (.ifCond .eq 11, 3) := by decide +kernel
theorem dX12_fits_8 : decode cX12_fits 8 = .ok (.aload_n 0, 1) := by decide +kernel
theorem dX12_fits_9 : decode cX12_fits 9 = .ok (.iload_n 1, 1) := by decide +kernel
theorem dX12_fits_10 : decode cX12_fits 10 = .ok (.invokevirtual 438, 3) := by decide +kernel
theorem dX12_fits_13 : decode cX12_fits 13 = .ok (.goto 4, 3) := by decide +kernel
theorem dX12_fits_16 : decode cX12_fits 16 = .ok (.iconst (-1), 1) := by decide +kernel
theorem dX12_fits_17 : decode cX12_fits 17 = .ok (.ireturn, 1) := by decide +kernel
set_option maxHeartbeats 4000000 in
set_option maxRecDepth 100000 in
theorem c_X12_fits (l : Launch) (D : va_G) (tys : List (ClassId × FieldType)) (base : Nat) (G : iv_G) (h0 : Nat) (g_h0 : Nat → Int32) (r_h0 : Nat → Nat) (a_h0 : G h0 = some (12, g_h0, r_h0)) (x_0 : Int32) (i_x_0 : iv_R (-2147483648) 2147483647 x_0) : Met l yX12_fits (Cond.code yX12_fits cX12_fits 2 (some .int) :: iv_W0) ({ frames := 4, cells := 0, slots := 0, locals := 92 }) (iv_Pc iv_sh D classes tys base G [.ref h0, .int x_0]) (iv_Qi iv_sh D classes tys base (fun v G' => G = G' ∧ iv_R (-1) 2047 v)) 0 0 (iv_A base) := by
  refine iv_head (by decide) (Nat.le_of_ble_eq_true rfl) ?_
  intro p e s m args below meth c ls X hr hlocks hname hB hl
  have X := X
  have hx := X.1.1
  have hb := X.1.2.1
  have hl : lv_has ls 2 [(0, .ref h0), (1, .int x_0)] := hl
  refine lv_aload_n hx hb dX12_fits_0 rfl (lv_at hl 0 rfl) ?_
  refine lv_iload_n hx hb dX12_fits_1 rfl (lv_at hl 1 rfl) ?_
  refine iv_cVi X k_good k_mf_X12_isChild k_im_X12_isChild k_sel_X12_isChild k_ml_X12_338 ft_X12 hB a_h0 sh_12 (As := [.int x_0]) (c_X12_isChild l D tys base G h0 g_h0 r_h0 a_h0 x_0 i_x_0) ⟨rfl, rfl⟩ ⟨Nat.le_of_ble_eq_true rfl, Nat.le_of_ble_eq_true rfl⟩ ⟨Nat.le_of_ble_eq_true rfl, Nat.le_of_ble_eq_true rfl⟩ rfl rfl hl.1 (Nat.le_of_ble_eq_true rfl) dX12_fits_2 (fun x1 G9 H locs hq hB => ?_)
  obtain ⟨rfl, i_x1, hp2⟩ := hq
  refine lv_if_eq (tgt := 16) hx hb dX12_fits_5 (by decide) (fun c3 => ?_) (fun c3 => ?_)
  · skip
    have i3_x1 : iv_R 0 0 x1 := (i_x1.cutHi (n := 0) (iv_eq_r c3 q_0).2)
    refine lv_iconst (v := (-1)) hx hb dX12_fits_16 (by decide) ?_
    exact iv_iret X hr hlocks hB ⟨rfl, (q_n1.wk (by decide))⟩ dX12_fits_17
  · skip
    have i4_x1 : iv_R 1 1 x1 := iv_ne_lo c3 i_x1 q_0 (by decide)
    have i5_x_0 : iv_R 0 19 x_0 := ((i_x_0.cutLo (n := 0) (hp2 c3).1).cutHi (n := 19) (hp2 c3).2)
    refine lv_aload_n hx hb dX12_fits_8 rfl (lv_at hl 0 rfl) ?_
    refine lv_iload_n hx hb dX12_fits_9 rfl (lv_at hl 1 rfl) ?_
    refine iv_cVi X k_good k_mf_X12_fitsOf k_im_X12_fitsOf k_sel_X12_fitsOf k_ml_X12_438 ft_X12 hB a_h0 sh_12 (As := [.int x_0]) (c_X12_fitsOf l D tys base G h0 g_h0 r_h0 a_h0 x_0 i5_x_0) ⟨rfl, rfl⟩ ⟨Nat.le_of_ble_eq_true rfl, Nat.le_of_ble_eq_true rfl⟩ ⟨Nat.le_of_ble_eq_true rfl, Nat.le_of_ble_eq_true rfl⟩ rfl rfl hl.1 (Nat.le_of_ble_eq_true rfl) dX12_fits_10 (fun x7 G9 H locs hq hB => ?_)
    obtain ⟨rfl, i_x7⟩ := hq
    refine lv_goto (tgt := 17) hx hb dX12_fits_13 (by decide) ?_
    exact iv_iret X hr hlocks hB ⟨rfl, (i_x7.wk (by decide))⟩ dX12_fits_17
theorem dX12_isDrowned_0 : decode cX12_isDrowned 0 = .ok (.iconst 0, 1) := by decide +kernel
theorem dX12_isDrowned_1 : decode cX12_isDrowned 1 = .ok (.istore_n 3, 1) := by decide +kernel
theorem dX12_isDrowned_2 : decode cX12_isDrowned 2 = .ok (.iload_n 3, 1) := by decide +kernel
theorem dX12_isDrowned_3 : decode cX12_isDrowned 3 = .ok (.aload_n 0, 1) := by decide +kernel
theorem dX12_isDrowned_4 : decode cX12_isDrowned 4 = .ok (.getfield 7, 3) := by decide +kernel
theorem dX12_isDrowned_7 : decode cX12_isDrowned 7 = .ok (.sipush 146, 3) := by decide +kernel
theorem dX12_isDrowned_10 : decode cX12_isDrowned 10 = .ok (.iaload, 1) := by decide +kernel
theorem dX12_isDrowned_11 : decode cX12_isDrowned 11 = .ok (.if_icmp .ge 21, 3) := by decide +kernel
theorem dX12_isDrowned_14 : decode cX12_isDrowned 14 = .ok (.aload_n 0, 1) := by decide +kernel
theorem dX12_isDrowned_15 : decode cX12_isDrowned 15 = .ok (.iload_n 3, 1) := by decide +kernel
theorem dX12_isDrowned_16 : decode cX12_isDrowned 16 = .ok (.iload_n 1, 1) := by decide +kernel
theorem dX12_isDrowned_17 : decode cX12_isDrowned 17 = .ok (.iload_n 2, 1) := by decide +kernel
theorem dX12_isDrowned_18 : decode cX12_isDrowned 18 = .ok (.invokevirtual 311, 3) := by decide +kernel
theorem dX12_isDrowned_21 : decode cX12_isDrowned 21 = .ok (.ifCond .eq 5, 3) := by decide +kernel
theorem dX12_isDrowned_24 : decode cX12_isDrowned 24 = .ok (.iconst 1, 1) := by decide +kernel
theorem dX12_isDrowned_25 : decode cX12_isDrowned 25 = .ok (.ireturn, 1) := by decide +kernel
theorem dX12_isDrowned_26 : decode cX12_isDrowned 26 = .ok (.iinc 3 1, 3) := by decide +kernel
theorem dX12_isDrowned_29 : decode cX12_isDrowned 29 = .ok (.goto (-27), 3) := by decide +kernel
theorem dX12_isDrowned_32 : decode cX12_isDrowned 32 = .ok (.iconst 0, 1) := by decide +kernel
theorem dX12_isDrowned_33 : decode cX12_isDrowned 33 = .ok (.ireturn, 1) := by decide +kernel
set_option maxHeartbeats 4000000 in
set_option maxRecDepth 100000 in
theorem c_X12_isDrowned (l : Launch) (D : va_G) (tys : List (ClassId × FieldType)) (base : Nat) (G : iv_G) (h0 : Nat) (g_h0 : Nat → Int32) (r_h0 : Nat → Nat) (a_h0 : G h0 = some (12, g_h0, r_h0)) (x_0 : Int32) (i_x_0 : iv_R 0 9 x_0) (x_1 : Int32) (i_x_1 : iv_R 0 23 x_1) : Met l yX12_isDrowned (Cond.code yX12_isDrowned cX12_isDrowned 4 (some .boolean) :: iv_W0) ({ frames := 6, cells := 0, slots := 0, locals := 142 }) (iv_Pc iv_sh D classes tys base G [.ref h0, .int x_0, .int x_1]) (iv_Qi iv_sh D classes tys base (fun v G' => iv_Md [67, 68] G G' ∧ iv_R 0 1 v)) 0 0 (iv_A base) := by
  refine iv_head (by decide) (Nat.le_of_ble_eq_true rfl) ?_
  intro p e s m args below meth c ls X hr hlocks hname hB hl
  have X := X
  have hx := X.1.1
  have hb := X.1.2.1
  have hM : iv_Md [67, 68] G G := iv_Md.rf
  have hl : lv_has ls 4 [(0, .ref h0), (1, .int x_0), (2, .int x_1)] := hl
  refine lv_iconst (v := 0) hx hb dX12_isDrowned_0 (by decide) ?_
  refine lv_istore_n (lv' := [(3, .int 0), (0, .ref h0), (1, .int x_0), (2, .int x_1)]) hx hb dX12_isDrowned_1 rfl hl (by decide) rfl (fun ls hl => ?_)
  have L_2 : ∀ (n_2 : Nat) (G2 : iv_G) (hM : iv_Md [67, 68] G G2) (H : Heap) (locs : List Loc) (hB : iv_B iv_sh D classes tys base G2 s.heap H locs) (a_h0 : G2 h0 = some (12, g_h0, r_h0)) (x1 : Int32) (i_x1 : iv_R 0 10 x1) (hn_2 : (11 - x1.toInt).toNat < n_2) (ls : Array Slot) (hl : lv_has ls 4 [(3, .int x1), (0, .ref h0), (1, .int x_0), (2, .int x_1)]), W p l e ({ frames := 6, cells := 0, slots := 0, locals := 142 } : Room) s m args below meth c H locs 0 0 (MQ below (iv_Qi iv_sh D classes tys base (fun v G' => iv_Md [67, 68] G G' ∧ iv_R 0 1 v)) args s 0 0 (iv_A base)) (F0 m 2 ls []) := by
    intro n_2
    induction n_2 with
    | zero => intro G2 hM H locs hB a_h0 x1 i_x1 hn_2 ls hl; exact absurd hn_2 (Nat.not_lt_zero _)
    | succ n_2 ih_2 =>
      intro G2 hM H locs hB a_h0 x1 i_x1 hn_2 ls hl
      refine lv_iload_n hx hb dX12_isDrowned_2 rfl (lv_at hl 0 rfl) ?_
      refine lv_aload_n hx hb dX12_isDrowned_3 rfl (lv_at hl 1 rfl) ?_
      refine iv_getr X ft_X12 hB a_h0 sh_12 0 (by decide) rfl k_fl_X12_7 dX12_isDrowned_4 (fun b3 g_b3 r_b3 e_b3 a_b3 => ?_)
      refine lv_sipush (v := 146) hx hb dX12_isDrowned_7 (by decide) ?_
      refine iv_wald_c X hB a_b3 q_146 (by decide) (lo := 0) (hi' := 10) (by decide) dX12_isDrowned_10 (fun x4 e_x4 i_x4 => ?_)
      refine lv_icmp_ge (tgt := 32) hx hb dX12_isDrowned_11 (by decide) (fun c5 => ?_) (fun c5 => ?_)
      · skip
        refine lv_iconst (v := 0) hx hb dX12_isDrowned_32 (by decide) ?_
        exact iv_zret X hr hlocks hB (q_0.wk (by decide)) ⟨hM, (q_0.wk (by decide))⟩ dX12_isDrowned_33
      · skip
        have i5_x1 : iv_R 0 9 x1 := (i_x1.cutHi (n := 9) (iv_lt_r (iv_nle c5) i_x4 (by decide)))
        have i6_x4 : iv_R 1 10 x4 := (i_x4.cutLo (n := 1) (iv_lt_l (iv_nle c5) i_x1 (by decide)))
        refine lv_aload_n hx hb dX12_isDrowned_14 rfl (lv_at hl 1 rfl) ?_
        refine lv_iload_n hx hb dX12_isDrowned_15 rfl (lv_at hl 0 rfl) ?_
        refine lv_iload_n hx hb dX12_isDrowned_16 rfl (lv_at hl 2 rfl) ?_
        refine lv_iload_n hx hb dX12_isDrowned_17 rfl (lv_at hl 3 rfl) ?_
        refine iv_cVi X k_good k_mf_X12_drowns k_im_X12_drowns k_sel_X12_drowns k_ml_X12_311 ft_X12 hB a_h0 sh_12 (As := [.int x1, .int x_0, .int x_1]) (c_X12_drowns l D tys base G2 h0 g_h0 r_h0 a_h0 x1 i5_x1 x_0 i_x_0 x_1 i_x_1) ⟨rfl, rfl⟩ ⟨Nat.le_of_ble_eq_true rfl, Nat.le_of_ble_eq_true rfl⟩ ⟨Nat.le_of_ble_eq_true rfl, Nat.le_of_ble_eq_true rfl⟩ rfl rfl hl.1 (Nat.le_of_ble_eq_true rfl) dX12_isDrowned_18 (fun x8 G9 H locs hq hB => ?_)
        obtain ⟨hm, i_x8⟩ := hq
        obtain ⟨G9, hG9⟩ : ∃ g, g = G9 := ⟨_, rfl⟩
        rw [← hG9] at hm hB
        have hM := hM.stp hm (by decide)
        have a_h0 := hm.at a_h0 (by decide)
        have a_b3 := hm.at a_b3 (by decide)
        refine lv_if_eq (tgt := 26) hx hb dX12_isDrowned_21 (by decide) (fun c10 => ?_) (fun c10 => ?_)
        · skip
          have i10_x8 : iv_R 0 0 x8 := (i_x8.cutHi (n := 0) (iv_eq_r c10 q_0).2)
          refine iv_iinc hx hb i5_x1 (lo := 1) (hi := 10) (by decide) dX12_isDrowned_26 hl (k := 0) rfl (by decide) (fun x12 ls e_x12 i_x12 hl => ?_)
          have hl : lv_has ls 4 [(3, .int x12), (0, .ref h0), (1, .int x_0), (2, .int x_1)] := hl
          refine lv_goto (tgt := 2) hx hb dX12_isDrowned_29 (by decide) ?_
          exact ih_2 G9 hM _ _ hB a_h0 x12 (i_x12.wk (by decide)) (iv_mup (c := 1) i_x1 (by decide) (by decide) (by omega) hn_2) _ (lv_sub hl [0, 1, 2, 3] rfl)
        · skip
          have i12_x8 : iv_R 1 1 x8 := iv_ne_lo c10 i_x8 q_0 (by decide)
          refine lv_iconst (v := 1) hx hb dX12_isDrowned_24 (by decide) ?_
          exact iv_zret X hr hlocks hB (q_1.wk (by decide)) ⟨hM, (q_1.wk (by decide))⟩ dX12_isDrowned_25
  exact L_2 _ G hM _ _ hB a_h0 0 (q_0.wk (by decide)) (Nat.lt_succ_self _) _ (lv_sub hl [0, 1, 2, 3] rfl)
theorem dX12_isRungBell_0 : decode cX12_isRungBell 0 = .ok (.aload_n 0, 1) := by decide +kernel
theorem dX12_isRungBell_1 : decode cX12_isRungBell 1 = .ok (.iload_n 1, 1) := by decide +kernel
theorem dX12_isRungBell_2 : decode cX12_isRungBell 2 = .ok (.invokevirtual 76, 3) := by decide +kernel
theorem dX12_isRungBell_5 : decode cX12_isRungBell 5 = .ok (.ifCond .eq 17, 3) := by decide +kernel
theorem dX12_isRungBell_8 : decode cX12_isRungBell 8 = .ok (.aload_n 0, 1) := by decide +kernel
theorem dX12_isRungBell_9 : decode cX12_isRungBell 9 = .ok (.iload_n 1, 1) := by decide +kernel
theorem dX12_isRungBell_10 : decode cX12_isRungBell 10 = .ok (.bipush 6, 2) := by decide +kernel
theorem dX12_isRungBell_12 : decode cX12_isRungBell 12 = .ok (.invokevirtual 282, 3) := by decide +kernel
theorem dX12_isRungBell_15 : decode cX12_isRungBell 15 = .ok (.ifCond .ne 7, 3) := by decide +kernel
theorem dX12_isRungBell_18 : decode cX12_isRungBell 18 = .ok (.iconst 1, 1) := by decide +kernel
theorem dX12_isRungBell_19 : decode cX12_isRungBell 19 = .ok (.goto 4, 3) := by decide +kernel
theorem dX12_isRungBell_22 : decode cX12_isRungBell 22 = .ok (.iconst 0, 1) := by decide +kernel
theorem dX12_isRungBell_23 : decode cX12_isRungBell 23 = .ok (.ireturn, 1) := by decide +kernel
set_option maxHeartbeats 4000000 in
set_option maxRecDepth 100000 in
theorem c_X12_isRungBell (l : Launch) (D : va_G) (tys : List (ClassId × FieldType)) (base : Nat) (G : iv_G) (h0 : Nat) (g_h0 : Nat → Int32) (r_h0 : Nat → Nat) (a_h0 : G h0 = some (12, g_h0, r_h0)) (x_0 : Int32) (i_x_0 : iv_R (-2147483648) 2147483647 x_0) : Met l yX12_isRungBell (Cond.code yX12_isRungBell cX12_isRungBell 2 (some .boolean) :: iv_W0) ({ frames := 2, cells := 0, slots := 0, locals := 43 }) (iv_Pc iv_sh D classes tys base G [.ref h0, .int x_0]) (iv_Qi iv_sh D classes tys base (fun v G' => G = G' ∧ iv_R 0 1 v ∧ (¬ v = 0 → iv_R 0 9 x_0))) 0 0 (iv_A base) := by
  refine iv_head (by decide) (Nat.le_of_ble_eq_true rfl) ?_
  intro p e s m args below meth c ls X hr hlocks hname hB hl
  have X := X
  have hx := X.1.1
  have hb := X.1.2.1
  have hl : lv_has ls 2 [(0, .ref h0), (1, .int x_0)] := hl
  refine lv_aload_n hx hb dX12_isRungBell_0 rfl (lv_at hl 0 rfl) ?_
  refine lv_iload_n hx hb dX12_isRungBell_1 rfl (lv_at hl 1 rfl) ?_
  refine iv_cVi X k_good k_mf_X12_isBell k_im_X12_isBell k_sel_X12_isBell k_ml_X12_76 ft_X12 hB a_h0 sh_12 (As := [.int x_0]) (c_X12_isBell l D tys base G h0 g_h0 r_h0 a_h0 x_0 i_x_0) ⟨rfl, rfl⟩ ⟨Nat.le_of_ble_eq_true rfl, Nat.le_of_ble_eq_true rfl⟩ ⟨Nat.le_of_ble_eq_true rfl, Nat.le_of_ble_eq_true rfl⟩ rfl rfl hl.1 (Nat.le_of_ble_eq_true rfl) dX12_isRungBell_2 (fun x1 G9 H locs hq hB => ?_)
  obtain ⟨rfl, i_x1, hp2⟩ := hq
  refine lv_if_eq (tgt := 22) hx hb dX12_isRungBell_5 (by decide) (fun c3 => ?_) (fun c3 => ?_)
  · skip
    have i3_x1 : iv_R 0 0 x1 := (i_x1.cutHi (n := 0) (iv_eq_r c3 q_0).2)
    refine lv_iconst (v := 0) hx hb dX12_isRungBell_22 (by decide) ?_
    exact iv_zret X hr hlocks hB (q_0.wk (by decide)) ⟨rfl, (q_0.wk (by decide)), fun h => absurd (iv_z q_0) h⟩ dX12_isRungBell_23
  · skip
    have i4_x1 : iv_R 1 1 x1 := iv_ne_lo c3 i_x1 q_0 (by decide)
    have i5_x_0 : iv_R 0 9 x_0 := ((i_x_0.cutLo (n := 0) (hp2 c3).1).cutHi (n := 9) (hp2 c3).2)
    refine lv_aload_n hx hb dX12_isRungBell_8 rfl (lv_at hl 0 rfl) ?_
    refine lv_iload_n hx hb dX12_isRungBell_9 rfl (lv_at hl 1 rfl) ?_
    refine lv_bipush (v := 6) hx hb dX12_isRungBell_10 (by decide) ?_
    refine iv_cVi X k_good k_mf_X12_ofBell k_im_X12_ofBell k_sel_X12_ofBell k_ml_X12_282 ft_X12 hB a_h0 sh_12 (As := [.int x_0, .int 6]) (c_X12_ofBell l D tys base G h0 g_h0 r_h0 a_h0 x_0 i5_x_0 6 (q_6.wk (by decide))) ⟨rfl, rfl⟩ ⟨Nat.le_of_ble_eq_true rfl, Nat.le_of_ble_eq_true rfl⟩ ⟨Nat.le_of_ble_eq_true rfl, Nat.le_of_ble_eq_true rfl⟩ rfl rfl hl.1 (Nat.le_of_ble_eq_true rfl) dX12_isRungBell_12 (fun x7 G9 H locs hq hB => ?_)
    obtain ⟨rfl, i_x7, cp8, cp9⟩ := hq
    refine lv_if_ne (tgt := 22) hx hb dX12_isRungBell_15 (by decide) (fun c10 => ?_) (fun c10 => ?_)
    · skip
      refine lv_iconst (v := 0) hx hb dX12_isRungBell_22 (by decide) ?_
      exact iv_zret X hr hlocks hB (q_0.wk (by decide)) ⟨rfl, (q_0.wk (by decide)), fun _ => i5_x_0⟩ dX12_isRungBell_23
    · skip
      have i10_x7 : iv_R 0 0 x7 := ((i_x7.cutLo (n := 0) (iv_eq_r c10 q_0).1).cutHi (n := 0) (iv_eq_r c10 q_0).2)
      refine lv_iconst (v := 1) hx hb dX12_isRungBell_18 (by decide) ?_
      refine lv_goto (tgt := 23) hx hb dX12_isRungBell_19 (by decide) ?_
      exact iv_zret X hr hlocks hB (q_1.wk (by decide)) ⟨rfl, (q_1.wk (by decide)), fun _ => i5_x_0⟩ dX12_isRungBell_23
theorem dX12_free_0 : decode cX12_free 0 = .ok (.aload_n 0, 1) := by decide +kernel
theorem dX12_free_1 : decode cX12_free 1 = .ok (.iload_n 1, 1) := by decide +kernel
theorem dX12_free_2 : decode cX12_free 2 = .ok (.invokevirtual 386, 3) := by decide +kernel
theorem dX12_free_5 : decode cX12_free 5 = .ok (.ifCond .ne 5, 3) := by decide +kernel
theorem dX12_free_8 : decode cX12_free 8 = .ok (.iconst (-1), 1) := by decide +kernel
theorem dX12_free_9 : decode cX12_free 9 = .ok (.ireturn, 1) := by decide +kernel
theorem dX12_free_10 : decode cX12_free 10 = .ok (.iconst 0, 1) := by decide +kernel
theorem dX12_free_11 : decode cX12_free 11 = .ok (.istore_n 2, 1) := by decide +kernel
theorem dX12_free_12 : decode cX12_free 12 = .ok (.iconst 0, 1) := by decide +kernel
theorem dX12_free_13 : decode cX12_free 13 = .ok (.istore_n 3, 1) := by decide +kernel
theorem dX12_free_14 : decode cX12_free 14 = .ok (.iload_n 3, 1) := by decide +kernel
theorem dX12_free_15 : decode cX12_free 15 = .ok (.bipush 24, 2) := by decide +kernel
theorem dX12_free_17 : decode cX12_free 17 = .ok (.if_icmp .ge 37, 3) := by decide +kernel
theorem dX12_free_20 : decode cX12_free 20 = .ok (.iload_n 2, 1) := by decide +kernel
theorem dX12_free_21 : decode cX12_free 21 = .ok (.aload_n 0, 1) := by decide +kernel
theorem dX12_free_22 : decode cX12_free 22 = .ok (.iload_n 1, 1) := by decide +kernel
theorem dX12_free_23 : decode cX12_free 23 = .ok (.iload_n 3, 1) := by decide +kernel
theorem dX12_free_24 : decode cX12_free 24 = .ok (.invokevirtual 302, 3) := by decide +kernel
theorem dX12_free_27 : decode cX12_free 27 = .ok (.ifCond .ne 18, 3) := by decide +kernel
theorem dX12_free_30 : decode cX12_free 30 = .ok (.aload_n 0, 1) := by decide +kernel
theorem dX12_free_31 : decode cX12_free 31 = .ok (.iload_n 1, 1) := by decide +kernel
theorem dX12_free_32 : decode cX12_free 32 = .ok (.iload_n 3, 1) := by decide +kernel
theorem dX12_free_33 : decode cX12_free 33 = .ok (.invokevirtual 389, 3) := by decide +kernel
theorem dX12_free_36 : decode cX12_free 36 = .ok (.ifCond .ne 9, 3) := by decide +kernel
theorem dX12_free_39 : decode cX12_free 39 = .ok (.iconst 1, 1) := by decide +kernel
theorem dX12_free_40 : decode cX12_free 40 = .ok (.iload_n 3, 1) := by decide +kernel
theorem dX12_free_41 : decode cX12_free 41 = .ok (.ishl, 1) := by decide +kernel
theorem dX12_free_42 : decode cX12_free 42 = .ok (.goto 4, 3) := by decide +kernel
theorem dX12_free_45 : decode cX12_free 45 = .ok (.iconst 0, 1) := by decide +kernel
theorem dX12_free_46 : decode cX12_free 46 = .ok (.ior, 1) := by decide +kernel
theorem dX12_free_47 : decode cX12_free 47 = .ok (.istore_n 2, 1) := by decide +kernel
theorem dX12_free_48 : decode cX12_free 48 = .ok (.iinc 3 1, 3) := by decide +kernel
theorem dX12_free_51 : decode cX12_free 51 = .ok (.goto (-37), 3) := by decide +kernel
theorem dX12_free_54 : decode cX12_free 54 = .ok (.iload_n 2, 1) := by decide +kernel
theorem dX12_free_55 : decode cX12_free 55 = .ok (.ireturn, 1) := by decide +kernel
set_option maxHeartbeats 4000000 in
set_option maxRecDepth 100000 in
theorem c_X12_free (l : Launch) (D : va_G) (tys : List (ClassId × FieldType)) (base : Nat) (G : iv_G) (h0 : Nat) (g_h0 : Nat → Int32) (r_h0 : Nat → Nat) (a_h0 : G h0 = some (12, g_h0, r_h0)) (x_0 : Int32) (i_x_0 : iv_R (-2147483648) 2147483647 x_0) : Met l yX12_free (Cond.code yX12_free cX12_free 4 (some .int) :: iv_W0) ({ frames := 7, cells := 0, slots := 0, locals := 165 }) (iv_Pc iv_sh D classes tys base G [.ref h0, .int x_0]) (iv_Qi iv_sh D classes tys base (fun v G' => iv_Md [67, 68] G G' ∧ iv_R (-1) 2147483647 v)) 0 0 (iv_A base) := by
  refine iv_head (by decide) (Nat.le_of_ble_eq_true rfl) ?_
  intro p e s m args below meth c ls X hr hlocks hname hB hl
  have X := X
  have hx := X.1.1
  have hb := X.1.2.1
  have hM : iv_Md [67, 68] G G := iv_Md.rf
  have hl : lv_has ls 4 [(0, .ref h0), (1, .int x_0)] := hl
  refine lv_aload_n hx hb dX12_free_0 rfl (lv_at hl 0 rfl) ?_
  refine lv_iload_n hx hb dX12_free_1 rfl (lv_at hl 1 rfl) ?_
  refine iv_cVi X k_good k_mf_X12_isRungBell k_im_X12_isRungBell k_sel_X12_isRungBell k_ml_X12_386 ft_X12 hB a_h0 sh_12 (As := [.int x_0]) (c_X12_isRungBell l D tys base G h0 g_h0 r_h0 a_h0 x_0 i_x_0) ⟨rfl, rfl⟩ ⟨Nat.le_of_ble_eq_true rfl, Nat.le_of_ble_eq_true rfl⟩ ⟨Nat.le_of_ble_eq_true rfl, Nat.le_of_ble_eq_true rfl⟩ rfl rfl hl.1 (Nat.le_of_ble_eq_true rfl) dX12_free_2 (fun x1 G9 H locs hq hB => ?_)
  obtain ⟨rfl, i_x1, hp2⟩ := hq
  refine lv_if_ne (tgt := 10) hx hb dX12_free_5 (by decide) (fun c3 => ?_) (fun c3 => ?_)
  · skip
    have i3_x1 : iv_R 1 1 x1 := iv_ne_lo c3 i_x1 q_0 (by decide)
    have i4_x_0 : iv_R 0 9 x_0 := ((i_x_0.cutLo (n := 0) (hp2 c3).1).cutHi (n := 9) (hp2 c3).2)
    refine lv_iconst (v := 0) hx hb dX12_free_10 (by decide) ?_
    refine lv_istore_n (lv' := [(2, .int 0), (0, .ref h0), (1, .int x_0)]) hx hb dX12_free_11 rfl hl (by decide) rfl (fun ls hl => ?_)
    refine lv_iconst (v := 0) hx hb dX12_free_12 (by decide) ?_
    refine lv_istore_n (lv' := [(3, .int 0), (2, .int 0), (0, .ref h0), (1, .int x_0)]) hx hb dX12_free_13 rfl hl (by decide) rfl (fun ls hl => ?_)
    have L_14 : ∀ (n_14 : Nat) (G8 : iv_G) (hM : iv_Md [67, 68] G G8) (H : Heap) (locs : List Loc) (hB : iv_B iv_sh D classes tys base G8 s.heap H locs) (a_h0 : G8 h0 = some (12, g_h0, r_h0)) (x6 : Int32) (i_x6 : iv_R 0 2147483647 x6) (x7 : Int32) (i_x7 : iv_R 0 24 x7) (hn_14 : (25 - x7.toInt).toNat < n_14) (ls : Array Slot) (hl : lv_has ls 4 [(3, .int x7), (2, .int x6), (0, .ref h0), (1, .int x_0)]), W p l e ({ frames := 7, cells := 0, slots := 0, locals := 165 } : Room) s m args below meth c H locs 0 0 (MQ below (iv_Qi iv_sh D classes tys base (fun v G' => iv_Md [67, 68] G G' ∧ iv_R (-1) 2147483647 v)) args s 0 0 (iv_A base)) (F0 m 14 ls []) := by
      intro n_14
      induction n_14 with
      | zero => intro G8 hM H locs hB a_h0 x6 i_x6 x7 i_x7 hn_14 ls hl; exact absurd hn_14 (Nat.not_lt_zero _)
      | succ n_14 ih_14 =>
        intro G8 hM H locs hB a_h0 x6 i_x6 x7 i_x7 hn_14 ls hl
        refine lv_iload_n hx hb dX12_free_14 rfl (lv_at hl 0 rfl) ?_
        refine lv_bipush (v := 24) hx hb dX12_free_15 (by decide) ?_
        refine lv_icmp_ge (tgt := 54) hx hb dX12_free_17 (by decide) (fun c9 => ?_) (fun c9 => ?_)
        · skip
          have i9_x7 : iv_R 24 24 x7 := (i_x7.cutLo (n := 24) (iv_le_l c9 q_24))
          refine lv_iload_n hx hb dX12_free_54 rfl (lv_at hl 1 rfl) ?_
          exact iv_iret X hr hlocks hB ⟨hM, (i_x6.wk (by decide))⟩ dX12_free_55
        · skip
          have i10_x7 : iv_R 0 23 x7 := (i_x7.cutHi (n := 23) (iv_lt_r (iv_nle c9) q_24 (by decide)))
          refine lv_iload_n hx hb dX12_free_20 rfl (lv_at hl 1 rfl) ?_
          refine lv_aload_n hx hb dX12_free_21 rfl (lv_at hl 2 rfl) ?_
          refine lv_iload_n hx hb dX12_free_22 rfl (lv_at hl 3 rfl) ?_
          refine lv_iload_n hx hb dX12_free_23 rfl (lv_at hl 0 rfl) ?_
          refine iv_cVi X k_good k_mf_X12_sounds k_im_X12_sounds k_sel_X12_sounds k_ml_X12_302 ft_X12 hB a_h0 sh_12 (As := [.int x_0, .int x7]) (c_X12_sounds l D tys base G8 h0 g_h0 r_h0 a_h0 x_0 i4_x_0 x7 i10_x7) ⟨rfl, rfl⟩ ⟨Nat.le_of_ble_eq_true rfl, Nat.le_of_ble_eq_true rfl⟩ ⟨Nat.le_of_ble_eq_true rfl, Nat.le_of_ble_eq_true rfl⟩ rfl rfl hl.1 (Nat.le_of_ble_eq_true rfl) dX12_free_24 (fun x12 G9 H locs hq hB => ?_)
          obtain ⟨rfl, i_x12⟩ := hq
          refine lv_if_ne (tgt := 45) hx hb dX12_free_27 (by decide) (fun c13 => ?_) (fun c13 => ?_)
          · skip
            have i13_x12 : iv_R 1 1 x12 := iv_ne_lo c13 i_x12 q_0 (by decide)
            refine lv_iconst (v := 0) hx hb dX12_free_45 (by decide) ?_
            refine iv_ior hx hb i_x6 q_0 (k := 31) (hi := 2147483647) (by decide) dX12_free_46 (fun x15 e_x15 i_x15 => ?_)
            refine lv_istore_n (lv' := [(2, .int x15), (3, .int x7), (0, .ref h0), (1, .int x_0)]) hx hb dX12_free_47 rfl hl (by decide) rfl (fun ls hl => ?_)
            refine iv_iinc hx hb i10_x7 (lo := 1) (hi := 24) (by decide) dX12_free_48 hl (k := 1) rfl (by decide) (fun x16 ls e_x16 i_x16 hl => ?_)
            have hl : lv_has ls 4 [(3, .int x16), (2, .int x15), (0, .ref h0), (1, .int x_0)] := hl
            refine lv_goto (tgt := 14) hx hb dX12_free_51 (by decide) ?_
            exact ih_14 G8 hM _ _ hB a_h0 x15 i_x15 x16 (i_x16.wk (by decide)) (iv_mup (c := 1) i_x7 (by decide) (by decide) (by omega) hn_14) _ (lv_sub hl [0, 1, 2, 3] rfl)
          · skip
            have i16_x12 : iv_R 0 0 x12 := (i_x12.cutHi (n := 0) (iv_eq_r c13 q_0).2)
            refine lv_aload_n hx hb dX12_free_30 rfl (lv_at hl 2 rfl) ?_
            refine lv_iload_n hx hb dX12_free_31 rfl (lv_at hl 3 rfl) ?_
            refine lv_iload_n hx hb dX12_free_32 rfl (lv_at hl 0 rfl) ?_
            refine iv_cVi X k_good k_mf_X12_isDrowned k_im_X12_isDrowned k_sel_X12_isDrowned k_ml_X12_389 ft_X12 hB a_h0 sh_12 (As := [.int x_0, .int x7]) (c_X12_isDrowned l D tys base G8 h0 g_h0 r_h0 a_h0 x_0 i4_x_0 x7 i10_x7) ⟨rfl, rfl⟩ ⟨Nat.le_of_ble_eq_true rfl, Nat.le_of_ble_eq_true rfl⟩ ⟨Nat.le_of_ble_eq_true rfl, Nat.le_of_ble_eq_true rfl⟩ rfl rfl hl.1 (Nat.le_of_ble_eq_true rfl) dX12_free_33 (fun x18 G9 H locs hq hB => ?_)
            obtain ⟨hm, i_x18⟩ := hq
            obtain ⟨G19, hG9⟩ : ∃ g, g = G9 := ⟨_, rfl⟩
            rw [← hG9] at hm hB
            have hM := hM.stp hm (by decide)
            have a_h0 := hm.at a_h0 (by decide)
            refine lv_if_ne (tgt := 45) hx hb dX12_free_36 (by decide) (fun c20 => ?_) (fun c20 => ?_)
            · skip
              have i20_x18 : iv_R 1 1 x18 := iv_ne_lo c20 i_x18 q_0 (by decide)
              refine lv_iconst (v := 0) hx hb dX12_free_45 (by decide) ?_
              refine iv_ior hx hb i_x6 q_0 (k := 31) (hi := 2147483647) (by decide) dX12_free_46 (fun x22 e_x22 i_x22 => ?_)
              refine lv_istore_n (lv' := [(2, .int x22), (3, .int x7), (0, .ref h0), (1, .int x_0)]) hx hb dX12_free_47 rfl hl (by decide) rfl (fun ls hl => ?_)
              refine iv_iinc hx hb i10_x7 (lo := 1) (hi := 24) (by decide) dX12_free_48 hl (k := 1) rfl (by decide) (fun x23 ls e_x23 i_x23 hl => ?_)
              have hl : lv_has ls 4 [(3, .int x23), (2, .int x22), (0, .ref h0), (1, .int x_0)] := hl
              refine lv_goto (tgt := 14) hx hb dX12_free_51 (by decide) ?_
              exact ih_14 G19 hM _ _ hB a_h0 x22 i_x22 x23 (i_x23.wk (by decide)) (iv_mup (c := 1) i_x7 (by decide) (by decide) (by omega) hn_14) _ (lv_sub hl [0, 1, 2, 3] rfl)
            · skip
              have i23_x18 : iv_R 0 0 x18 := (i_x18.cutHi (n := 0) (iv_eq_r c20 q_0).2)
              refine lv_iconst (v := 1) hx hb dX12_free_39 (by decide) ?_
              refine lv_iload_n hx hb dX12_free_40 rfl (lv_at hl 0 rfl) ?_
              refine iv_shl1 hx hb i10_x7 (lo := 1) (hi := 8388608) (by decide) dX12_free_41 (fun x25 e_x25 i_x25 => ?_)
              refine lv_goto (tgt := 46) hx hb dX12_free_42 (by decide) ?_
              refine iv_ior hx hb i_x6 i_x25 (k := 31) (hi := 2147483647) (by decide) dX12_free_46 (fun x26 e_x26 i_x26 => ?_)
              refine lv_istore_n (lv' := [(2, .int x26), (3, .int x7), (0, .ref h0), (1, .int x_0)]) hx hb dX12_free_47 rfl hl (by decide) rfl (fun ls hl => ?_)
              refine iv_iinc hx hb i10_x7 (lo := 1) (hi := 24) (by decide) dX12_free_48 hl (k := 1) rfl (by decide) (fun x27 ls e_x27 i_x27 hl => ?_)
              have hl : lv_has ls 4 [(3, .int x27), (2, .int x26), (0, .ref h0), (1, .int x_0)] := hl
              refine lv_goto (tgt := 14) hx hb dX12_free_51 (by decide) ?_
              exact ih_14 G19 hM _ _ hB a_h0 x26 i_x26 x27 (i_x27.wk (by decide)) (iv_mup (c := 1) i_x7 (by decide) (by decide) (by omega) hn_14) _ (lv_sub hl [0, 1, 2, 3] rfl)
    exact L_14 _ G hM _ _ hB a_h0 0 (q_0.wk (by decide)) 0 (q_0.wk (by decide)) (Nat.lt_succ_self _) _ (lv_sub hl [0, 1, 2, 3] rfl)
  · skip
    have i27_x1 : iv_R 0 0 x1 := (i_x1.cutHi (n := 0) (iv_eq_r c3 q_0).2)
    refine lv_iconst (v := (-1)) hx hb dX12_free_8 (by decide) ?_
    exact iv_iret X hr hlocks hB ⟨hM, (q_n1.wk (by decide))⟩ dX12_free_9
theorem dX12_slackOf_0 : decode cX12_slackOf 0 = .ok (.aload_n 0, 1) := by decide +kernel
theorem dX12_slackOf_1 : decode cX12_slackOf 1 = .ok (.iload_n 1, 1) := by decide +kernel
theorem dX12_slackOf_2 : decode cX12_slackOf 2 = .ok (.bipush 22, 2) := by decide +kernel
theorem dX12_slackOf_4 : decode cX12_slackOf 4 = .ok (.invokevirtual 323, 3) := by decide +kernel
theorem dX12_slackOf_7 : decode cX12_slackOf 7 = .ok (.ireturn, 1) := by decide +kernel
set_option maxHeartbeats 4000000 in
set_option maxRecDepth 100000 in
theorem c_X12_slackOf (l : Launch) (D : va_G) (tys : List (ClassId × FieldType)) (base : Nat) (G : iv_G) (h0 : Nat) (g_h0 : Nat → Int32) (r_h0 : Nat → Nat) (a_h0 : G h0 = some (12, g_h0, r_h0)) (x_0 : Int32) (i_x_0 : iv_R 0 9 x_0) : Met l yX12_slackOf (Cond.code yX12_slackOf cX12_slackOf 2 (some .int) :: iv_W0) ({ frames := 9, cells := 0, slots := 0, locals := 211 }) (iv_Pc iv_sh D classes tys base G [.ref h0, .int x_0]) (iv_Qi iv_sh D classes tys base (fun v G' => iv_Md [67, 68] G G' ∧ iv_R (-2147483648) 2147483647 v)) 0 0 (iv_A base) := by
  refine iv_head (by decide) (Nat.le_of_ble_eq_true rfl) ?_
  intro p e s m args below meth c ls X hr hlocks hname hB hl
  have X := X
  have hx := X.1.1
  have hb := X.1.2.1
  have hM : iv_Md [67, 68] G G := iv_Md.rf
  have hl : lv_has ls 2 [(0, .ref h0), (1, .int x_0)] := hl
  refine lv_aload_n hx hb dX12_slackOf_0 rfl (lv_at hl 0 rfl) ?_
  refine lv_iload_n hx hb dX12_slackOf_1 rfl (lv_at hl 1 rfl) ?_
  refine lv_bipush (v := 22) hx hb dX12_slackOf_2 (by decide) ?_
  refine iv_cVi X k_good k_mf_X12_comingSays k_im_X12_comingSays k_sel_X12_comingSays k_ml_X12_323 ft_X12 hB a_h0 sh_12 (As := [.int x_0, .int 22]) (c_X12_comingSays l D tys base G h0 g_h0 r_h0 a_h0 x_0 i_x_0 22 (q_22.wk (by decide))) ⟨rfl, rfl⟩ ⟨Nat.le_of_ble_eq_true rfl, Nat.le_of_ble_eq_true rfl⟩ ⟨Nat.le_of_ble_eq_true rfl, Nat.le_of_ble_eq_true rfl⟩ rfl rfl hl.1 (Nat.le_of_ble_eq_true rfl) dX12_slackOf_4 (fun x1 G9 H locs hq hB => ?_)
  obtain ⟨hm, i_x1⟩ := hq
  obtain ⟨G2, hG9⟩ : ∃ g, g = G9 := ⟨_, rfl⟩
  rw [← hG9] at hm hB
  have hM := hM.stp hm (by decide)
  have a_h0 := hm.at a_h0 (by decide)
  exact iv_iret X hr hlocks hB ⟨hM, i_x1⟩ dX12_slackOf_7
theorem dX12_hopes_0 : decode cX12_hopes 0 = .ok (.aload_n 0, 1) := by decide +kernel
theorem dX12_hopes_1 : decode cX12_hopes 1 = .ok (.iload_n 1, 1) := by decide +kernel
theorem dX12_hopes_2 : decode cX12_hopes 2 = .ok (.invokevirtual 76, 3) := by decide +kernel
theorem dX12_hopes_5 : decode cX12_hopes 5 = .ok (.ifCond .ne 5, 3) := by decide +kernel
theorem dX12_hopes_8 : decode cX12_hopes 8 = .ok (.iconst (-1), 1) := by decide +kernel
theorem dX12_hopes_9 : decode cX12_hopes 9 = .ok (.ireturn, 1) := by decide +kernel
theorem dX12_hopes_10 : decode cX12_hopes 10 = .ok (.aload_n 0, 1) := by decide +kernel
theorem dX12_hopes_11 : decode cX12_hopes 11 = .ok (.iload_n 1, 1) := by decide +kernel
theorem dX12_hopes_12 : decode cX12_hopes 12 = .ok (.invokevirtual 347, 3) := by decide +kernel
theorem dX12_hopes_15 : decode cX12_hopes 15 = .ok (.istore_n 2, 1) := by decide +kernel
theorem dX12_hopes_16 : decode cX12_hopes 16 = .ok (.aload_n 0, 1) := by decide +kernel
theorem dX12_hopes_17 : decode cX12_hopes 17 = .ok (.iload_n 1, 1) := by decide +kernel
theorem dX12_hopes_18 : decode cX12_hopes 18 = .ok (.iconst 3, 1) := by decide +kernel
theorem dX12_hopes_19 : decode cX12_hopes 19 = .ok (.invokevirtual 282, 3) := by decide +kernel
theorem dX12_hopes_22 : decode cX12_hopes 22 = .ok (.ifCond .ne 5, 3) := by decide +kernel
theorem dX12_hopes_25 : decode cX12_hopes 25 = .ok (.iconst 0, 1) := by decide +kernel
theorem dX12_hopes_26 : decode cX12_hopes 26 = .ok (.ireturn, 1) := by decide +kernel
theorem dX12_hopes_27 : decode cX12_hopes 27 = .ok (.iload_n 2, 1) := by decide +kernel
theorem dX12_hopes_28 : decode cX12_hopes 28 = .ok (.ifCond .ne 7, 3) := by decide +kernel
theorem dX12_hopes_31 : decode cX12_hopes 31 = .ok (.iconst (-1), 1) := by decide +kernel
theorem dX12_hopes_32 : decode cX12_hopes 32 = .ok (.goto 15, 3) := by decide +kernel
theorem dX12_hopes_35 : decode cX12_hopes 35 = .ok (.aload_n 0, 1) := by decide +kernel
theorem dX12_hopes_36 : decode cX12_hopes 36 = .ok (.iload_n 1, 1) := by decide +kernel
theorem dX12_hopes_37 : decode cX12_hopes 37 = .ok (.iconst 3, 1) := by decide +kernel
theorem dX12_hopes_38 : decode cX12_hopes 38 = .ok (.invokevirtual 282, 3) := by decide +kernel
theorem dX12_hopes_41 : decode cX12_hopes 41 = .ok (.iload_n 2, 1) := by decide +kernel
theorem dX12_hopes_42 : decode cX12_hopes 42 = .ok (.iadd, 1) := by decide +kernel
theorem dX12_hopes_43 : decode cX12_hopes 43 = .ok (.iconst 1, 1) := by decide +kernel
theorem dX12_hopes_44 : decode cX12_hopes 44 = .ok (.isub, 1) := by decide +kernel
theorem dX12_hopes_45 : decode cX12_hopes 45 = .ok (.iload_n 2, 1) := by decide +kernel
theorem dX12_hopes_46 : decode cX12_hopes 46 = .ok (.idiv, 1) := by decide +kernel
theorem dX12_hopes_47 : decode cX12_hopes 47 = .ok (.ireturn, 1) := by decide +kernel
set_option maxHeartbeats 4000000 in
set_option maxRecDepth 100000 in
theorem c_X12_hopes (l : Launch) (D : va_G) (tys : List (ClassId × FieldType)) (base : Nat) (G : iv_G) (h0 : Nat) (g_h0 : Nat → Int32) (r_h0 : Nat → Nat) (a_h0 : G h0 = some (12, g_h0, r_h0)) (x_0 : Int32) (i_x_0 : iv_R (-2147483648) 2147483647 x_0) : Met l yX12_hopes (Cond.code yX12_hopes cX12_hopes 3 (some .int) :: iv_W0) ({ frames := 10, cells := 0, slots := 0, locals := 232 }) (iv_Pc iv_sh D classes tys base G [.ref h0, .int x_0]) (iv_Qi iv_sh D classes tys base (fun v G' => iv_Md [67, 68] G G' ∧ iv_R (-2147483648) 2147483647 v)) 0 0 (iv_A base) := by
  refine iv_head (by decide) (Nat.le_of_ble_eq_true rfl) ?_
  intro p e s m args below meth c ls X hr hlocks hname hB hl
  have X := X
  have hx := X.1.1
  have hb := X.1.2.1
  have hM : iv_Md [67, 68] G G := iv_Md.rf
  have hl : lv_has ls 3 [(0, .ref h0), (1, .int x_0)] := hl
  refine lv_aload_n hx hb dX12_hopes_0 rfl (lv_at hl 0 rfl) ?_
  refine lv_iload_n hx hb dX12_hopes_1 rfl (lv_at hl 1 rfl) ?_
  refine iv_cVi X k_good k_mf_X12_isBell k_im_X12_isBell k_sel_X12_isBell k_ml_X12_76 ft_X12 hB a_h0 sh_12 (As := [.int x_0]) (c_X12_isBell l D tys base G h0 g_h0 r_h0 a_h0 x_0 i_x_0) ⟨rfl, rfl⟩ ⟨Nat.le_of_ble_eq_true rfl, Nat.le_of_ble_eq_true rfl⟩ ⟨Nat.le_of_ble_eq_true rfl, Nat.le_of_ble_eq_true rfl⟩ rfl rfl hl.1 (Nat.le_of_ble_eq_true rfl) dX12_hopes_2 (fun x1 G9 H locs hq hB => ?_)
  obtain ⟨rfl, i_x1, hp2⟩ := hq
  refine lv_if_ne (tgt := 10) hx hb dX12_hopes_5 (by decide) (fun c3 => ?_) (fun c3 => ?_)
  · skip
    have i3_x1 : iv_R 1 1 x1 := iv_ne_lo c3 i_x1 q_0 (by decide)
    have i4_x_0 : iv_R 0 9 x_0 := ((i_x_0.cutLo (n := 0) (hp2 c3).1).cutHi (n := 9) (hp2 c3).2)
    refine lv_aload_n hx hb dX12_hopes_10 rfl (lv_at hl 0 rfl) ?_
    refine lv_iload_n hx hb dX12_hopes_11 rfl (lv_at hl 1 rfl) ?_
    refine iv_cVi X k_good k_mf_X12_slackOf k_im_X12_slackOf k_sel_X12_slackOf k_ml_X12_347 ft_X12 hB a_h0 sh_12 (As := [.int x_0]) (c_X12_slackOf l D tys base G h0 g_h0 r_h0 a_h0 x_0 i4_x_0) ⟨rfl, rfl⟩ ⟨Nat.le_of_ble_eq_true rfl, Nat.le_of_ble_eq_true rfl⟩ ⟨Nat.le_of_ble_eq_true rfl, Nat.le_of_ble_eq_true rfl⟩ rfl rfl hl.1 (Nat.le_of_ble_eq_true rfl) dX12_hopes_12 (fun x6 G9 H locs hq hB => ?_)
    obtain ⟨hm, i_x6⟩ := hq
    obtain ⟨G7, hG9⟩ : ∃ g, g = G9 := ⟨_, rfl⟩
    rw [← hG9] at hm hB
    have hM := hM.stp hm (by decide)
    have a_h0 := hm.at a_h0 (by decide)
    refine lv_istore_n (lv' := [(2, .int x6), (0, .ref h0), (1, .int x_0)]) hx hb dX12_hopes_15 rfl hl (by decide) rfl (fun ls hl => ?_)
    refine lv_aload_n hx hb dX12_hopes_16 rfl (lv_at hl 1 rfl) ?_
    refine lv_iload_n hx hb dX12_hopes_17 rfl (lv_at hl 2 rfl) ?_
    refine lv_iconst (v := 3) hx hb dX12_hopes_18 (by decide) ?_
    refine iv_cVi X k_good k_mf_X12_ofBell k_im_X12_ofBell k_sel_X12_ofBell k_ml_X12_282 ft_X12 hB a_h0 sh_12 (As := [.int x_0, .int 3]) (c_X12_ofBell l D tys base G7 h0 g_h0 r_h0 a_h0 x_0 i4_x_0 3 (q_3.wk (by decide))) ⟨rfl, rfl⟩ ⟨Nat.le_of_ble_eq_true rfl, Nat.le_of_ble_eq_true rfl⟩ ⟨Nat.le_of_ble_eq_true rfl, Nat.le_of_ble_eq_true rfl⟩ rfl rfl hl.1 (Nat.le_of_ble_eq_true rfl) dX12_hopes_19 (fun x8 G9 H locs hq hB => ?_)
    obtain ⟨rfl, i_x8, cp9, cp10⟩ := hq
    refine lv_if_ne (tgt := 27) hx hb dX12_hopes_22 (by decide) (fun c11 => ?_) (fun c11 => ?_)
    · skip
      refine lv_iload_n hx hb dX12_hopes_27 rfl (lv_at hl 0 rfl) ?_
      refine lv_if_ne (tgt := 35) hx hb dX12_hopes_28 (by decide) (fun c12 => ?_) (fun c12 => ?_)
      · skip
        refine lv_aload_n hx hb dX12_hopes_35 rfl (lv_at hl 1 rfl) ?_
        refine lv_iload_n hx hb dX12_hopes_36 rfl (lv_at hl 2 rfl) ?_
        refine lv_iconst (v := 3) hx hb dX12_hopes_37 (by decide) ?_
        refine iv_cVi X k_good k_mf_X12_ofBell k_im_X12_ofBell k_sel_X12_ofBell k_ml_X12_282 ft_X12 hB a_h0 sh_12 (As := [.int x_0, .int 3]) (c_X12_ofBell l D tys base G7 h0 g_h0 r_h0 a_h0 x_0 i4_x_0 3 (q_3.wk (by decide))) ⟨rfl, rfl⟩ ⟨Nat.le_of_ble_eq_true rfl, Nat.le_of_ble_eq_true rfl⟩ ⟨Nat.le_of_ble_eq_true rfl, Nat.le_of_ble_eq_true rfl⟩ rfl rfl hl.1 (Nat.le_of_ble_eq_true rfl) dX12_hopes_38 (fun x13 G9 H locs hq hB => ?_)
        obtain ⟨rfl, i_x13, cp14, cp15⟩ := hq
        refine lv_iload_n hx hb dX12_hopes_41 rfl (lv_at hl 0 rfl) ?_
        refine lv_iadd hx hb dX12_hopes_42 ?_
        refine lv_topi (fun x16 e_x16 => ?_)
        have i_x16 := iv_R.all x16
        refine lv_iconst (v := 1) hx hb dX12_hopes_43 (by decide) ?_
        refine lv_isub hx hb dX12_hopes_44 ?_
        refine lv_topi (fun x17 e_x17 => ?_)
        have i_x17 := iv_R.all x17
        refine lv_iload_n hx hb dX12_hopes_45 rfl (lv_at hl 0 rfl) ?_
        refine lv_idiv hx hb dX12_hopes_46 c12 ?_
        refine lv_topi (fun x18 e_x18 => ?_)
        have i_x18 := iv_R.all x18
        exact iv_iret X hr hlocks hB ⟨hM, i_x18⟩ dX12_hopes_47
      · skip
        have i18_x6 : iv_R 0 0 x6 := ((i_x6.cutLo (n := 0) (iv_eq_r c12 q_0).1).cutHi (n := 0) (iv_eq_r c12 q_0).2)
        refine lv_iconst (v := (-1)) hx hb dX12_hopes_31 (by decide) ?_
        refine lv_goto (tgt := 47) hx hb dX12_hopes_32 (by decide) ?_
        exact iv_iret X hr hlocks hB ⟨hM, (q_n1.wk (by decide))⟩ dX12_hopes_47
    · skip
      have i19_x8 : iv_R 0 0 x8 := ((i_x8.cutLo (n := 0) (iv_eq_r c11 q_0).1).cutHi (n := 0) (iv_eq_r c11 q_0).2)
      refine lv_iconst (v := 0) hx hb dX12_hopes_25 (by decide) ?_
      exact iv_iret X hr hlocks hB ⟨hM, (q_0.wk (by decide))⟩ dX12_hopes_26
  · skip
    have i20_x1 : iv_R 0 0 x1 := (i_x1.cutHi (n := 0) (iv_eq_r c3 q_0).2)
    refine lv_iconst (v := (-1)) hx hb dX12_hopes_8 (by decide) ?_
    exact iv_iret X hr hlocks hB ⟨hM, (q_n1.wk (by decide))⟩ dX12_hopes_9
theorem dX12_sumOf_0 : decode cX12_sumOf 0 = .ok (.iconst 0, 1) := by decide +kernel
theorem dX12_sumOf_1 : decode cX12_sumOf 1 = .ok (.istore_n 3, 1) := by decide +kernel
theorem dX12_sumOf_2 : decode cX12_sumOf 2 = .ok (.iconst 0, 1) := by decide +kernel
theorem dX12_sumOf_3 : decode cX12_sumOf 3 = .ok (.istore 4, 2) := by decide +kernel
theorem dX12_sumOf_5 : decode cX12_sumOf 5 = .ok (.iload 4, 2) := by decide +kernel
theorem dX12_sumOf_7 : decode cX12_sumOf 7 = .ok (.aload_n 0, 1) := by decide +kernel
theorem dX12_sumOf_8 : decode cX12_sumOf 8 = .ok (.getfield 7, 3) := by decide +kernel
theorem dX12_sumOf_11 : decode cX12_sumOf 11 = .ok (.sipush 146, 3) := by decide +kernel
theorem dX12_sumOf_14 : decode cX12_sumOf 14 = .ok (.iaload, 1) := by decide +kernel
theorem dX12_sumOf_15 : decode cX12_sumOf 15 = .ok (.if_icmp .ge 33, 3) := by decide +kernel
theorem dX12_sumOf_18 : decode cX12_sumOf 18 = .ok (.iload_n 3, 1) := by decide +kernel
theorem dX12_sumOf_19 : decode cX12_sumOf 19 = .ok (.iload_n 1, 1) := by decide +kernel
theorem dX12_sumOf_20 : decode cX12_sumOf 20 = .ok (.iload 4, 2) := by decide +kernel
theorem dX12_sumOf_22 : decode cX12_sumOf 22 = .ok (.ishr, 1) := by decide +kernel
theorem dX12_sumOf_23 : decode cX12_sumOf 23 = .ok (.iconst 1, 1) := by decide +kernel
theorem dX12_sumOf_24 : decode cX12_sumOf 24 = .ok (.iand, 1) := by decide +kernel
theorem dX12_sumOf_25 : decode cX12_sumOf 25 = .ok (.iconst 1, 1) := by decide +kernel
theorem dX12_sumOf_26 : decode cX12_sumOf 26 = .ok (.if_icmp .ne 13, 3) := by decide +kernel
theorem dX12_sumOf_29 : decode cX12_sumOf 29 = .ok (.aload_n 0, 1) := by decide +kernel
theorem dX12_sumOf_30 : decode cX12_sumOf 30 = .ok (.iload 4, 2) := by decide +kernel
theorem dX12_sumOf_32 : decode cX12_sumOf 32 = .ok (.iload_n 2, 1) := by decide +kernel
theorem dX12_sumOf_33 : decode cX12_sumOf 33 = .ok (.invokevirtual 282, 3) := by decide +kernel
theorem dX12_sumOf_36 : decode cX12_sumOf 36 = .ok (.goto 4, 3) := by decide +kernel
theorem dX12_sumOf_39 : decode cX12_sumOf 39 = .ok (.iconst 0, 1) := by decide +kernel
theorem dX12_sumOf_40 : decode cX12_sumOf 40 = .ok (.iadd, 1) := by decide +kernel
theorem dX12_sumOf_41 : decode cX12_sumOf 41 = .ok (.istore_n 3, 1) := by decide +kernel
theorem dX12_sumOf_42 : decode cX12_sumOf 42 = .ok (.iinc 4 1, 3) := by decide +kernel
theorem dX12_sumOf_45 : decode cX12_sumOf 45 = .ok (.goto (-40), 3) := by decide +kernel
theorem dX12_sumOf_48 : decode cX12_sumOf 48 = .ok (.iload_n 3, 1) := by decide +kernel
theorem dX12_sumOf_49 : decode cX12_sumOf 49 = .ok (.ireturn, 1) := by decide +kernel
set_option maxHeartbeats 4000000 in
set_option maxRecDepth 100000 in
theorem c_X12_sumOf (l : Launch) (D : va_G) (tys : List (ClassId × FieldType)) (base : Nat) (G : iv_G) (h0 : Nat) (g_h0 : Nat → Int32) (r_h0 : Nat → Nat) (a_h0 : G h0 = some (12, g_h0, r_h0)) (x_0 : Int32) (i_x_0 : iv_R 0 2047 x_0) (x_1 : Int32) (i_x_1 : iv_R 2 3 x_1) : Met l yX12_sumOf (Cond.code yX12_sumOf cX12_sumOf 5 (some .int) :: iv_W0) ({ frames := 1, cells := 0, slots := 0, locals := 22 }) (iv_Pc iv_sh D classes tys base G [.ref h0, .int x_0, .int x_1]) (iv_Qi iv_sh D classes tys base (fun v G' => G = G' ∧ iv_R (-2147483648) 2147483647 v)) 0 0 (iv_A base) := by
  refine iv_head (by decide) (Nat.le_of_ble_eq_true rfl) ?_
  intro p e s m args below meth c ls X hr hlocks hname hB hl
  have X := X
  have hx := X.1.1
  have hb := X.1.2.1
  have hl : lv_has ls 5 [(0, .ref h0), (1, .int x_0), (2, .int x_1)] := hl
  refine lv_iconst (v := 0) hx hb dX12_sumOf_0 (by decide) ?_
  refine lv_istore_n (lv' := [(3, .int 0), (0, .ref h0), (1, .int x_0), (2, .int x_1)]) hx hb dX12_sumOf_1 rfl hl (by decide) rfl (fun ls hl => ?_)
  refine lv_iconst (v := 0) hx hb dX12_sumOf_2 (by decide) ?_
  refine lv_istore (lv' := [(4, .int 0), (3, .int 0), (0, .ref h0), (1, .int x_0), (2, .int x_1)]) hx hb dX12_sumOf_3 hl (by decide) rfl (fun ls hl => ?_)
  have L_5 : ∀ (n_5 : Nat) (H : Heap) (locs : List Loc) (hB : iv_B iv_sh D classes tys base G s.heap H locs) (x1 : Int32) (i_x1 : iv_R (-2147483648) 2147483647 x1) (x2 : Int32) (i_x2 : iv_R 0 10 x2) (hn_5 : (11 - x2.toInt).toNat < n_5) (ls : Array Slot) (hl : lv_has ls 5 [(4, .int x2), (3, .int x1), (0, .ref h0), (1, .int x_0), (2, .int x_1)]), W p l e ({ frames := 1, cells := 0, slots := 0, locals := 22 } : Room) s m args below meth c H locs 0 0 (MQ below (iv_Qi iv_sh D classes tys base (fun v G' => G = G' ∧ iv_R (-2147483648) 2147483647 v)) args s 0 0 (iv_A base)) (F0 m 5 ls []) := by
    intro n_5
    induction n_5 with
    | zero => intro H locs hB x1 i_x1 x2 i_x2 hn_5 ls hl; exact absurd hn_5 (Nat.not_lt_zero _)
    | succ n_5 ih_5 =>
      intro H locs hB x1 i_x1 x2 i_x2 hn_5 ls hl
      refine lv_iload hx hb dX12_sumOf_5 (lv_at hl 0 rfl) ?_
      refine lv_aload_n hx hb dX12_sumOf_7 rfl (lv_at hl 2 rfl) ?_
      refine iv_getr X ft_X12 hB a_h0 sh_12 0 (by decide) rfl k_fl_X12_7 dX12_sumOf_8 (fun b3 g_b3 r_b3 e_b3 a_b3 => ?_)
      refine lv_sipush (v := 146) hx hb dX12_sumOf_11 (by decide) ?_
      refine iv_wald_c X hB a_b3 q_146 (by decide) (lo := 0) (hi' := 10) (by decide) dX12_sumOf_14 (fun x4 e_x4 i_x4 => ?_)
      refine lv_icmp_ge (tgt := 48) hx hb dX12_sumOf_15 (by decide) (fun c5 => ?_) (fun c5 => ?_)
      · skip
        refine lv_iload_n hx hb dX12_sumOf_48 rfl (lv_at hl 1 rfl) ?_
        exact iv_iret X hr hlocks hB ⟨rfl, i_x1⟩ dX12_sumOf_49
      · skip
        have i5_x2 : iv_R 0 9 x2 := (i_x2.cutHi (n := 9) (iv_lt_r (iv_nle c5) i_x4 (by decide)))
        have i6_x4 : iv_R 1 10 x4 := (i_x4.cutLo (n := 1) (iv_lt_l (iv_nle c5) i_x2 (by decide)))
        refine lv_iload_n hx hb dX12_sumOf_18 rfl (lv_at hl 1 rfl) ?_
        refine lv_iload_n hx hb dX12_sumOf_19 rfl (lv_at hl 3 rfl) ?_
        refine lv_iload hx hb dX12_sumOf_20 (lv_at hl 0 rfl) ?_
        refine lv_ishr hx hb dX12_sumOf_22 ?_
        refine lv_topi (fun x8 e_x8 => ?_)
        have i_x8 := iv_R.all x8
        refine lv_iconst (v := 1) hx hb dX12_sumOf_23 (by decide) ?_
        refine iv_iand_r hx hb q_1 (by decide) dX12_sumOf_24 (fun x9 e_x9 i_x9 => ?_)
        refine lv_iconst (v := 1) hx hb dX12_sumOf_25 (by decide) ?_
        refine lv_icmp_ne (tgt := 39) hx hb dX12_sumOf_26 (by decide) (fun c10 => ?_) (fun c10 => ?_)
        · skip
          have i10_x9 : iv_R 0 0 x9 := iv_ne_hi c10 i_x9 q_1 (by decide)
          refine lv_iconst (v := 0) hx hb dX12_sumOf_39 (by decide) ?_
          refine iv_iadd hx hb i_x1 q_0 (lo := (-2147483648)) (hi := 2147483647) (by decide) dX12_sumOf_40 (fun x12 e_x12 i_x12 => ?_)
          refine lv_istore_n (lv' := [(3, .int x12), (4, .int x2), (0, .ref h0), (1, .int x_0), (2, .int x_1)]) hx hb dX12_sumOf_41 rfl hl (by decide) rfl (fun ls hl => ?_)
          refine iv_iinc hx hb i5_x2 (lo := 1) (hi := 10) (by decide) dX12_sumOf_42 hl (k := 1) rfl (by decide) (fun x13 ls e_x13 i_x13 hl => ?_)
          have hl : lv_has ls 5 [(4, .int x13), (3, .int x12), (0, .ref h0), (1, .int x_0), (2, .int x_1)] := hl
          refine lv_goto (tgt := 5) hx hb dX12_sumOf_45 (by decide) ?_
          exact ih_5 _ _ hB x12 i_x12 x13 (i_x13.wk (by decide)) (iv_mup (c := 1) i_x2 (by decide) (by decide) (by omega) hn_5) _ (lv_sub hl [0, 1, 2, 3, 4] rfl)
        · skip
          have i13_x9 : iv_R 1 1 x9 := (i_x9.cutLo (n := 1) (iv_eq_r c10 q_1).1)
          refine lv_aload_n hx hb dX12_sumOf_29 rfl (lv_at hl 2 rfl) ?_
          refine lv_iload hx hb dX12_sumOf_30 (lv_at hl 0 rfl) ?_
          refine lv_iload_n hx hb dX12_sumOf_32 rfl (lv_at hl 4 rfl) ?_
          refine iv_cVi X k_good k_mf_X12_ofBell k_im_X12_ofBell k_sel_X12_ofBell k_ml_X12_282 ft_X12 hB a_h0 sh_12 (As := [.int x2, .int x_1]) (c_X12_ofBell l D tys base G h0 g_h0 r_h0 a_h0 x2 i5_x2 x_1 (i_x_1.wk (by decide))) ⟨rfl, rfl⟩ ⟨Nat.le_of_ble_eq_true rfl, Nat.le_of_ble_eq_true rfl⟩ ⟨Nat.le_of_ble_eq_true rfl, Nat.le_of_ble_eq_true rfl⟩ rfl rfl hl.1 (Nat.le_of_ble_eq_true rfl) dX12_sumOf_33 (fun x15 G9 H locs hq hB => ?_)
          obtain ⟨rfl, i_x15, cp16, cp17⟩ := hq
          refine lv_goto (tgt := 40) hx hb dX12_sumOf_36 (by decide) ?_
          refine lv_iadd hx hb dX12_sumOf_40 ?_
          refine lv_topi (fun x18 e_x18 => ?_)
          have i_x18 := iv_R.all x18
          refine lv_istore_n (lv' := [(3, .int x18), (4, .int x2), (0, .ref h0), (1, .int x_0), (2, .int x_1)]) hx hb dX12_sumOf_41 rfl hl (by decide) rfl (fun ls hl => ?_)
          refine iv_iinc hx hb i5_x2 (lo := 1) (hi := 10) (by decide) dX12_sumOf_42 hl (k := 1) rfl (by decide) (fun x19 ls e_x19 i_x19 hl => ?_)
          have hl : lv_has ls 5 [(4, .int x19), (3, .int x18), (0, .ref h0), (1, .int x_0), (2, .int x_1)] := hl
          refine lv_goto (tgt := 5) hx hb dX12_sumOf_45 (by decide) ?_
          exact ih_5 _ _ hB x18 i_x18 x19 (i_x19.wk (by decide)) (iv_mup (c := 1) i_x2 (by decide) (by decide) (by omega) hn_5) _ (lv_sub hl [0, 1, 2, 3, 4] rfl)
  exact L_5 _ _ _ hB 0 (q_0.wk (by decide)) 0 (q_0.wk (by decide)) (Nat.lt_succ_self _) _ (lv_sub hl [0, 1, 2, 3, 4] rfl)
theorem dX12_isBetter_0 : decode cX12_isBetter 0 = .ok (.iload_n 2, 1) := by decide +kernel
theorem dX12_isBetter_1 : decode cX12_isBetter 1 = .ok (.iconst (-1), 1) := by decide +kernel
theorem dX12_isBetter_2 : decode cX12_isBetter 2 = .ok (.if_icmp .ne 5, 3) := by decide +kernel
theorem dX12_isBetter_5 : decode cX12_isBetter 5 = .ok (.iconst 1, 1) := by decide +kernel
theorem dX12_isBetter_6 : decode cX12_isBetter 6 = .ok (.ireturn, 1) := by decide +kernel
theorem dX12_isBetter_7 : decode cX12_isBetter 7 = .ok (.aload_n 0, 1) := by decide +kernel
theorem dX12_isBetter_8 : decode cX12_isBetter 8 = .ok (.iload_n 1, 1) := by decide +kernel
theorem dX12_isBetter_9 : decode cX12_isBetter 9 = .ok (.iconst 3, 1) := by decide +kernel
theorem dX12_isBetter_10 : decode cX12_isBetter 10 = .ok (.invokevirtual 405, 3) := by decide +kernel
theorem dX12_isBetter_13 : decode cX12_isBetter 13 = .ok (.istore_n 3, 1) := by decide +kernel
theorem dX12_isBetter_14 : decode cX12_isBetter 14 = .ok (.aload_n 0, 1) := by decide +kernel
theorem dX12_isBetter_15 : decode cX12_isBetter 15 = .ok (.iload_n 2, 1) := by decide +kernel
theorem dX12_isBetter_16 : decode cX12_isBetter 16 = .ok (.iconst 3, 1) := by decide +kernel
theorem dX12_isBetter_17 : decode cX12_isBetter 17 = .ok (.invokevirtual 405, 3) := by decide +kernel
theorem dX12_isBetter_20 : decode cX12_isBetter 20 = .ok (.istore 4, 2) := by decide +kernel
theorem dX12_isBetter_22 : decode cX12_isBetter 22 = .ok (.iload_n 3, 1) := by decide +kernel
theorem dX12_isBetter_23 : decode cX12_isBetter 23 = .ok (.iload 4, 2) := by decide +kernel
theorem dX12_isBetter_25 : decode cX12_isBetter 25 = .ok (.if_icmp .lt 20, 3) := by decide +kernel
theorem dX12_isBetter_28 : decode cX12_isBetter 28 = .ok (.iload_n 3, 1) := by decide +kernel
theorem dX12_isBetter_29 : decode cX12_isBetter 29 = .ok (.iload 4, 2) := by decide +kernel
theorem dX12_isBetter_31 : decode cX12_isBetter 31 = .ok (.if_icmp .ne 18, 3) := by decide +kernel
theorem dX12_isBetter_34 : decode cX12_isBetter 34 = .ok (.iload_n 1, 1) := by decide +kernel
theorem dX12_isBetter_35 : decode cX12_isBetter 35 = .ok (.invokestatic 320, 3) := by decide +kernel
theorem dX12_isBetter_38 : decode cX12_isBetter 38 = .ok (.iload_n 2, 1) := by decide +kernel
theorem dX12_isBetter_39 : decode cX12_isBetter 39 = .ok (.invokestatic 320, 3) := by decide +kernel
theorem dX12_isBetter_42 : decode cX12_isBetter 42 = .ok (.if_icmp .ge 7, 3) := by decide +kernel
theorem dX12_isBetter_45 : decode cX12_isBetter 45 = .ok (.iconst 1, 1) := by decide +kernel
theorem dX12_isBetter_46 : decode cX12_isBetter 46 = .ok (.goto 4, 3) := by decide +kernel
theorem dX12_isBetter_49 : decode cX12_isBetter 49 = .ok (.iconst 0, 1) := by decide +kernel
theorem dX12_isBetter_50 : decode cX12_isBetter 50 = .ok (.ireturn, 1) := by decide +kernel
set_option maxHeartbeats 4000000 in
set_option maxRecDepth 100000 in
theorem c_X12_isBetter (l : Launch) (D : va_G) (tys : List (ClassId × FieldType)) (base : Nat) (G : iv_G) (h0 : Nat) (g_h0 : Nat → Int32) (r_h0 : Nat → Nat) (a_h0 : G h0 = some (12, g_h0, r_h0)) (x_0 : Int32) (i_x_0 : iv_R 0 2047 x_0) (x_1 : Int32) (i_x_1 : iv_R (-1) 2047 x_1) : Met l yX12_isBetter (Cond.code yX12_isBetter cX12_isBetter 5 (some .boolean) :: iv_W0) ({ frames := 2, cells := 0, slots := 0, locals := 46 }) (iv_Pc iv_sh D classes tys base G [.ref h0, .int x_0, .int x_1]) (iv_Qi iv_sh D classes tys base (fun v G' => G = G' ∧ iv_R 0 1 v ∧ (v = 0 → iv_R 0 2047 x_1))) 0 0 (iv_A base) := by
  refine iv_head (by decide) (Nat.le_of_ble_eq_true rfl) ?_
  intro p e s m args below meth c ls X hr hlocks hname hB hl
  have X := X
  have hx := X.1.1
  have hb := X.1.2.1
  have hl : lv_has ls 5 [(0, .ref h0), (1, .int x_0), (2, .int x_1)] := hl
  refine lv_iload_n hx hb dX12_isBetter_0 rfl (lv_at hl 2 rfl) ?_
  refine lv_iconst (v := (-1)) hx hb dX12_isBetter_1 (by decide) ?_
  refine lv_icmp_ne (tgt := 7) hx hb dX12_isBetter_2 (by decide) (fun c1 => ?_) (fun c1 => ?_)
  · skip
    have i1_x_1 : iv_R 0 2047 x_1 := iv_ne_lo c1 i_x_1 q_n1 (by decide)
    refine lv_aload_n hx hb dX12_isBetter_7 rfl (lv_at hl 0 rfl) ?_
    refine lv_iload_n hx hb dX12_isBetter_8 rfl (lv_at hl 1 rfl) ?_
    refine lv_iconst (v := 3) hx hb dX12_isBetter_9 (by decide) ?_
    refine iv_cVi X k_good k_mf_X12_sumOf k_im_X12_sumOf k_sel_X12_sumOf k_ml_X12_405 ft_X12 hB a_h0 sh_12 (As := [.int x_0, .int 3]) (c_X12_sumOf l D tys base G h0 g_h0 r_h0 a_h0 x_0 i_x_0 3 (q_3.wk (by decide))) ⟨rfl, rfl⟩ ⟨Nat.le_of_ble_eq_true rfl, Nat.le_of_ble_eq_true rfl⟩ ⟨Nat.le_of_ble_eq_true rfl, Nat.le_of_ble_eq_true rfl⟩ rfl rfl hl.1 (Nat.le_of_ble_eq_true rfl) dX12_isBetter_10 (fun x3 G9 H locs hq hB => ?_)
    obtain ⟨rfl, i_x3⟩ := hq
    refine lv_istore_n (lv' := [(3, .int x3), (0, .ref h0), (1, .int x_0), (2, .int x_1)]) hx hb dX12_isBetter_13 rfl hl (by decide) rfl (fun ls hl => ?_)
    refine lv_aload_n hx hb dX12_isBetter_14 rfl (lv_at hl 1 rfl) ?_
    refine lv_iload_n hx hb dX12_isBetter_15 rfl (lv_at hl 3 rfl) ?_
    refine lv_iconst (v := 3) hx hb dX12_isBetter_16 (by decide) ?_
    refine iv_cVi X k_good k_mf_X12_sumOf k_im_X12_sumOf k_sel_X12_sumOf k_ml_X12_405 ft_X12 hB a_h0 sh_12 (As := [.int x_1, .int 3]) (c_X12_sumOf l D tys base G h0 g_h0 r_h0 a_h0 x_1 i1_x_1 3 (q_3.wk (by decide))) ⟨rfl, rfl⟩ ⟨Nat.le_of_ble_eq_true rfl, Nat.le_of_ble_eq_true rfl⟩ ⟨Nat.le_of_ble_eq_true rfl, Nat.le_of_ble_eq_true rfl⟩ rfl rfl hl.1 (Nat.le_of_ble_eq_true rfl) dX12_isBetter_17 (fun x4 G9 H locs hq hB => ?_)
    obtain ⟨rfl, i_x4⟩ := hq
    refine lv_istore (lv' := [(4, .int x4), (3, .int x3), (0, .ref h0), (1, .int x_0), (2, .int x_1)]) hx hb dX12_isBetter_20 hl (by decide) rfl (fun ls hl => ?_)
    refine lv_iload_n hx hb dX12_isBetter_22 rfl (lv_at hl 1 rfl) ?_
    refine lv_iload hx hb dX12_isBetter_23 (lv_at hl 0 rfl) ?_
    refine lv_icmp_lt (tgt := 45) hx hb dX12_isBetter_25 (by decide) (fun c5 => ?_) (fun c5 => ?_)
    · skip
      have i5_x3 : iv_R (-2147483648) 2147483646 x3 := (i_x3.cutHi (n := 2147483646) (iv_lt_r c5 i_x4 (by decide)))
      have i6_x4 : iv_R (-2147483647) 2147483647 x4 := (i_x4.cutLo (n := (-2147483647)) (iv_lt_l c5 i_x3 (by decide)))
      refine lv_iconst (v := 1) hx hb dX12_isBetter_45 (by decide) ?_
      refine lv_goto (tgt := 50) hx hb dX12_isBetter_46 (by decide) ?_
      exact iv_zret X hr hlocks hB (q_1.wk (by decide)) ⟨rfl, (q_1.wk (by decide)), fun _ => i1_x_1⟩ dX12_isBetter_50
    · skip
      refine lv_iload_n hx hb dX12_isBetter_28 rfl (lv_at hl 1 rfl) ?_
      refine lv_iload hx hb dX12_isBetter_29 (lv_at hl 0 rfl) ?_
      refine lv_icmp_ne (tgt := 49) hx hb dX12_isBetter_31 (by decide) (fun c8 => ?_) (fun c8 => ?_)
      · skip
        refine lv_iconst (v := 0) hx hb dX12_isBetter_49 (by decide) ?_
        exact iv_zret X hr hlocks hB (q_0.wk (by decide)) ⟨rfl, (q_0.wk (by decide)), fun _ => i1_x_1⟩ dX12_isBetter_50
      · skip
        refine lv_iload_n hx hb dX12_isBetter_34 rfl (lv_at hl 3 rfl) ?_
        refine iv_cSi X k_good k_mf_X12_count k_st_X12_count k_ml_X12_320 hB (As := [.int x_0]) (c_X12_count l D tys base G x_0 (i_x_0.wk (by decide))) ⟨rfl, rfl⟩ ⟨Nat.le_of_ble_eq_true rfl, Nat.le_of_ble_eq_true rfl⟩ ⟨Nat.le_of_ble_eq_true rfl, Nat.le_of_ble_eq_true rfl⟩ rfl rfl hl.1 (Nat.le_of_ble_eq_true rfl) dX12_isBetter_35 (fun x9 G9 H locs hq hB => ?_)
        obtain ⟨rfl, i_x9⟩ := hq
        refine lv_iload_n hx hb dX12_isBetter_38 rfl (lv_at hl 4 rfl) ?_
        refine iv_cSi X k_good k_mf_X12_count k_st_X12_count k_ml_X12_320 hB (As := [.int x_1]) (c_X12_count l D tys base G x_1 (i1_x_1.wk (by decide))) ⟨rfl, rfl⟩ ⟨Nat.le_of_ble_eq_true rfl, Nat.le_of_ble_eq_true rfl⟩ ⟨Nat.le_of_ble_eq_true rfl, Nat.le_of_ble_eq_true rfl⟩ rfl rfl hl.1 (Nat.le_of_ble_eq_true rfl) dX12_isBetter_39 (fun x10 G9 H locs hq hB => ?_)
        obtain ⟨rfl, i_x10⟩ := hq
        refine lv_icmp_ge (tgt := 49) hx hb dX12_isBetter_42 (by decide) (fun c11 => ?_) (fun c11 => ?_)
        · skip
          refine lv_iconst (v := 0) hx hb dX12_isBetter_49 (by decide) ?_
          exact iv_zret X hr hlocks hB (q_0.wk (by decide)) ⟨rfl, (q_0.wk (by decide)), fun _ => i1_x_1⟩ dX12_isBetter_50
        · skip
          have i11_x9 : iv_R (-2147483648) 2147483646 x9 := (i_x9.cutHi (n := 2147483646) (iv_lt_r (iv_nle c11) i_x10 (by decide)))
          have i12_x10 : iv_R (-2147483647) 2147483647 x10 := (i_x10.cutLo (n := (-2147483647)) (iv_lt_l (iv_nle c11) i_x9 (by decide)))
          refine lv_iconst (v := 1) hx hb dX12_isBetter_45 (by decide) ?_
          refine lv_goto (tgt := 50) hx hb dX12_isBetter_46 (by decide) ?_
          exact iv_zret X hr hlocks hB (q_1.wk (by decide)) ⟨rfl, (q_1.wk (by decide)), fun _ => i1_x_1⟩ dX12_isBetter_50
  · skip
    have i13_x_1 : iv_R (-1) (-1) x_1 := (i_x_1.cutHi (n := (-1)) (iv_eq_r c1 q_n1).2)
    refine lv_iconst (v := 1) hx hb dX12_isBetter_5 (by decide) ?_
    exact iv_zret X hr hlocks hB (q_1.wk (by decide)) ⟨rfl, (q_1.wk (by decide)), fun h => absurd h (iv_nz q_1 (by decide))⟩ dX12_isBetter_6
theorem dX12_isDigit_0 : decode cX12_isDigit 0 = .ok (.iload_n 0, 1) := by decide +kernel
theorem dX12_isDigit_1 : decode cX12_isDigit 1 = .ok (.bipush 48, 2) := by decide +kernel
theorem dX12_isDigit_3 : decode cX12_isDigit 3 = .ok (.bipush 57, 2) := by decide +kernel
theorem dX12_isDigit_5 : decode cX12_isDigit 5 = .ok (.invokestatic 56, 3) := by decide +kernel
theorem dX12_isDigit_8 : decode cX12_isDigit 8 = .ok (.ireturn, 1) := by decide +kernel
set_option maxHeartbeats 4000000 in
set_option maxRecDepth 100000 in
theorem c_X12_isDigit (l : Launch) (D : va_G) (tys : List (ClassId × FieldType)) (base : Nat) (G : iv_G) (x_0 : Int32) (i_x_0 : iv_R (-1) 255 x_0) : Met l yX12_isDigit (Cond.code yX12_isDigit cX12_isDigit 1 (some .boolean) :: iv_W0) ({ frames := 1, cells := 0, slots := 0, locals := 22 }) (iv_Pc iv_sh D classes tys base G [.int x_0]) (iv_Qi iv_sh D classes tys base (fun v G' => G = G' ∧ iv_R 0 1 v ∧ (¬ v = 0 → iv_R 48 57 x_0))) 0 0 (iv_A base) := by
  refine iv_head (by decide) (Nat.le_of_ble_eq_true rfl) ?_
  intro p e s m args below meth c ls X hr hlocks hname hB hl
  have X := X
  have hx := X.1.1
  have hb := X.1.2.1
  have hl : lv_has ls 1 [(0, .int x_0)] := hl
  refine lv_iload_n hx hb dX12_isDigit_0 rfl (lv_at hl 0 rfl) ?_
  refine lv_bipush (v := 48) hx hb dX12_isDigit_1 (by decide) ?_
  refine lv_bipush (v := 57) hx hb dX12_isDigit_3 (by decide) ?_
  refine iv_cSi X k_good k_mf_X12_isIn k_st_X12_isIn k_ml_X12_56 hB (As := [.int x_0, .int 48, .int 57]) (c_X12_isIn l D tys base G x_0 (i_x_0.wk (by decide)) 48 (q_48.wk (by decide)) 57 (q_57.wk (by decide))) ⟨rfl, rfl⟩ ⟨Nat.le_of_ble_eq_true rfl, Nat.le_of_ble_eq_true rfl⟩ ⟨Nat.le_of_ble_eq_true rfl, Nat.le_of_ble_eq_true rfl⟩ rfl rfl hl.1 (Nat.le_of_ble_eq_true rfl) dX12_isDigit_5 (fun x1 G9 H locs hq hB => ?_)
  obtain ⟨rfl, i_x1, hp2⟩ := hq
  have k3 : ¬ x1 = 0 → iv_R 48 57 x_0 := fun h => ⟨iv_max i_x_0.1 (Int.le_trans q_48.1 (hp2.1 h).1) (by decide), iv_min i_x_0.2 (Int.le_trans (hp2.1 h).2 q_57.2) (by decide)⟩
  exact iv_zret X hr hlocks hB i_x1 ⟨rfl, i_x1, fun h => (k3 h).wk (by decide)⟩ dX12_isDigit_8
theorem dX12_isLetter_0 : decode cX12_isLetter 0 = .ok (.iload_n 0, 1) := by decide +kernel
theorem dX12_isLetter_1 : decode cX12_isLetter 1 = .ok (.bipush 97, 2) := by decide +kernel
theorem dX12_isLetter_3 : decode cX12_isLetter 3 = .ok (.bipush 122, 2) := by decide +kernel
theorem dX12_isLetter_5 : decode cX12_isLetter 5 = .ok (.invokestatic 56, 3) := by decide +kernel
theorem dX12_isLetter_8 : decode cX12_isLetter 8 = .ok (.ifCond .ne 14, 3) := by decide +kernel
theorem dX12_isLetter_11 : decode cX12_isLetter 11 = .ok (.iload_n 0, 1) := by decide +kernel
theorem dX12_isLetter_12 : decode cX12_isLetter 12 = .ok (.bipush 65, 2) := by decide +kernel
theorem dX12_isLetter_14 : decode cX12_isLetter 14 = .ok (.bipush 90, 2) := by decide +kernel
theorem dX12_isLetter_16 : decode cX12_isLetter 16 = .ok (.invokestatic 56, 3) := by decide +kernel
theorem dX12_isLetter_19 : decode cX12_isLetter 19 = .ok (.ifCond .eq 7, 3) := by decide +kernel
theorem dX12_isLetter_22 : decode cX12_isLetter 22 = .ok (.iconst 1, 1) := by decide +kernel
theorem dX12_isLetter_23 : decode cX12_isLetter 23 = .ok (.goto 4, 3) := by decide +kernel
theorem dX12_isLetter_26 : decode cX12_isLetter 26 = .ok (.iconst 0, 1) := by decide +kernel
theorem dX12_isLetter_27 : decode cX12_isLetter 27 = .ok (.ireturn, 1) := by decide +kernel
set_option maxHeartbeats 4000000 in
set_option maxRecDepth 100000 in
theorem c_X12_isLetter (l : Launch) (D : va_G) (tys : List (ClassId × FieldType)) (base : Nat) (G : iv_G) (x_0 : Int32) (i_x_0 : iv_R (-1) 255 x_0) : Met l yX12_isLetter (Cond.code yX12_isLetter cX12_isLetter 1 (some .boolean) :: iv_W0) ({ frames := 1, cells := 0, slots := 0, locals := 22 }) (iv_Pc iv_sh D classes tys base G [.int x_0]) (iv_Qi iv_sh D classes tys base (fun v G' => G = G' ∧ iv_R 0 1 v ∧ (¬ v = 0 → iv_R 65 122 x_0))) 0 0 (iv_A base) := by
  refine iv_head (by decide) (Nat.le_of_ble_eq_true rfl) ?_
  intro p e s m args below meth c ls X hr hlocks hname hB hl
  have X := X
  have hx := X.1.1
  have hb := X.1.2.1
  have hl : lv_has ls 1 [(0, .int x_0)] := hl
  refine lv_iload_n hx hb dX12_isLetter_0 rfl (lv_at hl 0 rfl) ?_
  refine lv_bipush (v := 97) hx hb dX12_isLetter_1 (by decide) ?_
  refine lv_bipush (v := 122) hx hb dX12_isLetter_3 (by decide) ?_
  refine iv_cSi X k_good k_mf_X12_isIn k_st_X12_isIn k_ml_X12_56 hB (As := [.int x_0, .int 97, .int 122]) (c_X12_isIn l D tys base G x_0 (i_x_0.wk (by decide)) 97 (q_97.wk (by decide)) 122 (q_122.wk (by decide))) ⟨rfl, rfl⟩ ⟨Nat.le_of_ble_eq_true rfl, Nat.le_of_ble_eq_true rfl⟩ ⟨Nat.le_of_ble_eq_true rfl, Nat.le_of_ble_eq_true rfl⟩ rfl rfl hl.1 (Nat.le_of_ble_eq_true rfl) dX12_isLetter_5 (fun x1 G9 H locs hq hB => ?_)
  obtain ⟨rfl, i_x1, hp2⟩ := hq
  have k3 : ¬ x1 = 0 → iv_R 97 122 x_0 := fun h => ⟨iv_max i_x_0.1 (Int.le_trans q_97.1 (hp2.1 h).1) (by decide), iv_min i_x_0.2 (Int.le_trans (hp2.1 h).2 q_122.2) (by decide)⟩
  refine lv_if_ne (tgt := 22) hx hb dX12_isLetter_8 (by decide) (fun c4 => ?_) (fun c4 => ?_)
  · skip
    have i4_x1 : iv_R 1 1 x1 := iv_ne_lo c4 i_x1 q_0 (by decide)
    have i5_x_0 : iv_R 97 122 x_0 := ((i_x_0.cutLo (n := 97) (k3 c4).1).cutHi (n := 122) (k3 c4).2)
    refine lv_iconst (v := 1) hx hb dX12_isLetter_22 (by decide) ?_
    refine lv_goto (tgt := 27) hx hb dX12_isLetter_23 (by decide) ?_
    exact iv_zret X hr hlocks hB (q_1.wk (by decide)) ⟨rfl, (q_1.wk (by decide)), fun _ => (i5_x_0.wk (by decide))⟩ dX12_isLetter_27
  · skip
    have i6_x1 : iv_R 0 0 x1 := (i_x1.cutHi (n := 0) (iv_eq_r c4 q_0).2)
    refine lv_iload_n hx hb dX12_isLetter_11 rfl (lv_at hl 0 rfl) ?_
    refine lv_bipush (v := 65) hx hb dX12_isLetter_12 (by decide) ?_
    refine lv_bipush (v := 90) hx hb dX12_isLetter_14 (by decide) ?_
    refine iv_cSi X k_good k_mf_X12_isIn k_st_X12_isIn k_ml_X12_56 hB (As := [.int x_0, .int 65, .int 90]) (c_X12_isIn l D tys base G x_0 (i_x_0.wk (by decide)) 65 (q_65.wk (by decide)) 90 (q_90.wk (by decide))) ⟨rfl, rfl⟩ ⟨Nat.le_of_ble_eq_true rfl, Nat.le_of_ble_eq_true rfl⟩ ⟨Nat.le_of_ble_eq_true rfl, Nat.le_of_ble_eq_true rfl⟩ rfl rfl hl.1 (Nat.le_of_ble_eq_true rfl) dX12_isLetter_16 (fun x8 G9 H locs hq hB => ?_)
    obtain ⟨rfl, i_x8, hp9⟩ := hq
    have k10 : ¬ x8 = 0 → iv_R 65 90 x_0 := fun h => ⟨iv_max i_x_0.1 (Int.le_trans q_65.1 (hp9.1 h).1) (by decide), iv_min i_x_0.2 (Int.le_trans (hp9.1 h).2 q_90.2) (by decide)⟩
    refine lv_if_eq (tgt := 26) hx hb dX12_isLetter_19 (by decide) (fun c11 => ?_) (fun c11 => ?_)
    · skip
      have i11_x8 : iv_R 0 0 x8 := (i_x8.cutHi (n := 0) (iv_eq_r c11 q_0).2)
      refine lv_iconst (v := 0) hx hb dX12_isLetter_26 (by decide) ?_
      exact iv_zret X hr hlocks hB (q_0.wk (by decide)) ⟨rfl, (q_0.wk (by decide)), fun h => absurd (iv_z q_0) h⟩ dX12_isLetter_27
    · skip
      have i12_x8 : iv_R 1 1 x8 := iv_ne_lo c11 i_x8 q_0 (by decide)
      have i13_x_0 : iv_R 65 90 x_0 := ((i_x_0.cutLo (n := 65) (k10 c11).1).cutHi (n := 90) (k10 c11).2)
      refine lv_iconst (v := 1) hx hb dX12_isLetter_22 (by decide) ?_
      refine lv_goto (tgt := 27) hx hb dX12_isLetter_23 (by decide) ?_
      exact iv_zret X hr hlocks hB (q_1.wk (by decide)) ⟨rfl, (q_1.wk (by decide)), fun _ => (i13_x_0.wk (by decide))⟩ dX12_isLetter_27
theorem dX12_isPitched_0 : decode cX12_isPitched 0 = .ok (.iconst 0, 1) := by decide +kernel
theorem dX12_isPitched_1 : decode cX12_isPitched 1 = .ok (.istore_n 2, 1) := by decide +kernel
theorem dX12_isPitched_2 : decode cX12_isPitched 2 = .ok (.iload_n 2, 1) := by decide +kernel
theorem dX12_isPitched_3 : decode cX12_isPitched 3 = .ok (.aload_n 0, 1) := by decide +kernel
theorem dX12_isPitched_4 : decode cX12_isPitched 4 = .ok (.getfield 7, 3) := by decide +kernel
theorem dX12_isPitched_7 : decode cX12_isPitched 7 = .ok (.sipush 146, 3) := by decide +kernel
theorem dX12_isPitched_10 : decode cX12_isPitched 10 = .ok (.iaload, 1) := by decide +kernel
theorem dX12_isPitched_11 : decode cX12_isPitched 11 = .ok (.if_icmp .ge 32, 3) := by decide +kernel
theorem dX12_isPitched_14 : decode cX12_isPitched 14 = .ok (.aload_n 0, 1) := by decide +kernel
theorem dX12_isPitched_15 : decode cX12_isPitched 15 = .ok (.iload_n 2, 1) := by decide +kernel
theorem dX12_isPitched_16 : decode cX12_isPitched 16 = .ok (.bipush 6, 2) := by decide +kernel
theorem dX12_isPitched_18 : decode cX12_isPitched 18 = .ok (.invokevirtual 282, 3) := by decide +kernel
theorem dX12_isPitched_21 : decode cX12_isPitched 21 = .ok (.iconst 2, 1) := by decide +kernel
theorem dX12_isPitched_22 : decode cX12_isPitched 22 = .ok (.if_icmp .eq 15, 3) := by decide +kernel
theorem dX12_isPitched_25 : decode cX12_isPitched 25 = .ok (.aload_n 0, 1) := by decide +kernel
theorem dX12_isPitched_26 : decode cX12_isPitched 26 = .ok (.iload_n 2, 1) := by decide +kernel
theorem dX12_isPitched_27 : decode cX12_isPitched 27 = .ok (.iconst 1, 1) := by decide +kernel
theorem dX12_isPitched_28 : decode cX12_isPitched 28 = .ok (.invokevirtual 282, 3) := by decide +kernel
theorem dX12_isPitched_31 : decode cX12_isPitched 31 = .ok (.iload_n 1, 1) := by decide +kernel
theorem dX12_isPitched_32 : decode cX12_isPitched 32 = .ok (.if_icmp .ne 5, 3) := by decide +kernel
theorem dX12_isPitched_35 : decode cX12_isPitched 35 = .ok (.iconst 1, 1) := by decide +kernel
theorem dX12_isPitched_36 : decode cX12_isPitched 36 = .ok (.ireturn, 1) := by decide +kernel
theorem dX12_isPitched_37 : decode cX12_isPitched 37 = .ok (.iinc 2 1, 3) := by decide +kernel
theorem dX12_isPitched_40 : decode cX12_isPitched 40 = .ok (.goto (-38), 3) := by decide +kernel
theorem dX12_isPitched_43 : decode cX12_isPitched 43 = .ok (.iconst 0, 1) := by decide +kernel
theorem dX12_isPitched_44 : decode cX12_isPitched 44 = .ok (.ireturn, 1) := by decide +kernel
set_option maxHeartbeats 4000000 in
set_option maxRecDepth 100000 in
theorem c_X12_isPitched (l : Launch) (D : va_G) (tys : List (ClassId × FieldType)) (base : Nat) (G : iv_G) (h0 : Nat) (g_h0 : Nat → Int32) (r_h0 : Nat → Nat) (a_h0 : G h0 = some (12, g_h0, r_h0)) (x_0 : Int32) (i_x_0 : iv_R 0 1199 x_0) : Met l yX12_isPitched (Cond.code yX12_isPitched cX12_isPitched 3 (some .boolean) :: iv_W0) ({ frames := 1, cells := 0, slots := 0, locals := 22 }) (iv_Pc iv_sh D classes tys base G [.ref h0, .int x_0]) (iv_Qi iv_sh D classes tys base (fun v G' => G = G' ∧ iv_R 0 1 v ∧ (¬ v = 0 → iv_R 0 47 x_0))) 0 0 (iv_A base) := by
  refine iv_head (by decide) (Nat.le_of_ble_eq_true rfl) ?_
  intro p e s m args below meth c ls X hr hlocks hname hB hl
  have X := X
  have hx := X.1.1
  have hb := X.1.2.1
  have hl : lv_has ls 3 [(0, .ref h0), (1, .int x_0)] := hl
  refine lv_iconst (v := 0) hx hb dX12_isPitched_0 (by decide) ?_
  refine lv_istore_n (lv' := [(2, .int 0), (0, .ref h0), (1, .int x_0)]) hx hb dX12_isPitched_1 rfl hl (by decide) rfl (fun ls hl => ?_)
  have L_2 : ∀ (n_2 : Nat) (H : Heap) (locs : List Loc) (hB : iv_B iv_sh D classes tys base G s.heap H locs) (x1 : Int32) (i_x1 : iv_R 0 10 x1) (hn_2 : (11 - x1.toInt).toNat < n_2) (ls : Array Slot) (hl : lv_has ls 3 [(2, .int x1), (0, .ref h0), (1, .int x_0)]), W p l e ({ frames := 1, cells := 0, slots := 0, locals := 22 } : Room) s m args below meth c H locs 0 0 (MQ below (iv_Qi iv_sh D classes tys base (fun v G' => G = G' ∧ iv_R 0 1 v ∧ (¬ v = 0 → iv_R 0 47 x_0))) args s 0 0 (iv_A base)) (F0 m 2 ls []) := by
    intro n_2
    induction n_2 with
    | zero => intro H locs hB x1 i_x1 hn_2 ls hl; exact absurd hn_2 (Nat.not_lt_zero _)
    | succ n_2 ih_2 =>
      intro H locs hB x1 i_x1 hn_2 ls hl
      refine lv_iload_n hx hb dX12_isPitched_2 rfl (lv_at hl 0 rfl) ?_
      refine lv_aload_n hx hb dX12_isPitched_3 rfl (lv_at hl 1 rfl) ?_
      refine iv_getr X ft_X12 hB a_h0 sh_12 0 (by decide) rfl k_fl_X12_7 dX12_isPitched_4 (fun b2 g_b2 r_b2 e_b2 a_b2 => ?_)
      refine lv_sipush (v := 146) hx hb dX12_isPitched_7 (by decide) ?_
      refine iv_wald_c X hB a_b2 q_146 (by decide) (lo := 0) (hi' := 10) (by decide) dX12_isPitched_10 (fun x3 e_x3 i_x3 => ?_)
      refine lv_icmp_ge (tgt := 43) hx hb dX12_isPitched_11 (by decide) (fun c4 => ?_) (fun c4 => ?_)
      · skip
        refine lv_iconst (v := 0) hx hb dX12_isPitched_43 (by decide) ?_
        exact iv_zret X hr hlocks hB (q_0.wk (by decide)) ⟨rfl, (q_0.wk (by decide)), fun h => absurd (iv_z q_0) h⟩ dX12_isPitched_44
      · skip
        have i4_x1 : iv_R 0 9 x1 := (i_x1.cutHi (n := 9) (iv_lt_r (iv_nle c4) i_x3 (by decide)))
        have i5_x3 : iv_R 1 10 x3 := (i_x3.cutLo (n := 1) (iv_lt_l (iv_nle c4) i_x1 (by decide)))
        refine lv_aload_n hx hb dX12_isPitched_14 rfl (lv_at hl 1 rfl) ?_
        refine lv_iload_n hx hb dX12_isPitched_15 rfl (lv_at hl 0 rfl) ?_
        refine lv_bipush (v := 6) hx hb dX12_isPitched_16 (by decide) ?_
        refine iv_cVi X k_good k_mf_X12_ofBell k_im_X12_ofBell k_sel_X12_ofBell k_ml_X12_282 ft_X12 hB a_h0 sh_12 (As := [.int x1, .int 6]) (c_X12_ofBell l D tys base G h0 g_h0 r_h0 a_h0 x1 i4_x1 6 (q_6.wk (by decide))) ⟨rfl, rfl⟩ ⟨Nat.le_of_ble_eq_true rfl, Nat.le_of_ble_eq_true rfl⟩ ⟨Nat.le_of_ble_eq_true rfl, Nat.le_of_ble_eq_true rfl⟩ rfl rfl hl.1 (Nat.le_of_ble_eq_true rfl) dX12_isPitched_18 (fun x7 G9 H locs hq hB => ?_)
        obtain ⟨rfl, i_x7, cp8, cp9⟩ := hq
        refine lv_iconst (v := 2) hx hb dX12_isPitched_21 (by decide) ?_
        refine lv_icmp_eq (tgt := 37) hx hb dX12_isPitched_22 (by decide) (fun c10 => ?_) (fun c10 => ?_)
        · skip
          have i10_x7 : iv_R 2 2 x7 := ((i_x7.cutLo (n := 2) (iv_eq_r c10 q_2).1).cutHi (n := 2) (iv_eq_r c10 q_2).2)
          refine iv_iinc hx hb i4_x1 (lo := 1) (hi := 10) (by decide) dX12_isPitched_37 hl (k := 0) rfl (by decide) (fun x12 ls e_x12 i_x12 hl => ?_)
          have hl : lv_has ls 3 [(2, .int x12), (0, .ref h0), (1, .int x_0)] := hl
          refine lv_goto (tgt := 2) hx hb dX12_isPitched_40 (by decide) ?_
          exact ih_2 _ _ hB x12 (i_x12.wk (by decide)) (iv_mup (c := 1) i_x1 (by decide) (by decide) (by omega) hn_2) _ (lv_sub hl [0, 1, 2] rfl)
        · skip
          refine lv_aload_n hx hb dX12_isPitched_25 rfl (lv_at hl 1 rfl) ?_
          refine lv_iload_n hx hb dX12_isPitched_26 rfl (lv_at hl 0 rfl) ?_
          refine lv_iconst (v := 1) hx hb dX12_isPitched_27 (by decide) ?_
          refine iv_cVi X k_good k_mf_X12_ofBell k_im_X12_ofBell k_sel_X12_ofBell k_ml_X12_282 ft_X12 hB a_h0 sh_12 (As := [.int x1, .int 1]) (c_X12_ofBell l D tys base G h0 g_h0 r_h0 a_h0 x1 i4_x1 1 (q_1.wk (by decide))) ⟨rfl, rfl⟩ ⟨Nat.le_of_ble_eq_true rfl, Nat.le_of_ble_eq_true rfl⟩ ⟨Nat.le_of_ble_eq_true rfl, Nat.le_of_ble_eq_true rfl⟩ rfl rfl hl.1 (Nat.le_of_ble_eq_true rfl) dX12_isPitched_28 (fun x13 G9 H locs hq hB => ?_)
          obtain ⟨rfl, i_x13, cp14, cp15⟩ := hq
          have i15_x13 : iv_R 0 47 x13 := cp15 rfl
          refine lv_iload_n hx hb dX12_isPitched_31 rfl (lv_at hl 2 rfl) ?_
          refine lv_icmp_ne (tgt := 37) hx hb dX12_isPitched_32 (by decide) (fun c17 => ?_) (fun c17 => ?_)
          · skip
            refine iv_iinc hx hb i4_x1 (lo := 1) (hi := 10) (by decide) dX12_isPitched_37 hl (k := 0) rfl (by decide) (fun x18 ls e_x18 i_x18 hl => ?_)
            have hl : lv_has ls 3 [(2, .int x18), (0, .ref h0), (1, .int x_0)] := hl
            refine lv_goto (tgt := 2) hx hb dX12_isPitched_40 (by decide) ?_
            exact ih_2 _ _ hB x18 (i_x18.wk (by decide)) (iv_mup (c := 1) i_x1 (by decide) (by decide) (by omega) hn_2) _ (lv_sub hl [0, 1, 2] rfl)
          · skip
            have i18_x_0 : iv_R 0 47 x_0 := (i_x_0.cutHi (n := 47) (iv_eq_r c17.symm i15_x13).2)
            refine lv_iconst (v := 1) hx hb dX12_isPitched_35 (by decide) ?_
            exact iv_zret X hr hlocks hB (q_1.wk (by decide)) ⟨rfl, (q_1.wk (by decide)), fun _ => i18_x_0⟩ dX12_isPitched_36
  exact L_2 _ _ _ hB 0 (q_0.wk (by decide)) (Nat.lt_succ_self _) _ (lv_sub hl [0, 1, 2] rfl)
theorem dX12_isSilent_0 : decode cX12_isSilent 0 = .ok (.iconst 0, 1) := by decide +kernel
theorem dX12_isSilent_1 : decode cX12_isSilent 1 = .ok (.istore_n 2, 1) := by decide +kernel
theorem dX12_isSilent_2 : decode cX12_isSilent 2 = .ok (.iload_n 2, 1) := by decide +kernel
theorem dX12_isSilent_3 : decode cX12_isSilent 3 = .ok (.aload_n 0, 1) := by decide +kernel
theorem dX12_isSilent_4 : decode cX12_isSilent 4 = .ok (.getfield 7, 3) := by decide +kernel
theorem dX12_isSilent_7 : decode cX12_isSilent 7 = .ok (.sipush 146, 3) := by decide +kernel
theorem dX12_isSilent_10 : decode cX12_isSilent 10 = .ok (.iaload, 1) := by decide +kernel
theorem dX12_isSilent_11 : decode cX12_isSilent 11 = .ok (.if_icmp .ge 20, 3) := by decide +kernel
theorem dX12_isSilent_14 : decode cX12_isSilent 14 = .ok (.aload_n 0, 1) := by decide +kernel
theorem dX12_isSilent_15 : decode cX12_isSilent 15 = .ok (.iload_n 2, 1) := by decide +kernel
theorem dX12_isSilent_16 : decode cX12_isSilent 16 = .ok (.iload_n 1, 1) := by decide +kernel
theorem dX12_isSilent_17 : decode cX12_isSilent 17 = .ok (.invokevirtual 302, 3) := by decide +kernel
theorem dX12_isSilent_20 : decode cX12_isSilent 20 = .ok (.ifCond .eq 5, 3) := by decide +kernel
theorem dX12_isSilent_23 : decode cX12_isSilent 23 = .ok (.iconst 0, 1) := by decide +kernel
theorem dX12_isSilent_24 : decode cX12_isSilent 24 = .ok (.ireturn, 1) := by decide +kernel
theorem dX12_isSilent_25 : decode cX12_isSilent 25 = .ok (.iinc 2 1, 3) := by decide +kernel
theorem dX12_isSilent_28 : decode cX12_isSilent 28 = .ok (.goto (-26), 3) := by decide +kernel
theorem dX12_isSilent_31 : decode cX12_isSilent 31 = .ok (.iconst 1, 1) := by decide +kernel
theorem dX12_isSilent_32 : decode cX12_isSilent 32 = .ok (.ireturn, 1) := by decide +kernel
set_option maxHeartbeats 4000000 in
set_option maxRecDepth 100000 in
theorem c_X12_isSilent (l : Launch) (D : va_G) (tys : List (ClassId × FieldType)) (base : Nat) (G : iv_G) (h0 : Nat) (g_h0 : Nat → Int32) (r_h0 : Nat → Nat) (a_h0 : G h0 = some (12, g_h0, r_h0)) (x_0 : Int32) (i_x_0 : iv_R 0 23 x_0) : Met l yX12_isSilent (Cond.code yX12_isSilent cX12_isSilent 3 (some .boolean) :: iv_W0) ({ frames := 3, cells := 0, slots := 0, locals := 67 }) (iv_Pc iv_sh D classes tys base G [.ref h0, .int x_0]) (iv_Qi iv_sh D classes tys base (fun v G' => G = G' ∧ iv_R 0 1 v)) 0 0 (iv_A base) := by
  refine iv_head (by decide) (Nat.le_of_ble_eq_true rfl) ?_
  intro p e s m args below meth c ls X hr hlocks hname hB hl
  have X := X
  have hx := X.1.1
  have hb := X.1.2.1
  have hl : lv_has ls 3 [(0, .ref h0), (1, .int x_0)] := hl
  refine lv_iconst (v := 0) hx hb dX12_isSilent_0 (by decide) ?_
  refine lv_istore_n (lv' := [(2, .int 0), (0, .ref h0), (1, .int x_0)]) hx hb dX12_isSilent_1 rfl hl (by decide) rfl (fun ls hl => ?_)
  have L_2 : ∀ (n_2 : Nat) (H : Heap) (locs : List Loc) (hB : iv_B iv_sh D classes tys base G s.heap H locs) (x1 : Int32) (i_x1 : iv_R 0 10 x1) (hn_2 : (11 - x1.toInt).toNat < n_2) (ls : Array Slot) (hl : lv_has ls 3 [(2, .int x1), (0, .ref h0), (1, .int x_0)]), W p l e ({ frames := 3, cells := 0, slots := 0, locals := 67 } : Room) s m args below meth c H locs 0 0 (MQ below (iv_Qi iv_sh D classes tys base (fun v G' => G = G' ∧ iv_R 0 1 v)) args s 0 0 (iv_A base)) (F0 m 2 ls []) := by
    intro n_2
    induction n_2 with
    | zero => intro H locs hB x1 i_x1 hn_2 ls hl; exact absurd hn_2 (Nat.not_lt_zero _)
    | succ n_2 ih_2 =>
      intro H locs hB x1 i_x1 hn_2 ls hl
      refine lv_iload_n hx hb dX12_isSilent_2 rfl (lv_at hl 0 rfl) ?_
      refine lv_aload_n hx hb dX12_isSilent_3 rfl (lv_at hl 1 rfl) ?_
      refine iv_getr X ft_X12 hB a_h0 sh_12 0 (by decide) rfl k_fl_X12_7 dX12_isSilent_4 (fun b2 g_b2 r_b2 e_b2 a_b2 => ?_)
      refine lv_sipush (v := 146) hx hb dX12_isSilent_7 (by decide) ?_
      refine iv_wald_c X hB a_b2 q_146 (by decide) (lo := 0) (hi' := 10) (by decide) dX12_isSilent_10 (fun x3 e_x3 i_x3 => ?_)
      refine lv_icmp_ge (tgt := 31) hx hb dX12_isSilent_11 (by decide) (fun c4 => ?_) (fun c4 => ?_)
      · skip
        refine lv_iconst (v := 1) hx hb dX12_isSilent_31 (by decide) ?_
        exact iv_zret X hr hlocks hB (q_1.wk (by decide)) ⟨rfl, (q_1.wk (by decide))⟩ dX12_isSilent_32
      · skip
        have i4_x1 : iv_R 0 9 x1 := (i_x1.cutHi (n := 9) (iv_lt_r (iv_nle c4) i_x3 (by decide)))
        have i5_x3 : iv_R 1 10 x3 := (i_x3.cutLo (n := 1) (iv_lt_l (iv_nle c4) i_x1 (by decide)))
        refine lv_aload_n hx hb dX12_isSilent_14 rfl (lv_at hl 1 rfl) ?_
        refine lv_iload_n hx hb dX12_isSilent_15 rfl (lv_at hl 0 rfl) ?_
        refine lv_iload_n hx hb dX12_isSilent_16 rfl (lv_at hl 2 rfl) ?_
        refine iv_cVi X k_good k_mf_X12_sounds k_im_X12_sounds k_sel_X12_sounds k_ml_X12_302 ft_X12 hB a_h0 sh_12 (As := [.int x1, .int x_0]) (c_X12_sounds l D tys base G h0 g_h0 r_h0 a_h0 x1 i4_x1 x_0 i_x_0) ⟨rfl, rfl⟩ ⟨Nat.le_of_ble_eq_true rfl, Nat.le_of_ble_eq_true rfl⟩ ⟨Nat.le_of_ble_eq_true rfl, Nat.le_of_ble_eq_true rfl⟩ rfl rfl hl.1 (Nat.le_of_ble_eq_true rfl) dX12_isSilent_17 (fun x7 G9 H locs hq hB => ?_)
        obtain ⟨rfl, i_x7⟩ := hq
        refine lv_if_eq (tgt := 25) hx hb dX12_isSilent_20 (by decide) (fun c8 => ?_) (fun c8 => ?_)
        · skip
          have i8_x7 : iv_R 0 0 x7 := (i_x7.cutHi (n := 0) (iv_eq_r c8 q_0).2)
          refine iv_iinc hx hb i4_x1 (lo := 1) (hi := 10) (by decide) dX12_isSilent_25 hl (k := 0) rfl (by decide) (fun x10 ls e_x10 i_x10 hl => ?_)
          have hl : lv_has ls 3 [(2, .int x10), (0, .ref h0), (1, .int x_0)] := hl
          refine lv_goto (tgt := 2) hx hb dX12_isSilent_28 (by decide) ?_
          exact ih_2 _ _ hB x10 (i_x10.wk (by decide)) (iv_mup (c := 1) i_x1 (by decide) (by decide) (by omega) hn_2) _ (lv_sub hl [0, 1, 2] rfl)
        · skip
          have i10_x7 : iv_R 1 1 x7 := iv_ne_lo c8 i_x7 q_0 (by decide)
          refine lv_iconst (v := 0) hx hb dX12_isSilent_23 (by decide) ?_
          exact iv_zret X hr hlocks hB (q_0.wk (by decide)) ⟨rfl, (q_0.wk (by decide))⟩ dX12_isSilent_24
  exact L_2 _ _ _ hB 0 (q_0.wk (by decide)) (Nat.lt_succ_self _) _ (lv_sub hl [0, 1, 2] rfl)
theorem dX12_keeps_0 : decode cX12_keeps 0 = .ok (.aload_n 0, 1) := by decide +kernel
theorem dX12_keeps_1 : decode cX12_keeps 1 = .ok (.getfield 60, 3) := by decide +kernel
theorem dX12_keeps_4 : decode cX12_keeps 4 = .ok (.bipush 6, 2) := by decide +kernel
theorem dX12_keeps_6 : decode cX12_keeps 6 = .ok (.if_icmp .ne 44, 3) := by decide +kernel
theorem dX12_keeps_9 : decode cX12_keeps 9 = .ok (.iconst 0, 1) := by decide +kernel
theorem dX12_keeps_10 : decode cX12_keeps 10 = .ok (.istore_n 1, 1) := by decide +kernel
theorem dX12_keeps_11 : decode cX12_keeps 11 = .ok (.iload_n 1, 1) := by decide +kernel
theorem dX12_keeps_12 : decode cX12_keeps 12 = .ok (.sipush 730, 3) := by decide +kernel
theorem dX12_keeps_15 : decode cX12_keeps 15 = .ok (.if_icmp .ge 25, 3) := by decide +kernel
theorem dX12_keeps_18 : decode cX12_keeps 18 = .ok (.aload_n 0, 1) := by decide +kernel
theorem dX12_keeps_19 : decode cX12_keeps 19 = .ok (.getfield 16, 3) := by decide +kernel
theorem dX12_keeps_22 : decode cX12_keeps 22 = .ok (.iload_n 1, 1) := by decide +kernel
theorem dX12_keeps_23 : decode cX12_keeps 23 = .ok (.aload_n 0, 1) := by decide +kernel
theorem dX12_keeps_24 : decode cX12_keeps 24 = .ok (.getfield 16, 3) := by decide +kernel
theorem dX12_keeps_27 : decode cX12_keeps 27 = .ok (.iload_n 1, 1) := by decide +kernel
theorem dX12_keeps_28 : decode cX12_keeps 28 = .ok (.sipush 146, 3) := by decide +kernel
theorem dX12_keeps_31 : decode cX12_keeps 31 = .ok (.iadd, 1) := by decide +kernel
theorem dX12_keeps_32 : decode cX12_keeps 32 = .ok (.iaload, 1) := by decide +kernel
theorem dX12_keeps_33 : decode cX12_keeps 33 = .ok (.iastore, 1) := by decide +kernel
theorem dX12_keeps_34 : decode cX12_keeps 34 = .ok (.iinc 1 1, 3) := by decide +kernel
theorem dX12_keeps_37 : decode cX12_keeps 37 = .ok (.goto (-26), 3) := by decide +kernel
theorem dX12_keeps_40 : decode cX12_keeps 40 = .ok (.aload_n 0, 1) := by decide +kernel
theorem dX12_keeps_41 : decode cX12_keeps 41 = .ok (.dup, 1) := by decide +kernel
theorem dX12_keeps_42 : decode cX12_keeps 42 = .ok (.getfield 60, 3) := by decide +kernel
theorem dX12_keeps_45 : decode cX12_keeps 45 = .ok (.iconst 1, 1) := by decide +kernel
theorem dX12_keeps_46 : decode cX12_keeps 46 = .ok (.isub, 1) := by decide +kernel
theorem dX12_keeps_47 : decode cX12_keeps 47 = .ok (.putfield 60, 3) := by decide +kernel
theorem dX12_keeps_50 : decode cX12_keeps 50 = .ok (.iconst 0, 1) := by decide +kernel
theorem dX12_keeps_51 : decode cX12_keeps 51 = .ok (.istore_n 1, 1) := by decide +kernel
theorem dX12_keeps_52 : decode cX12_keeps 52 = .ok (.iload_n 1, 1) := by decide +kernel
theorem dX12_keeps_53 : decode cX12_keeps 53 = .ok (.sipush 146, 3) := by decide +kernel
theorem dX12_keeps_56 : decode cX12_keeps 56 = .ok (.if_icmp .ge 30, 3) := by decide +kernel
theorem dX12_keeps_59 : decode cX12_keeps 59 = .ok (.aload_n 0, 1) := by decide +kernel
theorem dX12_keeps_60 : decode cX12_keeps 60 = .ok (.getfield 16, 3) := by decide +kernel
theorem dX12_keeps_63 : decode cX12_keeps 63 = .ok (.sipush 146, 3) := by decide +kernel
theorem dX12_keeps_66 : decode cX12_keeps 66 = .ok (.aload_n 0, 1) := by decide +kernel
theorem dX12_keeps_67 : decode cX12_keeps 67 = .ok (.getfield 60, 3) := by decide +kernel
theorem dX12_keeps_70 : decode cX12_keeps 70 = .ok (.imul, 1) := by decide +kernel
theorem dX12_keeps_71 : decode cX12_keeps 71 = .ok (.iload_n 1, 1) := by decide +kernel
theorem dX12_keeps_72 : decode cX12_keeps 72 = .ok (.iadd, 1) := by decide +kernel
theorem dX12_keeps_73 : decode cX12_keeps 73 = .ok (.aload_n 0, 1) := by decide +kernel
theorem dX12_keeps_74 : decode cX12_keeps 74 = .ok (.getfield 7, 3) := by decide +kernel
theorem dX12_keeps_77 : decode cX12_keeps 77 = .ok (.iload_n 1, 1) := by decide +kernel
theorem dX12_keeps_78 : decode cX12_keeps 78 = .ok (.iaload, 1) := by decide +kernel
theorem dX12_keeps_79 : decode cX12_keeps 79 = .ok (.iastore, 1) := by decide +kernel
theorem dX12_keeps_80 : decode cX12_keeps 80 = .ok (.iinc 1 1, 3) := by decide +kernel
theorem dX12_keeps_83 : decode cX12_keeps 83 = .ok (.goto (-31), 3) := by decide +kernel
theorem dX12_keeps_86 : decode cX12_keeps 86 = .ok (.aload_n 0, 1) := by decide +kernel
theorem dX12_keeps_87 : decode cX12_keeps 87 = .ok (.dup, 1) := by decide +kernel
theorem dX12_keeps_88 : decode cX12_keeps 88 = .ok (.getfield 60, 3) := by decide +kernel
theorem dX12_keeps_91 : decode cX12_keeps 91 = .ok (.iconst 1, 1) := by decide +kernel
theorem dX12_keeps_92 : decode cX12_keeps 92 = .ok (.iadd, 1) := by decide +kernel
theorem dX12_keeps_93 : decode cX12_keeps 93 = .ok (.putfield 60, 3) := by decide +kernel
theorem dX12_keeps_96 : decode cX12_keeps 96 = .ok (.return_, 1) := by decide +kernel
set_option maxHeartbeats 4000000 in
set_option maxRecDepth 100000 in
theorem c_X12_keeps (l : Launch) (D : va_G) (tys : List (ClassId × FieldType)) (base : Nat) (G : iv_G) (h0 : Nat) (g_h0 : Nat → Int32) (r_h0 : Nat → Nat) (a_h0 : G h0 = some (12, g_h0, r_h0)) : Met l yX12_keeps (Cond.code yX12_keeps cX12_keeps 2 none :: iv_W0) ({ frames := 0, cells := 0, slots := 0, locals := 0 }) (iv_Pc iv_sh D classes tys base G [.ref h0]) (iv_Qv iv_sh D classes tys base (fun G' => iv_Md [12, 62] G G')) 0 0 (iv_A base) := by
  refine iv_head (by decide) (Nat.le_of_ble_eq_true rfl) ?_
  intro p e s m args below meth c ls X hr hlocks hname hB hl
  have X := X
  have hx := X.1.1
  have hb := X.1.2.1
  have hM : iv_Md [12, 62] G G := iv_Md.rf
  have hl : lv_has ls 2 [(0, .ref h0)] := hl
  refine lv_aload_n hx hb dX12_keeps_0 rfl (lv_at hl 0 rfl) ?_
  refine iv_geti X ft_X12 hB a_h0 sh_12 3 (by decide) rfl k_fl_X12_60 dX12_keeps_1 (fun x1 e_x1 i_x1 => ?_)
  refine lv_bipush (v := 6) hx hb dX12_keeps_4 (by decide) ?_
  refine lv_icmp_ne (tgt := 50) hx hb dX12_keeps_6 (by decide) (fun c2 => ?_) (fun c2 => ?_)
  · skip
    have i2_x1 : iv_R 0 5 x1 := iv_ne_hi c2 i_x1 q_6 (by decide)
    refine lv_iconst (v := 0) hx hb dX12_keeps_50 (by decide) ?_
    refine lv_istore_n (lv' := [(1, .int 0), (0, .ref h0)]) hx hb dX12_keeps_51 rfl hl (by decide) rfl (fun ls hl => ?_)
    have L_52 : ∀ (n_52 : Nat) (G7 : iv_G) (hM : iv_Md [12, 62] G G7) (H : Heap) (locs : List Loc) (hB : iv_B iv_sh D classes tys base G7 s.heap H locs) (g5 : Nat → Int32) (r6 : Nat → Nat) (a_h0 : G7 h0 = some (12, g5, r6)) (m_g5 : iv_R 0 5 (g5 3)) (x4 : Int32) (i_x4 : iv_R 0 255 x4) (hn_52 : (256 - x4.toInt).toNat < n_52) (ls : Array Slot) (hl : lv_has ls 2 [(1, .int x4), (0, .ref h0)]), W p l e ({ frames := 0, cells := 0, slots := 0, locals := 0 } : Room) s m args below meth c H locs 0 0 (MQ below (iv_Qv iv_sh D classes tys base (fun G' => iv_Md [12, 62] G G')) args s 0 0 (iv_A base)) (F0 m 52 ls []) := by
      intro n_52
      induction n_52 with
      | zero => intro G7 hM H locs hB g5 r6 a_h0 m_g5 x4 i_x4 hn_52 ls hl; exact absurd hn_52 (Nat.not_lt_zero _)
      | succ n_52 ih_52 =>
        intro G7 hM H locs hB g5 r6 a_h0 m_g5 x4 i_x4 hn_52 ls hl
        refine lv_iload_n hx hb dX12_keeps_52 rfl (lv_at hl 0 rfl) ?_
        refine lv_sipush (v := 146) hx hb dX12_keeps_53 (by decide) ?_
        refine lv_icmp_ge (tgt := 86) hx hb dX12_keeps_56 (by decide) (fun c8 => ?_) (fun c8 => ?_)
        · skip
          have i8_x4 : iv_R 146 255 x4 := (i_x4.cutLo (n := 146) (iv_le_l c8 q_146))
          refine lv_aload_n hx hb dX12_keeps_86 rfl (lv_at hl 1 rfl) ?_
          refine lv_dup hx hb dX12_keeps_87 rfl ?_
          refine iv_geti X ft_X12 hB a_h0 sh_12 3 (by decide) rfl k_fl_X12_60 dX12_keeps_88 (fun x10 e_x10 i_x10 => ?_)
          have i10_x10 : iv_R 0 5 x10 := by rw [e_x10]; exact m_g5
          refine lv_iconst (v := 1) hx hb dX12_keeps_91 (by decide) ?_
          refine iv_iadd hx hb i10_x10 q_1 (lo := 1) (hi := 6) (by decide) dX12_keeps_92 (fun x12 e_x12 i_x12 => ?_)
          have e_x12 : x12.toInt = x10.toInt + 1 := e_x12
          refine iv_puti X ft_X12 hB a_h0 sh_12 3 (by decide) rfl rfl k_fl_X12_60 rfl (i_x12.wk (by decide)) rfl rfl dX12_keeps_93 (fun H locs hB => ?_)
          have hm := iv_Md.put (x := x12) a_h0 (j := 3) (by decide) (by decide)
          have h9 := iv_up_eq (G := G7) (a := h0) (k := (12, upd g5 3 x12, r6))
          generalize iv_up G7 h0 _ = G13 at hB hm h9
          have hM := hM.stp hm (by decide)
          generalize hgn_g14 : upd g5 _ _ = g14 at h9
          have a_h0 := h9
          have e9_g14 : x12 = g14 3 := by rw [← hgn_g14]; simp [upd]
          exact iv_vret X hr hlocks hB hM dX12_keeps_96
        · skip
          have i14_x4 : iv_R 0 145 x4 := (i_x4.cutHi (n := 145) (iv_lt_r (iv_nle c8) q_146 (by decide)))
          refine lv_aload_n hx hb dX12_keeps_59 rfl (lv_at hl 1 rfl) ?_
          refine iv_getr X ft_X12 hB a_h0 sh_12 2 (by decide) rfl k_fl_X12_16 dX12_keeps_60 (fun b16 g_b16 r_b16 e_b16 a_b16 => ?_)
          refine lv_sipush (v := 146) hx hb dX12_keeps_63 (by decide) ?_
          refine lv_aload_n hx hb dX12_keeps_66 rfl (lv_at hl 1 rfl) ?_
          refine iv_geti X ft_X12 hB a_h0 sh_12 3 (by decide) rfl k_fl_X12_60 dX12_keeps_67 (fun x17 e_x17 i_x17 => ?_)
          have i17_x17 : iv_R 0 5 x17 := by rw [e_x17]; exact m_g5
          refine iv_imul hx hb q_146 i17_x17 (lo := 0) (hi := 730) (by decide) dX12_keeps_70 (fun x19 e_x19 i_x19 => ?_)
          have e_x19 : x19.toInt = 146 * x17.toInt := e_x19
          refine lv_iload_n hx hb dX12_keeps_71 rfl (lv_at hl 0 rfl) ?_
          refine iv_iadd hx hb i_x19 i14_x4 (lo := 0) (hi := 875) (by decide) dX12_keeps_72 (fun x20 e_x20 i_x20 => ?_)
          refine lv_aload_n hx hb dX12_keeps_73 rfl (lv_at hl 1 rfl) ?_
          refine iv_getr X ft_X12 hB a_h0 sh_12 0 (by decide) rfl k_fl_X12_7 dX12_keeps_74 (fun b21 g_b21 r_b21 e_b21 a_b21 => ?_)
          refine lv_iload_n hx hb dX12_keeps_77 rfl (lv_at hl 0 rfl) ?_
          refine iv_aldP X hB a_b21 sh_60 (iv_in i14_x4 (by decide)) dX12_keeps_78 (fun hP => ?_)
          refine lv_topi (fun x22 e_x22 => ?_)
          have i_x22 := iv_R.all x22
          have hb_x22 : iv_R (iv_wb (x4.toNatClampNeg % 146)).1 (iv_wb (x4.toNatClampNeg % 146)).2 x22 := by have w1 : x4.toNatClampNeg < 146 := iv_inN (iv_in i14_x4 (by decide)); rw [e_x22, Nat.mod_eq_of_lt w1]; exact hP.1 _ (by omega)
          refine iv_astP X hB a_b16 sh_62 (iv_in i_x20 (by decide)) (fun h => iv_kP.up h (by have q0 := i_x20.1; have r0 := i_x20.2; have q1 := i14_x4.1; have r1 := i14_x4.2; have q2 := i_x19.1; have r2 := i_x19.2; have q3 := i17_x17.1; have r3 := i17_x17.2; have q4 := i14_x4.1; have r4 := i14_x4.2; have w1 : x20.toNatClampNeg = x20.toInt.toNat := rfl; have w2 : x4.toNatClampNeg = x4.toInt.toNat := rfl; have w3 : x20.toNatClampNeg % 146 = x4.toNatClampNeg % 146 := (by omega); rw [w3]; exact hb_x22)) dX12_keeps_79 (fun H locs hB => ?_)
          have hm := iv_Md.ast (j := x20.toNatClampNeg) (x := x22) a_b16 rfl (by decide)
          have h9 := iv_up_eq (G := G7) (a := b16) (k := (62, upd g_b16 x20.toNatClampNeg x22, r_b16))
          generalize iv_up G7 b16 _ = G23 at hB hm h9
          have hM := hM.stp hm (by decide)
          have a_h0 := hm.at a_h0 (by decide)
          have a_b21 := hm.at a_b21 (by decide)
          refine iv_iinc hx hb i14_x4 (lo := 1) (hi := 146) (by decide) dX12_keeps_80 hl (k := 0) rfl (by decide) (fun x25 ls e_x25 i_x25 hl => ?_)
          have hl : lv_has ls 2 [(1, .int x25), (0, .ref h0)] := hl
          refine lv_goto (tgt := 52) hx hb dX12_keeps_83 (by decide) ?_
          exact ih_52 G23 hM _ _ hB g5 r6 a_h0 m_g5 x25 (i_x25.wk (by decide)) (iv_mup (c := 1) i_x4 (by decide) (by decide) (by omega) hn_52) _ (lv_sub hl [0, 1] rfl)
    exact L_52 _ G hM _ _ hB g_h0 r_h0 a_h0 (by rw [← e_x1]; exact i2_x1) 0 (q_0.wk (by decide)) (Nat.lt_succ_self _) _ (lv_sub hl [0, 1] rfl)
  · skip
    have i25_x1 : iv_R 6 6 x1 := (i_x1.cutLo (n := 6) (iv_eq_r c2 q_6).1)
    refine lv_iconst (v := 0) hx hb dX12_keeps_9 (by decide) ?_
    refine lv_istore_n (lv' := [(1, .int 0), (0, .ref h0)]) hx hb dX12_keeps_10 rfl hl (by decide) rfl (fun ls hl => ?_)
    have L_11 : ∀ (n_11 : Nat) (G30 : iv_G) (hM : iv_Md [12, 62] G G30) (H : Heap) (locs : List Loc) (hB : iv_B iv_sh D classes tys base G30 s.heap H locs) (g28 : Nat → Int32) (r29 : Nat → Nat) (a_h0 : G30 h0 = some (12, g28, r29)) (m_g28 : iv_R 6 6 (g28 3)) (x27 : Int32) (i_x27 : iv_R 0 999 x27) (hn_11 : (1000 - x27.toInt).toNat < n_11) (ls : Array Slot) (hl : lv_has ls 2 [(1, .int x27), (0, .ref h0)]), W p l e ({ frames := 0, cells := 0, slots := 0, locals := 0 } : Room) s m args below meth c H locs 0 0 (MQ below (iv_Qv iv_sh D classes tys base (fun G' => iv_Md [12, 62] G G')) args s 0 0 (iv_A base)) (F0 m 11 ls []) := by
      intro n_11
      induction n_11 with
      | zero => intro G30 hM H locs hB g28 r29 a_h0 m_g28 x27 i_x27 hn_11 ls hl; exact absurd hn_11 (Nat.not_lt_zero _)
      | succ n_11 ih_11 =>
        intro G30 hM H locs hB g28 r29 a_h0 m_g28 x27 i_x27 hn_11 ls hl
        refine lv_iload_n hx hb dX12_keeps_11 rfl (lv_at hl 0 rfl) ?_
        refine lv_sipush (v := 730) hx hb dX12_keeps_12 (by decide) ?_
        refine lv_icmp_ge (tgt := 40) hx hb dX12_keeps_15 (by decide) (fun c31 => ?_) (fun c31 => ?_)
        · skip
          have i31_x27 : iv_R 730 999 x27 := (i_x27.cutLo (n := 730) (iv_le_l c31 q_730))
          refine lv_aload_n hx hb dX12_keeps_40 rfl (lv_at hl 1 rfl) ?_
          refine lv_dup hx hb dX12_keeps_41 rfl ?_
          refine iv_geti X ft_X12 hB a_h0 sh_12 3 (by decide) rfl k_fl_X12_60 dX12_keeps_42 (fun x33 e_x33 i_x33 => ?_)
          have i33_x33 : iv_R 6 6 x33 := by rw [e_x33]; exact m_g28
          refine lv_iconst (v := 1) hx hb dX12_keeps_45 (by decide) ?_
          refine iv_isub hx hb i33_x33 q_1 (lo := 5) (hi := 5) (by decide) dX12_keeps_46 (fun x35 e_x35 i_x35 => ?_)
          have e_x35 : x35.toInt = x33.toInt - 1 := e_x35
          refine iv_puti X ft_X12 hB a_h0 sh_12 3 (by decide) rfl rfl k_fl_X12_60 rfl (i_x35.wk (by decide)) rfl rfl dX12_keeps_47 (fun H locs hB => ?_)
          have hm := iv_Md.put (x := x35) a_h0 (j := 3) (by decide) (by decide)
          have h9 := iv_up_eq (G := G30) (a := h0) (k := (12, upd g28 3 x35, r29))
          generalize iv_up G30 h0 _ = G36 at hB hm h9
          have hM := hM.stp hm (by decide)
          generalize hgn_g37 : upd g28 _ _ = g37 at h9
          have a_h0 := h9
          have e9_g37 : x35 = g37 3 := by rw [← hgn_g37]; simp [upd]
          refine lv_iconst (v := 0) hx hb dX12_keeps_50 (by decide) ?_
          refine lv_istore_n (lv' := [(1, .int 0), (0, .ref h0)]) hx hb dX12_keeps_51 rfl hl (by decide) rfl (fun ls hl => ?_)
          have L_52 : ∀ (n_52 : Nat) (G41 : iv_G) (hM : iv_Md [12, 62] G G41) (H : Heap) (locs : List Loc) (hB : iv_B iv_sh D classes tys base G41 s.heap H locs) (g39 : Nat → Int32) (r40 : Nat → Nat) (a_h0 : G41 h0 = some (12, g39, r40)) (m_g39 : iv_R 0 5 (g39 3)) (x38 : Int32) (i_x38 : iv_R 0 255 x38) (hn_52 : (256 - x38.toInt).toNat < n_52) (ls : Array Slot) (hl : lv_has ls 2 [(1, .int x38), (0, .ref h0)]), W p l e ({ frames := 0, cells := 0, slots := 0, locals := 0 } : Room) s m args below meth c H locs 0 0 (MQ below (iv_Qv iv_sh D classes tys base (fun G' => iv_Md [12, 62] G G')) args s 0 0 (iv_A base)) (F0 m 52 ls []) := by
            intro n_52
            induction n_52 with
            | zero => intro G41 hM H locs hB g39 r40 a_h0 m_g39 x38 i_x38 hn_52 ls hl; exact absurd hn_52 (Nat.not_lt_zero _)
            | succ n_52 ih_52 =>
              intro G41 hM H locs hB g39 r40 a_h0 m_g39 x38 i_x38 hn_52 ls hl
              refine lv_iload_n hx hb dX12_keeps_52 rfl (lv_at hl 0 rfl) ?_
              refine lv_sipush (v := 146) hx hb dX12_keeps_53 (by decide) ?_
              refine lv_icmp_ge (tgt := 86) hx hb dX12_keeps_56 (by decide) (fun c42 => ?_) (fun c42 => ?_)
              · skip
                have i42_x38 : iv_R 146 255 x38 := (i_x38.cutLo (n := 146) (iv_le_l c42 q_146))
                refine lv_aload_n hx hb dX12_keeps_86 rfl (lv_at hl 1 rfl) ?_
                refine lv_dup hx hb dX12_keeps_87 rfl ?_
                refine iv_geti X ft_X12 hB a_h0 sh_12 3 (by decide) rfl k_fl_X12_60 dX12_keeps_88 (fun x44 e_x44 i_x44 => ?_)
                have i44_x44 : iv_R 0 5 x44 := by rw [e_x44]; exact m_g39
                refine lv_iconst (v := 1) hx hb dX12_keeps_91 (by decide) ?_
                refine iv_iadd hx hb i44_x44 q_1 (lo := 1) (hi := 6) (by decide) dX12_keeps_92 (fun x46 e_x46 i_x46 => ?_)
                have e_x46 : x46.toInt = x44.toInt + 1 := e_x46
                refine iv_puti X ft_X12 hB a_h0 sh_12 3 (by decide) rfl rfl k_fl_X12_60 rfl (i_x46.wk (by decide)) rfl rfl dX12_keeps_93 (fun H locs hB => ?_)
                have hm := iv_Md.put (x := x46) a_h0 (j := 3) (by decide) (by decide)
                have h9 := iv_up_eq (G := G41) (a := h0) (k := (12, upd g39 3 x46, r40))
                generalize iv_up G41 h0 _ = G47 at hB hm h9
                have hM := hM.stp hm (by decide)
                generalize hgn_g48 : upd g39 _ _ = g48 at h9
                have a_h0 := h9
                have e9_g48 : x46 = g48 3 := by rw [← hgn_g48]; simp [upd]
                exact iv_vret X hr hlocks hB hM dX12_keeps_96
              · skip
                have i48_x38 : iv_R 0 145 x38 := (i_x38.cutHi (n := 145) (iv_lt_r (iv_nle c42) q_146 (by decide)))
                refine lv_aload_n hx hb dX12_keeps_59 rfl (lv_at hl 1 rfl) ?_
                refine iv_getr X ft_X12 hB a_h0 sh_12 2 (by decide) rfl k_fl_X12_16 dX12_keeps_60 (fun b50 g_b50 r_b50 e_b50 a_b50 => ?_)
                refine lv_sipush (v := 146) hx hb dX12_keeps_63 (by decide) ?_
                refine lv_aload_n hx hb dX12_keeps_66 rfl (lv_at hl 1 rfl) ?_
                refine iv_geti X ft_X12 hB a_h0 sh_12 3 (by decide) rfl k_fl_X12_60 dX12_keeps_67 (fun x51 e_x51 i_x51 => ?_)
                have i51_x51 : iv_R 0 5 x51 := by rw [e_x51]; exact m_g39
                refine iv_imul hx hb q_146 i51_x51 (lo := 0) (hi := 730) (by decide) dX12_keeps_70 (fun x53 e_x53 i_x53 => ?_)
                have e_x53 : x53.toInt = 146 * x51.toInt := e_x53
                refine lv_iload_n hx hb dX12_keeps_71 rfl (lv_at hl 0 rfl) ?_
                refine iv_iadd hx hb i_x53 i48_x38 (lo := 0) (hi := 875) (by decide) dX12_keeps_72 (fun x54 e_x54 i_x54 => ?_)
                refine lv_aload_n hx hb dX12_keeps_73 rfl (lv_at hl 1 rfl) ?_
                refine iv_getr X ft_X12 hB a_h0 sh_12 0 (by decide) rfl k_fl_X12_7 dX12_keeps_74 (fun b55 g_b55 r_b55 e_b55 a_b55 => ?_)
                refine lv_iload_n hx hb dX12_keeps_77 rfl (lv_at hl 0 rfl) ?_
                refine iv_aldP X hB a_b55 sh_60 (iv_in i48_x38 (by decide)) dX12_keeps_78 (fun hP => ?_)
                refine lv_topi (fun x56 e_x56 => ?_)
                have i_x56 := iv_R.all x56
                have hb_x56 : iv_R (iv_wb (x38.toNatClampNeg % 146)).1 (iv_wb (x38.toNatClampNeg % 146)).2 x56 := by have w1 : x38.toNatClampNeg < 146 := iv_inN (iv_in i48_x38 (by decide)); rw [e_x56, Nat.mod_eq_of_lt w1]; exact hP.1 _ (by omega)
                refine iv_astP X hB a_b50 sh_62 (iv_in i_x54 (by decide)) (fun h => iv_kP.up h (by have q0 := i_x54.1; have r0 := i_x54.2; have q1 := i48_x38.1; have r1 := i48_x38.2; have q2 := i_x53.1; have r2 := i_x53.2; have q3 := i51_x51.1; have r3 := i51_x51.2; have q4 := i48_x38.1; have r4 := i48_x38.2; have w1 : x54.toNatClampNeg = x54.toInt.toNat := rfl; have w2 : x38.toNatClampNeg = x38.toInt.toNat := rfl; have w3 : x54.toNatClampNeg % 146 = x38.toNatClampNeg % 146 := (by omega); rw [w3]; exact hb_x56)) dX12_keeps_79 (fun H locs hB => ?_)
                have hm := iv_Md.ast (j := x54.toNatClampNeg) (x := x56) a_b50 rfl (by decide)
                have h9 := iv_up_eq (G := G41) (a := b50) (k := (62, upd g_b50 x54.toNatClampNeg x56, r_b50))
                generalize iv_up G41 b50 _ = G57 at hB hm h9
                have hM := hM.stp hm (by decide)
                have a_h0 := hm.at a_h0 (by decide)
                have a_b55 := hm.at a_b55 (by decide)
                refine iv_iinc hx hb i48_x38 (lo := 1) (hi := 146) (by decide) dX12_keeps_80 hl (k := 0) rfl (by decide) (fun x59 ls e_x59 i_x59 hl => ?_)
                have hl : lv_has ls 2 [(1, .int x59), (0, .ref h0)] := hl
                refine lv_goto (tgt := 52) hx hb dX12_keeps_83 (by decide) ?_
                exact ih_52 G57 hM _ _ hB g39 r40 a_h0 m_g39 x59 (i_x59.wk (by decide)) (iv_mup (c := 1) i_x38 (by decide) (by decide) (by omega) hn_52) _ (lv_sub hl [0, 1] rfl)
          exact L_52 _ G36 hM _ _ hB g37 r29 a_h0 (by rw [← e9_g37]; exact (i_x35.wk (by decide))) 0 (q_0.wk (by decide)) (Nat.lt_succ_self _) _ (lv_sub hl [0, 1] rfl)
        · skip
          have i59_x27 : iv_R 0 729 x27 := (i_x27.cutHi (n := 729) (iv_lt_r (iv_nle c31) q_730 (by decide)))
          refine lv_aload_n hx hb dX12_keeps_18 rfl (lv_at hl 1 rfl) ?_
          refine iv_getr X ft_X12 hB a_h0 sh_12 2 (by decide) rfl k_fl_X12_16 dX12_keeps_19 (fun b61 g_b61 r_b61 e_b61 a_b61 => ?_)
          refine lv_iload_n hx hb dX12_keeps_22 rfl (lv_at hl 0 rfl) ?_
          refine lv_aload_n hx hb dX12_keeps_23 rfl (lv_at hl 1 rfl) ?_
          refine iv_getr0 X ft_X12 hB a_h0 sh_12 2 (by decide) rfl k_fl_X12_16 dX12_keeps_24 e_b61 ?_
          refine lv_iload_n hx hb dX12_keeps_27 rfl (lv_at hl 0 rfl) ?_
          refine lv_sipush (v := 146) hx hb dX12_keeps_28 (by decide) ?_
          refine iv_iadd hx hb i59_x27 q_146 (lo := 146) (hi := 875) (by decide) dX12_keeps_31 (fun x62 e_x62 i_x62 => ?_)
          have e_x62 : x62.toInt = x27.toInt + 146 := e_x62
          refine iv_aldP X hB a_b61 sh_62 (iv_in i_x62 (by decide)) dX12_keeps_32 (fun hP => ?_)
          refine lv_topi (fun x63 e_x63 => ?_)
          have i_x63 := iv_R.all x63
          have hb_x63 : iv_R (iv_wb (x62.toNatClampNeg % 146)).1 (iv_wb (x62.toNatClampNeg % 146)).2 x63 := by rw [e_x63]; exact hP _ (iv_inN (iv_in i_x62 (by decide)))
          refine iv_astP X hB a_b61 sh_62 (iv_in i59_x27 (by decide)) (fun h => iv_kP.up h (by have q0 := i59_x27.1; have r0 := i59_x27.2; have q1 := i_x62.1; have r1 := i_x62.2; have q2 := i59_x27.1; have r2 := i59_x27.2; have w1 : x27.toNatClampNeg = x27.toInt.toNat := rfl; have w2 : x62.toNatClampNeg = x62.toInt.toNat := rfl; have w3 : x27.toNatClampNeg % 146 = x62.toNatClampNeg % 146 := (by omega); rw [w3]; exact hb_x63)) dX12_keeps_33 (fun H locs hB => ?_)
          have hm := iv_Md.ast (j := x27.toNatClampNeg) (x := x63) a_b61 rfl (by decide)
          have h9 := iv_up_eq (G := G30) (a := b61) (k := (62, upd g_b61 x27.toNatClampNeg x63, r_b61))
          generalize iv_up G30 b61 _ = G64 at hB hm h9
          have hM := hM.stp hm (by decide)
          have a_h0 := hm.at a_h0 (by decide)
          refine iv_iinc hx hb i59_x27 (lo := 1) (hi := 730) (by decide) dX12_keeps_34 hl (k := 0) rfl (by decide) (fun x66 ls e_x66 i_x66 hl => ?_)
          have hl : lv_has ls 2 [(1, .int x66), (0, .ref h0)] := hl
          refine lv_goto (tgt := 11) hx hb dX12_keeps_37 (by decide) ?_
          exact ih_11 G64 hM _ _ hB g28 r29 a_h0 m_g28 x66 (i_x66.wk (by decide)) (iv_mup (c := 1) i_x27 (by decide) (by decide) (by omega) hn_11) _ (lv_sub hl [0, 1] rfl)
    exact L_11 _ G hM _ _ hB g_h0 r_h0 a_h0 (by rw [← e_x1]; exact i25_x1) 0 (q_0.wk (by decide)) (Nat.lt_succ_self _) _ (lv_sub hl [0, 1] rfl)
theorem dX12_late_0 : decode cX12_late 0 = .ok (.aload_n 0, 1) := by decide +kernel
theorem dX12_late_1 : decode cX12_late 1 = .ok (.iload_n 1, 1) := by decide +kernel
theorem dX12_late_2 : decode cX12_late 2 = .ok (.invokevirtual 76, 3) := by decide +kernel
theorem dX12_late_5 : decode cX12_late 5 = .ok (.ifCond .eq 13, 3) := by decide +kernel
theorem dX12_late_8 : decode cX12_late 8 = .ok (.iload_n 2, 1) := by decide +kernel
theorem dX12_late_9 : decode cX12_late 9 = .ok (.iconst 0, 1) := by decide +kernel
theorem dX12_late_10 : decode cX12_late 10 = .ok (.bipush 99, 2) := by decide +kernel
theorem dX12_late_12 : decode cX12_late 12 = .ok (.invokestatic 56, 3) := by decide +kernel
theorem dX12_late_15 : decode cX12_late 15 = .ok (.ifCond .ne 5, 3) := by decide +kernel
theorem dX12_late_18 : decode cX12_late 18 = .ok (.iconst (-1), 1) := by decide +kernel
theorem dX12_late_19 : decode cX12_late 19 = .ok (.ireturn, 1) := by decide +kernel
theorem dX12_late_20 : decode cX12_late 20 = .ok (.aload_n 0, 1) := by decide +kernel
theorem dX12_late_21 : decode cX12_late 21 = .ok (.iload_n 1, 1) := by decide +kernel
theorem dX12_late_22 : decode cX12_late 22 = .ok (.invokevirtual 344, 3) := by decide +kernel
theorem dX12_late_25 : decode cX12_late 25 = .ok (.istore_n 3, 1) := by decide +kernel
theorem dX12_late_26 : decode cX12_late 26 = .ok (.ldc_w 395, 3) := by decide +kernel
theorem dX12_late_29 : decode cX12_late 29 = .ok (.istore 4, 2) := by decide +kernel
theorem dX12_late_31 : decode cX12_late 31 = .ok (.iconst 0, 1) := by decide +kernel
theorem dX12_late_32 : decode cX12_late 32 = .ok (.istore 5, 2) := by decide +kernel
theorem dX12_late_34 : decode cX12_late 34 = .ok (.iload 5, 2) := by decide +kernel
theorem dX12_late_36 : decode cX12_late 36 = .ok (.iload_n 2, 1) := by decide +kernel
theorem dX12_late_37 : decode cX12_late 37 = .ok (.if_icmp .ge 23, 3) := by decide +kernel
theorem dX12_late_40 : decode cX12_late 40 = .ok (.iload 4, 2) := by decide +kernel
theorem dX12_late_42 : decode cX12_late 42 = .ok (.sipush 1000, 3) := by decide +kernel
theorem dX12_late_45 : decode cX12_late 45 = .ok (.iload_n 3, 1) := by decide +kernel
theorem dX12_late_46 : decode cX12_late 46 = .ok (.isub, 1) := by decide +kernel
theorem dX12_late_47 : decode cX12_late 47 = .ok (.imul, 1) := by decide +kernel
theorem dX12_late_48 : decode cX12_late 48 = .ok (.sipush 1000, 3) := by decide +kernel
theorem dX12_late_51 : decode cX12_late 51 = .ok (.idiv, 1) := by decide +kernel
theorem dX12_late_52 : decode cX12_late 52 = .ok (.istore 4, 2) := by decide +kernel
theorem dX12_late_54 : decode cX12_late 54 = .ok (.iinc 5 1, 3) := by decide +kernel
theorem dX12_late_57 : decode cX12_late 57 = .ok (.goto (-23), 3) := by decide +kernel
theorem dX12_late_60 : decode cX12_late 60 = .ok (.iload 4, 2) := by decide +kernel
theorem dX12_late_62 : decode cX12_late 62 = .ok (.ireturn, 1) := by decide +kernel
set_option maxHeartbeats 4000000 in
set_option maxRecDepth 100000 in
theorem c_X12_late (l : Launch) (D : va_G) (tys : List (ClassId × FieldType)) (base : Nat) (G : iv_G) (h0 : Nat) (g_h0 : Nat → Int32) (r_h0 : Nat → Nat) (a_h0 : G h0 = some (12, g_h0, r_h0)) (x_0 : Int32) (i_x_0 : iv_R (-2147483648) 2147483647 x_0) (x_1 : Int32) (i_x_1 : iv_R (-2147483648) 2147483647 x_1) : Met l yX12_late (Cond.code yX12_late cX12_late 6 (some .int) :: iv_W0) ({ frames := 10, cells := 0, slots := 0, locals := 232 }) (iv_Pc iv_sh D classes tys base G [.ref h0, .int x_0, .int x_1]) (iv_Qi iv_sh D classes tys base (fun v G' => iv_Md [67, 68] G G' ∧ iv_R (-2147483648) 2147483647 v)) 0 0 (iv_A base) := by
  refine iv_head (by decide) (Nat.le_of_ble_eq_true rfl) ?_
  intro p e s m args below meth c ls X hr hlocks hname hB hl
  have X := X
  have hx := X.1.1
  have hb := X.1.2.1
  have hM : iv_Md [67, 68] G G := iv_Md.rf
  have hl : lv_has ls 6 [(0, .ref h0), (1, .int x_0), (2, .int x_1)] := hl
  refine lv_aload_n hx hb dX12_late_0 rfl (lv_at hl 0 rfl) ?_
  refine lv_iload_n hx hb dX12_late_1 rfl (lv_at hl 1 rfl) ?_
  refine iv_cVi X k_good k_mf_X12_isBell k_im_X12_isBell k_sel_X12_isBell k_ml_X12_76 ft_X12 hB a_h0 sh_12 (As := [.int x_0]) (c_X12_isBell l D tys base G h0 g_h0 r_h0 a_h0 x_0 i_x_0) ⟨rfl, rfl⟩ ⟨Nat.le_of_ble_eq_true rfl, Nat.le_of_ble_eq_true rfl⟩ ⟨Nat.le_of_ble_eq_true rfl, Nat.le_of_ble_eq_true rfl⟩ rfl rfl hl.1 (Nat.le_of_ble_eq_true rfl) dX12_late_2 (fun x1 G9 H locs hq hB => ?_)
  obtain ⟨rfl, i_x1, hp2⟩ := hq
  refine lv_if_eq (tgt := 18) hx hb dX12_late_5 (by decide) (fun c3 => ?_) (fun c3 => ?_)
  · skip
    have i3_x1 : iv_R 0 0 x1 := (i_x1.cutHi (n := 0) (iv_eq_r c3 q_0).2)
    refine lv_iconst (v := (-1)) hx hb dX12_late_18 (by decide) ?_
    exact iv_iret X hr hlocks hB ⟨hM, (q_n1.wk (by decide))⟩ dX12_late_19
  · skip
    have i4_x1 : iv_R 1 1 x1 := iv_ne_lo c3 i_x1 q_0 (by decide)
    have i5_x_0 : iv_R 0 9 x_0 := ((i_x_0.cutLo (n := 0) (hp2 c3).1).cutHi (n := 9) (hp2 c3).2)
    refine lv_iload_n hx hb dX12_late_8 rfl (lv_at hl 2 rfl) ?_
    refine lv_iconst (v := 0) hx hb dX12_late_9 (by decide) ?_
    refine lv_bipush (v := 99) hx hb dX12_late_10 (by decide) ?_
    refine iv_cSi X k_good k_mf_X12_isIn k_st_X12_isIn k_ml_X12_56 hB (As := [.int x_1, .int 0, .int 99]) (c_X12_isIn l D tys base G x_1 i_x_1 0 (q_0.wk (by decide)) 99 (q_99.wk (by decide))) ⟨rfl, rfl⟩ ⟨Nat.le_of_ble_eq_true rfl, Nat.le_of_ble_eq_true rfl⟩ ⟨Nat.le_of_ble_eq_true rfl, Nat.le_of_ble_eq_true rfl⟩ rfl rfl hl.1 (Nat.le_of_ble_eq_true rfl) dX12_late_12 (fun x7 G9 H locs hq hB => ?_)
    obtain ⟨rfl, i_x7, hp8⟩ := hq
    have k9 : ¬ x7 = 0 → iv_R 0 99 x_1 := fun h => ⟨iv_max i_x_1.1 (Int.le_trans q_0.1 (hp8.1 h).1) (by decide), iv_min i_x_1.2 (Int.le_trans (hp8.1 h).2 q_99.2) (by decide)⟩
    refine lv_if_ne (tgt := 20) hx hb dX12_late_15 (by decide) (fun c10 => ?_) (fun c10 => ?_)
    · skip
      have i10_x7 : iv_R 1 1 x7 := iv_ne_lo c10 i_x7 q_0 (by decide)
      have i11_x_1 : iv_R 0 99 x_1 := ((i_x_1.cutLo (n := 0) (k9 c10).1).cutHi (n := 99) (k9 c10).2)
      refine lv_aload_n hx hb dX12_late_20 rfl (lv_at hl 0 rfl) ?_
      refine lv_iload_n hx hb dX12_late_21 rfl (lv_at hl 1 rfl) ?_
      refine iv_cVi X k_good k_mf_X12_comeOf k_im_X12_comeOf k_sel_X12_comeOf k_ml_X12_344 ft_X12 hB a_h0 sh_12 (As := [.int x_0]) (c_X12_comeOf l D tys base G h0 g_h0 r_h0 a_h0 x_0 i5_x_0) ⟨rfl, rfl⟩ ⟨Nat.le_of_ble_eq_true rfl, Nat.le_of_ble_eq_true rfl⟩ ⟨Nat.le_of_ble_eq_true rfl, Nat.le_of_ble_eq_true rfl⟩ rfl rfl hl.1 (Nat.le_of_ble_eq_true rfl) dX12_late_22 (fun x13 G9 H locs hq hB => ?_)
      obtain ⟨hm, i_x13⟩ := hq
      obtain ⟨G14, hG9⟩ : ∃ g, g = G9 := ⟨_, rfl⟩
      rw [← hG9] at hm hB
      have hM := hM.stp hm (by decide)
      have a_h0 := hm.at a_h0 (by decide)
      refine lv_istore_n (lv' := [(3, .int x13), (0, .ref h0), (1, .int x_0), (2, .int x_1)]) hx hb dX12_late_25 rfl hl (by decide) rfl (fun ls hl => ?_)
      refine lv_ldcw (v := 1000000) hx hb X.1.2.2.2.1 (X.1.2.2.2.2 _ k_ct_X12_395) dX12_late_26 ?_
      refine lv_istore (lv' := [(4, .int 1000000), (3, .int x13), (0, .ref h0), (1, .int x_0), (2, .int x_1)]) hx hb dX12_late_29 hl (by decide) rfl (fun ls hl => ?_)
      refine lv_iconst (v := 0) hx hb dX12_late_31 (by decide) ?_
      refine lv_istore (lv' := [(5, .int 0), (4, .int 1000000), (3, .int x13), (0, .ref h0), (1, .int x_0), (2, .int x_1)]) hx hb dX12_late_32 hl (by decide) rfl (fun ls hl => ?_)
      have L_34 : ∀ (n_34 : Nat) (G17 : iv_G) (hM : iv_Md [67, 68] G G17) (H : Heap) (locs : List Loc) (hB : iv_B iv_sh D classes tys base G17 s.heap H locs) (x15 : Int32) (i_x15 : iv_R (-2147483648) 2147483647 x15) (x16 : Int32) (i_x16 : iv_R 0 99 x16) (hn_34 : (100 - x16.toInt).toNat < n_34) (ls : Array Slot) (hl : lv_has ls 6 [(5, .int x16), (4, .int x15), (3, .int x13), (2, .int x_1)]), W p l e ({ frames := 10, cells := 0, slots := 0, locals := 232 } : Room) s m args below meth c H locs 0 0 (MQ below (iv_Qi iv_sh D classes tys base (fun v G' => iv_Md [67, 68] G G' ∧ iv_R (-2147483648) 2147483647 v)) args s 0 0 (iv_A base)) (F0 m 34 ls []) := by
        intro n_34
        induction n_34 with
        | zero => intro G17 hM H locs hB x15 i_x15 x16 i_x16 hn_34 ls hl; exact absurd hn_34 (Nat.not_lt_zero _)
        | succ n_34 ih_34 =>
          intro G17 hM H locs hB x15 i_x15 x16 i_x16 hn_34 ls hl
          refine lv_iload hx hb dX12_late_34 (lv_at hl 0 rfl) ?_
          refine lv_iload_n hx hb dX12_late_36 rfl (lv_at hl 3 rfl) ?_
          refine lv_icmp_ge (tgt := 60) hx hb dX12_late_37 (by decide) (fun c18 => ?_) (fun c18 => ?_)
          · skip
            refine lv_iload hx hb dX12_late_60 (lv_at hl 1 rfl) ?_
            exact iv_iret X hr hlocks hB ⟨hM, i_x15⟩ dX12_late_62
          · skip
            have i18_x16 : iv_R 0 98 x16 := (i_x16.cutHi (n := 98) (iv_lt_r (iv_nle c18) i11_x_1 (by decide)))
            have i19_x_1 : iv_R 1 99 x_1 := (i11_x_1.cutLo (n := 1) (iv_lt_l (iv_nle c18) i_x16 (by decide)))
            refine lv_iload hx hb dX12_late_40 (lv_at hl 1 rfl) ?_
            refine lv_sipush (v := 1000) hx hb dX12_late_42 (by decide) ?_
            refine lv_iload_n hx hb dX12_late_45 rfl (lv_at hl 2 rfl) ?_
            refine lv_isub hx hb dX12_late_46 ?_
            refine lv_topi (fun x21 e_x21 => ?_)
            have i_x21 := iv_R.all x21
            refine lv_imul hx hb dX12_late_47 ?_
            refine lv_topi (fun x22 e_x22 => ?_)
            have i_x22 := iv_R.all x22
            refine lv_sipush (v := 1000) hx hb dX12_late_48 (by decide) ?_
            refine lv_idiv hx hb dX12_late_51 (iv_nz q_1000 (by decide)) ?_
            refine lv_topi (fun x23 e_x23 => ?_)
            have i_x23 := iv_R.all x23
            refine lv_istore (lv' := [(4, .int x23), (5, .int x16), (3, .int x13), (2, .int x_1)]) hx hb dX12_late_52 hl (by decide) rfl (fun ls hl => ?_)
            refine iv_iinc hx hb i18_x16 (lo := 1) (hi := 99) (by decide) dX12_late_54 hl (k := 1) rfl (by decide) (fun x24 ls e_x24 i_x24 hl => ?_)
            have hl : lv_has ls 6 [(5, .int x24), (4, .int x23), (3, .int x13), (2, .int x_1)] := hl
            refine lv_goto (tgt := 34) hx hb dX12_late_57 (by decide) ?_
            exact ih_34 G17 hM _ _ hB x23 i_x23 x24 (i_x24.wk (by decide)) (iv_mup (c := 1) i_x16 (by decide) (by decide) (by omega) hn_34) _ (lv_sub hl [0, 1, 2, 3] rfl)
      exact L_34 _ G14 hM _ _ hB 1000000 (q_1000000.wk (by decide)) 0 (q_0.wk (by decide)) (Nat.lt_succ_self _) _ (lv_sub hl [0, 1, 2, 5] rfl)
    · skip
      have i24_x7 : iv_R 0 0 x7 := (i_x7.cutHi (n := 0) (iv_eq_r c10 q_0).2)
      refine lv_iconst (v := (-1)) hx hb dX12_late_18 (by decide) ?_
      exact iv_iret X hr hlocks hB ⟨hM, (q_n1.wk (by decide))⟩ dX12_late_19
theorem dX12_laysPeals_0 : decode cX12_laysPeals 0 = .ok (.iconst 1, 1) := by decide +kernel
theorem dX12_laysPeals_1 : decode cX12_laysPeals 1 = .ok (.aload_n 0, 1) := by decide +kernel
theorem dX12_laysPeals_2 : decode cX12_laysPeals 2 = .ok (.getfield 447, 3) := by decide +kernel
theorem dX12_laysPeals_5 : decode cX12_laysPeals 5 = .ok (.ishl, 1) := by decide +kernel
theorem dX12_laysPeals_6 : decode cX12_laysPeals 6 = .ok (.iconst 1, 1) := by decide +kernel
theorem dX12_laysPeals_7 : decode cX12_laysPeals 7 = .ok (.isub, 1) := by decide +kernel
theorem dX12_laysPeals_8 : decode cX12_laysPeals 8 = .ok (.istore_n 1, 1) := by decide +kernel
theorem dX12_laysPeals_9 : decode cX12_laysPeals 9 = .ok (.iload_n 1, 1) := by decide +kernel
theorem dX12_laysPeals_10 : decode cX12_laysPeals 10 = .ok (.istore_n 2, 1) := by decide +kernel
theorem dX12_laysPeals_11 : decode cX12_laysPeals 11 = .ok (.iload_n 2, 1) := by decide +kernel
theorem dX12_laysPeals_12 : decode cX12_laysPeals 12 = .ok (.ifCond .lt 117, 3) := by decide +kernel
theorem dX12_laysPeals_15 : decode cX12_laysPeals 15 = .ok (.iconst 0, 1) := by decide +kernel
theorem dX12_laysPeals_16 : decode cX12_laysPeals 16 = .ok (.istore_n 3, 1) := by decide +kernel
theorem dX12_laysPeals_17 : decode cX12_laysPeals 17 = .ok (.iload_n 3, 1) := by decide +kernel
theorem dX12_laysPeals_18 : decode cX12_laysPeals 18 = .ok (.bipush 8, 2) := by decide +kernel
theorem dX12_laysPeals_20 : decode cX12_laysPeals 20 = .ok (.if_icmp .gt 103, 3) := by decide +kernel
theorem dX12_laysPeals_23 : decode cX12_laysPeals 23 = .ok (.iload_n 2, 1) := by decide +kernel
theorem dX12_laysPeals_24 : decode cX12_laysPeals 24 = .ok (.iload_n 1, 1) := by decide +kernel
theorem dX12_laysPeals_25 : decode cX12_laysPeals 25 = .ok (.if_icmp .ne 7, 3) := by decide +kernel
theorem dX12_laysPeals_28 : decode cX12_laysPeals 28 = .ok (.iconst 1, 1) := by decide +kernel
theorem dX12_laysPeals_29 : decode cX12_laysPeals 29 = .ok (.goto 4, 3) := by decide +kernel
theorem dX12_laysPeals_32 : decode cX12_laysPeals 32 = .ok (.iconst 0, 1) := by decide +kernel
theorem dX12_laysPeals_33 : decode cX12_laysPeals 33 = .ok (.istore 4, 2) := by decide +kernel
theorem dX12_laysPeals_35 : decode cX12_laysPeals 35 = .ok (.iconst 0, 1) := by decide +kernel
theorem dX12_laysPeals_36 : decode cX12_laysPeals 36 = .ok (.istore 5, 2) := by decide +kernel
theorem dX12_laysPeals_38 : decode cX12_laysPeals 38 = .ok (.iload 5, 2) := by decide +kernel
theorem dX12_laysPeals_40 : decode cX12_laysPeals 40 = .ok (.aload_n 0, 1) := by decide +kernel
theorem dX12_laysPeals_41 : decode cX12_laysPeals 41 = .ok (.getfield 447, 3) := by decide +kernel
theorem dX12_laysPeals_44 : decode cX12_laysPeals 44 = .ok (.if_icmp .ge 60, 3) := by decide +kernel
theorem dX12_laysPeals_47 : decode cX12_laysPeals 47 = .ok (.iload_n 3, 1) := by decide +kernel
theorem dX12_laysPeals_48 : decode cX12_laysPeals 48 = .ok (.bipush 8, 2) := by decide +kernel
theorem dX12_laysPeals_50 : decode cX12_laysPeals 50 = .ok (.if_icmp .eq 11, 3) := by decide +kernel
theorem dX12_laysPeals_53 : decode cX12_laysPeals 53 = .ok (.iload_n 3, 1) := by decide +kernel
theorem dX12_laysPeals_54 : decode cX12_laysPeals 54 = .ok (.aload_n 0, 1) := by decide +kernel
theorem dX12_laysPeals_55 : decode cX12_laysPeals 55 = .ok (.getfield 447, 3) := by decide +kernel
theorem dX12_laysPeals_58 : decode cX12_laysPeals 58 = .ok (.if_icmp .ge 46, 3) := by decide +kernel
theorem dX12_laysPeals_61 : decode cX12_laysPeals 61 = .ok (.iload 4, 2) := by decide +kernel
theorem dX12_laysPeals_63 : decode cX12_laysPeals 63 = .ok (.aload_n 0, 1) := by decide +kernel
theorem dX12_laysPeals_64 : decode cX12_laysPeals 64 = .ok (.iload 5, 2) := by decide +kernel
theorem dX12_laysPeals_66 : decode cX12_laysPeals 66 = .ok (.iload_n 3, 1) := by decide +kernel
theorem dX12_laysPeals_67 : decode cX12_laysPeals 67 = .ok (.iload_n 2, 1) := by decide +kernel
theorem dX12_laysPeals_68 : decode cX12_laysPeals 68 = .ok (.invokevirtual 450, 3) := by decide +kernel
theorem dX12_laysPeals_71 : decode cX12_laysPeals 71 = .ok (.ifCond .eq 23, 3) := by decide +kernel
theorem dX12_laysPeals_74 : decode cX12_laysPeals 74 = .ok (.aload_n 0, 1) := by decide +kernel
theorem dX12_laysPeals_75 : decode cX12_laysPeals 75 = .ok (.getfield 53, 3) := by decide +kernel
theorem dX12_laysPeals_78 : decode cX12_laysPeals 78 = .ok (.bipush 9, 2) := by decide +kernel
theorem dX12_laysPeals_80 : decode cX12_laysPeals 80 = .ok (.iload_n 2, 1) := by decide +kernel
theorem dX12_laysPeals_81 : decode cX12_laysPeals 81 = .ok (.iconst 1, 1) := by decide +kernel
theorem dX12_laysPeals_82 : decode cX12_laysPeals 82 = .ok (.iload 5, 2) := by decide +kernel
theorem dX12_laysPeals_84 : decode cX12_laysPeals 84 = .ok (.ishl, 1) := by decide +kernel
theorem dX12_laysPeals_85 : decode cX12_laysPeals 85 = .ok (.ior, 1) := by decide +kernel
theorem dX12_laysPeals_86 : decode cX12_laysPeals 86 = .ok (.imul, 1) := by decide +kernel
theorem dX12_laysPeals_87 : decode cX12_laysPeals 87 = .ok (.iload 5, 2) := by decide +kernel
theorem dX12_laysPeals_89 : decode cX12_laysPeals 89 = .ok (.iadd, 1) := by decide +kernel
theorem dX12_laysPeals_90 : decode cX12_laysPeals 90 = .ok (.iaload, 1) := by decide +kernel
theorem dX12_laysPeals_91 : decode cX12_laysPeals 91 = .ok (.goto 4, 3) := by decide +kernel
theorem dX12_laysPeals_94 : decode cX12_laysPeals 94 = .ok (.iconst 0, 1) := by decide +kernel
theorem dX12_laysPeals_95 : decode cX12_laysPeals 95 = .ok (.iadd, 1) := by decide +kernel
theorem dX12_laysPeals_96 : decode cX12_laysPeals 96 = .ok (.istore 4, 2) := by decide +kernel
theorem dX12_laysPeals_98 : decode cX12_laysPeals 98 = .ok (.iinc 5 1, 3) := by decide +kernel
theorem dX12_laysPeals_101 : decode cX12_laysPeals 101 = .ok (.goto (-63), 3) := by decide +kernel
theorem dX12_laysPeals_104 : decode cX12_laysPeals 104 = .ok (.aload_n 0, 1) := by decide +kernel
theorem dX12_laysPeals_105 : decode cX12_laysPeals 105 = .ok (.getfield 53, 3) := by decide +kernel
theorem dX12_laysPeals_108 : decode cX12_laysPeals 108 = .ok (.bipush 9, 2) := by decide +kernel
theorem dX12_laysPeals_110 : decode cX12_laysPeals 110 = .ok (.iload_n 2, 1) := by decide +kernel
theorem dX12_laysPeals_111 : decode cX12_laysPeals 111 = .ok (.imul, 1) := by decide +kernel
theorem dX12_laysPeals_112 : decode cX12_laysPeals 112 = .ok (.iload_n 3, 1) := by decide +kernel
theorem dX12_laysPeals_113 : decode cX12_laysPeals 113 = .ok (.iadd, 1) := by decide +kernel
theorem dX12_laysPeals_114 : decode cX12_laysPeals 114 = .ok (.iload 4, 2) := by decide +kernel
theorem dX12_laysPeals_116 : decode cX12_laysPeals 116 = .ok (.iastore, 1) := by decide +kernel
theorem dX12_laysPeals_117 : decode cX12_laysPeals 117 = .ok (.iinc 3 1, 3) := by decide +kernel
theorem dX12_laysPeals_120 : decode cX12_laysPeals 120 = .ok (.goto (-103), 3) := by decide +kernel
theorem dX12_laysPeals_123 : decode cX12_laysPeals 123 = .ok (.iinc 2 (-1), 3) := by decide +kernel
theorem dX12_laysPeals_126 : decode cX12_laysPeals 126 = .ok (.goto (-115), 3) := by decide +kernel
theorem dX12_laysPeals_129 : decode cX12_laysPeals 129 = .ok (.return_, 1) := by decide +kernel
set_option maxHeartbeats 4000000 in
set_option maxRecDepth 100000 in
theorem c_X12_laysPeals (l : Launch) (D : va_G) (tys : List (ClassId × FieldType)) (base : Nat) (G : iv_G) (h0 : Nat) (g_h0 : Nat → Int32) (r_h0 : Nat → Nat) (a_h0 : G h0 = some (12, g_h0, r_h0)) : Met l yX12_laysPeals (Cond.code yX12_laysPeals cX12_laysPeals 6 none :: iv_W0) ({ frames := 2, cells := 0, slots := 0, locals := 45 }) (iv_Pc iv_sh D classes tys base G [.ref h0]) (iv_Qv iv_sh D classes tys base (fun G' => iv_Md [73] G G')) 0 0 (iv_A base) := by
  refine iv_head (by decide) (Nat.le_of_ble_eq_true rfl) ?_
  intro p e s m args below meth c ls X hr hlocks hname hB hl
  have X := X
  have hx := X.1.1
  have hb := X.1.2.1
  have hM : iv_Md [73] G G := iv_Md.rf
  have hl : lv_has ls 6 [(0, .ref h0)] := hl
  refine lv_iconst (v := 1) hx hb dX12_laysPeals_0 (by decide) ?_
  refine lv_aload_n hx hb dX12_laysPeals_1 rfl (lv_at hl 0 rfl) ?_
  refine iv_geti X ft_X12 hB a_h0 sh_12 31 (by decide) rfl k_fl_X12_447 dX12_laysPeals_2 (fun x1 e_x1 i_x1 => ?_)
  refine iv_shl1 hx hb i_x1 (lo := 1) (hi := 256) (by decide) dX12_laysPeals_5 (fun x2 e_x2 i_x2 => ?_)
  refine lv_iconst (v := 1) hx hb dX12_laysPeals_6 (by decide) ?_
  refine iv_isub hx hb i_x2 q_1 (lo := 0) (hi := 255) (by decide) dX12_laysPeals_7 (fun x3 e_x3 i_x3 => ?_)
  refine lv_istore_n (lv' := [(1, .int x3), (0, .ref h0)]) hx hb dX12_laysPeals_8 rfl hl (by decide) rfl (fun ls hl => ?_)
  refine lv_iload_n hx hb dX12_laysPeals_9 rfl (lv_at hl 0 rfl) ?_
  refine lv_istore_n (lv' := [(2, .int x3), (1, .int x3), (0, .ref h0)]) hx hb dX12_laysPeals_10 rfl hl (by decide) rfl (fun ls hl => ?_)
  have L_11 : ∀ (n_11 : Nat) (G5 : iv_G) (hM : iv_Md [73] G G5) (H : Heap) (locs : List Loc) (hB : iv_B iv_sh D classes tys base G5 s.heap H locs) (a_h0 : G5 h0 = some (12, g_h0, r_h0)) (x4 : Int32) (i_x4 : iv_R (-1) 255 x4) (hn_11 : (x4.toInt - (-2)).toNat < n_11) (ls : Array Slot) (hl : lv_has ls 6 [(2, .int x4), (1, .int x3), (0, .ref h0)]), W p l e ({ frames := 2, cells := 0, slots := 0, locals := 45 } : Room) s m args below meth c H locs 0 0 (MQ below (iv_Qv iv_sh D classes tys base (fun G' => iv_Md [73] G G')) args s 0 0 (iv_A base)) (F0 m 11 ls []) := by
    intro n_11
    induction n_11 with
    | zero => intro G5 hM H locs hB a_h0 x4 i_x4 hn_11 ls hl; exact absurd hn_11 (Nat.not_lt_zero _)
    | succ n_11 ih_11 =>
      intro G5 hM H locs hB a_h0 x4 i_x4 hn_11 ls hl
      refine lv_iload_n hx hb dX12_laysPeals_11 rfl (lv_at hl 0 rfl) ?_
      refine lv_if_lt (tgt := 129) hx hb dX12_laysPeals_12 (by decide) (fun c6 => ?_) (fun c6 => ?_)
      · skip
        have i6_x4 : iv_R (-1) (-1) x4 := (i_x4.cutHi (n := (-1)) (iv_lt_r c6 q_0 (by decide)))
        exact iv_vret X hr hlocks hB hM dX12_laysPeals_129
      · skip
        have i7_x4 : iv_R 0 255 x4 := (i_x4.cutLo (n := 0) (iv_le_l (iv_nlt c6) q_0))
        refine lv_iconst (v := 0) hx hb dX12_laysPeals_15 (by decide) ?_
        refine lv_istore_n (lv' := [(3, .int 0), (2, .int x4), (1, .int x3), (0, .ref h0)]) hx hb dX12_laysPeals_16 rfl hl (by decide) rfl (fun ls hl => ?_)
        have L_17 : ∀ (n_17 : Nat) (G10 : iv_G) (hM : iv_Md [73] G G10) (H : Heap) (locs : List Loc) (hB : iv_B iv_sh D classes tys base G10 s.heap H locs) (a_h0 : G10 h0 = some (12, g_h0, r_h0)) (x9 : Int32) (i_x9 : iv_R 0 9 x9) (hn_17 : (10 - x9.toInt).toNat < n_17) (ls : Array Slot) (hl : lv_has ls 6 [(3, .int x9), (2, .int x4), (1, .int x3), (0, .ref h0)]), W p l e ({ frames := 2, cells := 0, slots := 0, locals := 45 } : Room) s m args below meth c H locs 0 0 (MQ below (iv_Qv iv_sh D classes tys base (fun G' => iv_Md [73] G G')) args s 0 0 (iv_A base)) (F0 m 17 ls []) := by
          intro n_17
          induction n_17 with
          | zero => intro G10 hM H locs hB a_h0 x9 i_x9 hn_17 ls hl; exact absurd hn_17 (Nat.not_lt_zero _)
          | succ n_17 ih_17 =>
            intro G10 hM H locs hB a_h0 x9 i_x9 hn_17 ls hl
            refine lv_iload_n hx hb dX12_laysPeals_17 rfl (lv_at hl 0 rfl) ?_
            refine lv_bipush (v := 8) hx hb dX12_laysPeals_18 (by decide) ?_
            refine lv_icmp_gt (tgt := 123) hx hb dX12_laysPeals_20 (by decide) (fun c11 => ?_) (fun c11 => ?_)
            · skip
              have i11_x9 : iv_R 9 9 x9 := (i_x9.cutLo (n := 9) (iv_lt_l c11 q_8 (by decide)))
              refine iv_iinc hx hb i7_x4 (lo := (-1)) (hi := 254) (by decide) dX12_laysPeals_123 hl (k := 1) rfl (by decide) (fun x13 ls e_x13 i_x13 hl => ?_)
              have hl : lv_has ls 6 [(2, .int x13), (3, .int x9), (1, .int x3), (0, .ref h0)] := hl
              refine lv_goto (tgt := 11) hx hb dX12_laysPeals_126 (by decide) ?_
              exact ih_11 G10 hM _ _ hB a_h0 x13 (i_x13.wk (by decide)) (iv_mdn (c := 1) i_x4 (by decide) (by decide) (by omega) hn_11) _ (lv_sub hl [0, 2, 3] rfl)
            · skip
              have i13_x9 : iv_R 0 8 x9 := (i_x9.cutHi (n := 8) (iv_le_r (iv_nlt c11) q_8))
              refine lv_iload_n hx hb dX12_laysPeals_23 rfl (lv_at hl 1 rfl) ?_
              refine lv_iload_n hx hb dX12_laysPeals_24 rfl (lv_at hl 2 rfl) ?_
              refine lv_icmp_ne (tgt := 32) hx hb dX12_laysPeals_25 (by decide) (fun c15 => ?_) (fun c15 => ?_)
              · skip
                refine lv_iconst (v := 0) hx hb dX12_laysPeals_32 (by decide) ?_
                refine lv_istore (lv' := [(4, .int 0), (3, .int x9), (2, .int x4), (1, .int x3), (0, .ref h0)]) hx hb dX12_laysPeals_33 hl (by decide) rfl (fun ls hl => ?_)
                refine lv_iconst (v := 0) hx hb dX12_laysPeals_35 (by decide) ?_
                refine lv_istore (lv' := [(5, .int 0), (4, .int 0), (3, .int x9), (2, .int x4), (1, .int x3), (0, .ref h0)]) hx hb dX12_laysPeals_36 hl (by decide) rfl (fun ls hl => ?_)
                have L_38 : ∀ (n_38 : Nat) (G18 : iv_G) (hM : iv_Md [73] G G18) (H : Heap) (locs : List Loc) (hB : iv_B iv_sh D classes tys base G18 s.heap H locs) (a_h0 : G18 h0 = some (12, g_h0, r_h0)) (x16 : Int32) (i_x16 : iv_R (-2147483648) 2147483647 x16) (x17 : Int32) (i_x17 : iv_R 0 8 x17) (hn_38 : (9 - x17.toInt).toNat < n_38) (ls : Array Slot) (hl : lv_has ls 6 [(5, .int x17), (4, .int x16), (3, .int x9), (2, .int x4), (1, .int x3), (0, .ref h0)]), W p l e ({ frames := 2, cells := 0, slots := 0, locals := 45 } : Room) s m args below meth c H locs 0 0 (MQ below (iv_Qv iv_sh D classes tys base (fun G' => iv_Md [73] G G')) args s 0 0 (iv_A base)) (F0 m 38 ls []) := by
                  intro n_38
                  induction n_38 with
                  | zero => intro G18 hM H locs hB a_h0 x16 i_x16 x17 i_x17 hn_38 ls hl; exact absurd hn_38 (Nat.not_lt_zero _)
                  | succ n_38 ih_38 =>
                    intro G18 hM H locs hB a_h0 x16 i_x16 x17 i_x17 hn_38 ls hl
                    refine lv_iload hx hb dX12_laysPeals_38 (lv_at hl 0 rfl) ?_
                    refine lv_aload_n hx hb dX12_laysPeals_40 rfl (lv_at hl 5 rfl) ?_
                    refine iv_geti0 X ft_X12 hB a_h0 sh_12 31 (by decide) rfl k_fl_X12_447 dX12_laysPeals_41 e_x1 ?_
                    refine lv_icmp_ge (tgt := 104) hx hb dX12_laysPeals_44 (by decide) (fun c19 => ?_) (fun c19 => ?_)
                    · skip
                      refine lv_aload_n hx hb dX12_laysPeals_104 rfl (lv_at hl 5 rfl) ?_
                      refine iv_getr X ft_X12 hB a_h0 sh_12 30 (by decide) rfl k_fl_X12_53 dX12_laysPeals_105 (fun b20 g_b20 r_b20 e_b20 a_b20 => ?_)
                      refine lv_bipush (v := 9) hx hb dX12_laysPeals_108 (by decide) ?_
                      refine lv_iload_n hx hb dX12_laysPeals_110 rfl (lv_at hl 3 rfl) ?_
                      refine iv_imul hx hb q_9 i7_x4 (lo := 0) (hi := 2295) (by decide) dX12_laysPeals_111 (fun x21 e_x21 i_x21 => ?_)
                      refine lv_iload_n hx hb dX12_laysPeals_112 rfl (lv_at hl 2 rfl) ?_
                      refine iv_iadd hx hb i_x21 i13_x9 (lo := 0) (hi := 2303) (by decide) dX12_laysPeals_113 (fun x22 e_x22 i_x22 => ?_)
                      refine lv_iload hx hb dX12_laysPeals_114 (lv_at hl 1 rfl) ?_
                      refine iv_ast X hB a_b20 sh_73 (iv_in i_x22 (by decide)) i_x16 dX12_laysPeals_116 (fun H locs hB => ?_)
                      have hm := iv_Md.ast (j := x22.toNatClampNeg) (x := x16) a_b20 rfl (by decide)
                      have h9 := iv_up_eq (G := G18) (a := b20) (k := (73, upd g_b20 x22.toNatClampNeg x16, r_b20))
                      generalize iv_up G18 b20 _ = G23 at hB hm h9
                      have hM := hM.stp hm (by decide)
                      have a_h0 := hm.at a_h0 (by decide)
                      refine iv_iinc hx hb i13_x9 (lo := 1) (hi := 9) (by decide) dX12_laysPeals_117 hl (k := 2) rfl (by decide) (fun x25 ls e_x25 i_x25 hl => ?_)
                      have hl : lv_has ls 6 [(3, .int x25), (5, .int x17), (4, .int x16), (2, .int x4), (1, .int x3), (0, .ref h0)] := hl
                      refine lv_goto (tgt := 17) hx hb dX12_laysPeals_120 (by decide) ?_
                      exact ih_17 G23 hM _ _ hB a_h0 x25 (i_x25.wk (by decide)) (iv_mup (c := 1) i_x9 (by decide) (by decide) (by omega) hn_17) _ (lv_sub hl [0, 3, 4, 5] rfl)
                    · skip
                      have i25_x17 : iv_R 0 7 x17 := (i_x17.cutHi (n := 7) (iv_lt_r (iv_nle c19) i_x1 (by decide)))
                      have i26_x1 : iv_R 1 8 x1 := (i_x1.cutLo (n := 1) (iv_lt_l (iv_nle c19) i_x17 (by decide)))
                      refine lv_iload_n hx hb dX12_laysPeals_47 rfl (lv_at hl 2 rfl) ?_
                      refine lv_bipush (v := 8) hx hb dX12_laysPeals_48 (by decide) ?_
                      refine lv_icmp_eq (tgt := 61) hx hb dX12_laysPeals_50 (by decide) (fun c28 => ?_) (fun c28 => ?_)
                      · skip
                        have i28_x9 : iv_R 8 8 x9 := (i13_x9.cutLo (n := 8) (iv_eq_r c28 q_8).1)
                        refine lv_iload hx hb dX12_laysPeals_61 (lv_at hl 1 rfl) ?_
                        refine lv_aload_n hx hb dX12_laysPeals_63 rfl (lv_at hl 5 rfl) ?_
                        refine lv_iload hx hb dX12_laysPeals_64 (lv_at hl 0 rfl) ?_
                        refine lv_iload_n hx hb dX12_laysPeals_66 rfl (lv_at hl 2 rfl) ?_
                        refine lv_iload_n hx hb dX12_laysPeals_67 rfl (lv_at hl 3 rfl) ?_
                        refine iv_cVi X k_good k_mf_X12_canFollow k_im_X12_canFollow k_sel_X12_canFollow k_ml_X12_450 ft_X12 hB a_h0 sh_12 (As := [.int x17, .int x9, .int x4]) (c_X12_canFollow l D tys base G18 h0 g_h0 r_h0 a_h0 x17 i25_x17 x9 (i28_x9.wk (by decide)) x4 i7_x4) ⟨rfl, rfl⟩ ⟨Nat.le_of_ble_eq_true rfl, Nat.le_of_ble_eq_true rfl⟩ ⟨Nat.le_of_ble_eq_true rfl, Nat.le_of_ble_eq_true rfl⟩ rfl rfl hl.1 (Nat.le_of_ble_eq_true rfl) dX12_laysPeals_68 (fun x30 G9 H locs hq hB => ?_)
                        obtain ⟨rfl, i_x30⟩ := hq
                        refine lv_if_eq (tgt := 94) hx hb dX12_laysPeals_71 (by decide) (fun c31 => ?_) (fun c31 => ?_)
                        · skip
                          have i31_x30 : iv_R 0 0 x30 := (i_x30.cutHi (n := 0) (iv_eq_r c31 q_0).2)
                          refine lv_iconst (v := 0) hx hb dX12_laysPeals_94 (by decide) ?_
                          refine iv_iadd hx hb i_x16 q_0 (lo := (-2147483648)) (hi := 2147483647) (by decide) dX12_laysPeals_95 (fun x33 e_x33 i_x33 => ?_)
                          refine lv_istore (lv' := [(4, .int x33), (5, .int x17), (3, .int x9), (2, .int x4), (1, .int x3), (0, .ref h0)]) hx hb dX12_laysPeals_96 hl (by decide) rfl (fun ls hl => ?_)
                          refine iv_iinc hx hb i25_x17 (lo := 1) (hi := 8) (by decide) dX12_laysPeals_98 hl (k := 1) rfl (by decide) (fun x34 ls e_x34 i_x34 hl => ?_)
                          have hl : lv_has ls 6 [(5, .int x34), (4, .int x33), (3, .int x9), (2, .int x4), (1, .int x3), (0, .ref h0)] := hl
                          refine lv_goto (tgt := 38) hx hb dX12_laysPeals_101 (by decide) ?_
                          exact ih_38 G18 hM _ _ hB a_h0 x33 i_x33 x34 (i_x34.wk (by decide)) (iv_mup (c := 1) i_x17 (by decide) (by decide) (by omega) hn_38) _ (lv_sub hl [0, 1, 2, 3, 4, 5] rfl)
                        · skip
                          have i34_x30 : iv_R 1 1 x30 := iv_ne_lo c31 i_x30 q_0 (by decide)
                          refine lv_aload_n hx hb dX12_laysPeals_74 rfl (lv_at hl 5 rfl) ?_
                          refine iv_getr X ft_X12 hB a_h0 sh_12 30 (by decide) rfl k_fl_X12_53 dX12_laysPeals_75 (fun b36 g_b36 r_b36 e_b36 a_b36 => ?_)
                          refine lv_bipush (v := 9) hx hb dX12_laysPeals_78 (by decide) ?_
                          refine lv_iload_n hx hb dX12_laysPeals_80 rfl (lv_at hl 3 rfl) ?_
                          refine lv_iconst (v := 1) hx hb dX12_laysPeals_81 (by decide) ?_
                          refine lv_iload hx hb dX12_laysPeals_82 (lv_at hl 0 rfl) ?_
                          refine iv_shl1 hx hb i25_x17 (lo := 1) (hi := 128) (by decide) dX12_laysPeals_84 (fun x37 e_x37 i_x37 => ?_)
                          refine iv_ior hx hb i7_x4 i_x37 (k := 8) (hi := 255) (by decide) dX12_laysPeals_85 (fun x38 e_x38 i_x38 => ?_)
                          refine iv_imul hx hb q_9 i_x38 (lo := 0) (hi := 2295) (by decide) dX12_laysPeals_86 (fun x39 e_x39 i_x39 => ?_)
                          refine lv_iload hx hb dX12_laysPeals_87 (lv_at hl 0 rfl) ?_
                          refine iv_iadd hx hb i_x39 i25_x17 (lo := 0) (hi := 2302) (by decide) dX12_laysPeals_89 (fun x40 e_x40 i_x40 => ?_)
                          refine iv_ald X hB a_b36 sh_73 (iv_in i_x40 (by decide)) dX12_laysPeals_90 (fun x41 e_x41 i_x41 => ?_)
                          refine lv_goto (tgt := 95) hx hb dX12_laysPeals_91 (by decide) ?_
                          refine lv_iadd hx hb dX12_laysPeals_95 ?_
                          refine lv_topi (fun x42 e_x42 => ?_)
                          have i_x42 := iv_R.all x42
                          refine lv_istore (lv' := [(4, .int x42), (5, .int x17), (3, .int x9), (2, .int x4), (1, .int x3), (0, .ref h0)]) hx hb dX12_laysPeals_96 hl (by decide) rfl (fun ls hl => ?_)
                          refine iv_iinc hx hb i25_x17 (lo := 1) (hi := 8) (by decide) dX12_laysPeals_98 hl (k := 1) rfl (by decide) (fun x43 ls e_x43 i_x43 hl => ?_)
                          have hl : lv_has ls 6 [(5, .int x43), (4, .int x42), (3, .int x9), (2, .int x4), (1, .int x3), (0, .ref h0)] := hl
                          refine lv_goto (tgt := 38) hx hb dX12_laysPeals_101 (by decide) ?_
                          exact ih_38 G18 hM _ _ hB a_h0 x42 i_x42 x43 (i_x43.wk (by decide)) (iv_mup (c := 1) i_x17 (by decide) (by decide) (by omega) hn_38) _ (lv_sub hl [0, 1, 2, 3, 4, 5] rfl)
                      · skip
                        have i43_x9 : iv_R 0 7 x9 := iv_ne_hi c28 i13_x9 q_8 (by decide)
                        refine lv_iload_n hx hb dX12_laysPeals_53 rfl (lv_at hl 2 rfl) ?_
                        refine lv_aload_n hx hb dX12_laysPeals_54 rfl (lv_at hl 5 rfl) ?_
                        refine iv_geti0 X ft_X12 hB a_h0 sh_12 31 (by decide) rfl k_fl_X12_447 dX12_laysPeals_55 e_x1 ?_
                        refine lv_icmp_ge (tgt := 104) hx hb dX12_laysPeals_58 (by decide) (fun c45 => ?_) (fun c45 => ?_)
                        · skip
                          have i45_x1 : iv_R 1 7 x1 := (i26_x1.cutHi (n := 7) (iv_le_r c45 i43_x9))
                          have i46_x9 : iv_R 1 7 x9 := (i43_x9.cutLo (n := 1) (iv_le_l c45 i26_x1))
                          refine lv_aload_n hx hb dX12_laysPeals_104 rfl (lv_at hl 5 rfl) ?_
                          refine iv_getr X ft_X12 hB a_h0 sh_12 30 (by decide) rfl k_fl_X12_53 dX12_laysPeals_105 (fun b48 g_b48 r_b48 e_b48 a_b48 => ?_)
                          refine lv_bipush (v := 9) hx hb dX12_laysPeals_108 (by decide) ?_
                          refine lv_iload_n hx hb dX12_laysPeals_110 rfl (lv_at hl 3 rfl) ?_
                          refine iv_imul hx hb q_9 i7_x4 (lo := 0) (hi := 2295) (by decide) dX12_laysPeals_111 (fun x49 e_x49 i_x49 => ?_)
                          refine lv_iload_n hx hb dX12_laysPeals_112 rfl (lv_at hl 2 rfl) ?_
                          refine iv_iadd hx hb i_x49 i46_x9 (lo := 1) (hi := 2302) (by decide) dX12_laysPeals_113 (fun x50 e_x50 i_x50 => ?_)
                          refine lv_iload hx hb dX12_laysPeals_114 (lv_at hl 1 rfl) ?_
                          refine iv_ast X hB a_b48 sh_73 (iv_in i_x50 (by decide)) i_x16 dX12_laysPeals_116 (fun H locs hB => ?_)
                          have hm := iv_Md.ast (j := x50.toNatClampNeg) (x := x16) a_b48 rfl (by decide)
                          have h9 := iv_up_eq (G := G18) (a := b48) (k := (73, upd g_b48 x50.toNatClampNeg x16, r_b48))
                          generalize iv_up G18 b48 _ = G51 at hB hm h9
                          have hM := hM.stp hm (by decide)
                          have a_h0 := hm.at a_h0 (by decide)
                          refine iv_iinc hx hb i46_x9 (lo := 2) (hi := 8) (by decide) dX12_laysPeals_117 hl (k := 2) rfl (by decide) (fun x53 ls e_x53 i_x53 hl => ?_)
                          have hl : lv_has ls 6 [(3, .int x53), (5, .int x17), (4, .int x16), (2, .int x4), (1, .int x3), (0, .ref h0)] := hl
                          refine lv_goto (tgt := 17) hx hb dX12_laysPeals_120 (by decide) ?_
                          exact ih_17 G51 hM _ _ hB a_h0 x53 (i_x53.wk (by decide)) (iv_mup (c := 1) i_x9 (by decide) (by decide) (by omega) hn_17) _ (lv_sub hl [0, 3, 4, 5] rfl)
                        · skip
                          refine lv_iload hx hb dX12_laysPeals_61 (lv_at hl 1 rfl) ?_
                          refine lv_aload_n hx hb dX12_laysPeals_63 rfl (lv_at hl 5 rfl) ?_
                          refine lv_iload hx hb dX12_laysPeals_64 (lv_at hl 0 rfl) ?_
                          refine lv_iload_n hx hb dX12_laysPeals_66 rfl (lv_at hl 2 rfl) ?_
                          refine lv_iload_n hx hb dX12_laysPeals_67 rfl (lv_at hl 3 rfl) ?_
                          refine iv_cVi X k_good k_mf_X12_canFollow k_im_X12_canFollow k_sel_X12_canFollow k_ml_X12_450 ft_X12 hB a_h0 sh_12 (As := [.int x17, .int x9, .int x4]) (c_X12_canFollow l D tys base G18 h0 g_h0 r_h0 a_h0 x17 i25_x17 x9 (i43_x9.wk (by decide)) x4 i7_x4) ⟨rfl, rfl⟩ ⟨Nat.le_of_ble_eq_true rfl, Nat.le_of_ble_eq_true rfl⟩ ⟨Nat.le_of_ble_eq_true rfl, Nat.le_of_ble_eq_true rfl⟩ rfl rfl hl.1 (Nat.le_of_ble_eq_true rfl) dX12_laysPeals_68 (fun x54 G9 H locs hq hB => ?_)
                          obtain ⟨rfl, i_x54⟩ := hq
                          refine lv_if_eq (tgt := 94) hx hb dX12_laysPeals_71 (by decide) (fun c55 => ?_) (fun c55 => ?_)
                          · skip
                            have i55_x54 : iv_R 0 0 x54 := (i_x54.cutHi (n := 0) (iv_eq_r c55 q_0).2)
                            refine lv_iconst (v := 0) hx hb dX12_laysPeals_94 (by decide) ?_
                            refine iv_iadd hx hb i_x16 q_0 (lo := (-2147483648)) (hi := 2147483647) (by decide) dX12_laysPeals_95 (fun x57 e_x57 i_x57 => ?_)
                            refine lv_istore (lv' := [(4, .int x57), (5, .int x17), (3, .int x9), (2, .int x4), (1, .int x3), (0, .ref h0)]) hx hb dX12_laysPeals_96 hl (by decide) rfl (fun ls hl => ?_)
                            refine iv_iinc hx hb i25_x17 (lo := 1) (hi := 8) (by decide) dX12_laysPeals_98 hl (k := 1) rfl (by decide) (fun x58 ls e_x58 i_x58 hl => ?_)
                            have hl : lv_has ls 6 [(5, .int x58), (4, .int x57), (3, .int x9), (2, .int x4), (1, .int x3), (0, .ref h0)] := hl
                            refine lv_goto (tgt := 38) hx hb dX12_laysPeals_101 (by decide) ?_
                            exact ih_38 G18 hM _ _ hB a_h0 x57 i_x57 x58 (i_x58.wk (by decide)) (iv_mup (c := 1) i_x17 (by decide) (by decide) (by omega) hn_38) _ (lv_sub hl [0, 1, 2, 3, 4, 5] rfl)
                          · skip
                            have i58_x54 : iv_R 1 1 x54 := iv_ne_lo c55 i_x54 q_0 (by decide)
                            refine lv_aload_n hx hb dX12_laysPeals_74 rfl (lv_at hl 5 rfl) ?_
                            refine iv_getr X ft_X12 hB a_h0 sh_12 30 (by decide) rfl k_fl_X12_53 dX12_laysPeals_75 (fun b60 g_b60 r_b60 e_b60 a_b60 => ?_)
                            refine lv_bipush (v := 9) hx hb dX12_laysPeals_78 (by decide) ?_
                            refine lv_iload_n hx hb dX12_laysPeals_80 rfl (lv_at hl 3 rfl) ?_
                            refine lv_iconst (v := 1) hx hb dX12_laysPeals_81 (by decide) ?_
                            refine lv_iload hx hb dX12_laysPeals_82 (lv_at hl 0 rfl) ?_
                            refine iv_shl1 hx hb i25_x17 (lo := 1) (hi := 128) (by decide) dX12_laysPeals_84 (fun x61 e_x61 i_x61 => ?_)
                            refine iv_ior hx hb i7_x4 i_x61 (k := 8) (hi := 255) (by decide) dX12_laysPeals_85 (fun x62 e_x62 i_x62 => ?_)
                            refine iv_imul hx hb q_9 i_x62 (lo := 0) (hi := 2295) (by decide) dX12_laysPeals_86 (fun x63 e_x63 i_x63 => ?_)
                            refine lv_iload hx hb dX12_laysPeals_87 (lv_at hl 0 rfl) ?_
                            refine iv_iadd hx hb i_x63 i25_x17 (lo := 0) (hi := 2302) (by decide) dX12_laysPeals_89 (fun x64 e_x64 i_x64 => ?_)
                            refine iv_ald X hB a_b60 sh_73 (iv_in i_x64 (by decide)) dX12_laysPeals_90 (fun x65 e_x65 i_x65 => ?_)
                            refine lv_goto (tgt := 95) hx hb dX12_laysPeals_91 (by decide) ?_
                            refine lv_iadd hx hb dX12_laysPeals_95 ?_
                            refine lv_topi (fun x66 e_x66 => ?_)
                            have i_x66 := iv_R.all x66
                            refine lv_istore (lv' := [(4, .int x66), (5, .int x17), (3, .int x9), (2, .int x4), (1, .int x3), (0, .ref h0)]) hx hb dX12_laysPeals_96 hl (by decide) rfl (fun ls hl => ?_)
                            refine iv_iinc hx hb i25_x17 (lo := 1) (hi := 8) (by decide) dX12_laysPeals_98 hl (k := 1) rfl (by decide) (fun x67 ls e_x67 i_x67 hl => ?_)
                            have hl : lv_has ls 6 [(5, .int x67), (4, .int x66), (3, .int x9), (2, .int x4), (1, .int x3), (0, .ref h0)] := hl
                            refine lv_goto (tgt := 38) hx hb dX12_laysPeals_101 (by decide) ?_
                            exact ih_38 G18 hM _ _ hB a_h0 x66 i_x66 x67 (i_x67.wk (by decide)) (iv_mup (c := 1) i_x17 (by decide) (by decide) (by omega) hn_38) _ (lv_sub hl [0, 1, 2, 3, 4, 5] rfl)
                exact L_38 _ G10 hM _ _ hB a_h0 0 (q_0.wk (by decide)) 0 (q_0.wk (by decide)) (Nat.lt_succ_self _) _ (lv_sub hl [0, 1, 2, 3, 4, 5] rfl)
              · skip
                refine lv_iconst (v := 1) hx hb dX12_laysPeals_28 (by decide) ?_
                refine lv_goto (tgt := 33) hx hb dX12_laysPeals_29 (by decide) ?_
                refine lv_istore (lv' := [(4, .int 1), (3, .int x9), (2, .int x4), (1, .int x3), (0, .ref h0)]) hx hb dX12_laysPeals_33 hl (by decide) rfl (fun ls hl => ?_)
                refine lv_iconst (v := 0) hx hb dX12_laysPeals_35 (by decide) ?_
                refine lv_istore (lv' := [(5, .int 0), (4, .int 1), (3, .int x9), (2, .int x4), (1, .int x3), (0, .ref h0)]) hx hb dX12_laysPeals_36 hl (by decide) rfl (fun ls hl => ?_)
                have L_38 : ∀ (n_38 : Nat) (G70 : iv_G) (hM : iv_Md [73] G G70) (H : Heap) (locs : List Loc) (hB : iv_B iv_sh D classes tys base G70 s.heap H locs) (a_h0 : G70 h0 = some (12, g_h0, r_h0)) (x68 : Int32) (i_x68 : iv_R (-2147483648) 2147483647 x68) (x69 : Int32) (i_x69 : iv_R 0 8 x69) (hn_38 : (9 - x69.toInt).toNat < n_38) (ls : Array Slot) (hl : lv_has ls 6 [(5, .int x69), (4, .int x68), (3, .int x9), (2, .int x4), (1, .int x3), (0, .ref h0)]), W p l e ({ frames := 2, cells := 0, slots := 0, locals := 45 } : Room) s m args below meth c H locs 0 0 (MQ below (iv_Qv iv_sh D classes tys base (fun G' => iv_Md [73] G G')) args s 0 0 (iv_A base)) (F0 m 38 ls []) := by
                  intro n_38
                  induction n_38 with
                  | zero => intro G70 hM H locs hB a_h0 x68 i_x68 x69 i_x69 hn_38 ls hl; exact absurd hn_38 (Nat.not_lt_zero _)
                  | succ n_38 ih_38 =>
                    intro G70 hM H locs hB a_h0 x68 i_x68 x69 i_x69 hn_38 ls hl
                    refine lv_iload hx hb dX12_laysPeals_38 (lv_at hl 0 rfl) ?_
                    refine lv_aload_n hx hb dX12_laysPeals_40 rfl (lv_at hl 5 rfl) ?_
                    refine iv_geti0 X ft_X12 hB a_h0 sh_12 31 (by decide) rfl k_fl_X12_447 dX12_laysPeals_41 e_x1 ?_
                    refine lv_icmp_ge (tgt := 104) hx hb dX12_laysPeals_44 (by decide) (fun c71 => ?_) (fun c71 => ?_)
                    · skip
                      refine lv_aload_n hx hb dX12_laysPeals_104 rfl (lv_at hl 5 rfl) ?_
                      refine iv_getr X ft_X12 hB a_h0 sh_12 30 (by decide) rfl k_fl_X12_53 dX12_laysPeals_105 (fun b72 g_b72 r_b72 e_b72 a_b72 => ?_)
                      refine lv_bipush (v := 9) hx hb dX12_laysPeals_108 (by decide) ?_
                      refine lv_iload_n hx hb dX12_laysPeals_110 rfl (lv_at hl 3 rfl) ?_
                      refine iv_imul hx hb q_9 i7_x4 (lo := 0) (hi := 2295) (by decide) dX12_laysPeals_111 (fun x73 e_x73 i_x73 => ?_)
                      refine lv_iload_n hx hb dX12_laysPeals_112 rfl (lv_at hl 2 rfl) ?_
                      refine iv_iadd hx hb i_x73 i13_x9 (lo := 0) (hi := 2303) (by decide) dX12_laysPeals_113 (fun x74 e_x74 i_x74 => ?_)
                      refine lv_iload hx hb dX12_laysPeals_114 (lv_at hl 1 rfl) ?_
                      refine iv_ast X hB a_b72 sh_73 (iv_in i_x74 (by decide)) i_x68 dX12_laysPeals_116 (fun H locs hB => ?_)
                      have hm := iv_Md.ast (j := x74.toNatClampNeg) (x := x68) a_b72 rfl (by decide)
                      have h9 := iv_up_eq (G := G70) (a := b72) (k := (73, upd g_b72 x74.toNatClampNeg x68, r_b72))
                      generalize iv_up G70 b72 _ = G75 at hB hm h9
                      have hM := hM.stp hm (by decide)
                      have a_h0 := hm.at a_h0 (by decide)
                      refine iv_iinc hx hb i13_x9 (lo := 1) (hi := 9) (by decide) dX12_laysPeals_117 hl (k := 2) rfl (by decide) (fun x77 ls e_x77 i_x77 hl => ?_)
                      have hl : lv_has ls 6 [(3, .int x77), (5, .int x69), (4, .int x68), (2, .int x4), (1, .int x3), (0, .ref h0)] := hl
                      refine lv_goto (tgt := 17) hx hb dX12_laysPeals_120 (by decide) ?_
                      exact ih_17 G75 hM _ _ hB a_h0 x77 (i_x77.wk (by decide)) (iv_mup (c := 1) i_x9 (by decide) (by decide) (by omega) hn_17) _ (lv_sub hl [0, 3, 4, 5] rfl)
                    · skip
                      have i77_x69 : iv_R 0 7 x69 := (i_x69.cutHi (n := 7) (iv_lt_r (iv_nle c71) i_x1 (by decide)))
                      have i78_x1 : iv_R 1 8 x1 := (i_x1.cutLo (n := 1) (iv_lt_l (iv_nle c71) i_x69 (by decide)))
                      refine lv_iload_n hx hb dX12_laysPeals_47 rfl (lv_at hl 2 rfl) ?_
                      refine lv_bipush (v := 8) hx hb dX12_laysPeals_48 (by decide) ?_
                      refine lv_icmp_eq (tgt := 61) hx hb dX12_laysPeals_50 (by decide) (fun c80 => ?_) (fun c80 => ?_)
                      · skip
                        have i80_x9 : iv_R 8 8 x9 := (i13_x9.cutLo (n := 8) (iv_eq_r c80 q_8).1)
                        refine lv_iload hx hb dX12_laysPeals_61 (lv_at hl 1 rfl) ?_
                        refine lv_aload_n hx hb dX12_laysPeals_63 rfl (lv_at hl 5 rfl) ?_
                        refine lv_iload hx hb dX12_laysPeals_64 (lv_at hl 0 rfl) ?_
                        refine lv_iload_n hx hb dX12_laysPeals_66 rfl (lv_at hl 2 rfl) ?_
                        refine lv_iload_n hx hb dX12_laysPeals_67 rfl (lv_at hl 3 rfl) ?_
                        refine iv_cVi X k_good k_mf_X12_canFollow k_im_X12_canFollow k_sel_X12_canFollow k_ml_X12_450 ft_X12 hB a_h0 sh_12 (As := [.int x69, .int x9, .int x4]) (c_X12_canFollow l D tys base G70 h0 g_h0 r_h0 a_h0 x69 i77_x69 x9 (i80_x9.wk (by decide)) x4 i7_x4) ⟨rfl, rfl⟩ ⟨Nat.le_of_ble_eq_true rfl, Nat.le_of_ble_eq_true rfl⟩ ⟨Nat.le_of_ble_eq_true rfl, Nat.le_of_ble_eq_true rfl⟩ rfl rfl hl.1 (Nat.le_of_ble_eq_true rfl) dX12_laysPeals_68 (fun x82 G9 H locs hq hB => ?_)
                        obtain ⟨rfl, i_x82⟩ := hq
                        refine lv_if_eq (tgt := 94) hx hb dX12_laysPeals_71 (by decide) (fun c83 => ?_) (fun c83 => ?_)
                        · skip
                          have i83_x82 : iv_R 0 0 x82 := (i_x82.cutHi (n := 0) (iv_eq_r c83 q_0).2)
                          refine lv_iconst (v := 0) hx hb dX12_laysPeals_94 (by decide) ?_
                          refine iv_iadd hx hb i_x68 q_0 (lo := (-2147483648)) (hi := 2147483647) (by decide) dX12_laysPeals_95 (fun x85 e_x85 i_x85 => ?_)
                          refine lv_istore (lv' := [(4, .int x85), (5, .int x69), (3, .int x9), (2, .int x4), (1, .int x3), (0, .ref h0)]) hx hb dX12_laysPeals_96 hl (by decide) rfl (fun ls hl => ?_)
                          refine iv_iinc hx hb i77_x69 (lo := 1) (hi := 8) (by decide) dX12_laysPeals_98 hl (k := 1) rfl (by decide) (fun x86 ls e_x86 i_x86 hl => ?_)
                          have hl : lv_has ls 6 [(5, .int x86), (4, .int x85), (3, .int x9), (2, .int x4), (1, .int x3), (0, .ref h0)] := hl
                          refine lv_goto (tgt := 38) hx hb dX12_laysPeals_101 (by decide) ?_
                          exact ih_38 G70 hM _ _ hB a_h0 x85 i_x85 x86 (i_x86.wk (by decide)) (iv_mup (c := 1) i_x69 (by decide) (by decide) (by omega) hn_38) _ (lv_sub hl [0, 1, 2, 3, 4, 5] rfl)
                        · skip
                          have i86_x82 : iv_R 1 1 x82 := iv_ne_lo c83 i_x82 q_0 (by decide)
                          refine lv_aload_n hx hb dX12_laysPeals_74 rfl (lv_at hl 5 rfl) ?_
                          refine iv_getr X ft_X12 hB a_h0 sh_12 30 (by decide) rfl k_fl_X12_53 dX12_laysPeals_75 (fun b88 g_b88 r_b88 e_b88 a_b88 => ?_)
                          refine lv_bipush (v := 9) hx hb dX12_laysPeals_78 (by decide) ?_
                          refine lv_iload_n hx hb dX12_laysPeals_80 rfl (lv_at hl 3 rfl) ?_
                          refine lv_iconst (v := 1) hx hb dX12_laysPeals_81 (by decide) ?_
                          refine lv_iload hx hb dX12_laysPeals_82 (lv_at hl 0 rfl) ?_
                          refine iv_shl1 hx hb i77_x69 (lo := 1) (hi := 128) (by decide) dX12_laysPeals_84 (fun x89 e_x89 i_x89 => ?_)
                          refine iv_ior hx hb i7_x4 i_x89 (k := 8) (hi := 255) (by decide) dX12_laysPeals_85 (fun x90 e_x90 i_x90 => ?_)
                          refine iv_imul hx hb q_9 i_x90 (lo := 0) (hi := 2295) (by decide) dX12_laysPeals_86 (fun x91 e_x91 i_x91 => ?_)
                          refine lv_iload hx hb dX12_laysPeals_87 (lv_at hl 0 rfl) ?_
                          refine iv_iadd hx hb i_x91 i77_x69 (lo := 0) (hi := 2302) (by decide) dX12_laysPeals_89 (fun x92 e_x92 i_x92 => ?_)
                          refine iv_ald X hB a_b88 sh_73 (iv_in i_x92 (by decide)) dX12_laysPeals_90 (fun x93 e_x93 i_x93 => ?_)
                          refine lv_goto (tgt := 95) hx hb dX12_laysPeals_91 (by decide) ?_
                          refine lv_iadd hx hb dX12_laysPeals_95 ?_
                          refine lv_topi (fun x94 e_x94 => ?_)
                          have i_x94 := iv_R.all x94
                          refine lv_istore (lv' := [(4, .int x94), (5, .int x69), (3, .int x9), (2, .int x4), (1, .int x3), (0, .ref h0)]) hx hb dX12_laysPeals_96 hl (by decide) rfl (fun ls hl => ?_)
                          refine iv_iinc hx hb i77_x69 (lo := 1) (hi := 8) (by decide) dX12_laysPeals_98 hl (k := 1) rfl (by decide) (fun x95 ls e_x95 i_x95 hl => ?_)
                          have hl : lv_has ls 6 [(5, .int x95), (4, .int x94), (3, .int x9), (2, .int x4), (1, .int x3), (0, .ref h0)] := hl
                          refine lv_goto (tgt := 38) hx hb dX12_laysPeals_101 (by decide) ?_
                          exact ih_38 G70 hM _ _ hB a_h0 x94 i_x94 x95 (i_x95.wk (by decide)) (iv_mup (c := 1) i_x69 (by decide) (by decide) (by omega) hn_38) _ (lv_sub hl [0, 1, 2, 3, 4, 5] rfl)
                      · skip
                        have i95_x9 : iv_R 0 7 x9 := iv_ne_hi c80 i13_x9 q_8 (by decide)
                        refine lv_iload_n hx hb dX12_laysPeals_53 rfl (lv_at hl 2 rfl) ?_
                        refine lv_aload_n hx hb dX12_laysPeals_54 rfl (lv_at hl 5 rfl) ?_
                        refine iv_geti0 X ft_X12 hB a_h0 sh_12 31 (by decide) rfl k_fl_X12_447 dX12_laysPeals_55 e_x1 ?_
                        refine lv_icmp_ge (tgt := 104) hx hb dX12_laysPeals_58 (by decide) (fun c97 => ?_) (fun c97 => ?_)
                        · skip
                          have i97_x1 : iv_R 1 7 x1 := (i78_x1.cutHi (n := 7) (iv_le_r c97 i95_x9))
                          have i98_x9 : iv_R 1 7 x9 := (i95_x9.cutLo (n := 1) (iv_le_l c97 i78_x1))
                          refine lv_aload_n hx hb dX12_laysPeals_104 rfl (lv_at hl 5 rfl) ?_
                          refine iv_getr X ft_X12 hB a_h0 sh_12 30 (by decide) rfl k_fl_X12_53 dX12_laysPeals_105 (fun b100 g_b100 r_b100 e_b100 a_b100 => ?_)
                          refine lv_bipush (v := 9) hx hb dX12_laysPeals_108 (by decide) ?_
                          refine lv_iload_n hx hb dX12_laysPeals_110 rfl (lv_at hl 3 rfl) ?_
                          refine iv_imul hx hb q_9 i7_x4 (lo := 0) (hi := 2295) (by decide) dX12_laysPeals_111 (fun x101 e_x101 i_x101 => ?_)
                          refine lv_iload_n hx hb dX12_laysPeals_112 rfl (lv_at hl 2 rfl) ?_
                          refine iv_iadd hx hb i_x101 i98_x9 (lo := 1) (hi := 2302) (by decide) dX12_laysPeals_113 (fun x102 e_x102 i_x102 => ?_)
                          refine lv_iload hx hb dX12_laysPeals_114 (lv_at hl 1 rfl) ?_
                          refine iv_ast X hB a_b100 sh_73 (iv_in i_x102 (by decide)) i_x68 dX12_laysPeals_116 (fun H locs hB => ?_)
                          have hm := iv_Md.ast (j := x102.toNatClampNeg) (x := x68) a_b100 rfl (by decide)
                          have h9 := iv_up_eq (G := G70) (a := b100) (k := (73, upd g_b100 x102.toNatClampNeg x68, r_b100))
                          generalize iv_up G70 b100 _ = G103 at hB hm h9
                          have hM := hM.stp hm (by decide)
                          have a_h0 := hm.at a_h0 (by decide)
                          refine iv_iinc hx hb i98_x9 (lo := 2) (hi := 8) (by decide) dX12_laysPeals_117 hl (k := 2) rfl (by decide) (fun x105 ls e_x105 i_x105 hl => ?_)
                          have hl : lv_has ls 6 [(3, .int x105), (5, .int x69), (4, .int x68), (2, .int x4), (1, .int x3), (0, .ref h0)] := hl
                          refine lv_goto (tgt := 17) hx hb dX12_laysPeals_120 (by decide) ?_
                          exact ih_17 G103 hM _ _ hB a_h0 x105 (i_x105.wk (by decide)) (iv_mup (c := 1) i_x9 (by decide) (by decide) (by omega) hn_17) _ (lv_sub hl [0, 3, 4, 5] rfl)
                        · skip
                          refine lv_iload hx hb dX12_laysPeals_61 (lv_at hl 1 rfl) ?_
                          refine lv_aload_n hx hb dX12_laysPeals_63 rfl (lv_at hl 5 rfl) ?_
                          refine lv_iload hx hb dX12_laysPeals_64 (lv_at hl 0 rfl) ?_
                          refine lv_iload_n hx hb dX12_laysPeals_66 rfl (lv_at hl 2 rfl) ?_
                          refine lv_iload_n hx hb dX12_laysPeals_67 rfl (lv_at hl 3 rfl) ?_
                          refine iv_cVi X k_good k_mf_X12_canFollow k_im_X12_canFollow k_sel_X12_canFollow k_ml_X12_450 ft_X12 hB a_h0 sh_12 (As := [.int x69, .int x9, .int x4]) (c_X12_canFollow l D tys base G70 h0 g_h0 r_h0 a_h0 x69 i77_x69 x9 (i95_x9.wk (by decide)) x4 i7_x4) ⟨rfl, rfl⟩ ⟨Nat.le_of_ble_eq_true rfl, Nat.le_of_ble_eq_true rfl⟩ ⟨Nat.le_of_ble_eq_true rfl, Nat.le_of_ble_eq_true rfl⟩ rfl rfl hl.1 (Nat.le_of_ble_eq_true rfl) dX12_laysPeals_68 (fun x106 G9 H locs hq hB => ?_)
                          obtain ⟨rfl, i_x106⟩ := hq
                          refine lv_if_eq (tgt := 94) hx hb dX12_laysPeals_71 (by decide) (fun c107 => ?_) (fun c107 => ?_)
                          · skip
                            have i107_x106 : iv_R 0 0 x106 := (i_x106.cutHi (n := 0) (iv_eq_r c107 q_0).2)
                            refine lv_iconst (v := 0) hx hb dX12_laysPeals_94 (by decide) ?_
                            refine iv_iadd hx hb i_x68 q_0 (lo := (-2147483648)) (hi := 2147483647) (by decide) dX12_laysPeals_95 (fun x109 e_x109 i_x109 => ?_)
                            refine lv_istore (lv' := [(4, .int x109), (5, .int x69), (3, .int x9), (2, .int x4), (1, .int x3), (0, .ref h0)]) hx hb dX12_laysPeals_96 hl (by decide) rfl (fun ls hl => ?_)
                            refine iv_iinc hx hb i77_x69 (lo := 1) (hi := 8) (by decide) dX12_laysPeals_98 hl (k := 1) rfl (by decide) (fun x110 ls e_x110 i_x110 hl => ?_)
                            have hl : lv_has ls 6 [(5, .int x110), (4, .int x109), (3, .int x9), (2, .int x4), (1, .int x3), (0, .ref h0)] := hl
                            refine lv_goto (tgt := 38) hx hb dX12_laysPeals_101 (by decide) ?_
                            exact ih_38 G70 hM _ _ hB a_h0 x109 i_x109 x110 (i_x110.wk (by decide)) (iv_mup (c := 1) i_x69 (by decide) (by decide) (by omega) hn_38) _ (lv_sub hl [0, 1, 2, 3, 4, 5] rfl)
                          · skip
                            have i110_x106 : iv_R 1 1 x106 := iv_ne_lo c107 i_x106 q_0 (by decide)
                            refine lv_aload_n hx hb dX12_laysPeals_74 rfl (lv_at hl 5 rfl) ?_
                            refine iv_getr X ft_X12 hB a_h0 sh_12 30 (by decide) rfl k_fl_X12_53 dX12_laysPeals_75 (fun b112 g_b112 r_b112 e_b112 a_b112 => ?_)
                            refine lv_bipush (v := 9) hx hb dX12_laysPeals_78 (by decide) ?_
                            refine lv_iload_n hx hb dX12_laysPeals_80 rfl (lv_at hl 3 rfl) ?_
                            refine lv_iconst (v := 1) hx hb dX12_laysPeals_81 (by decide) ?_
                            refine lv_iload hx hb dX12_laysPeals_82 (lv_at hl 0 rfl) ?_
                            refine iv_shl1 hx hb i77_x69 (lo := 1) (hi := 128) (by decide) dX12_laysPeals_84 (fun x113 e_x113 i_x113 => ?_)
                            refine iv_ior hx hb i7_x4 i_x113 (k := 8) (hi := 255) (by decide) dX12_laysPeals_85 (fun x114 e_x114 i_x114 => ?_)
                            refine iv_imul hx hb q_9 i_x114 (lo := 0) (hi := 2295) (by decide) dX12_laysPeals_86 (fun x115 e_x115 i_x115 => ?_)
                            refine lv_iload hx hb dX12_laysPeals_87 (lv_at hl 0 rfl) ?_
                            refine iv_iadd hx hb i_x115 i77_x69 (lo := 0) (hi := 2302) (by decide) dX12_laysPeals_89 (fun x116 e_x116 i_x116 => ?_)
                            refine iv_ald X hB a_b112 sh_73 (iv_in i_x116 (by decide)) dX12_laysPeals_90 (fun x117 e_x117 i_x117 => ?_)
                            refine lv_goto (tgt := 95) hx hb dX12_laysPeals_91 (by decide) ?_
                            refine lv_iadd hx hb dX12_laysPeals_95 ?_
                            refine lv_topi (fun x118 e_x118 => ?_)
                            have i_x118 := iv_R.all x118
                            refine lv_istore (lv' := [(4, .int x118), (5, .int x69), (3, .int x9), (2, .int x4), (1, .int x3), (0, .ref h0)]) hx hb dX12_laysPeals_96 hl (by decide) rfl (fun ls hl => ?_)
                            refine iv_iinc hx hb i77_x69 (lo := 1) (hi := 8) (by decide) dX12_laysPeals_98 hl (k := 1) rfl (by decide) (fun x119 ls e_x119 i_x119 hl => ?_)
                            have hl : lv_has ls 6 [(5, .int x119), (4, .int x118), (3, .int x9), (2, .int x4), (1, .int x3), (0, .ref h0)] := hl
                            refine lv_goto (tgt := 38) hx hb dX12_laysPeals_101 (by decide) ?_
                            exact ih_38 G70 hM _ _ hB a_h0 x118 i_x118 x119 (i_x119.wk (by decide)) (iv_mup (c := 1) i_x69 (by decide) (by decide) (by omega) hn_38) _ (lv_sub hl [0, 1, 2, 3, 4, 5] rfl)
                exact L_38 _ G10 hM _ _ hB a_h0 1 (q_1.wk (by decide)) 0 (q_0.wk (by decide)) (Nat.lt_succ_self _) _ (lv_sub hl [0, 1, 2, 3, 4, 5] rfl)
        exact L_17 _ G5 hM _ _ hB a_h0 0 (q_0.wk (by decide)) (Nat.lt_succ_self _) _ (lv_sub hl [0, 1, 2, 3] rfl)
  exact L_11 _ G hM _ _ hB a_h0 x3 (i_x3.wk (by decide)) (Nat.lt_succ_self _) _ (lv_sub hl [0, 1, 2] rfl)
theorem dX12_soundingOf_0 : decode cX12_soundingOf 0 = .ok (.iconst 0, 1) := by decide +kernel
theorem dX12_soundingOf_1 : decode cX12_soundingOf 1 = .ok (.istore_n 2, 1) := by decide +kernel
theorem dX12_soundingOf_2 : decode cX12_soundingOf 2 = .ok (.iconst 0, 1) := by decide +kernel
theorem dX12_soundingOf_3 : decode cX12_soundingOf 3 = .ok (.istore_n 3, 1) := by decide +kernel
theorem dX12_soundingOf_4 : decode cX12_soundingOf 4 = .ok (.iload_n 3, 1) := by decide +kernel
theorem dX12_soundingOf_5 : decode cX12_soundingOf 5 = .ok (.bipush 24, 2) := by decide +kernel
theorem dX12_soundingOf_7 : decode cX12_soundingOf 7 = .ok (.if_icmp .ge 28, 3) := by decide +kernel
theorem dX12_soundingOf_10 : decode cX12_soundingOf 10 = .ok (.iload_n 2, 1) := by decide +kernel
theorem dX12_soundingOf_11 : decode cX12_soundingOf 11 = .ok (.aload_n 0, 1) := by decide +kernel
theorem dX12_soundingOf_12 : decode cX12_soundingOf 12 = .ok (.iload_n 1, 1) := by decide +kernel
theorem dX12_soundingOf_13 : decode cX12_soundingOf 13 = .ok (.iload_n 3, 1) := by decide +kernel
theorem dX12_soundingOf_14 : decode cX12_soundingOf 14 = .ok (.invokevirtual 302, 3) := by decide +kernel
theorem dX12_soundingOf_17 : decode cX12_soundingOf 17 = .ok (.ifCond .eq 9, 3) := by decide +kernel
theorem dX12_soundingOf_20 : decode cX12_soundingOf 20 = .ok (.iconst 1, 1) := by decide +kernel
theorem dX12_soundingOf_21 : decode cX12_soundingOf 21 = .ok (.iload_n 3, 1) := by decide +kernel
theorem dX12_soundingOf_22 : decode cX12_soundingOf 22 = .ok (.ishl, 1) := by decide +kernel
theorem dX12_soundingOf_23 : decode cX12_soundingOf 23 = .ok (.goto 4, 3) := by decide +kernel
theorem dX12_soundingOf_26 : decode cX12_soundingOf 26 = .ok (.iconst 0, 1) := by decide +kernel
theorem dX12_soundingOf_27 : decode cX12_soundingOf 27 = .ok (.ior, 1) := by decide +kernel
theorem dX12_soundingOf_28 : decode cX12_soundingOf 28 = .ok (.istore_n 2, 1) := by decide +kernel
theorem dX12_soundingOf_29 : decode cX12_soundingOf 29 = .ok (.iinc 3 1, 3) := by decide +kernel
theorem dX12_soundingOf_32 : decode cX12_soundingOf 32 = .ok (.goto (-28), 3) := by decide +kernel
theorem dX12_soundingOf_35 : decode cX12_soundingOf 35 = .ok (.iload_n 2, 1) := by decide +kernel
theorem dX12_soundingOf_36 : decode cX12_soundingOf 36 = .ok (.ireturn, 1) := by decide +kernel
set_option maxHeartbeats 4000000 in
set_option maxRecDepth 100000 in
theorem c_X12_soundingOf (l : Launch) (D : va_G) (tys : List (ClassId × FieldType)) (base : Nat) (G : iv_G) (h0 : Nat) (g_h0 : Nat → Int32) (r_h0 : Nat → Nat) (a_h0 : G h0 = some (12, g_h0, r_h0)) (x_0 : Int32) (i_x_0 : iv_R 0 9 x_0) : Met l yX12_soundingOf (Cond.code yX12_soundingOf cX12_soundingOf 4 (some .int) :: iv_W0) ({ frames := 3, cells := 0, slots := 0, locals := 67 }) (iv_Pc iv_sh D classes tys base G [.ref h0, .int x_0]) (iv_Qi iv_sh D classes tys base (fun v G' => G = G' ∧ iv_R 0 16777215 v)) 0 0 (iv_A base) := by
  refine iv_head (by decide) (Nat.le_of_ble_eq_true rfl) ?_
  intro p e s m args below meth c ls X hr hlocks hname hB hl
  have X := X
  have hx := X.1.1
  have hb := X.1.2.1
  have hl : lv_has ls 4 [(0, .ref h0), (1, .int x_0)] := hl
  refine lv_iconst (v := 0) hx hb dX12_soundingOf_0 (by decide) ?_
  refine lv_istore_n (lv' := [(2, .int 0), (0, .ref h0), (1, .int x_0)]) hx hb dX12_soundingOf_1 rfl hl (by decide) rfl (fun ls hl => ?_)
  refine lv_iconst (v := 0) hx hb dX12_soundingOf_2 (by decide) ?_
  refine lv_istore_n (lv' := [(3, .int 0), (2, .int 0), (0, .ref h0), (1, .int x_0)]) hx hb dX12_soundingOf_3 rfl hl (by decide) rfl (fun ls hl => ?_)
  have L_4 : ∀ (n_4 : Nat) (H : Heap) (locs : List Loc) (hB : iv_B iv_sh D classes tys base G s.heap H locs) (x1 : Int32) (i_x1 : iv_R 0 16777215 x1) (x2 : Int32) (i_x2 : iv_R 0 24 x2) (hn_4 : (25 - x2.toInt).toNat < n_4) (ls : Array Slot) (hl : lv_has ls 4 [(3, .int x2), (2, .int x1), (0, .ref h0), (1, .int x_0)]), W p l e ({ frames := 3, cells := 0, slots := 0, locals := 67 } : Room) s m args below meth c H locs 0 0 (MQ below (iv_Qi iv_sh D classes tys base (fun v G' => G = G' ∧ iv_R 0 16777215 v)) args s 0 0 (iv_A base)) (F0 m 4 ls []) := by
    intro n_4
    induction n_4 with
    | zero => intro H locs hB x1 i_x1 x2 i_x2 hn_4 ls hl; exact absurd hn_4 (Nat.not_lt_zero _)
    | succ n_4 ih_4 =>
      intro H locs hB x1 i_x1 x2 i_x2 hn_4 ls hl
      refine lv_iload_n hx hb dX12_soundingOf_4 rfl (lv_at hl 0 rfl) ?_
      refine lv_bipush (v := 24) hx hb dX12_soundingOf_5 (by decide) ?_
      refine lv_icmp_ge (tgt := 35) hx hb dX12_soundingOf_7 (by decide) (fun c3 => ?_) (fun c3 => ?_)
      · skip
        have i3_x2 : iv_R 24 24 x2 := (i_x2.cutLo (n := 24) (iv_le_l c3 q_24))
        refine lv_iload_n hx hb dX12_soundingOf_35 rfl (lv_at hl 1 rfl) ?_
        exact iv_iret X hr hlocks hB ⟨rfl, i_x1⟩ dX12_soundingOf_36
      · skip
        have i4_x2 : iv_R 0 23 x2 := (i_x2.cutHi (n := 23) (iv_lt_r (iv_nle c3) q_24 (by decide)))
        refine lv_iload_n hx hb dX12_soundingOf_10 rfl (lv_at hl 1 rfl) ?_
        refine lv_aload_n hx hb dX12_soundingOf_11 rfl (lv_at hl 2 rfl) ?_
        refine lv_iload_n hx hb dX12_soundingOf_12 rfl (lv_at hl 3 rfl) ?_
        refine lv_iload_n hx hb dX12_soundingOf_13 rfl (lv_at hl 0 rfl) ?_
        refine iv_cVi X k_good k_mf_X12_sounds k_im_X12_sounds k_sel_X12_sounds k_ml_X12_302 ft_X12 hB a_h0 sh_12 (As := [.int x_0, .int x2]) (c_X12_sounds l D tys base G h0 g_h0 r_h0 a_h0 x_0 i_x_0 x2 i4_x2) ⟨rfl, rfl⟩ ⟨Nat.le_of_ble_eq_true rfl, Nat.le_of_ble_eq_true rfl⟩ ⟨Nat.le_of_ble_eq_true rfl, Nat.le_of_ble_eq_true rfl⟩ rfl rfl hl.1 (Nat.le_of_ble_eq_true rfl) dX12_soundingOf_14 (fun x6 G9 H locs hq hB => ?_)
        obtain ⟨rfl, i_x6⟩ := hq
        refine lv_if_eq (tgt := 26) hx hb dX12_soundingOf_17 (by decide) (fun c7 => ?_) (fun c7 => ?_)
        · skip
          have i7_x6 : iv_R 0 0 x6 := (i_x6.cutHi (n := 0) (iv_eq_r c7 q_0).2)
          refine lv_iconst (v := 0) hx hb dX12_soundingOf_26 (by decide) ?_
          refine iv_ior hx hb i_x1 q_0 (k := 24) (hi := 16777215) (by decide) dX12_soundingOf_27 (fun x9 e_x9 i_x9 => ?_)
          refine lv_istore_n (lv' := [(2, .int x9), (3, .int x2), (0, .ref h0), (1, .int x_0)]) hx hb dX12_soundingOf_28 rfl hl (by decide) rfl (fun ls hl => ?_)
          refine iv_iinc hx hb i4_x2 (lo := 1) (hi := 24) (by decide) dX12_soundingOf_29 hl (k := 1) rfl (by decide) (fun x10 ls e_x10 i_x10 hl => ?_)
          have hl : lv_has ls 4 [(3, .int x10), (2, .int x9), (0, .ref h0), (1, .int x_0)] := hl
          refine lv_goto (tgt := 4) hx hb dX12_soundingOf_32 (by decide) ?_
          exact ih_4 _ _ hB x9 i_x9 x10 (i_x10.wk (by decide)) (iv_mup (c := 1) i_x2 (by decide) (by decide) (by omega) hn_4) _ (lv_sub hl [0, 1, 2, 3] rfl)
        · skip
          have i10_x6 : iv_R 1 1 x6 := iv_ne_lo c7 i_x6 q_0 (by decide)
          refine lv_iconst (v := 1) hx hb dX12_soundingOf_20 (by decide) ?_
          refine lv_iload_n hx hb dX12_soundingOf_21 rfl (lv_at hl 0 rfl) ?_
          refine iv_shl1 hx hb i4_x2 (lo := 1) (hi := 8388608) (by decide) dX12_soundingOf_22 (fun x12 e_x12 i_x12 => ?_)
          refine lv_goto (tgt := 27) hx hb dX12_soundingOf_23 (by decide) ?_
          refine iv_ior hx hb i_x1 i_x12 (k := 24) (hi := 16777215) (by decide) dX12_soundingOf_27 (fun x13 e_x13 i_x13 => ?_)
          refine lv_istore_n (lv' := [(2, .int x13), (3, .int x2), (0, .ref h0), (1, .int x_0)]) hx hb dX12_soundingOf_28 rfl hl (by decide) rfl (fun ls hl => ?_)
          refine iv_iinc hx hb i4_x2 (lo := 1) (hi := 24) (by decide) dX12_soundingOf_29 hl (k := 1) rfl (by decide) (fun x14 ls e_x14 i_x14 hl => ?_)
          have hl : lv_has ls 4 [(3, .int x14), (2, .int x13), (0, .ref h0), (1, .int x_0)] := hl
          refine lv_goto (tgt := 4) hx hb dX12_soundingOf_32 (by decide) ?_
          exact ih_4 _ _ hB x13 i_x13 x14 (i_x14.wk (by decide)) (iv_mup (c := 1) i_x2 (by decide) (by decide) (by omega) hn_4) _ (lv_sub hl [0, 1, 2, 3] rfl)
  exact L_4 _ _ _ hB 0 (q_0.wk (by decide)) 0 (q_0.wk (by decide)) (Nat.lt_succ_self _) _ (lv_sub hl [0, 1, 2, 3] rfl)
theorem dX12_likeliest_0 : decode cX12_likeliest 0 = .ok (.iconst (-1), 1) := by decide +kernel
theorem dX12_likeliest_1 : decode cX12_likeliest 1 = .ok (.istore_n 1, 1) := by decide +kernel
theorem dX12_likeliest_2 : decode cX12_likeliest 2 = .ok (.iconst 0, 1) := by decide +kernel
theorem dX12_likeliest_3 : decode cX12_likeliest 3 = .ok (.istore_n 2, 1) := by decide +kernel
theorem dX12_likeliest_4 : decode cX12_likeliest 4 = .ok (.iload_n 2, 1) := by decide +kernel
theorem dX12_likeliest_5 : decode cX12_likeliest 5 = .ok (.aload_n 0, 1) := by decide +kernel
theorem dX12_likeliest_6 : decode cX12_likeliest 6 = .ok (.getfield 7, 3) := by decide +kernel
theorem dX12_likeliest_9 : decode cX12_likeliest 9 = .ok (.sipush 146, 3) := by decide +kernel
theorem dX12_likeliest_12 : decode cX12_likeliest 12 = .ok (.iaload, 1) := by decide +kernel
theorem dX12_likeliest_13 : decode cX12_likeliest 13 = .ok (.if_icmp .ge 37, 3) := by decide +kernel
theorem dX12_likeliest_16 : decode cX12_likeliest 16 = .ok (.aload_n 0, 1) := by decide +kernel
theorem dX12_likeliest_17 : decode cX12_likeliest 17 = .ok (.iload_n 2, 1) := by decide +kernel
theorem dX12_likeliest_18 : decode cX12_likeliest 18 = .ok (.invokevirtual 353, 3) := by decide +kernel
theorem dX12_likeliest_21 : decode cX12_likeliest 21 = .ok (.ifCond .eq 23, 3) := by decide +kernel
theorem dX12_likeliest_24 : decode cX12_likeliest 24 = .ok (.iload_n 1, 1) := by decide +kernel
theorem dX12_likeliest_25 : decode cX12_likeliest 25 = .ok (.iconst (-1), 1) := by decide +kernel
theorem dX12_likeliest_26 : decode cX12_likeliest 26 = .ok (.if_icmp .eq 16, 3) := by decide +kernel
theorem dX12_likeliest_29 : decode cX12_likeliest 29 = .ok (.aload_n 0, 1) := by decide +kernel
theorem dX12_likeliest_30 : decode cX12_likeliest 30 = .ok (.iload_n 2, 1) := by decide +kernel
theorem dX12_likeliest_31 : decode cX12_likeliest 31 = .ok (.invokevirtual 344, 3) := by decide +kernel
theorem dX12_likeliest_34 : decode cX12_likeliest 34 = .ok (.aload_n 0, 1) := by decide +kernel
theorem dX12_likeliest_35 : decode cX12_likeliest 35 = .ok (.iload_n 1, 1) := by decide +kernel
theorem dX12_likeliest_36 : decode cX12_likeliest 36 = .ok (.invokevirtual 344, 3) := by decide +kernel
theorem dX12_likeliest_39 : decode cX12_likeliest 39 = .ok (.if_icmp .le 5, 3) := by decide +kernel
theorem dX12_likeliest_42 : decode cX12_likeliest 42 = .ok (.iload_n 2, 1) := by decide +kernel
theorem dX12_likeliest_43 : decode cX12_likeliest 43 = .ok (.istore_n 1, 1) := by decide +kernel
theorem dX12_likeliest_44 : decode cX12_likeliest 44 = .ok (.iinc 2 1, 3) := by decide +kernel
theorem dX12_likeliest_47 : decode cX12_likeliest 47 = .ok (.goto (-43), 3) := by decide +kernel
theorem dX12_likeliest_50 : decode cX12_likeliest 50 = .ok (.iload_n 1, 1) := by decide +kernel
theorem dX12_likeliest_51 : decode cX12_likeliest 51 = .ok (.ireturn, 1) := by decide +kernel
set_option maxHeartbeats 4000000 in
set_option maxRecDepth 100000 in
theorem c_X12_likeliest (l : Launch) (D : va_G) (tys : List (ClassId × FieldType)) (base : Nat) (G : iv_G) (h0 : Nat) (g_h0 : Nat → Int32) (r_h0 : Nat → Nat) (a_h0 : G h0 = some (12, g_h0, r_h0)) : Met l yX12_likeliest (Cond.code yX12_likeliest cX12_likeliest 3 (some .int) :: iv_W0) ({ frames := 10, cells := 0, slots := 0, locals := 232 }) (iv_Pc iv_sh D classes tys base G [.ref h0]) (iv_Qi iv_sh D classes tys base (fun v G' => iv_Md [67, 68] G G' ∧ iv_R (-1) 9 v)) 0 0 (iv_A base) := by
  refine iv_head (by decide) (Nat.le_of_ble_eq_true rfl) ?_
  intro p e s m args below meth c ls X hr hlocks hname hB hl
  have X := X
  have hx := X.1.1
  have hb := X.1.2.1
  have hM : iv_Md [67, 68] G G := iv_Md.rf
  have hl : lv_has ls 3 [(0, .ref h0)] := hl
  refine lv_iconst (v := (-1)) hx hb dX12_likeliest_0 (by decide) ?_
  refine lv_istore_n (lv' := [(1, .int (-1)), (0, .ref h0)]) hx hb dX12_likeliest_1 rfl hl (by decide) rfl (fun ls hl => ?_)
  refine lv_iconst (v := 0) hx hb dX12_likeliest_2 (by decide) ?_
  refine lv_istore_n (lv' := [(2, .int 0), (1, .int (-1)), (0, .ref h0)]) hx hb dX12_likeliest_3 rfl hl (by decide) rfl (fun ls hl => ?_)
  have L_4 : ∀ (n_4 : Nat) (G3 : iv_G) (hM : iv_Md [67, 68] G G3) (H : Heap) (locs : List Loc) (hB : iv_B iv_sh D classes tys base G3 s.heap H locs) (a_h0 : G3 h0 = some (12, g_h0, r_h0)) (x1 : Int32) (i_x1 : iv_R (-1) 9 x1) (x2 : Int32) (i_x2 : iv_R 0 10 x2) (hn_4 : (11 - x2.toInt).toNat < n_4) (ls : Array Slot) (hl : lv_has ls 3 [(2, .int x2), (1, .int x1), (0, .ref h0)]), W p l e ({ frames := 10, cells := 0, slots := 0, locals := 232 } : Room) s m args below meth c H locs 0 0 (MQ below (iv_Qi iv_sh D classes tys base (fun v G' => iv_Md [67, 68] G G' ∧ iv_R (-1) 9 v)) args s 0 0 (iv_A base)) (F0 m 4 ls []) := by
    intro n_4
    induction n_4 with
    | zero => intro G3 hM H locs hB a_h0 x1 i_x1 x2 i_x2 hn_4 ls hl; exact absurd hn_4 (Nat.not_lt_zero _)
    | succ n_4 ih_4 =>
      intro G3 hM H locs hB a_h0 x1 i_x1 x2 i_x2 hn_4 ls hl
      refine lv_iload_n hx hb dX12_likeliest_4 rfl (lv_at hl 0 rfl) ?_
      refine lv_aload_n hx hb dX12_likeliest_5 rfl (lv_at hl 2 rfl) ?_
      refine iv_getr X ft_X12 hB a_h0 sh_12 0 (by decide) rfl k_fl_X12_7 dX12_likeliest_6 (fun b4 g_b4 r_b4 e_b4 a_b4 => ?_)
      refine lv_sipush (v := 146) hx hb dX12_likeliest_9 (by decide) ?_
      refine iv_wald_c X hB a_b4 q_146 (by decide) (lo := 0) (hi' := 10) (by decide) dX12_likeliest_12 (fun x5 e_x5 i_x5 => ?_)
      refine lv_icmp_ge (tgt := 50) hx hb dX12_likeliest_13 (by decide) (fun c6 => ?_) (fun c6 => ?_)
      · skip
        refine lv_iload_n hx hb dX12_likeliest_50 rfl (lv_at hl 1 rfl) ?_
        exact iv_iret X hr hlocks hB ⟨hM, i_x1⟩ dX12_likeliest_51
      · skip
        have i6_x2 : iv_R 0 9 x2 := (i_x2.cutHi (n := 9) (iv_lt_r (iv_nle c6) i_x5 (by decide)))
        have i7_x5 : iv_R 1 10 x5 := (i_x5.cutLo (n := 1) (iv_lt_l (iv_nle c6) i_x2 (by decide)))
        refine lv_aload_n hx hb dX12_likeliest_16 rfl (lv_at hl 2 rfl) ?_
        refine lv_iload_n hx hb dX12_likeliest_17 rfl (lv_at hl 0 rfl) ?_
        refine iv_cVi X k_good k_mf_X12_soundingOf k_im_X12_soundingOf k_sel_X12_soundingOf k_ml_X12_353 ft_X12 hB a_h0 sh_12 (As := [.int x2]) (c_X12_soundingOf l D tys base G3 h0 g_h0 r_h0 a_h0 x2 i6_x2) ⟨rfl, rfl⟩ ⟨Nat.le_of_ble_eq_true rfl, Nat.le_of_ble_eq_true rfl⟩ ⟨Nat.le_of_ble_eq_true rfl, Nat.le_of_ble_eq_true rfl⟩ rfl rfl hl.1 (Nat.le_of_ble_eq_true rfl) dX12_likeliest_18 (fun x9 G9 H locs hq hB => ?_)
        obtain ⟨rfl, i_x9⟩ := hq
        refine lv_if_eq (tgt := 44) hx hb dX12_likeliest_21 (by decide) (fun c10 => ?_) (fun c10 => ?_)
        · skip
          have i10_x9 : iv_R 0 0 x9 := (i_x9.cutHi (n := 0) (iv_eq_r c10 q_0).2)
          refine iv_iinc hx hb i6_x2 (lo := 1) (hi := 10) (by decide) dX12_likeliest_44 hl (k := 0) rfl (by decide) (fun x12 ls e_x12 i_x12 hl => ?_)
          have hl : lv_has ls 3 [(2, .int x12), (1, .int x1), (0, .ref h0)] := hl
          refine lv_goto (tgt := 4) hx hb dX12_likeliest_47 (by decide) ?_
          exact ih_4 G3 hM _ _ hB a_h0 x1 i_x1 x12 (i_x12.wk (by decide)) (iv_mup (c := 1) i_x2 (by decide) (by decide) (by omega) hn_4) _ (lv_sub hl [0, 1, 2] rfl)
        · skip
          have i12_x9 : iv_R 1 16777215 x9 := iv_ne_lo c10 i_x9 q_0 (by decide)
          refine lv_iload_n hx hb dX12_likeliest_24 rfl (lv_at hl 1 rfl) ?_
          refine lv_iconst (v := (-1)) hx hb dX12_likeliest_25 (by decide) ?_
          refine lv_icmp_eq (tgt := 42) hx hb dX12_likeliest_26 (by decide) (fun c14 => ?_) (fun c14 => ?_)
          · skip
            have i14_x1 : iv_R (-1) (-1) x1 := (i_x1.cutHi (n := (-1)) (iv_eq_r c14 q_n1).2)
            refine lv_iload_n hx hb dX12_likeliest_42 rfl (lv_at hl 0 rfl) ?_
            refine lv_istore_n (lv' := [(1, .int x2), (2, .int x2), (0, .ref h0)]) hx hb dX12_likeliest_43 rfl hl (by decide) rfl (fun ls hl => ?_)
            refine iv_iinc hx hb i6_x2 (lo := 1) (hi := 10) (by decide) dX12_likeliest_44 hl (k := 1) rfl (by decide) (fun x16 ls e_x16 i_x16 hl => ?_)
            have hl : lv_has ls 3 [(2, .int x16), (1, .int x2), (0, .ref h0)] := hl
            refine lv_goto (tgt := 4) hx hb dX12_likeliest_47 (by decide) ?_
            exact ih_4 G3 hM _ _ hB a_h0 x2 (i6_x2.wk (by decide)) x16 (i_x16.wk (by decide)) (iv_mup (c := 1) i_x2 (by decide) (by decide) (by omega) hn_4) _ (lv_sub hl [0, 1, 2] rfl)
          · skip
            have i16_x1 : iv_R 0 9 x1 := iv_ne_lo c14 i_x1 q_n1 (by decide)
            refine lv_aload_n hx hb dX12_likeliest_29 rfl (lv_at hl 2 rfl) ?_
            refine lv_iload_n hx hb dX12_likeliest_30 rfl (lv_at hl 0 rfl) ?_
            refine iv_cVi X k_good k_mf_X12_comeOf k_im_X12_comeOf k_sel_X12_comeOf k_ml_X12_344 ft_X12 hB a_h0 sh_12 (As := [.int x2]) (c_X12_comeOf l D tys base G3 h0 g_h0 r_h0 a_h0 x2 i6_x2) ⟨rfl, rfl⟩ ⟨Nat.le_of_ble_eq_true rfl, Nat.le_of_ble_eq_true rfl⟩ ⟨Nat.le_of_ble_eq_true rfl, Nat.le_of_ble_eq_true rfl⟩ rfl rfl hl.1 (Nat.le_of_ble_eq_true rfl) dX12_likeliest_31 (fun x18 G9 H locs hq hB => ?_)
            obtain ⟨hm, i_x18⟩ := hq
            obtain ⟨G19, hG9⟩ : ∃ g, g = G9 := ⟨_, rfl⟩
            rw [← hG9] at hm hB
            have hM := hM.stp hm (by decide)
            have a_h0 := hm.at a_h0 (by decide)
            have a_b4 := hm.at a_b4 (by decide)
            refine lv_aload_n hx hb dX12_likeliest_34 rfl (lv_at hl 2 rfl) ?_
            refine lv_iload_n hx hb dX12_likeliest_35 rfl (lv_at hl 1 rfl) ?_
            refine iv_cVi X k_good k_mf_X12_comeOf k_im_X12_comeOf k_sel_X12_comeOf k_ml_X12_344 ft_X12 hB a_h0 sh_12 (As := [.int x1]) (c_X12_comeOf l D tys base G19 h0 g_h0 r_h0 a_h0 x1 i16_x1) ⟨rfl, rfl⟩ ⟨Nat.le_of_ble_eq_true rfl, Nat.le_of_ble_eq_true rfl⟩ ⟨Nat.le_of_ble_eq_true rfl, Nat.le_of_ble_eq_true rfl⟩ rfl rfl hl.1 (Nat.le_of_ble_eq_true rfl) dX12_likeliest_36 (fun x20 G9 H locs hq hB => ?_)
            obtain ⟨hm, i_x20⟩ := hq
            obtain ⟨G21, hG9⟩ : ∃ g, g = G9 := ⟨_, rfl⟩
            rw [← hG9] at hm hB
            have hM := hM.stp hm (by decide)
            have a_h0 := hm.at a_h0 (by decide)
            have a_b4 := hm.at a_b4 (by decide)
            refine lv_icmp_le (tgt := 44) hx hb dX12_likeliest_39 (by decide) (fun c22 => ?_) (fun c22 => ?_)
            · skip
              refine iv_iinc hx hb i6_x2 (lo := 1) (hi := 10) (by decide) dX12_likeliest_44 hl (k := 0) rfl (by decide) (fun x23 ls e_x23 i_x23 hl => ?_)
              have hl : lv_has ls 3 [(2, .int x23), (1, .int x1), (0, .ref h0)] := hl
              refine lv_goto (tgt := 4) hx hb dX12_likeliest_47 (by decide) ?_
              exact ih_4 G21 hM _ _ hB a_h0 x1 (i16_x1.wk (by decide)) x23 (i_x23.wk (by decide)) (iv_mup (c := 1) i_x2 (by decide) (by decide) (by omega) hn_4) _ (lv_sub hl [0, 1, 2] rfl)
            · skip
              have i23_x20 : iv_R (-2147483648) 2147483646 x20 := (i_x20.cutHi (n := 2147483646) (iv_lt_r (iv_nle c22) i_x18 (by decide)))
              have i24_x18 : iv_R (-2147483647) 2147483647 x18 := (i_x18.cutLo (n := (-2147483647)) (iv_lt_l (iv_nle c22) i_x20 (by decide)))
              refine lv_iload_n hx hb dX12_likeliest_42 rfl (lv_at hl 0 rfl) ?_
              refine lv_istore_n (lv' := [(1, .int x2), (2, .int x2), (0, .ref h0)]) hx hb dX12_likeliest_43 rfl hl (by decide) rfl (fun ls hl => ?_)
              refine iv_iinc hx hb i6_x2 (lo := 1) (hi := 10) (by decide) dX12_likeliest_44 hl (k := 1) rfl (by decide) (fun x26 ls e_x26 i_x26 hl => ?_)
              have hl : lv_has ls 3 [(2, .int x26), (1, .int x2), (0, .ref h0)] := hl
              refine lv_goto (tgt := 4) hx hb dX12_likeliest_47 (by decide) ?_
              exact ih_4 G21 hM _ _ hB a_h0 x2 (i6_x2.wk (by decide)) x26 (i_x26.wk (by decide)) (iv_mup (c := 1) i_x2 (by decide) (by decide) (by omega) hn_4) _ (lv_sub hl [0, 1, 2] rfl)
  exact L_4 _ G hM _ _ hB a_h0 (-1) (q_n1.wk (by decide)) 0 (q_0.wk (by decide)) (Nat.lt_succ_self _) _ (lv_sub hl [0, 1, 2] rfl)
