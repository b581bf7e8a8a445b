theorem dX12_ringWord_0 : decode cX12_ringWord 0 = .ok (.aload_n 0, 1) := by decide +kernel
theorem dX12_ringWord_1 : decode cX12_ringWord 1 = .ok (.ldc 101, 2) := by decide +kernel
theorem dX12_ringWord_3 : decode cX12_ringWord 3 = .ok (.invokevirtual 103, 3) := by decide +kernel
theorem dX12_ringWord_6 : decode cX12_ringWord 6 = .ok (.ifCond .eq 6, 3) := by decide +kernel
theorem dX12_ringWord_9 : decode cX12_ringWord 9 = .ok (.bipush 7, 2) := by decide +kernel
theorem dX12_ringWord_11 : decode cX12_ringWord 11 = .ok (.ireturn, 1) := by decide +kernel
theorem dX12_ringWord_12 : decode cX12_ringWord 12 = .ok (.aload_n 0, 1) := by decide +kernel
theorem dX12_ringWord_13 : decode cX12_ringWord 13 = .ok (.ldc 107, 2) := by decide +kernel
theorem dX12_ringWord_15 : decode cX12_ringWord 15 = .ok (.invokevirtual 103, 3) := by decide +kernel
theorem dX12_ringWord_18 : decode cX12_ringWord 18 = .ok (.ifCond .eq 6, 3) := by decide +kernel
theorem dX12_ringWord_21 : decode cX12_ringWord 21 = .ok (.bipush 8, 2) := by decide +kernel
theorem dX12_ringWord_23 : decode cX12_ringWord 23 = .ok (.ireturn, 1) := by decide +kernel
theorem dX12_ringWord_24 : decode cX12_ringWord 24 = .ok (.aload_n 0, 1) := by decide +kernel
theorem dX12_ringWord_25 : decode cX12_ringWord 25 = .ok (.ldc 108, 2) := by decide +kernel
theorem dX12_ringWord_27 : decode cX12_ringWord 27 = .ok (.invokevirtual 103, 3) := by decide +kernel
theorem dX12_ringWord_30 : decode cX12_ringWord 30 = .ok (.ifCond .eq 8, 3) := by decide +kernel
theorem dX12_ringWord_33 : decode cX12_ringWord 33 = .ok (.bipush 9, 2) := by decide +kernel
theorem dX12_ringWord_35 : decode cX12_ringWord 35 = .ok (.goto 4, 3) := by decide +kernel
theorem dX12_ringWord_38 : decode cX12_ringWord 38 = .ok (.iconst 1, 1) := by decide +kernel
theorem dX12_ringWord_39 : decode cX12_ringWord 39 = .ok (.ireturn, 1) := by decide +kernel
set_option maxHeartbeats 4000000 in
set_option maxRecDepth 100000 in
theorem c_X12_ringWord (l : Launch) (D : va_G) (tys : List (ClassId × FieldType)) (base : Nat) (G : iv_G) (h0 : Nat) (g_h0 : Nat → Int32) (r_h0 : Nat → Nat) (a_h0 : G h0 = some (12, g_h0, r_h0)) : Met l yX12_ringWord (Cond.code yX12_ringWord cX12_ringWord 1 (some .int) :: iv_W0) ({ frames := 5, cells := 0, slots := 0, locals := 108 }) (iv_Pc iv_sh D classes tys base G [.ref h0]) (iv_Qi iv_sh D classes tys base (fun v G' => G = G' ∧ iv_R 1 9 v)) 0 0 (iv_A base) := by
  refine iv_head (by decide) (Nat.le_of_ble_eq_true rfl) ?_
  intro p e s m args below meth c ls X hr hlocks hname hB hl
  have X := X
  have hx := X.1.1
  have hb := X.1.2.1
  have hl : lv_has ls 1 [(0, .ref h0)] := hl
  refine lv_aload_n hx hb dX12_ringWord_0 rfl (lv_at hl 0 rfl) ?_
  refine iv_sldc X (i := 2) rfl dX12_ringWord_1 ?_
  refine iv_cVi X k_good k_mf_X12_is k_im_X12_is k_sel_X12_is k_ml_X12_103 ft_X12 hB a_h0 sh_12 (As := [.ref (D.2 100 2)]) (c_X12_is l D tys base G h0 g_h0 r_h0 a_h0 2 (by decide)) ⟨rfl, rfl⟩ ⟨Nat.le_of_ble_eq_true rfl, Nat.le_of_ble_eq_true rfl⟩ ⟨Nat.le_of_ble_eq_true rfl, Nat.le_of_ble_eq_true rfl⟩ rfl rfl hl.1 (Nat.le_of_ble_eq_true rfl) dX12_ringWord_3 (fun x1 G9 H locs hq hB => ?_)
  obtain ⟨rfl, i_x1⟩ := hq
  refine lv_if_eq (tgt := 12) hx hb dX12_ringWord_6 (by decide) (fun c2 => ?_) (fun c2 => ?_)
  · skip
    have i2_x1 : iv_R 0 0 x1 := (i_x1.cutHi (n := 0) (iv_eq_r c2 q_0).2)
    refine lv_aload_n hx hb dX12_ringWord_12 rfl (lv_at hl 0 rfl) ?_
    refine iv_sldc X (i := 3) rfl dX12_ringWord_13 ?_
    refine iv_cVi X k_good k_mf_X12_is k_im_X12_is k_sel_X12_is k_ml_X12_103 ft_X12 hB a_h0 sh_12 (As := [.ref (D.2 100 3)]) (c_X12_is l D tys base G h0 g_h0 r_h0 a_h0 3 (by decide)) ⟨rfl, rfl⟩ ⟨Nat.le_of_ble_eq_true rfl, Nat.le_of_ble_eq_true rfl⟩ ⟨Nat.le_of_ble_eq_true rfl, Nat.le_of_ble_eq_true rfl⟩ rfl rfl hl.1 (Nat.le_of_ble_eq_true rfl) dX12_ringWord_15 (fun x4 G9 H locs hq hB => ?_)
    obtain ⟨rfl, i_x4⟩ := hq
    refine lv_if_eq (tgt := 24) hx hb dX12_ringWord_18 (by decide) (fun c5 => ?_) (fun c5 => ?_)
    · skip
      have i5_x4 : iv_R 0 0 x4 := (i_x4.cutHi (n := 0) (iv_eq_r c5 q_0).2)
      refine lv_aload_n hx hb dX12_ringWord_24 rfl (lv_at hl 0 rfl) ?_
      refine iv_sldc X (i := 4) rfl dX12_ringWord_25 ?_
      refine iv_cVi X k_good k_mf_X12_is k_im_X12_is k_sel_X12_is k_ml_X12_103 ft_X12 hB a_h0 sh_12 (As := [.ref (D.2 100 4)]) (c_X12_is l D tys base G h0 g_h0 r_h0 a_h0 4 (by decide)) ⟨rfl, rfl⟩ ⟨Nat.le_of_ble_eq_true rfl, Nat.le_of_ble_eq_true rfl⟩ ⟨Nat.le_of_ble_eq_true rfl, Nat.le_of_ble_eq_true rfl⟩ rfl rfl hl.1 (Nat.le_of_ble_eq_true rfl) dX12_ringWord_27 (fun x7 G9 H locs hq hB => ?_)
      obtain ⟨rfl, i_x7⟩ := hq
      refine lv_if_eq (tgt := 38) hx hb dX12_ringWord_30 (by decide) (fun c8 => ?_) (fun c8 => ?_)
      · skip
        have i8_x7 : iv_R 0 0 x7 := (i_x7.cutHi (n := 0) (iv_eq_r c8 q_0).2)
        refine lv_iconst (v := 1) hx hb dX12_ringWord_38 (by decide) ?_
        exact iv_iret X hr hlocks hB ⟨rfl, (q_1.wk (by decide))⟩ dX12_ringWord_39
      · skip
        have i9_x7 : iv_R 1 1 x7 := iv_ne_lo c8 i_x7 q_0 (by decide)
        refine lv_bipush (v := 9) hx hb dX12_ringWord_33 (by decide) ?_
        refine lv_goto (tgt := 39) hx hb dX12_ringWord_35 (by decide) ?_
        exact iv_iret X hr hlocks hB ⟨rfl, (q_9.wk (by decide))⟩ dX12_ringWord_39
    · skip
      have i10_x4 : iv_R 1 1 x4 := iv_ne_lo c5 i_x4 q_0 (by decide)
      refine lv_bipush (v := 8) hx hb dX12_ringWord_21 (by decide) ?_
      exact iv_iret X hr hlocks hB ⟨rfl, (q_8.wk (by decide))⟩ dX12_ringWord_23
  · skip
    have i11_x1 : iv_R 1 1 x1 := iv_ne_lo c2 i_x1 q_0 (by decide)
    refine lv_bipush (v := 7) hx hb dX12_ringWord_9 (by decide) ?_
    exact iv_iret X hr hlocks hB ⟨rfl, (q_7.wk (by decide))⟩ dX12_ringWord_11
theorem dX12_soundWord_0 : decode cX12_soundWord 0 = .ok (.aload_n 0, 1) := by decide +kernel
theorem dX12_soundWord_1 : decode cX12_soundWord 1 = .ok (.ldc 120, 2) := by decide +kernel
theorem dX12_soundWord_3 : decode cX12_soundWord 3 = .ok (.invokevirtual 103, 3) := by decide +kernel
theorem dX12_soundWord_6 : decode cX12_soundWord 6 = .ok (.ifCond .eq 6, 3) := by decide +kernel
theorem dX12_soundWord_9 : decode cX12_soundWord 9 = .ok (.bipush 20, 2) := by decide +kernel
theorem dX12_soundWord_11 : decode cX12_soundWord 11 = .ok (.ireturn, 1) := by decide +kernel
theorem dX12_soundWord_12 : decode cX12_soundWord 12 = .ok (.aload_n 0, 1) := by decide +kernel
theorem dX12_soundWord_13 : decode cX12_soundWord 13 = .ok (.ldc 122, 2) := by decide +kernel
theorem dX12_soundWord_15 : decode cX12_soundWord 15 = .ok (.invokevirtual 103, 3) := by decide +kernel
theorem dX12_soundWord_18 : decode cX12_soundWord 18 = .ok (.ifCond .eq 6, 3) := by decide +kernel
theorem dX12_soundWord_21 : decode cX12_soundWord 21 = .ok (.bipush 46, 2) := by decide +kernel
theorem dX12_soundWord_23 : decode cX12_soundWord 23 = .ok (.ireturn, 1) := by decide +kernel
theorem dX12_soundWord_24 : decode cX12_soundWord 24 = .ok (.aload_n 0, 1) := by decide +kernel
theorem dX12_soundWord_25 : decode cX12_soundWord 25 = .ok (.ldc 124, 2) := by decide +kernel
theorem dX12_soundWord_27 : decode cX12_soundWord 27 = .ok (.invokevirtual 103, 3) := by decide +kernel
theorem dX12_soundWord_30 : decode cX12_soundWord 30 = .ok (.ifCond .eq 6, 3) := by decide +kernel
theorem dX12_soundWord_33 : decode cX12_soundWord 33 = .ok (.bipush 47, 2) := by decide +kernel
theorem dX12_soundWord_35 : decode cX12_soundWord 35 = .ok (.ireturn, 1) := by decide +kernel
theorem dX12_soundWord_36 : decode cX12_soundWord 36 = .ok (.aload_n 0, 1) := by decide +kernel
theorem dX12_soundWord_37 : decode cX12_soundWord 37 = .ok (.ldc 126, 2) := by decide +kernel
theorem dX12_soundWord_39 : decode cX12_soundWord 39 = .ok (.invokevirtual 103, 3) := by decide +kernel
theorem dX12_soundWord_42 : decode cX12_soundWord 42 = .ok (.ifCond .eq 8, 3) := by decide +kernel
theorem dX12_soundWord_45 : decode cX12_soundWord 45 = .ok (.bipush 48, 2) := by decide +kernel
theorem dX12_soundWord_47 : decode cX12_soundWord 47 = .ok (.goto 7, 3) := by decide +kernel
theorem dX12_soundWord_50 : decode cX12_soundWord 50 = .ok (.aload_n 0, 1) := by decide +kernel
theorem dX12_soundWord_51 : decode cX12_soundWord 51 = .ok (.invokevirtual 128, 3) := by decide +kernel
theorem dX12_soundWord_54 : decode cX12_soundWord 54 = .ok (.ireturn, 1) := by decide +kernel
set_option maxHeartbeats 4000000 in
set_option maxRecDepth 100000 in
theorem c_X12_soundWord (l : Launch) (D : va_G) (tys : List (ClassId × FieldType)) (base : Nat) (G : iv_G) (h0 : Nat) (g_h0 : Nat → Int32) (r_h0 : Nat → Nat) (a_h0 : G h0 = some (12, g_h0, r_h0)) : Met l yX12_soundWord (Cond.code yX12_soundWord cX12_soundWord 1 (some .int) :: iv_W0) ({ frames := 6, cells := 0, slots := 0, locals := 128 }) (iv_Pc iv_sh D classes tys base G [.ref h0]) (iv_Qi iv_sh D classes tys base (fun v G' => G = G' ∧ iv_R 1 48 v)) 0 0 (iv_A base) := by
  refine iv_head (by decide) (Nat.le_of_ble_eq_true rfl) ?_
  intro p e s m args below meth c ls X hr hlocks hname hB hl
  have X := X
  have hx := X.1.1
  have hb := X.1.2.1
  have hl : lv_has ls 1 [(0, .ref h0)] := hl
  refine lv_aload_n hx hb dX12_soundWord_0 rfl (lv_at hl 0 rfl) ?_
  refine iv_sldc X (i := 9) rfl dX12_soundWord_1 ?_
  refine iv_cVi X k_good k_mf_X12_is k_im_X12_is k_sel_X12_is k_ml_X12_103 ft_X12 hB a_h0 sh_12 (As := [.ref (D.2 100 9)]) (c_X12_is l D tys base G h0 g_h0 r_h0 a_h0 9 (by decide)) ⟨rfl, rfl⟩ ⟨Nat.le_of_ble_eq_true rfl, Nat.le_of_ble_eq_true rfl⟩ ⟨Nat.le_of_ble_eq_true rfl, Nat.le_of_ble_eq_true rfl⟩ rfl rfl hl.1 (Nat.le_of_ble_eq_true rfl) dX12_soundWord_3 (fun x1 G9 H locs hq hB => ?_)
  obtain ⟨rfl, i_x1⟩ := hq
  refine lv_if_eq (tgt := 12) hx hb dX12_soundWord_6 (by decide) (fun c2 => ?_) (fun c2 => ?_)
  · skip
    have i2_x1 : iv_R 0 0 x1 := (i_x1.cutHi (n := 0) (iv_eq_r c2 q_0).2)
    refine lv_aload_n hx hb dX12_soundWord_12 rfl (lv_at hl 0 rfl) ?_
    refine iv_sldc X (i := 10) rfl dX12_soundWord_13 ?_
    refine iv_cVi X k_good k_mf_X12_is k_im_X12_is k_sel_X12_is k_ml_X12_103 ft_X12 hB a_h0 sh_12 (As := [.ref (D.2 100 10)]) (c_X12_is l D tys base G h0 g_h0 r_h0 a_h0 10 (by decide)) ⟨rfl, rfl⟩ ⟨Nat.le_of_ble_eq_true rfl, Nat.le_of_ble_eq_true rfl⟩ ⟨Nat.le_of_ble_eq_true rfl, Nat.le_of_ble_eq_true rfl⟩ rfl rfl hl.1 (Nat.le_of_ble_eq_true rfl) dX12_soundWord_15 (fun x4 G9 H locs hq hB => ?_)
    obtain ⟨rfl, i_x4⟩ := hq
    refine lv_if_eq (tgt := 24) hx hb dX12_soundWord_18 (by decide) (fun c5 => ?_) (fun c5 => ?_)
    · skip
      have i5_x4 : iv_R 0 0 x4 := (i_x4.cutHi (n := 0) (iv_eq_r c5 q_0).2)
      refine lv_aload_n hx hb dX12_soundWord_24 rfl (lv_at hl 0 rfl) ?_
      refine iv_sldc X (i := 11) rfl dX12_soundWord_25 ?_
      refine iv_cVi X k_good k_mf_X12_is k_im_X12_is k_sel_X12_is k_ml_X12_103 ft_X12 hB a_h0 sh_12 (As := [.ref (D.2 100 11)]) (c_X12_is l D tys base G h0 g_h0 r_h0 a_h0 11 (by decide)) ⟨rfl, rfl⟩ ⟨Nat.le_of_ble_eq_true rfl, Nat.le_of_ble_eq_true rfl⟩ ⟨Nat.le_of_ble_eq_true rfl, Nat.le_of_ble_eq_true rfl⟩ rfl rfl hl.1 (Nat.le_of_ble_eq_true rfl) dX12_soundWord_27 (fun x7 G9 H locs hq hB => ?_)
      obtain ⟨rfl, i_x7⟩ := hq
      refine lv_if_eq (tgt := 36) hx hb dX12_soundWord_30 (by decide) (fun c8 => ?_) (fun c8 => ?_)
      · skip
        have i8_x7 : iv_R 0 0 x7 := (i_x7.cutHi (n := 0) (iv_eq_r c8 q_0).2)
        refine lv_aload_n hx hb dX12_soundWord_36 rfl (lv_at hl 0 rfl) ?_
        refine iv_sldc X (i := 12) rfl dX12_soundWord_37 ?_
        refine iv_cVi X k_good k_mf_X12_is k_im_X12_is k_sel_X12_is k_ml_X12_103 ft_X12 hB a_h0 sh_12 (As := [.ref (D.2 100 12)]) (c_X12_is l D tys base G h0 g_h0 r_h0 a_h0 12 (by decide)) ⟨rfl, rfl⟩ ⟨Nat.le_of_ble_eq_true rfl, Nat.le_of_ble_eq_true rfl⟩ ⟨Nat.le_of_ble_eq_true rfl, Nat.le_of_ble_eq_true rfl⟩ rfl rfl hl.1 (Nat.le_of_ble_eq_true rfl) dX12_soundWord_39 (fun x10 G9 H locs hq hB => ?_)
        obtain ⟨rfl, i_x10⟩ := hq
        refine lv_if_eq (tgt := 50) hx hb dX12_soundWord_42 (by decide) (fun c11 => ?_) (fun c11 => ?_)
        · skip
          have i11_x10 : iv_R 0 0 x10 := (i_x10.cutHi (n := 0) (iv_eq_r c11 q_0).2)
          refine lv_aload_n hx hb dX12_soundWord_50 rfl (lv_at hl 0 rfl) ?_
          refine iv_cVi X k_good k_mf_X12_asked k_im_X12_asked k_sel_X12_asked k_ml_X12_128 ft_X12 hB a_h0 sh_12 (As := []) (c_X12_asked l D tys base G h0 g_h0 r_h0 a_h0) ⟨rfl, rfl⟩ ⟨Nat.le_of_ble_eq_true rfl, Nat.le_of_ble_eq_true rfl⟩ ⟨Nat.le_of_ble_eq_true rfl, Nat.le_of_ble_eq_true rfl⟩ rfl rfl hl.1 (Nat.le_of_ble_eq_true rfl) dX12_soundWord_51 (fun x13 G9 H locs hq hB => ?_)
          obtain ⟨rfl, i_x13⟩ := hq
          exact iv_iret X hr hlocks hB ⟨rfl, (i_x13.wk (by decide))⟩ dX12_soundWord_54
        · skip
          have i13_x10 : iv_R 1 1 x10 := iv_ne_lo c11 i_x10 q_0 (by decide)
          refine lv_bipush (v := 48) hx hb dX12_soundWord_45 (by decide) ?_
          refine lv_goto (tgt := 54) hx hb dX12_soundWord_47 (by decide) ?_
          exact iv_iret X hr hlocks hB ⟨rfl, (q_48.wk (by decide))⟩ dX12_soundWord_54
      · skip
        have i14_x7 : iv_R 1 1 x7 := iv_ne_lo c8 i_x7 q_0 (by decide)
        refine lv_bipush (v := 47) hx hb dX12_soundWord_33 (by decide) ?_
        exact iv_iret X hr hlocks hB ⟨rfl, (q_47.wk (by decide))⟩ dX12_soundWord_35
    · skip
      have i15_x4 : iv_R 1 1 x4 := iv_ne_lo c5 i_x4 q_0 (by decide)
      refine lv_bipush (v := 46) hx hb dX12_soundWord_21 (by decide) ?_
      exact iv_iret X hr hlocks hB ⟨rfl, (q_46.wk (by decide))⟩ dX12_soundWord_23
  · skip
    have i16_x1 : iv_R 1 1 x1 := iv_ne_lo c2 i_x1 q_0 (by decide)
    refine lv_bipush (v := 20) hx hb dX12_soundWord_9 (by decide) ?_
    exact iv_iret X hr hlocks hB ⟨rfl, (q_20.wk (by decide))⟩ dX12_soundWord_11
theorem dX12_word_0 : decode cX12_word 0 = .ok (.aload_n 0, 1) := by decide +kernel
theorem dX12_word_1 : decode cX12_word 1 = .ok (.getfield 141, 3) := by decide +kernel
theorem dX12_word_4 : decode cX12_word 4 = .ok (.ifCond .ne 8, 3) := by decide +kernel
theorem dX12_word_7 : decode cX12_word 7 = .ok (.aload_n 0, 1) := by decide +kernel
theorem dX12_word_8 : decode cX12_word 8 = .ok (.invokevirtual 144, 3) := by decide +kernel
theorem dX12_word_11 : decode cX12_word 11 = .ok (.ireturn, 1) := by decide +kernel
theorem dX12_word_12 : decode cX12_word 12 = .ok (.aload_n 0, 1) := by decide +kernel
theorem dX12_word_13 : decode cX12_word 13 = .ok (.ldc 147, 2) := by decide +kernel
theorem dX12_word_15 : decode cX12_word 15 = .ok (.invokevirtual 103, 3) := by decide +kernel
theorem dX12_word_18 : decode cX12_word 18 = .ok (.ifCond .eq 5, 3) := by decide +kernel
theorem dX12_word_21 : decode cX12_word 21 = .ok (.iconst 3, 1) := by decide +kernel
theorem dX12_word_22 : decode cX12_word 22 = .ok (.ireturn, 1) := by decide +kernel
theorem dX12_word_23 : decode cX12_word 23 = .ok (.aload_n 0, 1) := by decide +kernel
theorem dX12_word_24 : decode cX12_word 24 = .ok (.ldc 149, 2) := by decide +kernel
theorem dX12_word_26 : decode cX12_word 26 = .ok (.invokevirtual 103, 3) := by decide +kernel
theorem dX12_word_29 : decode cX12_word 29 = .ok (.ifCond .eq 5, 3) := by decide +kernel
theorem dX12_word_32 : decode cX12_word 32 = .ok (.iconst 4, 1) := by decide +kernel
theorem dX12_word_33 : decode cX12_word 33 = .ok (.ireturn, 1) := by decide +kernel
theorem dX12_word_34 : decode cX12_word 34 = .ok (.aload_n 0, 1) := by decide +kernel
theorem dX12_word_35 : decode cX12_word 35 = .ok (.ldc 151, 2) := by decide +kernel
theorem dX12_word_37 : decode cX12_word 37 = .ok (.invokevirtual 103, 3) := by decide +kernel
theorem dX12_word_40 : decode cX12_word 40 = .ok (.ifCond .eq 5, 3) := by decide +kernel
theorem dX12_word_43 : decode cX12_word 43 = .ok (.iconst 5, 1) := by decide +kernel
theorem dX12_word_44 : decode cX12_word 44 = .ok (.ireturn, 1) := by decide +kernel
theorem dX12_word_45 : decode cX12_word 45 = .ok (.aload_n 0, 1) := by decide +kernel
theorem dX12_word_46 : decode cX12_word 46 = .ok (.ldc 153, 2) := by decide +kernel
theorem dX12_word_48 : decode cX12_word 48 = .ok (.invokevirtual 103, 3) := by decide +kernel
theorem dX12_word_51 : decode cX12_word 51 = .ok (.ifCond .eq 6, 3) := by decide +kernel
theorem dX12_word_54 : decode cX12_word 54 = .ok (.bipush 6, 2) := by decide +kernel
theorem dX12_word_56 : decode cX12_word 56 = .ok (.ireturn, 1) := by decide +kernel
theorem dX12_word_57 : decode cX12_word 57 = .ok (.aload_n 0, 1) := by decide +kernel
theorem dX12_word_58 : decode cX12_word 58 = .ok (.getfield 141, 3) := by decide +kernel
theorem dX12_word_61 : decode cX12_word 61 = .ok (.iconst 1, 1) := by decide +kernel
theorem dX12_word_62 : decode cX12_word 62 = .ok (.if_icmp .ne 10, 3) := by decide +kernel
theorem dX12_word_65 : decode cX12_word 65 = .ok (.aload_n 0, 1) := by decide +kernel
theorem dX12_word_66 : decode cX12_word 66 = .ok (.invokevirtual 155, 3) := by decide +kernel
theorem dX12_word_69 : decode cX12_word 69 = .ok (.goto 7, 3) := by decide +kernel
theorem dX12_word_72 : decode cX12_word 72 = .ok (.aload_n 0, 1) := by decide +kernel
theorem dX12_word_73 : decode cX12_word 73 = .ok (.invokevirtual 158, 3) := by decide +kernel
theorem dX12_word_76 : decode cX12_word 76 = .ok (.ireturn, 1) := by decide +kernel
set_option maxHeartbeats 4000000 in
set_option maxRecDepth 100000 in
theorem c_X12_word (l : Launch) (D : va_G) (tys : List (ClassId × FieldType)) (base : Nat) (G : iv_G) (h0 : Nat) (g_h0 : Nat → Int32) (r_h0 : Nat → Nat) (a_h0 : G h0 = some (12, g_h0, r_h0)) : Met l yX12_word (Cond.code yX12_word cX12_word 1 (some .int) :: iv_W0) ({ frames := 7, cells := 0, slots := 0, locals := 148 }) (iv_Pc iv_sh D classes tys base G [.ref h0]) (iv_Qi iv_sh D classes tys base (fun v G' => G = G' ∧ iv_R 1 51 v)) 0 0 (iv_A base) := by
  refine iv_head (by decide) (Nat.le_of_ble_eq_true rfl) ?_
  intro p e s m args below meth c ls X hr hlocks hname hB hl
  have X := X
  have hx := X.1.1
  have hb := X.1.2.1
  have hl : lv_has ls 1 [(0, .ref h0)] := hl
  refine lv_aload_n hx hb dX12_word_0 rfl (lv_at hl 0 rfl) ?_
  refine iv_geti X ft_X12 hB a_h0 sh_12 11 (by decide) rfl k_fl_X12_141 dX12_word_1 (fun x1 e_x1 i_x1 => ?_)
  refine lv_if_ne (tgt := 12) hx hb dX12_word_4 (by decide) (fun c2 => ?_) (fun c2 => ?_)
  · skip
    refine lv_aload_n hx hb dX12_word_12 rfl (lv_at hl 0 rfl) ?_
    refine iv_sldc X (i := 5) rfl dX12_word_13 ?_
    refine iv_cVi X k_good k_mf_X12_is k_im_X12_is k_sel_X12_is k_ml_X12_103 ft_X12 hB a_h0 sh_12 (As := [.ref (D.2 100 5)]) (c_X12_is l D tys base G h0 g_h0 r_h0 a_h0 5 (by decide)) ⟨rfl, rfl⟩ ⟨Nat.le_of_ble_eq_true rfl, Nat.le_of_ble_eq_true rfl⟩ ⟨Nat.le_of_ble_eq_true rfl, Nat.le_of_ble_eq_true rfl⟩ rfl rfl hl.1 (Nat.le_of_ble_eq_true rfl) dX12_word_15 (fun x3 G9 H locs hq hB => ?_)
    obtain ⟨rfl, i_x3⟩ := hq
    refine lv_if_eq (tgt := 23) hx hb dX12_word_18 (by decide) (fun c4 => ?_) (fun c4 => ?_)
    · skip
      have i4_x3 : iv_R 0 0 x3 := (i_x3.cutHi (n := 0) (iv_eq_r c4 q_0).2)
      refine lv_aload_n hx hb dX12_word_23 rfl (lv_at hl 0 rfl) ?_
      refine iv_sldc X (i := 6) rfl dX12_word_24 ?_
      refine iv_cVi X k_good k_mf_X12_is k_im_X12_is k_sel_X12_is k_ml_X12_103 ft_X12 hB a_h0 sh_12 (As := [.ref (D.2 100 6)]) (c_X12_is l D tys base G h0 g_h0 r_h0 a_h0 6 (by decide)) ⟨rfl, rfl⟩ ⟨Nat.le_of_ble_eq_true rfl, Nat.le_of_ble_eq_true rfl⟩ ⟨Nat.le_of_ble_eq_true rfl, Nat.le_of_ble_eq_true rfl⟩ rfl rfl hl.1 (Nat.le_of_ble_eq_true rfl) dX12_word_26 (fun x6 G9 H locs hq hB => ?_)
      obtain ⟨rfl, i_x6⟩ := hq
      refine lv_if_eq (tgt := 34) hx hb dX12_word_29 (by decide) (fun c7 => ?_) (fun c7 => ?_)
      · skip
        have i7_x6 : iv_R 0 0 x6 := (i_x6.cutHi (n := 0) (iv_eq_r c7 q_0).2)
        refine lv_aload_n hx hb dX12_word_34 rfl (lv_at hl 0 rfl) ?_
        refine iv_sldc X (i := 7) rfl dX12_word_35 ?_
        refine iv_cVi X k_good k_mf_X12_is k_im_X12_is k_sel_X12_is k_ml_X12_103 ft_X12 hB a_h0 sh_12 (As := [.ref (D.2 100 7)]) (c_X12_is l D tys base G h0 g_h0 r_h0 a_h0 7 (by decide)) ⟨rfl, rfl⟩ ⟨Nat.le_of_ble_eq_true rfl, Nat.le_of_ble_eq_true rfl⟩ ⟨Nat.le_of_ble_eq_true rfl, Nat.le_of_ble_eq_true rfl⟩ rfl rfl hl.1 (Nat.le_of_ble_eq_true rfl) dX12_word_37 (fun x9 G9 H locs hq hB => ?_)
        obtain ⟨rfl, i_x9⟩ := hq
        refine lv_if_eq (tgt := 45) hx hb dX12_word_40 (by decide) (fun c10 => ?_) (fun c10 => ?_)
        · skip
          have i10_x9 : iv_R 0 0 x9 := (i_x9.cutHi (n := 0) (iv_eq_r c10 q_0).2)
          refine lv_aload_n hx hb dX12_word_45 rfl (lv_at hl 0 rfl) ?_
          refine iv_sldc X (i := 8) rfl dX12_word_46 ?_
          refine iv_cVi X k_good k_mf_X12_is k_im_X12_is k_sel_X12_is k_ml_X12_103 ft_X12 hB a_h0 sh_12 (As := [.ref (D.2 100 8)]) (c_X12_is l D tys base G h0 g_h0 r_h0 a_h0 8 (by decide)) ⟨rfl, rfl⟩ ⟨Nat.le_of_ble_eq_true rfl, Nat.le_of_ble_eq_true rfl⟩ ⟨Nat.le_of_ble_eq_true rfl, Nat.le_of_ble_eq_true rfl⟩ rfl rfl hl.1 (Nat.le_of_ble_eq_true rfl) dX12_word_48 (fun x12 G9 H locs hq hB => ?_)
          obtain ⟨rfl, i_x12⟩ := hq
          refine lv_if_eq (tgt := 57) hx hb dX12_word_51 (by decide) (fun c13 => ?_) (fun c13 => ?_)
          · skip
            have i13_x12 : iv_R 0 0 x12 := (i_x12.cutHi (n := 0) (iv_eq_r c13 q_0).2)
            refine lv_aload_n hx hb dX12_word_57 rfl (lv_at hl 0 rfl) ?_
            refine iv_geti0 X ft_X12 hB a_h0 sh_12 11 (by decide) rfl k_fl_X12_141 dX12_word_58 e_x1 ?_
            refine lv_iconst (v := 1) hx hb dX12_word_61 (by decide) ?_
            refine lv_icmp_ne (tgt := 72) hx hb dX12_word_62 (by decide) (fun c15 => ?_) (fun c15 => ?_)
            · skip
              refine lv_aload_n hx hb dX12_word_72 rfl (lv_at hl 0 rfl) ?_
              refine iv_cVi X k_good k_mf_X12_comingWord k_im_X12_comingWord k_sel_X12_comingWord k_ml_X12_158 ft_X12 hB a_h0 sh_12 (As := []) (c_X12_comingWord l D tys base G h0 g_h0 r_h0 a_h0) ⟨rfl, rfl⟩ ⟨Nat.le_of_ble_eq_true rfl, Nat.le_of_ble_eq_true rfl⟩ ⟨Nat.le_of_ble_eq_true rfl, Nat.le_of_ble_eq_true rfl⟩ rfl rfl hl.1 (Nat.le_of_ble_eq_true rfl) dX12_word_73 (fun x16 G9 H locs hq hB => ?_)
              obtain ⟨rfl, i_x16⟩ := hq
              exact iv_iret X hr hlocks hB ⟨rfl, i_x16⟩ dX12_word_76
            · skip
              have i16_x1 : iv_R 1 1 x1 := ((i_x1.cutLo (n := 1) (iv_eq_r c15 q_1).1).cutHi (n := 1) (iv_eq_r c15 q_1).2)
              refine lv_aload_n hx hb dX12_word_65 rfl (lv_at hl 0 rfl) ?_
              refine iv_cVi X k_good k_mf_X12_soundWord k_im_X12_soundWord k_sel_X12_soundWord k_ml_X12_155 ft_X12 hB a_h0 sh_12 (As := []) (c_X12_soundWord l D tys base G h0 g_h0 r_h0 a_h0) ⟨rfl, rfl⟩ ⟨Nat.le_of_ble_eq_true rfl, Nat.le_of_ble_eq_true rfl⟩ ⟨Nat.le_of_ble_eq_true rfl, Nat.le_of_ble_eq_true rfl⟩ rfl rfl hl.1 (Nat.le_of_ble_eq_true rfl) dX12_word_66 (fun x18 G9 H locs hq hB => ?_)
              obtain ⟨rfl, i_x18⟩ := hq
              refine lv_goto (tgt := 76) hx hb dX12_word_69 (by decide) ?_
              exact iv_iret X hr hlocks hB ⟨rfl, (i_x18.wk (by decide))⟩ dX12_word_76
          · skip
            have i18_x12 : iv_R 1 1 x12 := iv_ne_lo c13 i_x12 q_0 (by decide)
            refine lv_bipush (v := 6) hx hb dX12_word_54 (by decide) ?_
            exact iv_iret X hr hlocks hB ⟨rfl, (q_6.wk (by decide))⟩ dX12_word_56
        · skip
          have i19_x9 : iv_R 1 1 x9 := iv_ne_lo c10 i_x9 q_0 (by decide)
          refine lv_iconst (v := 5) hx hb dX12_word_43 (by decide) ?_
          exact iv_iret X hr hlocks hB ⟨rfl, (q_5.wk (by decide))⟩ dX12_word_44
      · skip
        have i20_x6 : iv_R 1 1 x6 := iv_ne_lo c7 i_x6 q_0 (by decide)
        refine lv_iconst (v := 4) hx hb dX12_word_32 (by decide) ?_
        exact iv_iret X hr hlocks hB ⟨rfl, (q_4.wk (by decide))⟩ dX12_word_33
    · skip
      have i21_x3 : iv_R 1 1 x3 := iv_ne_lo c4 i_x3 q_0 (by decide)
      refine lv_iconst (v := 3) hx hb dX12_word_21 (by decide) ?_
      exact iv_iret X hr hlocks hB ⟨rfl, (q_3.wk (by decide))⟩ dX12_word_22
  · skip
    have i22_x1 : iv_R 0 0 x1 := ((i_x1.cutLo (n := 0) (iv_eq_r c2 q_0).1).cutHi (n := 0) (iv_eq_r c2 q_0).2)
    refine lv_aload_n hx hb dX12_word_7 rfl (lv_at hl 0 rfl) ?_
    refine iv_cVi X k_good k_mf_X12_ringWord k_im_X12_ringWord k_sel_X12_ringWord k_ml_X12_144 ft_X12 hB a_h0 sh_12 (As := []) (c_X12_ringWord l D tys base G h0 g_h0 r_h0 a_h0) ⟨rfl, rfl⟩ ⟨Nat.le_of_ble_eq_true rfl, Nat.le_of_ble_eq_true rfl⟩ ⟨Nat.le_of_ble_eq_true rfl, Nat.le_of_ble_eq_true rfl⟩ rfl rfl hl.1 (Nat.le_of_ble_eq_true rfl) dX12_word_8 (fun x24 G9 H locs hq hB => ?_)
    obtain ⟨rfl, i_x24⟩ := hq
    exact iv_iret X hr hlocks hB ⟨rfl, (i_x24.wk (by decide))⟩ dX12_word_11
theorem dX12_next0_0 : decode cX12_next0 0 = .ok (.aload_n 0, 1) := by decide +kernel
theorem dX12_next0_1 : decode cX12_next0 1 = .ok (.aload_n 0, 1) := by decide +kernel
theorem dX12_next0_2 : decode cX12_next0 2 = .ok (.getfield 85, 3) := by decide +kernel
theorem dX12_next0_5 : decode cX12_next0 5 = .ok (.invokevirtual 161, 3) := by decide +kernel
theorem dX12_next0_8 : decode cX12_next0 8 = .ok (.bipush 32, 2) := by decide +kernel
theorem dX12_next0_10 : decode cX12_next0 10 = .ok (.if_icmp .eq 16, 3) := by decide +kernel
theorem dX12_next0_13 : decode cX12_next0 13 = .ok (.aload_n 0, 1) := by decide +kernel
theorem dX12_next0_14 : decode cX12_next0 14 = .ok (.aload_n 0, 1) := by decide +kernel
theorem dX12_next0_15 : decode cX12_next0 15 = .ok (.getfield 85, 3) := by decide +kernel
theorem dX12_next0_18 : decode cX12_next0 18 = .ok (.invokevirtual 161, 3) := by decide +kernel
theorem dX12_next0_21 : decode cX12_next0 21 = .ok (.bipush 10, 2) := by decide +kernel
theorem dX12_next0_23 : decode cX12_next0 23 = .ok (.if_icmp .ne 16, 3) := by decide +kernel
theorem dX12_next0_26 : decode cX12_next0 26 = .ok (.aload_n 0, 1) := by decide +kernel
theorem dX12_next0_27 : decode cX12_next0 27 = .ok (.dup, 1) := by decide +kernel
theorem dX12_next0_28 : decode cX12_next0 28 = .ok (.getfield 85, 3) := by decide +kernel
theorem dX12_next0_31 : decode cX12_next0 31 = .ok (.iconst 1, 1) := by decide +kernel
theorem dX12_next0_32 : decode cX12_next0 32 = .ok (.iadd, 1) := by decide +kernel
theorem dX12_next0_33 : decode cX12_next0 33 = .ok (.putfield 85, 3) := by decide +kernel
theorem dX12_next0_36 : decode cX12_next0 36 = .ok (.goto (-36), 3) := by decide +kernel
theorem dX12_next0_39 : decode cX12_next0 39 = .ok (.aload_n 0, 1) := by decide +kernel
theorem dX12_next0_40 : decode cX12_next0 40 = .ok (.aload_n 0, 1) := by decide +kernel
theorem dX12_next0_41 : decode cX12_next0 41 = .ok (.getfield 85, 3) := by decide +kernel
theorem dX12_next0_44 : decode cX12_next0 44 = .ok (.putfield 88, 3) := by decide +kernel
theorem dX12_next0_47 : decode cX12_next0 47 = .ok (.aload_n 0, 1) := by decide +kernel
theorem dX12_next0_48 : decode cX12_next0 48 = .ok (.aload_n 0, 1) := by decide +kernel
theorem dX12_next0_49 : decode cX12_next0 49 = .ok (.getfield 85, 3) := by decide +kernel
theorem dX12_next0_52 : decode cX12_next0 52 = .ok (.invokevirtual 161, 3) := by decide +kernel
theorem dX12_next0_55 : decode cX12_next0 55 = .ok (.istore_n 1, 1) := by decide +kernel
theorem dX12_next0_56 : decode cX12_next0 56 = .ok (.iload_n 1, 1) := by decide +kernel
theorem dX12_next0_57 : decode cX12_next0 57 = .ok (.iconst (-1), 1) := by decide +kernel
theorem dX12_next0_58 : decode cX12_next0 58 = .ok (.if_icmp .ne 11, 3) := by decide +kernel
theorem dX12_next0_61 : decode cX12_next0 61 = .ok (.aload_n 0, 1) := by decide +kernel
theorem dX12_next0_62 : decode cX12_next0 62 = .ok (.iconst 0, 1) := by decide +kernel
theorem dX12_next0_63 : decode cX12_next0 63 = .ok (.putfield 165, 3) := by decide +kernel
theorem dX12_next0_66 : decode cX12_next0 66 = .ok (.goto 240, 3) := by decide +kernel
theorem dX12_next0_69 : decode cX12_next0 69 = .ok (.iload_n 1, 1) := by decide +kernel
theorem dX12_next0_70 : decode cX12_next0 70 = .ok (.invokestatic 168, 3) := by decide +kernel
theorem dX12_next0_73 : decode cX12_next0 73 = .ok (.ifCond .eq 41, 3) := by decide +kernel
theorem dX12_next0_76 : decode cX12_next0 76 = .ok (.aload_n 0, 1) := by decide +kernel
theorem dX12_next0_77 : decode cX12_next0 77 = .ok (.aload_n 0, 1) := by decide +kernel
theorem dX12_next0_78 : decode cX12_next0 78 = .ok (.getfield 85, 3) := by decide +kernel
theorem dX12_next0_81 : decode cX12_next0 81 = .ok (.invokevirtual 161, 3) := by decide +kernel
theorem dX12_next0_84 : decode cX12_next0 84 = .ok (.invokestatic 168, 3) := by decide +kernel
theorem dX12_next0_87 : decode cX12_next0 87 = .ok (.ifCond .eq 16, 3) := by decide +kernel
theorem dX12_next0_90 : decode cX12_next0 90 = .ok (.aload_n 0, 1) := by decide +kernel
theorem dX12_next0_91 : decode cX12_next0 91 = .ok (.dup, 1) := by decide +kernel
theorem dX12_next0_92 : decode cX12_next0 92 = .ok (.getfield 85, 3) := by decide +kernel
theorem dX12_next0_95 : decode cX12_next0 95 = .ok (.iconst 1, 1) := by decide +kernel
theorem dX12_next0_96 : decode cX12_next0 96 = .ok (.iadd, 1) := by decide +kernel
theorem dX12_next0_97 : decode cX12_next0 97 = .ok (.putfield 85, 3) := by decide +kernel
theorem dX12_next0_100 : decode cX12_next0 100 = .ok (.goto (-24), 3) := by decide +kernel
theorem dX12_next0_103 : decode cX12_next0 103 = .ok (.aload_n 0, 1) := by decide +kernel
theorem dX12_next0_104 : decode cX12_next0 104 = .ok (.aload_n 0, 1) := by decide +kernel
theorem dX12_next0_105 : decode cX12_next0 105 = .ok (.invokevirtual 171, 3) := by decide +kernel
theorem dX12_next0_108 : decode cX12_next0 108 = .ok (.putfield 165, 3) := by decide +kernel
theorem dX12_next0_111 : decode cX12_next0 111 = .ok (.goto 195, 3) := by decide +kernel
theorem dX12_next0_114 : decode cX12_next0 114 = .ok (.iload_n 1, 1) := by decide +kernel
theorem dX12_next0_115 : decode cX12_next0 115 = .ok (.invokestatic 174, 3) := by decide +kernel
theorem dX12_next0_118 : decode cX12_next0 118 = .ok (.ifCond .eq 96, 3) := by decide +kernel
theorem dX12_next0_121 : decode cX12_next0 121 = .ok (.aload_n 0, 1) := by decide +kernel
theorem dX12_next0_122 : decode cX12_next0 122 = .ok (.iconst 0, 1) := by decide +kernel
theorem dX12_next0_123 : decode cX12_next0 123 = .ok (.putfield 177, 3) := by decide +kernel
theorem dX12_next0_126 : decode cX12_next0 126 = .ok (.aload_n 0, 1) := by decide +kernel
theorem dX12_next0_127 : decode cX12_next0 127 = .ok (.aload_n 0, 1) := by decide +kernel
theorem dX12_next0_128 : decode cX12_next0 128 = .ok (.getfield 85, 3) := by decide +kernel
theorem dX12_next0_131 : decode cX12_next0 131 = .ok (.invokevirtual 161, 3) := by decide +kernel
theorem dX12_next0_134 : decode cX12_next0 134 = .ok (.invokestatic 174, 3) := by decide +kernel
theorem dX12_next0_137 : decode cX12_next0 137 = .ok (.ifCond .eq 52, 3) := by decide +kernel
theorem dX12_next0_140 : decode cX12_next0 140 = .ok (.aload_n 0, 1) := by decide +kernel
theorem dX12_next0_141 : decode cX12_next0 141 = .ok (.getfield 85, 3) := by decide +kernel
theorem dX12_next0_144 : decode cX12_next0 144 = .ok (.aload_n 0, 1) := by decide +kernel
theorem dX12_next0_145 : decode cX12_next0 145 = .ok (.getfield 88, 3) := by decide +kernel
theorem dX12_next0_148 : decode cX12_next0 148 = .ok (.iconst 4, 1) := by decide +kernel
theorem dX12_next0_149 : decode cX12_next0 149 = .ok (.iadd, 1) := by decide +kernel
theorem dX12_next0_150 : decode cX12_next0 150 = .ok (.if_icmp .ge 26, 3) := by decide +kernel
theorem dX12_next0_153 : decode cX12_next0 153 = .ok (.aload_n 0, 1) := by decide +kernel
theorem dX12_next0_154 : decode cX12_next0 154 = .ok (.bipush 10, 2) := by decide +kernel
theorem dX12_next0_156 : decode cX12_next0 156 = .ok (.aload_n 0, 1) := by decide +kernel
theorem dX12_next0_157 : decode cX12_next0 157 = .ok (.getfield 177, 3) := by decide +kernel
theorem dX12_next0_160 : decode cX12_next0 160 = .ok (.imul, 1) := by decide +kernel
theorem dX12_next0_161 : decode cX12_next0 161 = .ok (.aload_n 0, 1) := by decide +kernel
theorem dX12_next0_162 : decode cX12_next0 162 = .ok (.aload_n 0, 1) := by decide +kernel
theorem dX12_next0_163 : decode cX12_next0 163 = .ok (.getfield 85, 3) := by decide +kernel
theorem dX12_next0_166 : decode cX12_next0 166 = .ok (.invokevirtual 161, 3) := by decide +kernel
theorem dX12_next0_169 : decode cX12_next0 169 = .ok (.iadd, 1) := by decide +kernel
theorem dX12_next0_170 : decode cX12_next0 170 = .ok (.bipush 48, 2) := by decide +kernel
theorem dX12_next0_172 : decode cX12_next0 172 = .ok (.isub, 1) := by decide +kernel
theorem dX12_next0_173 : decode cX12_next0 173 = .ok (.putfield 177, 3) := by decide +kernel
theorem dX12_next0_176 : decode cX12_next0 176 = .ok (.aload_n 0, 1) := by decide +kernel
theorem dX12_next0_177 : decode cX12_next0 177 = .ok (.dup, 1) := by decide +kernel
theorem dX12_next0_178 : decode cX12_next0 178 = .ok (.getfield 85, 3) := by decide +kernel
theorem dX12_next0_181 : decode cX12_next0 181 = .ok (.iconst 1, 1) := by decide +kernel
theorem dX12_next0_182 : decode cX12_next0 182 = .ok (.iadd, 1) := by decide +kernel
theorem dX12_next0_183 : decode cX12_next0 183 = .ok (.putfield 85, 3) := by decide +kernel
theorem dX12_next0_186 : decode cX12_next0 186 = .ok (.goto (-60), 3) := by decide +kernel
theorem dX12_next0_189 : decode cX12_next0 189 = .ok (.aload_n 0, 1) := by decide +kernel
theorem dX12_next0_190 : decode cX12_next0 190 = .ok (.aload_n 0, 1) := by decide +kernel
theorem dX12_next0_191 : decode cX12_next0 191 = .ok (.getfield 85, 3) := by decide +kernel
theorem dX12_next0_194 : decode cX12_next0 194 = .ok (.aload_n 0, 1) := by decide +kernel
theorem dX12_next0_195 : decode cX12_next0 195 = .ok (.getfield 88, 3) := by decide +kernel
theorem dX12_next0_198 : decode cX12_next0 198 = .ok (.isub, 1) := by decide +kernel
theorem dX12_next0_199 : decode cX12_next0 199 = .ok (.iconst 5, 1) := by decide +kernel
theorem dX12_next0_200 : decode cX12_next0 200 = .ok (.if_icmp .ge 7, 3) := by decide +kernel
theorem dX12_next0_203 : decode cX12_next0 203 = .ok (.iconst 2, 1) := by decide +kernel
theorem dX12_next0_204 : decode cX12_next0 204 = .ok (.goto 4, 3) := by decide +kernel
theorem dX12_next0_207 : decode cX12_next0 207 = .ok (.iconst 1, 1) := by decide +kernel
theorem dX12_next0_208 : decode cX12_next0 208 = .ok (.putfield 165, 3) := by decide +kernel
theorem dX12_next0_211 : decode cX12_next0 211 = .ok (.goto 95, 3) := by decide +kernel
theorem dX12_next0_214 : decode cX12_next0 214 = .ok (.aload_n 0, 1) := by decide +kernel
theorem dX12_next0_215 : decode cX12_next0 215 = .ok (.dup, 1) := by decide +kernel
theorem dX12_next0_216 : decode cX12_next0 216 = .ok (.getfield 85, 3) := by decide +kernel
theorem dX12_next0_219 : decode cX12_next0 219 = .ok (.iconst 1, 1) := by decide +kernel
theorem dX12_next0_220 : decode cX12_next0 220 = .ok (.iadd, 1) := by decide +kernel
theorem dX12_next0_221 : decode cX12_next0 221 = .ok (.putfield 85, 3) := by decide +kernel
theorem dX12_next0_224 : decode cX12_next0 224 = .ok (.iload_n 1, 1) := by decide +kernel
theorem dX12_next0_225 : decode cX12_next0 225 = .ok (.bipush 59, 2) := by decide +kernel
theorem dX12_next0_227 : decode cX12_next0 227 = .ok (.if_icmp .eq 57, 3) := by decide +kernel
theorem dX12_next0_230 : decode cX12_next0 230 = .ok (.iload_n 1, 1) := by decide +kernel
theorem dX12_next0_231 : decode cX12_next0 231 = .ok (.bipush 43, 2) := by decide +kernel
theorem dX12_next0_233 : decode cX12_next0 233 = .ok (.if_icmp .eq 51, 3) := by decide +kernel
theorem dX12_next0_236 : decode cX12_next0 236 = .ok (.iload_n 1, 1) := by decide +kernel
theorem dX12_next0_237 : decode cX12_next0 237 = .ok (.bipush 45, 2) := by decide +kernel
theorem dX12_next0_239 : decode cX12_next0 239 = .ok (.if_icmp .eq 45, 3) := by decide +kernel
theorem dX12_next0_242 : decode cX12_next0 242 = .ok (.iload_n 1, 1) := by decide +kernel
theorem dX12_next0_243 : decode cX12_next0 243 = .ok (.bipush 42, 2) := by decide +kernel
theorem dX12_next0_245 : decode cX12_next0 245 = .ok (.if_icmp .eq 39, 3) := by decide +kernel
theorem dX12_next0_248 : decode cX12_next0 248 = .ok (.iload_n 1, 1) := by decide +kernel
theorem dX12_next0_249 : decode cX12_next0 249 = .ok (.bipush 47, 2) := by decide +kernel
theorem dX12_next0_251 : decode cX12_next0 251 = .ok (.if_icmp .eq 33, 3) := by decide +kernel
theorem dX12_next0_254 : decode cX12_next0 254 = .ok (.iload_n 1, 1) := by decide +kernel
theorem dX12_next0_255 : decode cX12_next0 255 = .ok (.bipush 40, 2) := by decide +kernel
theorem dX12_next0_257 : decode cX12_next0 257 = .ok (.if_icmp .eq 27, 3) := by decide +kernel
theorem dX12_next0_260 : decode cX12_next0 260 = .ok (.iload_n 1, 1) := by decide +kernel
theorem dX12_next0_261 : decode cX12_next0 261 = .ok (.bipush 41, 2) := by decide +kernel
theorem dX12_next0_263 : decode cX12_next0 263 = .ok (.if_icmp .eq 21, 3) := by decide +kernel
theorem dX12_next0_266 : decode cX12_next0 266 = .ok (.iload_n 1, 1) := by decide +kernel
theorem dX12_next0_267 : decode cX12_next0 267 = .ok (.bipush 60, 2) := by decide +kernel
theorem dX12_next0_269 : decode cX12_next0 269 = .ok (.if_icmp .eq 15, 3) := by decide +kernel
theorem dX12_next0_272 : decode cX12_next0 272 = .ok (.iload_n 1, 1) := by decide +kernel
theorem dX12_next0_273 : decode cX12_next0 273 = .ok (.bipush 61, 2) := by decide +kernel
theorem dX12_next0_275 : decode cX12_next0 275 = .ok (.if_icmp .eq 9, 3) := by decide +kernel
theorem dX12_next0_278 : decode cX12_next0 278 = .ok (.iload_n 1, 1) := by decide +kernel
theorem dX12_next0_279 : decode cX12_next0 279 = .ok (.bipush 62, 2) := by decide +kernel
theorem dX12_next0_281 : decode cX12_next0 281 = .ok (.if_icmp .ne 7, 3) := by decide +kernel
theorem dX12_next0_284 : decode cX12_next0 284 = .ok (.iconst 1, 1) := by decide +kernel
theorem dX12_next0_285 : decode cX12_next0 285 = .ok (.goto 4, 3) := by decide +kernel
theorem dX12_next0_288 : decode cX12_next0 288 = .ok (.iconst 0, 1) := by decide +kernel
theorem dX12_next0_289 : decode cX12_next0 289 = .ok (.istore_n 2, 1) := by decide +kernel
theorem dX12_next0_290 : decode cX12_next0 290 = .ok (.aload_n 0, 1) := by decide +kernel
theorem dX12_next0_291 : decode cX12_next0 291 = .ok (.iload_n 2, 1) := by decide +kernel
theorem dX12_next0_292 : decode cX12_next0 292 = .ok (.ifCond .eq 10, 3) := by decide +kernel
theorem dX12_next0_295 : decode cX12_next0 295 = .ok (.bipush 100, 2) := by decide +kernel
theorem dX12_next0_297 : decode cX12_next0 297 = .ok (.iload_n 1, 1) := by decide +kernel
theorem dX12_next0_298 : decode cX12_next0 298 = .ok (.iadd, 1) := by decide +kernel
theorem dX12_next0_299 : decode cX12_next0 299 = .ok (.goto 4, 3) := by decide +kernel
theorem dX12_next0_302 : decode cX12_next0 302 = .ok (.iconst 1, 1) := by decide +kernel
theorem dX12_next0_303 : decode cX12_next0 303 = .ok (.putfield 165, 3) := by decide +kernel
theorem dX12_next0_306 : decode cX12_next0 306 = .ok (.return_, 1) := by decide +kernel
set_option maxHeartbeats 4000000 in
set_option maxRecDepth 100000 in
theorem c_X12_next0 (l : Launch) (D : va_G) (tys : List (ClassId × FieldType)) (base : Nat) (G : iv_G) (h0 : Nat) (g_h0 : Nat → Int32) (r_h0 : Nat → Nat) (a_h0 : G h0 = some (12, g_h0, r_h0)) : Met l yX12_next0 (Cond.code yX12_next0 cX12_next0 3 none :: iv_W0) ({ frames := 8, cells := 0, slots := 0, locals := 168 }) (iv_Pc iv_sh D classes tys base G [.ref h0]) (iv_Qv iv_sh D classes tys base (fun G' => iv_Md [12] G G')) 0 0 (iv_A base) := by
  refine iv_head (by decide) (Nat.le_of_ble_eq_true rfl) ?_
  intro p e s m args below meth c ls X hr hlocks hname hB hl
  have X := X
  have hx := X.1.1
  have hb := X.1.2.1
  have hM : iv_Md [12] G G := iv_Md.rf
  have hl : lv_has ls 3 [(0, .ref h0)] := hl
  have L_0 : ∀ (n_0 : Nat) (G3 : iv_G) (hM : iv_Md [12] G G3) (H : Heap) (locs : List Loc) (hB : iv_B iv_sh D classes tys base G3 s.heap H locs) (g1 : Nat → Int32) (r2 : Nat → Nat) (a_h0 : G3 h0 = some (12, g1, r2)) (hn_0 : (401 - (g1 16).toInt).toNat < n_0) (ls : Array Slot) (hl : lv_has ls 3 [(0, .ref h0)]), W p l e ({ frames := 8, cells := 0, slots := 0, locals := 168 } : Room) s m args below meth c H locs 0 0 (MQ below (iv_Qv iv_sh D classes tys base (fun G' => iv_Md [12] G G')) args s 0 0 (iv_A base)) (F0 m 0 ls []) := by
    intro n_0
    induction n_0 with
    | zero => intro G3 hM H locs hB g1 r2 a_h0 hn_0 ls hl; exact absurd hn_0 (Nat.not_lt_zero _)
    | succ n_0 ih_0 =>
      intro G3 hM H locs hB g1 r2 a_h0 hn_0 ls hl
      refine lv_aload_n hx hb dX12_next0_0 rfl (lv_at hl 0 rfl) ?_
      refine lv_aload_n hx hb dX12_next0_1 rfl (lv_at hl 0 rfl) ?_
      refine iv_geti X ft_X12 hB a_h0 sh_12 16 (by decide) rfl k_fl_X12_85 dX12_next0_2 (fun x4 e_x4 i_x4 => ?_)
      refine iv_cVi X k_good k_mf_X12_see k_im_X12_see k_sel_X12_see k_ml_X12_161 ft_X12 hB a_h0 sh_12 (As := [.int x4]) (c_X12_see l D tys base G3 h0 g1 r2 a_h0 x4 i_x4) ⟨rfl, rfl⟩ ⟨Nat.le_of_ble_eq_true rfl, Nat.le_of_ble_eq_true rfl⟩ ⟨Nat.le_of_ble_eq_true rfl, Nat.le_of_ble_eq_true rfl⟩ rfl rfl hl.1 (Nat.le_of_ble_eq_true rfl) dX12_next0_5 (fun x5 G9 H locs hq hB => ?_)
      obtain ⟨rfl, i_x5, np6⟩ := hq
      refine lv_bipush (v := 32) hx hb dX12_next0_8 (by decide) ?_
      refine lv_icmp_eq (tgt := 26) hx hb dX12_next0_10 (by decide) (fun c7 => ?_) (fun c7 => ?_)
      · skip
        have i7_x5 : iv_R 32 32 x5 := ((i_x5.cutLo (n := 32) (iv_eq_r c7 q_32).1).cutHi (n := 32) (iv_eq_r c7 q_32).2)
        have i8_x4 : iv_R 0 399 x4 := (i_x4.cutHi (n := 399) (np6 (Int.le_trans (by decide) i7_x5.1)).2)
        refine lv_aload_n hx hb dX12_next0_26 rfl (lv_at hl 0 rfl) ?_
        refine lv_dup hx hb dX12_next0_27 rfl ?_
        refine iv_geti0 X ft_X12 hB a_h0 sh_12 16 (by decide) rfl k_fl_X12_85 dX12_next0_28 e_x4 ?_
        refine lv_iconst (v := 1) hx hb dX12_next0_31 (by decide) ?_
        refine iv_iadd hx hb i8_x4 q_1 (lo := 1) (hi := 400) (by decide) dX12_next0_32 (fun x10 e_x10 i_x10 => ?_)
        refine iv_puti X ft_X12 hB a_h0 sh_12 16 (by decide) rfl rfl k_fl_X12_85 rfl (i_x10.wk (by decide)) rfl rfl dX12_next0_33 (fun H locs hB => ?_)
        have hm := iv_Md.put (x := x10) a_h0 (j := 16) (by decide) (by decide)
        have h9 := iv_up_eq (G := G3) (a := h0) (k := (12, upd g1 16 x10, r2))
        generalize iv_up G3 h0 _ = G11 at hB hm h9
        have hM := hM.stp hm (by decide)
        generalize hgn_g12 : upd g1 _ _ = g12 at h9
        have a_h0 := h9
        have e9_g12 : x10 = g12 16 := by rw [← hgn_g12]; simp [upd]
        refine lv_goto (tgt := 0) hx hb dX12_next0_36 (by decide) ?_
        exact ih_0 G11 hM _ _ hB g12 r2 a_h0 (by have w1 := congrArg Int32.toInt e9_g12; have w2 := congrArg Int32.toInt e_x4; have w3 := i8_x4.2; have w4 : x10.toInt = x4.toInt + 1 := e_x10; omega) _ (lv_sub hl [0] rfl)
      · skip
        refine lv_aload_n hx hb dX12_next0_13 rfl (lv_at hl 0 rfl) ?_
        refine lv_aload_n hx hb dX12_next0_14 rfl (lv_at hl 0 rfl) ?_
        refine iv_geti0 X ft_X12 hB a_h0 sh_12 16 (by decide) rfl k_fl_X12_85 dX12_next0_15 e_x4 ?_
        refine iv_cVi X k_good k_mf_X12_see k_im_X12_see k_sel_X12_see k_ml_X12_161 ft_X12 hB a_h0 sh_12 (As := [.int x4]) (c_X12_see l D tys base G3 h0 g1 r2 a_h0 x4 i_x4) ⟨rfl, rfl⟩ ⟨Nat.le_of_ble_eq_true rfl, Nat.le_of_ble_eq_true rfl⟩ ⟨Nat.le_of_ble_eq_true rfl, Nat.le_of_ble_eq_true rfl⟩ rfl rfl hl.1 (Nat.le_of_ble_eq_true rfl) dX12_next0_18 (fun x13 G9 H locs hq hB => ?_)
        obtain ⟨rfl, i_x13, np14⟩ := hq
        refine lv_bipush (v := 10) hx hb dX12_next0_21 (by decide) ?_
        refine lv_icmp_ne (tgt := 39) hx hb dX12_next0_23 (by decide) (fun c15 => ?_) (fun c15 => ?_)
        · skip
          refine lv_aload_n hx hb dX12_next0_39 rfl (lv_at hl 0 rfl) ?_
          refine lv_aload_n hx hb dX12_next0_40 rfl (lv_at hl 0 rfl) ?_
          refine iv_geti0 X ft_X12 hB a_h0 sh_12 16 (by decide) rfl k_fl_X12_85 dX12_next0_41 e_x4 ?_
          refine iv_puti X ft_X12 hB a_h0 sh_12 18 (by decide) rfl rfl k_fl_X12_88 rfl i_x4 rfl rfl dX12_next0_44 (fun H locs hB => ?_)
          have hm := iv_Md.put (x := x4) a_h0 (j := 18) (by decide) (by decide)
          have h9 := iv_up_eq (G := G3) (a := h0) (k := (12, upd g1 18 x4, r2))
          generalize iv_up G3 h0 _ = G16 at hB hm h9
          have hM := hM.stp hm (by decide)
          generalize hgn_g17 : upd g1 _ _ = g17 at h9
          have a_h0 := h9
          have e18 : x4 = g17 16 := by rw [← hgn_g17]; exact e_x4
          have e9_g17 : x4 = g17 18 := by rw [← hgn_g17]; simp [upd]
          refine lv_aload_n hx hb dX12_next0_47 rfl (lv_at hl 0 rfl) ?_
          refine lv_aload_n hx hb dX12_next0_48 rfl (lv_at hl 0 rfl) ?_
          refine iv_geti0 X ft_X12 hB a_h0 sh_12 16 (by decide) rfl k_fl_X12_85 dX12_next0_49 e18 ?_
          refine iv_cVi X k_good k_mf_X12_see k_im_X12_see k_sel_X12_see k_ml_X12_161 ft_X12 hB a_h0 sh_12 (As := [.int x4]) (c_X12_see l D tys base G16 h0 g17 r2 a_h0 x4 i_x4) ⟨rfl, rfl⟩ ⟨Nat.le_of_ble_eq_true rfl, Nat.le_of_ble_eq_true rfl⟩ ⟨Nat.le_of_ble_eq_true rfl, Nat.le_of_ble_eq_true rfl⟩ rfl rfl hl.1 (Nat.le_of_ble_eq_true rfl) dX12_next0_52 (fun x19 G9 H locs hq hB => ?_)
          obtain ⟨rfl, i_x19, np20⟩ := hq
          refine lv_istore_n (lv' := [(1, .int x19), (0, .ref h0)]) hx hb dX12_next0_55 rfl hl (by decide) rfl (fun ls hl => ?_)
          refine lv_iload_n hx hb dX12_next0_56 rfl (lv_at hl 0 rfl) ?_
          refine lv_iconst (v := (-1)) hx hb dX12_next0_57 (by decide) ?_
          refine lv_icmp_ne (tgt := 69) hx hb dX12_next0_58 (by decide) (fun c21 => ?_) (fun c21 => ?_)
          · skip
            have i21_x19 : iv_R 0 255 x19 := iv_ne_lo c21 i_x19 q_n1 (by decide)
            have i22_x4 : iv_R 0 399 x4 := (i_x4.cutHi (n := 399) (np20 (Int.le_trans (by decide) i21_x19.1)).2)
            refine lv_iload_n hx hb dX12_next0_69 rfl (lv_at hl 0 rfl) ?_
            refine iv_cSi X k_good k_mf_X12_isLetter k_st_X12_isLetter k_ml_X12_168 hB (As := [.int x19]) (c_X12_isLetter l D tys base G16 x19 (i21_x19.wk (by decide))) ⟨rfl, rfl⟩ ⟨Nat.le_of_ble_eq_true rfl, Nat.le_of_ble_eq_true rfl⟩ ⟨Nat.le_of_ble_eq_true rfl, Nat.le_of_ble_eq_true rfl⟩ rfl rfl hl.1 (Nat.le_of_ble_eq_true rfl) dX12_next0_70 (fun x24 G9 H locs hq hB => ?_)
            obtain ⟨rfl, i_x24, hp25⟩ := hq
            refine lv_if_eq (tgt := 114) hx hb dX12_next0_73 (by decide) (fun c26 => ?_) (fun c26 => ?_)
            · skip
              have i26_x24 : iv_R 0 0 x24 := (i_x24.cutHi (n := 0) (iv_eq_r c26 q_0).2)
              refine lv_iload_n hx hb dX12_next0_114 rfl (lv_at hl 0 rfl) ?_
              refine iv_cSi X k_good k_mf_X12_isDigit k_st_X12_isDigit k_ml_X12_174 hB (As := [.int x19]) (c_X12_isDigit l D tys base G16 x19 (i21_x19.wk (by decide))) ⟨rfl, rfl⟩ ⟨Nat.le_of_ble_eq_true rfl, Nat.le_of_ble_eq_true rfl⟩ ⟨Nat.le_of_ble_eq_true rfl, Nat.le_of_ble_eq_true rfl⟩ rfl rfl hl.1 (Nat.le_of_ble_eq_true rfl) dX12_next0_115 (fun x28 G9 H locs hq hB => ?_)
              obtain ⟨rfl, i_x28, hp29⟩ := hq
              refine lv_if_eq (tgt := 214) hx hb dX12_next0_118 (by decide) (fun c30 => ?_) (fun c30 => ?_)
              · skip
                have i30_x28 : iv_R 0 0 x28 := (i_x28.cutHi (n := 0) (iv_eq_r c30 q_0).2)
                refine lv_aload_n hx hb dX12_next0_214 rfl (lv_at hl 1 rfl) ?_
                refine lv_dup hx hb dX12_next0_215 rfl ?_
                refine iv_geti0 X ft_X12 hB a_h0 sh_12 16 (by decide) rfl k_fl_X12_85 dX12_next0_216 e18 ?_
                refine lv_iconst (v := 1) hx hb dX12_next0_219 (by decide) ?_
                refine iv_iadd hx hb i22_x4 q_1 (lo := 1) (hi := 400) (by decide) dX12_next0_220 (fun x32 e_x32 i_x32 => ?_)
                refine iv_puti X ft_X12 hB a_h0 sh_12 16 (by decide) rfl rfl k_fl_X12_85 rfl (i_x32.wk (by decide)) rfl rfl dX12_next0_221 (fun H locs hB => ?_)
                have hm := iv_Md.put (x := x32) a_h0 (j := 16) (by decide) (by decide)
                have h9 := iv_up_eq (G := G16) (a := h0) (k := (12, upd g17 16 x32, r2))
                generalize iv_up G16 h0 _ = G33 at hB hm h9
                have hM := hM.stp hm (by decide)
                generalize hgn_g34 : upd g17 _ _ = g34 at h9
                have a_h0 := h9
                have e35 : x4 = g34 18 := by rw [← hgn_g34]; exact e9_g17
                have e9_g34 : x32 = g34 16 := by rw [← hgn_g34]; simp [upd]
                refine lv_iload_n hx hb dX12_next0_224 rfl (lv_at hl 0 rfl) ?_
                refine lv_bipush (v := 59) hx hb dX12_next0_225 (by decide) ?_
                refine lv_icmp_eq (tgt := 284) hx hb dX12_next0_227 (by decide) (fun c36 => ?_) (fun c36 => ?_)
                · skip
                  have i36_x19 : iv_R 59 59 x19 := ((i21_x19.cutLo (n := 59) (iv_eq_r c36 q_59).1).cutHi (n := 59) (iv_eq_r c36 q_59).2)
                  refine lv_iconst (v := 1) hx hb dX12_next0_284 (by decide) ?_
                  refine lv_goto (tgt := 289) hx hb dX12_next0_285 (by decide) ?_
                  refine lv_istore_n (lv' := [(2, .int 1), (1, .int x19), (0, .ref h0)]) hx hb dX12_next0_289 rfl hl (by decide) rfl (fun ls hl => ?_)
                  refine lv_aload_n hx hb dX12_next0_290 rfl (lv_at hl 2 rfl) ?_
                  refine lv_iload_n hx hb dX12_next0_291 rfl (lv_at hl 0 rfl) ?_
                  refine lv_if_eq (tgt := 302) hx hb dX12_next0_292 (by decide) (fun c38 => ?_) (fun c38 => ?_)
                  · skip
                    exact (q_1.cutHi (n := 0) (iv_eq_r c38 q_0).2).no (by decide)
                  · skip
                    refine lv_bipush (v := 100) hx hb dX12_next0_295 (by decide) ?_
                    refine lv_iload_n hx hb dX12_next0_297 rfl (lv_at hl 1 rfl) ?_
                    refine iv_iadd hx hb q_100 i36_x19 (lo := 159) (hi := 159) (by decide) dX12_next0_298 (fun x39 e_x39 i_x39 => ?_)
                    refine lv_goto (tgt := 303) hx hb dX12_next0_299 (by decide) ?_
                    refine iv_puti X ft_X12 hB a_h0 sh_12 17 (by decide) rfl rfl k_fl_X12_165 rfl (i_x39.wk (by decide)) rfl rfl dX12_next0_303 (fun H locs hB => ?_)
                    have hm := iv_Md.put (x := x39) a_h0 (j := 17) (by decide) (by decide)
                    have h9 := iv_up_eq (G := G33) (a := h0) (k := (12, upd g34 17 x39, r2))
                    generalize iv_up G33 h0 _ = G40 at hB hm h9
                    have hM := hM.stp hm (by decide)
                    generalize hgn_g41 : upd g34 _ _ = g41 at h9
                    have a_h0 := h9
                    have e42 : x4 = g41 18 := by rw [← hgn_g41]; exact e35
                    have e43 : x32 = g41 16 := by rw [← hgn_g41]; exact e9_g34
                    have e9_g41 : x39 = g41 17 := by rw [← hgn_g41]; simp [upd]
                    exact iv_vret X hr hlocks hB hM dX12_next0_306
                · skip
                  refine lv_iload_n hx hb dX12_next0_230 rfl (lv_at hl 0 rfl) ?_
                  refine lv_bipush (v := 43) hx hb dX12_next0_231 (by decide) ?_
                  refine lv_icmp_eq (tgt := 284) hx hb dX12_next0_233 (by decide) (fun c44 => ?_) (fun c44 => ?_)
                  · skip
                    have i44_x19 : iv_R 43 43 x19 := ((i21_x19.cutLo (n := 43) (iv_eq_r c44 q_43).1).cutHi (n := 43) (iv_eq_r c44 q_43).2)
                    refine lv_iconst (v := 1) hx hb dX12_next0_284 (by decide) ?_
                    refine lv_goto (tgt := 289) hx hb dX12_next0_285 (by decide) ?_
                    refine lv_istore_n (lv' := [(2, .int 1), (1, .int x19), (0, .ref h0)]) hx hb dX12_next0_289 rfl hl (by decide) rfl (fun ls hl => ?_)
                    refine lv_aload_n hx hb dX12_next0_290 rfl (lv_at hl 2 rfl) ?_
                    refine lv_iload_n hx hb dX12_next0_291 rfl (lv_at hl 0 rfl) ?_
                    refine lv_if_eq (tgt := 302) hx hb dX12_next0_292 (by decide) (fun c46 => ?_) (fun c46 => ?_)
                    · skip
                      exact (q_1.cutHi (n := 0) (iv_eq_r c46 q_0).2).no (by decide)
                    · skip
                      refine lv_bipush (v := 100) hx hb dX12_next0_295 (by decide) ?_
                      refine lv_iload_n hx hb dX12_next0_297 rfl (lv_at hl 1 rfl) ?_
                      refine iv_iadd hx hb q_100 i44_x19 (lo := 143) (hi := 143) (by decide) dX12_next0_298 (fun x47 e_x47 i_x47 => ?_)
                      refine lv_goto (tgt := 303) hx hb dX12_next0_299 (by decide) ?_
                      refine iv_puti X ft_X12 hB a_h0 sh_12 17 (by decide) rfl rfl k_fl_X12_165 rfl (i_x47.wk (by decide)) rfl rfl dX12_next0_303 (fun H locs hB => ?_)
                      have hm := iv_Md.put (x := x47) a_h0 (j := 17) (by decide) (by decide)
                      have h9 := iv_up_eq (G := G33) (a := h0) (k := (12, upd g34 17 x47, r2))
                      generalize iv_up G33 h0 _ = G48 at hB hm h9
                      have hM := hM.stp hm (by decide)
                      generalize hgn_g49 : upd g34 _ _ = g49 at h9
                      have a_h0 := h9
                      have e50 : x4 = g49 18 := by rw [← hgn_g49]; exact e35
                      have e51 : x32 = g49 16 := by rw [← hgn_g49]; exact e9_g34
                      have e9_g49 : x47 = g49 17 := by rw [← hgn_g49]; simp [upd]
                      exact iv_vret X hr hlocks hB hM dX12_next0_306
                  · skip
                    refine lv_iload_n hx hb dX12_next0_236 rfl (lv_at hl 0 rfl) ?_
                    refine lv_bipush (v := 45) hx hb dX12_next0_237 (by decide) ?_
                    refine lv_icmp_eq (tgt := 284) hx hb dX12_next0_239 (by decide) (fun c52 => ?_) (fun c52 => ?_)
                    · skip
                      have i52_x19 : iv_R 45 45 x19 := ((i21_x19.cutLo (n := 45) (iv_eq_r c52 q_45).1).cutHi (n := 45) (iv_eq_r c52 q_45).2)
                      refine lv_iconst (v := 1) hx hb dX12_next0_284 (by decide) ?_
                      refine lv_goto (tgt := 289) hx hb dX12_next0_285 (by decide) ?_
                      refine lv_istore_n (lv' := [(2, .int 1), (1, .int x19), (0, .ref h0)]) hx hb dX12_next0_289 rfl hl (by decide) rfl (fun ls hl => ?_)
                      refine lv_aload_n hx hb dX12_next0_290 rfl (lv_at hl 2 rfl) ?_
                      refine lv_iload_n hx hb dX12_next0_291 rfl (lv_at hl 0 rfl) ?_
                      refine lv_if_eq (tgt := 302) hx hb dX12_next0_292 (by decide) (fun c54 => ?_) (fun c54 => ?_)
                      · skip
                        exact (q_1.cutHi (n := 0) (iv_eq_r c54 q_0).2).no (by decide)
                      · skip
                        refine lv_bipush (v := 100) hx hb dX12_next0_295 (by decide) ?_
                        refine lv_iload_n hx hb dX12_next0_297 rfl (lv_at hl 1 rfl) ?_
                        refine iv_iadd hx hb q_100 i52_x19 (lo := 145) (hi := 145) (by decide) dX12_next0_298 (fun x55 e_x55 i_x55 => ?_)
                        refine lv_goto (tgt := 303) hx hb dX12_next0_299 (by decide) ?_
                        refine iv_puti X ft_X12 hB a_h0 sh_12 17 (by decide) rfl rfl k_fl_X12_165 rfl (i_x55.wk (by decide)) rfl rfl dX12_next0_303 (fun H locs hB => ?_)
                        have hm := iv_Md.put (x := x55) a_h0 (j := 17) (by decide) (by decide)
                        have h9 := iv_up_eq (G := G33) (a := h0) (k := (12, upd g34 17 x55, r2))
                        generalize iv_up G33 h0 _ = G56 at hB hm h9
                        have hM := hM.stp hm (by decide)
                        generalize hgn_g57 : upd g34 _ _ = g57 at h9
                        have a_h0 := h9
                        have e58 : x4 = g57 18 := by rw [← hgn_g57]; exact e35
                        have e59 : x32 = g57 16 := by rw [← hgn_g57]; exact e9_g34
                        have e9_g57 : x55 = g57 17 := by rw [← hgn_g57]; simp [upd]
                        exact iv_vret X hr hlocks hB hM dX12_next0_306
                    · skip
                      refine lv_iload_n hx hb dX12_next0_242 rfl (lv_at hl 0 rfl) ?_
                      refine lv_bipush (v := 42) hx hb dX12_next0_243 (by decide) ?_
                      refine lv_icmp_eq (tgt := 284) hx hb dX12_next0_245 (by decide) (fun c60 => ?_) (fun c60 => ?_)
                      · skip
                        have i60_x19 : iv_R 42 42 x19 := ((i21_x19.cutLo (n := 42) (iv_eq_r c60 q_42).1).cutHi (n := 42) (iv_eq_r c60 q_42).2)
                        refine lv_iconst (v := 1) hx hb dX12_next0_284 (by decide) ?_
                        refine lv_goto (tgt := 289) hx hb dX12_next0_285 (by decide) ?_
                        refine lv_istore_n (lv' := [(2, .int 1), (1, .int x19), (0, .ref h0)]) hx hb dX12_next0_289 rfl hl (by decide) rfl (fun ls hl => ?_)
                        refine lv_aload_n hx hb dX12_next0_290 rfl (lv_at hl 2 rfl) ?_
                        refine lv_iload_n hx hb dX12_next0_291 rfl (lv_at hl 0 rfl) ?_
                        refine lv_if_eq (tgt := 302) hx hb dX12_next0_292 (by decide) (fun c62 => ?_) (fun c62 => ?_)
                        · skip
                          exact (q_1.cutHi (n := 0) (iv_eq_r c62 q_0).2).no (by decide)
                        · skip
                          refine lv_bipush (v := 100) hx hb dX12_next0_295 (by decide) ?_
                          refine lv_iload_n hx hb dX12_next0_297 rfl (lv_at hl 1 rfl) ?_
                          refine iv_iadd hx hb q_100 i60_x19 (lo := 142) (hi := 142) (by decide) dX12_next0_298 (fun x63 e_x63 i_x63 => ?_)
                          refine lv_goto (tgt := 303) hx hb dX12_next0_299 (by decide) ?_
                          refine iv_puti X ft_X12 hB a_h0 sh_12 17 (by decide) rfl rfl k_fl_X12_165 rfl (i_x63.wk (by decide)) rfl rfl dX12_next0_303 (fun H locs hB => ?_)
                          have hm := iv_Md.put (x := x63) a_h0 (j := 17) (by decide) (by decide)
                          have h9 := iv_up_eq (G := G33) (a := h0) (k := (12, upd g34 17 x63, r2))
                          generalize iv_up G33 h0 _ = G64 at hB hm h9
                          have hM := hM.stp hm (by decide)
                          generalize hgn_g65 : upd g34 _ _ = g65 at h9
                          have a_h0 := h9
                          have e66 : x4 = g65 18 := by rw [← hgn_g65]; exact e35
                          have e67 : x32 = g65 16 := by rw [← hgn_g65]; exact e9_g34
                          have e9_g65 : x63 = g65 17 := by rw [← hgn_g65]; simp [upd]
                          exact iv_vret X hr hlocks hB hM dX12_next0_306
                      · skip
                        refine lv_iload_n hx hb dX12_next0_248 rfl (lv_at hl 0 rfl) ?_
                        refine lv_bipush (v := 47) hx hb dX12_next0_249 (by decide) ?_
                        refine lv_icmp_eq (tgt := 284) hx hb dX12_next0_251 (by decide) (fun c68 => ?_) (fun c68 => ?_)
                        · skip
                          have i68_x19 : iv_R 47 47 x19 := ((i21_x19.cutLo (n := 47) (iv_eq_r c68 q_47).1).cutHi (n := 47) (iv_eq_r c68 q_47).2)
                          refine lv_iconst (v := 1) hx hb dX12_next0_284 (by decide) ?_
                          refine lv_goto (tgt := 289) hx hb dX12_next0_285 (by decide) ?_
                          refine lv_istore_n (lv' := [(2, .int 1), (1, .int x19), (0, .ref h0)]) hx hb dX12_next0_289 rfl hl (by decide) rfl (fun ls hl => ?_)
                          refine lv_aload_n hx hb dX12_next0_290 rfl (lv_at hl 2 rfl) ?_
                          refine lv_iload_n hx hb dX12_next0_291 rfl (lv_at hl 0 rfl) ?_
                          refine lv_if_eq (tgt := 302) hx hb dX12_next0_292 (by decide) (fun c70 => ?_) (fun c70 => ?_)
                          · skip
                            exact (q_1.cutHi (n := 0) (iv_eq_r c70 q_0).2).no (by decide)
                          · skip
                            refine lv_bipush (v := 100) hx hb dX12_next0_295 (by decide) ?_
                            refine lv_iload_n hx hb dX12_next0_297 rfl (lv_at hl 1 rfl) ?_
                            refine iv_iadd hx hb q_100 i68_x19 (lo := 147) (hi := 147) (by decide) dX12_next0_298 (fun x71 e_x71 i_x71 => ?_)
                            refine lv_goto (tgt := 303) hx hb dX12_next0_299 (by decide) ?_
                            refine iv_puti X ft_X12 hB a_h0 sh_12 17 (by decide) rfl rfl k_fl_X12_165 rfl (i_x71.wk (by decide)) rfl rfl dX12_next0_303 (fun H locs hB => ?_)
                            have hm := iv_Md.put (x := x71) a_h0 (j := 17) (by decide) (by decide)
                            have h9 := iv_up_eq (G := G33) (a := h0) (k := (12, upd g34 17 x71, r2))
                            generalize iv_up G33 h0 _ = G72 at hB hm h9
                            have hM := hM.stp hm (by decide)
                            generalize hgn_g73 : upd g34 _ _ = g73 at h9
                            have a_h0 := h9
                            have e74 : x4 = g73 18 := by rw [← hgn_g73]; exact e35
                            have e75 : x32 = g73 16 := by rw [← hgn_g73]; exact e9_g34
                            have e9_g73 : x71 = g73 17 := by rw [← hgn_g73]; simp [upd]
                            exact iv_vret X hr hlocks hB hM dX12_next0_306
                        · skip
                          refine lv_iload_n hx hb dX12_next0_254 rfl (lv_at hl 0 rfl) ?_
                          refine lv_bipush (v := 40) hx hb dX12_next0_255 (by decide) ?_
                          refine lv_icmp_eq (tgt := 284) hx hb dX12_next0_257 (by decide) (fun c76 => ?_) (fun c76 => ?_)
                          · skip
                            have i76_x19 : iv_R 40 40 x19 := ((i21_x19.cutLo (n := 40) (iv_eq_r c76 q_40).1).cutHi (n := 40) (iv_eq_r c76 q_40).2)
                            refine lv_iconst (v := 1) hx hb dX12_next0_284 (by decide) ?_
                            refine lv_goto (tgt := 289) hx hb dX12_next0_285 (by decide) ?_
                            refine lv_istore_n (lv' := [(2, .int 1), (1, .int x19), (0, .ref h0)]) hx hb dX12_next0_289 rfl hl (by decide) rfl (fun ls hl => ?_)
                            refine lv_aload_n hx hb dX12_next0_290 rfl (lv_at hl 2 rfl) ?_
                            refine lv_iload_n hx hb dX12_next0_291 rfl (lv_at hl 0 rfl) ?_
                            refine lv_if_eq (tgt := 302) hx hb dX12_next0_292 (by decide) (fun c78 => ?_) (fun c78 => ?_)
                            · skip
                              exact (q_1.cutHi (n := 0) (iv_eq_r c78 q_0).2).no (by decide)
                            · skip
                              refine lv_bipush (v := 100) hx hb dX12_next0_295 (by decide) ?_
                              refine lv_iload_n hx hb dX12_next0_297 rfl (lv_at hl 1 rfl) ?_
                              refine iv_iadd hx hb q_100 i76_x19 (lo := 140) (hi := 140) (by decide) dX12_next0_298 (fun x79 e_x79 i_x79 => ?_)
                              refine lv_goto (tgt := 303) hx hb dX12_next0_299 (by decide) ?_
                              refine iv_puti X ft_X12 hB a_h0 sh_12 17 (by decide) rfl rfl k_fl_X12_165 rfl (i_x79.wk (by decide)) rfl rfl dX12_next0_303 (fun H locs hB => ?_)
                              have hm := iv_Md.put (x := x79) a_h0 (j := 17) (by decide) (by decide)
                              have h9 := iv_up_eq (G := G33) (a := h0) (k := (12, upd g34 17 x79, r2))
                              generalize iv_up G33 h0 _ = G80 at hB hm h9
                              have hM := hM.stp hm (by decide)
                              generalize hgn_g81 : upd g34 _ _ = g81 at h9
                              have a_h0 := h9
                              have e82 : x4 = g81 18 := by rw [← hgn_g81]; exact e35
                              have e83 : x32 = g81 16 := by rw [← hgn_g81]; exact e9_g34
                              have e9_g81 : x79 = g81 17 := by rw [← hgn_g81]; simp [upd]
                              exact iv_vret X hr hlocks hB hM dX12_next0_306
                          · skip
                            refine lv_iload_n hx hb dX12_next0_260 rfl (lv_at hl 0 rfl) ?_
                            refine lv_bipush (v := 41) hx hb dX12_next0_261 (by decide) ?_
                            refine lv_icmp_eq (tgt := 284) hx hb dX12_next0_263 (by decide) (fun c84 => ?_) (fun c84 => ?_)
                            · skip
                              have i84_x19 : iv_R 41 41 x19 := ((i21_x19.cutLo (n := 41) (iv_eq_r c84 q_41).1).cutHi (n := 41) (iv_eq_r c84 q_41).2)
                              refine lv_iconst (v := 1) hx hb dX12_next0_284 (by decide) ?_
                              refine lv_goto (tgt := 289) hx hb dX12_next0_285 (by decide) ?_
                              refine lv_istore_n (lv' := [(2, .int 1), (1, .int x19), (0, .ref h0)]) hx hb dX12_next0_289 rfl hl (by decide) rfl (fun ls hl => ?_)
                              refine lv_aload_n hx hb dX12_next0_290 rfl (lv_at hl 2 rfl) ?_
                              refine lv_iload_n hx hb dX12_next0_291 rfl (lv_at hl 0 rfl) ?_
                              refine lv_if_eq (tgt := 302) hx hb dX12_next0_292 (by decide) (fun c86 => ?_) (fun c86 => ?_)
                              · skip
                                exact (q_1.cutHi (n := 0) (iv_eq_r c86 q_0).2).no (by decide)
                              · skip
                                refine lv_bipush (v := 100) hx hb dX12_next0_295 (by decide) ?_
                                refine lv_iload_n hx hb dX12_next0_297 rfl (lv_at hl 1 rfl) ?_
                                refine iv_iadd hx hb q_100 i84_x19 (lo := 141) (hi := 141) (by decide) dX12_next0_298 (fun x87 e_x87 i_x87 => ?_)
                                refine lv_goto (tgt := 303) hx hb dX12_next0_299 (by decide) ?_
                                refine iv_puti X ft_X12 hB a_h0 sh_12 17 (by decide) rfl rfl k_fl_X12_165 rfl (i_x87.wk (by decide)) rfl rfl dX12_next0_303 (fun H locs hB => ?_)
                                have hm := iv_Md.put (x := x87) a_h0 (j := 17) (by decide) (by decide)
                                have h9 := iv_up_eq (G := G33) (a := h0) (k := (12, upd g34 17 x87, r2))
                                generalize iv_up G33 h0 _ = G88 at hB hm h9
                                have hM := hM.stp hm (by decide)
                                generalize hgn_g89 : upd g34 _ _ = g89 at h9
                                have a_h0 := h9
                                have e90 : x4 = g89 18 := by rw [← hgn_g89]; exact e35
                                have e91 : x32 = g89 16 := by rw [← hgn_g89]; exact e9_g34
                                have e9_g89 : x87 = g89 17 := by rw [← hgn_g89]; simp [upd]
                                exact iv_vret X hr hlocks hB hM dX12_next0_306
                            · skip
                              refine lv_iload_n hx hb dX12_next0_266 rfl (lv_at hl 0 rfl) ?_
                              refine lv_bipush (v := 60) hx hb dX12_next0_267 (by decide) ?_
                              refine lv_icmp_eq (tgt := 284) hx hb dX12_next0_269 (by decide) (fun c92 => ?_) (fun c92 => ?_)
                              · skip
                                have i92_x19 : iv_R 60 60 x19 := ((i21_x19.cutLo (n := 60) (iv_eq_r c92 q_60).1).cutHi (n := 60) (iv_eq_r c92 q_60).2)
                                refine lv_iconst (v := 1) hx hb dX12_next0_284 (by decide) ?_
                                refine lv_goto (tgt := 289) hx hb dX12_next0_285 (by decide) ?_
                                refine lv_istore_n (lv' := [(2, .int 1), (1, .int x19), (0, .ref h0)]) hx hb dX12_next0_289 rfl hl (by decide) rfl (fun ls hl => ?_)
                                refine lv_aload_n hx hb dX12_next0_290 rfl (lv_at hl 2 rfl) ?_
                                refine lv_iload_n hx hb dX12_next0_291 rfl (lv_at hl 0 rfl) ?_
                                refine lv_if_eq (tgt := 302) hx hb dX12_next0_292 (by decide) (fun c94 => ?_) (fun c94 => ?_)
                                · skip
                                  exact (q_1.cutHi (n := 0) (iv_eq_r c94 q_0).2).no (by decide)
                                · skip
                                  refine lv_bipush (v := 100) hx hb dX12_next0_295 (by decide) ?_
                                  refine lv_iload_n hx hb dX12_next0_297 rfl (lv_at hl 1 rfl) ?_
                                  refine iv_iadd hx hb q_100 i92_x19 (lo := 160) (hi := 160) (by decide) dX12_next0_298 (fun x95 e_x95 i_x95 => ?_)
                                  refine lv_goto (tgt := 303) hx hb dX12_next0_299 (by decide) ?_
                                  refine iv_puti X ft_X12 hB a_h0 sh_12 17 (by decide) rfl rfl k_fl_X12_165 rfl (i_x95.wk (by decide)) rfl rfl dX12_next0_303 (fun H locs hB => ?_)
                                  have hm := iv_Md.put (x := x95) a_h0 (j := 17) (by decide) (by decide)
                                  have h9 := iv_up_eq (G := G33) (a := h0) (k := (12, upd g34 17 x95, r2))
                                  generalize iv_up G33 h0 _ = G96 at hB hm h9
                                  have hM := hM.stp hm (by decide)
                                  generalize hgn_g97 : upd g34 _ _ = g97 at h9
                                  have a_h0 := h9
                                  have e98 : x4 = g97 18 := by rw [← hgn_g97]; exact e35
                                  have e99 : x32 = g97 16 := by rw [← hgn_g97]; exact e9_g34
                                  have e9_g97 : x95 = g97 17 := by rw [← hgn_g97]; simp [upd]
                                  exact iv_vret X hr hlocks hB hM dX12_next0_306
                              · skip
                                refine lv_iload_n hx hb dX12_next0_272 rfl (lv_at hl 0 rfl) ?_
                                refine lv_bipush (v := 61) hx hb dX12_next0_273 (by decide) ?_
                                refine lv_icmp_eq (tgt := 284) hx hb dX12_next0_275 (by decide) (fun c100 => ?_) (fun c100 => ?_)
                                · skip
                                  have i100_x19 : iv_R 61 61 x19 := ((i21_x19.cutLo (n := 61) (iv_eq_r c100 q_61).1).cutHi (n := 61) (iv_eq_r c100 q_61).2)
                                  refine lv_iconst (v := 1) hx hb dX12_next0_284 (by decide) ?_
                                  refine lv_goto (tgt := 289) hx hb dX12_next0_285 (by decide) ?_
                                  refine lv_istore_n (lv' := [(2, .int 1), (1, .int x19), (0, .ref h0)]) hx hb dX12_next0_289 rfl hl (by decide) rfl (fun ls hl => ?_)
                                  refine lv_aload_n hx hb dX12_next0_290 rfl (lv_at hl 2 rfl) ?_
                                  refine lv_iload_n hx hb dX12_next0_291 rfl (lv_at hl 0 rfl) ?_
                                  refine lv_if_eq (tgt := 302) hx hb dX12_next0_292 (by decide) (fun c102 => ?_) (fun c102 => ?_)
                                  · skip
                                    exact (q_1.cutHi (n := 0) (iv_eq_r c102 q_0).2).no (by decide)
                                  · skip
                                    refine lv_bipush (v := 100) hx hb dX12_next0_295 (by decide) ?_
                                    refine lv_iload_n hx hb dX12_next0_297 rfl (lv_at hl 1 rfl) ?_
                                    refine iv_iadd hx hb q_100 i100_x19 (lo := 161) (hi := 161) (by decide) dX12_next0_298 (fun x103 e_x103 i_x103 => ?_)
                                    refine lv_goto (tgt := 303) hx hb dX12_next0_299 (by decide) ?_
                                    refine iv_puti X ft_X12 hB a_h0 sh_12 17 (by decide) rfl rfl k_fl_X12_165 rfl (i_x103.wk (by decide)) rfl rfl dX12_next0_303 (fun H locs hB => ?_)
                                    have hm := iv_Md.put (x := x103) a_h0 (j := 17) (by decide) (by decide)
                                    have h9 := iv_up_eq (G := G33) (a := h0) (k := (12, upd g34 17 x103, r2))
                                    generalize iv_up G33 h0 _ = G104 at hB hm h9
                                    have hM := hM.stp hm (by decide)
                                    generalize hgn_g105 : upd g34 _ _ = g105 at h9
                                    have a_h0 := h9
                                    have e106 : x4 = g105 18 := by rw [← hgn_g105]; exact e35
                                    have e107 : x32 = g105 16 := by rw [← hgn_g105]; exact e9_g34
                                    have e9_g105 : x103 = g105 17 := by rw [← hgn_g105]; simp [upd]
                                    exact iv_vret X hr hlocks hB hM dX12_next0_306
                                · skip
                                  refine lv_iload_n hx hb dX12_next0_278 rfl (lv_at hl 0 rfl) ?_
                                  refine lv_bipush (v := 62) hx hb dX12_next0_279 (by decide) ?_
                                  refine lv_icmp_ne (tgt := 288) hx hb dX12_next0_281 (by decide) (fun c108 => ?_) (fun c108 => ?_)
                                  · skip
                                    refine lv_iconst (v := 0) hx hb dX12_next0_288 (by decide) ?_
                                    refine lv_istore_n (lv' := [(2, .int 0), (1, .int x19), (0, .ref h0)]) hx hb dX12_next0_289 rfl hl (by decide) rfl (fun ls hl => ?_)
                                    refine lv_aload_n hx hb dX12_next0_290 rfl (lv_at hl 2 rfl) ?_
                                    refine lv_iload_n hx hb dX12_next0_291 rfl (lv_at hl 0 rfl) ?_
                                    refine lv_if_eq (tgt := 302) hx hb dX12_next0_292 (by decide) (fun c109 => ?_) (fun c109 => ?_)
                                    · skip
                                      refine lv_iconst (v := 1) hx hb dX12_next0_302 (by decide) ?_
                                      refine iv_puti X ft_X12 hB a_h0 sh_12 17 (by decide) rfl rfl k_fl_X12_165 rfl (q_1.wk (by decide)) rfl rfl dX12_next0_303 (fun H locs hB => ?_)
                                      have hm := iv_Md.put (x := 1) a_h0 (j := 17) (by decide) (by decide)
                                      have h9 := iv_up_eq (G := G33) (a := h0) (k := (12, upd g34 17 1, r2))
                                      generalize iv_up G33 h0 _ = G110 at hB hm h9
                                      have hM := hM.stp hm (by decide)
                                      generalize hgn_g111 : upd g34 _ _ = g111 at h9
                                      have a_h0 := h9
                                      have e112 : x4 = g111 18 := by rw [← hgn_g111]; exact e35
                                      have e113 : x32 = g111 16 := by rw [← hgn_g111]; exact e9_g34
                                      have e9_g111 : 1 = g111 17 := by rw [← hgn_g111]; simp [upd]
                                      exact iv_vret X hr hlocks hB hM dX12_next0_306
                                    · skip
                                      exact absurd rfl c109
                                  · skip
                                    have i113_x19 : iv_R 62 62 x19 := ((i21_x19.cutLo (n := 62) (iv_eq_r c108 q_62).1).cutHi (n := 62) (iv_eq_r c108 q_62).2)
                                    refine lv_iconst (v := 1) hx hb dX12_next0_284 (by decide) ?_
                                    refine lv_goto (tgt := 289) hx hb dX12_next0_285 (by decide) ?_
                                    refine lv_istore_n (lv' := [(2, .int 1), (1, .int x19), (0, .ref h0)]) hx hb dX12_next0_289 rfl hl (by decide) rfl (fun ls hl => ?_)
                                    refine lv_aload_n hx hb dX12_next0_290 rfl (lv_at hl 2 rfl) ?_
                                    refine lv_iload_n hx hb dX12_next0_291 rfl (lv_at hl 0 rfl) ?_
                                    refine lv_if_eq (tgt := 302) hx hb dX12_next0_292 (by decide) (fun c115 => ?_) (fun c115 => ?_)
                                    · skip
                                      exact (q_1.cutHi (n := 0) (iv_eq_r c115 q_0).2).no (by decide)
                                    · skip
                                      refine lv_bipush (v := 100) hx hb dX12_next0_295 (by decide) ?_
                                      refine lv_iload_n hx hb dX12_next0_297 rfl (lv_at hl 1 rfl) ?_
                                      refine iv_iadd hx hb q_100 i113_x19 (lo := 162) (hi := 162) (by decide) dX12_next0_298 (fun x116 e_x116 i_x116 => ?_)
                                      refine lv_goto (tgt := 303) hx hb dX12_next0_299 (by decide) ?_
                                      refine iv_puti X ft_X12 hB a_h0 sh_12 17 (by decide) rfl rfl k_fl_X12_165 rfl (i_x116.wk (by decide)) rfl rfl dX12_next0_303 (fun H locs hB => ?_)
                                      have hm := iv_Md.put (x := x116) a_h0 (j := 17) (by decide) (by decide)
                                      have h9 := iv_up_eq (G := G33) (a := h0) (k := (12, upd g34 17 x116, r2))
                                      generalize iv_up G33 h0 _ = G117 at hB hm h9
                                      have hM := hM.stp hm (by decide)
                                      generalize hgn_g118 : upd g34 _ _ = g118 at h9
                                      have a_h0 := h9
                                      have e119 : x4 = g118 18 := by rw [← hgn_g118]; exact e35
                                      have e120 : x32 = g118 16 := by rw [← hgn_g118]; exact e9_g34
                                      have e9_g118 : x116 = g118 17 := by rw [← hgn_g118]; simp [upd]
                                      exact iv_vret X hr hlocks hB hM dX12_next0_306
              · skip
                have i120_x28 : iv_R 1 1 x28 := iv_ne_lo c30 i_x28 q_0 (by decide)
                have i121_x19 : iv_R 48 57 x19 := ((i21_x19.cutLo (n := 48) (hp29 c30).1).cutHi (n := 57) (hp29 c30).2)
                refine lv_aload_n hx hb dX12_next0_121 rfl (lv_at hl 1 rfl) ?_
                refine lv_iconst (v := 0) hx hb dX12_next0_122 (by decide) ?_
                refine iv_puti X ft_X12 hB a_h0 sh_12 19 (by decide) rfl rfl k_fl_X12_177 rfl (q_0.wk (by decide)) rfl rfl dX12_next0_123 (fun H locs hB => ?_)
                have hm := iv_Md.put (x := 0) a_h0 (j := 19) (by decide) (by decide)
                have h9 := iv_up_eq (G := G16) (a := h0) (k := (12, upd g17 19 0, r2))
                generalize iv_up G16 h0 _ = G123 at hB hm h9
                have hM := hM.stp hm (by decide)
                generalize hgn_g124 : upd g17 _ _ = g124 at h9
                have a_h0 := h9
                have e125 : x4 = g124 16 := by rw [← hgn_g124]; exact e18
                have e126 : x4 = g124 18 := by rw [← hgn_g124]; exact e9_g17
                have e9_g124 : 0 = g124 19 := by rw [← hgn_g124]; simp [upd]
                have L_126 : ∀ (n_126 : Nat) (G129 : iv_G) (hM : iv_Md [12] G G129) (H : Heap) (locs : List Loc) (hB : iv_B iv_sh D classes tys base G129 s.heap H locs) (g127 : Nat → Int32) (r128 : Nat → Nat) (a_h0 : G129 h0 = some (12, g127, r128)) (hn_126 : (401 - (g127 16).toInt).toNat < n_126) (ls : Array Slot) (hl : lv_has ls 3 [(0, .ref h0)]), W p l e ({ frames := 8, cells := 0, slots := 0, locals := 168 } : Room) s m args below meth c H locs 0 0 (MQ below (iv_Qv iv_sh D classes tys base (fun G' => iv_Md [12] G G')) args s 0 0 (iv_A base)) (F0 m 126 ls []) := by
                  intro n_126
                  induction n_126 with
                  | zero => intro G129 hM H locs hB g127 r128 a_h0 hn_126 ls hl; exact absurd hn_126 (Nat.not_lt_zero _)
                  | succ n_126 ih_126 =>
                    intro G129 hM H locs hB g127 r128 a_h0 hn_126 ls hl
                    refine lv_aload_n hx hb dX12_next0_126 rfl (lv_at hl 0 rfl) ?_
                    refine lv_aload_n hx hb dX12_next0_127 rfl (lv_at hl 0 rfl) ?_
                    refine iv_geti X ft_X12 hB a_h0 sh_12 16 (by decide) rfl k_fl_X12_85 dX12_next0_128 (fun x130 e_x130 i_x130 => ?_)
                    refine iv_cVi X k_good k_mf_X12_see k_im_X12_see k_sel_X12_see k_ml_X12_161 ft_X12 hB a_h0 sh_12 (As := [.int x130]) (c_X12_see l D tys base G129 h0 g127 r128 a_h0 x130 i_x130) ⟨rfl, rfl⟩ ⟨Nat.le_of_ble_eq_true rfl, Nat.le_of_ble_eq_true rfl⟩ ⟨Nat.le_of_ble_eq_true rfl, Nat.le_of_ble_eq_true rfl⟩ rfl rfl hl.1 (Nat.le_of_ble_eq_true rfl) dX12_next0_131 (fun x131 G9 H locs hq hB => ?_)
                    obtain ⟨rfl, i_x131, np132⟩ := hq
                    refine iv_cSi X k_good k_mf_X12_isDigit k_st_X12_isDigit k_ml_X12_174 hB (As := [.int x131]) (c_X12_isDigit l D tys base G129 x131 i_x131) ⟨rfl, rfl⟩ ⟨Nat.le_of_ble_eq_true rfl, Nat.le_of_ble_eq_true rfl⟩ ⟨Nat.le_of_ble_eq_true rfl, Nat.le_of_ble_eq_true rfl⟩ rfl rfl hl.1 (Nat.le_of_ble_eq_true rfl) dX12_next0_134 (fun x133 G9 H locs hq hB => ?_)
                    obtain ⟨rfl, i_x133, hp134⟩ := hq
                    refine lv_if_eq (tgt := 189) hx hb dX12_next0_137 (by decide) (fun c135 => ?_) (fun c135 => ?_)
                    · skip
                      have i135_x133 : iv_R 0 0 x133 := (i_x133.cutHi (n := 0) (iv_eq_r c135 q_0).2)
                      refine lv_aload_n hx hb dX12_next0_189 rfl (lv_at hl 0 rfl) ?_
                      refine lv_aload_n hx hb dX12_next0_190 rfl (lv_at hl 0 rfl) ?_
                      refine iv_geti0 X ft_X12 hB a_h0 sh_12 16 (by decide) rfl k_fl_X12_85 dX12_next0_191 e_x130 ?_
                      refine lv_aload_n hx hb dX12_next0_194 rfl (lv_at hl 0 rfl) ?_
                      refine iv_geti X ft_X12 hB a_h0 sh_12 18 (by decide) rfl k_fl_X12_88 dX12_next0_195 (fun x137 e_x137 i_x137 => ?_)
                      refine iv_isub hx hb i_x130 i_x137 (lo := (-400)) (hi := 400) (by decide) dX12_next0_198 (fun x138 e_x138 i_x138 => ?_)
                      refine lv_iconst (v := 5) hx hb dX12_next0_199 (by decide) ?_
                      refine lv_icmp_ge (tgt := 207) hx hb dX12_next0_200 (by decide) (fun c139 => ?_) (fun c139 => ?_)
                      · skip
                        have i139_x138 : iv_R 5 400 x138 := (i_x138.cutLo (n := 5) (iv_le_l c139 q_5))
                        refine lv_iconst (v := 1) hx hb dX12_next0_207 (by decide) ?_
                        refine iv_puti X ft_X12 hB a_h0 sh_12 17 (by decide) rfl rfl k_fl_X12_165 rfl (q_1.wk (by decide)) rfl rfl dX12_next0_208 (fun H locs hB => ?_)
                        have hm := iv_Md.put (x := 1) a_h0 (j := 17) (by decide) (by decide)
                        have h9 := iv_up_eq (G := G129) (a := h0) (k := (12, upd g127 17 1, r128))
                        generalize iv_up G129 h0 _ = G141 at hB hm h9
                        have hM := hM.stp hm (by decide)
                        generalize hgn_g142 : upd g127 _ _ = g142 at h9
                        have a_h0 := h9
                        have e143 : x130 = g142 16 := by rw [← hgn_g142]; exact e_x130
                        have e144 : x137 = g142 18 := by rw [← hgn_g142]; exact e_x137
                        have e9_g142 : 1 = g142 17 := by rw [← hgn_g142]; simp [upd]
                        refine lv_goto (tgt := 306) hx hb dX12_next0_211 (by decide) ?_
                        exact iv_vret X hr hlocks hB hM dX12_next0_306
                      · skip
                        have i144_x138 : iv_R (-400) 4 x138 := (i_x138.cutHi (n := 4) (iv_lt_r (iv_nle c139) q_5 (by decide)))
                        refine lv_iconst (v := 2) hx hb dX12_next0_203 (by decide) ?_
                        refine lv_goto (tgt := 208) hx hb dX12_next0_204 (by decide) ?_
                        refine iv_puti X ft_X12 hB a_h0 sh_12 17 (by decide) rfl rfl k_fl_X12_165 rfl (q_2.wk (by decide)) rfl rfl dX12_next0_208 (fun H locs hB => ?_)
                        have hm := iv_Md.put (x := 2) a_h0 (j := 17) (by decide) (by decide)
                        have h9 := iv_up_eq (G := G129) (a := h0) (k := (12, upd g127 17 2, r128))
                        generalize iv_up G129 h0 _ = G146 at hB hm h9
                        have hM := hM.stp hm (by decide)
                        generalize hgn_g147 : upd g127 _ _ = g147 at h9
                        have a_h0 := h9
                        have e148 : x130 = g147 16 := by rw [← hgn_g147]; exact e_x130
                        have e149 : x137 = g147 18 := by rw [← hgn_g147]; exact e_x137
                        have e9_g147 : 2 = g147 17 := by rw [← hgn_g147]; simp [upd]
                        refine lv_goto (tgt := 306) hx hb dX12_next0_211 (by decide) ?_
                        exact iv_vret X hr hlocks hB hM dX12_next0_306
                    · skip
                      have i149_x133 : iv_R 1 1 x133 := iv_ne_lo c135 i_x133 q_0 (by decide)
                      have i150_x131 : iv_R 48 57 x131 := ((i_x131.cutLo (n := 48) (hp134 c135).1).cutHi (n := 57) (hp134 c135).2)
                      have i151_x130 : iv_R 0 399 x130 := (i_x130.cutHi (n := 399) (np132 (Int.le_trans (by decide) i150_x131.1)).2)
                      refine lv_aload_n hx hb dX12_next0_140 rfl (lv_at hl 0 rfl) ?_
                      refine iv_geti0 X ft_X12 hB a_h0 sh_12 16 (by decide) rfl k_fl_X12_85 dX12_next0_141 e_x130 ?_
                      refine lv_aload_n hx hb dX12_next0_144 rfl (lv_at hl 0 rfl) ?_
                      refine iv_geti X ft_X12 hB a_h0 sh_12 18 (by decide) rfl k_fl_X12_88 dX12_next0_145 (fun x153 e_x153 i_x153 => ?_)
                      refine lv_iconst (v := 4) hx hb dX12_next0_148 (by decide) ?_
                      refine iv_iadd hx hb i_x153 q_4 (lo := 4) (hi := 404) (by decide) dX12_next0_149 (fun x154 e_x154 i_x154 => ?_)
                      refine lv_icmp_ge (tgt := 176) hx hb dX12_next0_150 (by decide) (fun c155 => ?_) (fun c155 => ?_)
                      · skip
                        have i155_x154 : iv_R 4 399 x154 := (i_x154.cutHi (n := 399) (iv_le_r c155 i151_x130))
                        have i156_x130 : iv_R 4 399 x130 := (i151_x130.cutLo (n := 4) (iv_le_l c155 i_x154))
                        refine lv_aload_n hx hb dX12_next0_176 rfl (lv_at hl 0 rfl) ?_
                        refine lv_dup hx hb dX12_next0_177 rfl ?_
                        refine iv_geti0 X ft_X12 hB a_h0 sh_12 16 (by decide) rfl k_fl_X12_85 dX12_next0_178 e_x130 ?_
                        refine lv_iconst (v := 1) hx hb dX12_next0_181 (by decide) ?_
                        refine iv_iadd hx hb i156_x130 q_1 (lo := 5) (hi := 400) (by decide) dX12_next0_182 (fun x158 e_x158 i_x158 => ?_)
                        refine iv_puti X ft_X12 hB a_h0 sh_12 16 (by decide) rfl rfl k_fl_X12_85 rfl (i_x158.wk (by decide)) rfl rfl dX12_next0_183 (fun H locs hB => ?_)
                        have hm := iv_Md.put (x := x158) a_h0 (j := 16) (by decide) (by decide)
                        have h9 := iv_up_eq (G := G129) (a := h0) (k := (12, upd g127 16 x158, r128))
                        generalize iv_up G129 h0 _ = G159 at hB hm h9
                        have hM := hM.stp hm (by decide)
                        generalize hgn_g160 : upd g127 _ _ = g160 at h9
                        have a_h0 := h9
                        have e161 : x153 = g160 18 := by rw [← hgn_g160]; exact e_x153
                        have e9_g160 : x158 = g160 16 := by rw [← hgn_g160]; simp [upd]
                        refine lv_goto (tgt := 126) hx hb dX12_next0_186 (by decide) ?_
                        exact ih_126 G159 hM _ _ hB g160 r128 a_h0 (by have w1 := congrArg Int32.toInt e9_g160; have w2 := congrArg Int32.toInt e_x130; have w3 := i156_x130.2; have w4 : x158.toInt = x130.toInt + 1 := e_x158; omega) _ (lv_sub hl [0] rfl)
                      · skip
                        refine lv_aload_n hx hb dX12_next0_153 rfl (lv_at hl 0 rfl) ?_
                        refine lv_bipush (v := 10) hx hb dX12_next0_154 (by decide) ?_
                        refine lv_aload_n hx hb dX12_next0_156 rfl (lv_at hl 0 rfl) ?_
                        refine iv_geti X ft_X12 hB a_h0 sh_12 19 (by decide) rfl k_fl_X12_177 dX12_next0_157 (fun x162 e_x162 i_x162 => ?_)
                        refine lv_imul hx hb dX12_next0_160 ?_
                        refine lv_topi (fun x163 e_x163 => ?_)
                        have i_x163 := iv_R.all x163
                        refine lv_aload_n hx hb dX12_next0_161 rfl (lv_at hl 0 rfl) ?_
                        refine lv_aload_n hx hb dX12_next0_162 rfl (lv_at hl 0 rfl) ?_
                        refine iv_geti0 X ft_X12 hB a_h0 sh_12 16 (by decide) rfl k_fl_X12_85 dX12_next0_163 e_x130 ?_
                        refine iv_cVi X k_good k_mf_X12_see k_im_X12_see k_sel_X12_see k_ml_X12_161 ft_X12 hB a_h0 sh_12 (As := [.int x130]) (c_X12_see l D tys base G129 h0 g127 r128 a_h0 x130 (i151_x130.wk (by decide))) ⟨rfl, rfl⟩ ⟨Nat.le_of_ble_eq_true rfl, Nat.le_of_ble_eq_true rfl⟩ ⟨Nat.le_of_ble_eq_true rfl, Nat.le_of_ble_eq_true rfl⟩ rfl rfl hl.1 (Nat.le_of_ble_eq_true rfl) dX12_next0_166 (fun x164 G9 H locs hq hB => ?_)
                        obtain ⟨rfl, i_x164, np165⟩ := hq
                        refine lv_iadd hx hb dX12_next0_169 ?_
                        refine lv_topi (fun x166 e_x166 => ?_)
                        have i_x166 := iv_R.all x166
                        refine lv_bipush (v := 48) hx hb dX12_next0_170 (by decide) ?_
                        refine lv_isub hx hb dX12_next0_172 ?_
                        refine lv_topi (fun x167 e_x167 => ?_)
                        have i_x167 := iv_R.all x167
                        refine iv_puti X ft_X12 hB a_h0 sh_12 19 (by decide) rfl rfl k_fl_X12_177 rfl i_x167 rfl rfl dX12_next0_173 (fun H locs hB => ?_)
                        have hm := iv_Md.put (x := x167) a_h0 (j := 19) (by decide) (by decide)
                        have h9 := iv_up_eq (G := G129) (a := h0) (k := (12, upd g127 19 x167, r128))
                        generalize iv_up G129 h0 _ = G168 at hB hm h9
                        have hM := hM.stp hm (by decide)
                        generalize hgn_g169 : upd g127 _ _ = g169 at h9
                        have a_h0 := h9
                        have e170 : x130 = g169 16 := by rw [← hgn_g169]; exact e_x130
                        have e171 : x153 = g169 18 := by rw [← hgn_g169]; exact e_x153
                        have e9_g169 : x167 = g169 19 := by rw [← hgn_g169]; simp [upd]
                        refine lv_aload_n hx hb dX12_next0_176 rfl (lv_at hl 0 rfl) ?_
                        refine lv_dup hx hb dX12_next0_177 rfl ?_
                        refine iv_geti0 X ft_X12 hB a_h0 sh_12 16 (by decide) rfl k_fl_X12_85 dX12_next0_178 e170 ?_
                        refine lv_iconst (v := 1) hx hb dX12_next0_181 (by decide) ?_
                        refine iv_iadd hx hb i151_x130 q_1 (lo := 1) (hi := 400) (by decide) dX12_next0_182 (fun x172 e_x172 i_x172 => ?_)
                        refine iv_puti X ft_X12 hB a_h0 sh_12 16 (by decide) rfl rfl k_fl_X12_85 rfl (i_x172.wk (by decide)) rfl rfl dX12_next0_183 (fun H locs hB => ?_)
                        have hm := iv_Md.put (x := x172) a_h0 (j := 16) (by decide) (by decide)
                        have h9 := iv_up_eq (G := G168) (a := h0) (k := (12, upd g169 16 x172, r128))
                        generalize iv_up G168 h0 _ = G173 at hB hm h9
                        have hM := hM.stp hm (by decide)
                        generalize hgn_g174 : upd g169 _ _ = g174 at h9
                        have a_h0 := h9
                        have e175 : x153 = g174 18 := by rw [← hgn_g174]; exact e171
                        have e176 : x167 = g174 19 := by rw [← hgn_g174]; exact e9_g169
                        have e9_g174 : x172 = g174 16 := by rw [← hgn_g174]; simp [upd]
                        refine lv_goto (tgt := 126) hx hb dX12_next0_186 (by decide) ?_
                        exact ih_126 G173 hM _ _ hB g174 r128 a_h0 (by have w1 := congrArg Int32.toInt e9_g174; have w2 := congrArg Int32.toInt e_x130; have w3 := i151_x130.2; have w4 : x172.toInt = x130.toInt + 1 := e_x172; omega) _ (lv_sub hl [0] rfl)
                exact L_126 _ G123 hM _ _ hB g124 r2 a_h0 (Nat.lt_succ_self _) _ (lv_sub hl [1] rfl)
            · skip
              have i176_x24 : iv_R 1 1 x24 := iv_ne_lo c26 i_x24 q_0 (by decide)
              have i177_x19 : iv_R 65 122 x19 := ((i21_x19.cutLo (n := 65) (hp25 c26).1).cutHi (n := 122) (hp25 c26).2)
              have L_76 : ∀ (n_76 : Nat) (G181 : iv_G) (hM : iv_Md [12] G G181) (H : Heap) (locs : List Loc) (hB : iv_B iv_sh D classes tys base G181 s.heap H locs) (g179 : Nat → Int32) (r180 : Nat → Nat) (a_h0 : G181 h0 = some (12, g179, r180)) (hn_76 : (401 - (g179 16).toInt).toNat < n_76) (ls : Array Slot) (hl : lv_has ls 3 [(0, .ref h0)]), W p l e ({ frames := 8, cells := 0, slots := 0, locals := 168 } : Room) s m args below meth c H locs 0 0 (MQ below (iv_Qv iv_sh D classes tys base (fun G' => iv_Md [12] G G')) args s 0 0 (iv_A base)) (F0 m 76 ls []) := by
                intro n_76
                induction n_76 with
                | zero => intro G181 hM H locs hB g179 r180 a_h0 hn_76 ls hl; exact absurd hn_76 (Nat.not_lt_zero _)
                | succ n_76 ih_76 =>
                  intro G181 hM H locs hB g179 r180 a_h0 hn_76 ls hl
                  refine lv_aload_n hx hb dX12_next0_76 rfl (lv_at hl 0 rfl) ?_
                  refine lv_aload_n hx hb dX12_next0_77 rfl (lv_at hl 0 rfl) ?_
                  refine iv_geti X ft_X12 hB a_h0 sh_12 16 (by decide) rfl k_fl_X12_85 dX12_next0_78 (fun x182 e_x182 i_x182 => ?_)
                  refine iv_cVi X k_good k_mf_X12_see k_im_X12_see k_sel_X12_see k_ml_X12_161 ft_X12 hB a_h0 sh_12 (As := [.int x182]) (c_X12_see l D tys base G181 h0 g179 r180 a_h0 x182 i_x182) ⟨rfl, rfl⟩ ⟨Nat.le_of_ble_eq_true rfl, Nat.le_of_ble_eq_true rfl⟩ ⟨Nat.le_of_ble_eq_true rfl, Nat.le_of_ble_eq_true rfl⟩ rfl rfl hl.1 (Nat.le_of_ble_eq_true rfl) dX12_next0_81 (fun x183 G9 H locs hq hB => ?_)
                  obtain ⟨rfl, i_x183, np184⟩ := hq
                  refine iv_cSi X k_good k_mf_X12_isLetter k_st_X12_isLetter k_ml_X12_168 hB (As := [.int x183]) (c_X12_isLetter l D tys base G181 x183 i_x183) ⟨rfl, rfl⟩ ⟨Nat.le_of_ble_eq_true rfl, Nat.le_of_ble_eq_true rfl⟩ ⟨Nat.le_of_ble_eq_true rfl, Nat.le_of_ble_eq_true rfl⟩ rfl rfl hl.1 (Nat.le_of_ble_eq_true rfl) dX12_next0_84 (fun x185 G9 H locs hq hB => ?_)
                  obtain ⟨rfl, i_x185, hp186⟩ := hq
                  refine lv_if_eq (tgt := 103) hx hb dX12_next0_87 (by decide) (fun c187 => ?_) (fun c187 => ?_)
                  · skip
                    have i187_x185 : iv_R 0 0 x185 := (i_x185.cutHi (n := 0) (iv_eq_r c187 q_0).2)
                    refine lv_aload_n hx hb dX12_next0_103 rfl (lv_at hl 0 rfl) ?_
                    refine lv_aload_n hx hb dX12_next0_104 rfl (lv_at hl 0 rfl) ?_
                    refine iv_cVi X k_good k_mf_X12_word k_im_X12_word k_sel_X12_word k_ml_X12_171 ft_X12 hB a_h0 sh_12 (As := []) (c_X12_word l D tys base G181 h0 g179 r180 a_h0) ⟨rfl, rfl⟩ ⟨Nat.le_of_ble_eq_true rfl, Nat.le_of_ble_eq_true rfl⟩ ⟨Nat.le_of_ble_eq_true rfl, Nat.le_of_ble_eq_true rfl⟩ rfl rfl hl.1 (Nat.le_of_ble_eq_true rfl) dX12_next0_105 (fun x189 G9 H locs hq hB => ?_)
                    obtain ⟨rfl, i_x189⟩ := hq
                    refine iv_puti X ft_X12 hB a_h0 sh_12 17 (by decide) rfl rfl k_fl_X12_165 rfl (i_x189.wk (by decide)) rfl rfl dX12_next0_108 (fun H locs hB => ?_)
                    have hm := iv_Md.put (x := x189) a_h0 (j := 17) (by decide) (by decide)
                    have h9 := iv_up_eq (G := G181) (a := h0) (k := (12, upd g179 17 x189, r180))
                    generalize iv_up G181 h0 _ = G190 at hB hm h9
                    have hM := hM.stp hm (by decide)
                    generalize hgn_g191 : upd g179 _ _ = g191 at h9
                    have a_h0 := h9
                    have e192 : x182 = g191 16 := by rw [← hgn_g191]; exact e_x182
                    have e9_g191 : x189 = g191 17 := by rw [← hgn_g191]; simp [upd]
                    refine lv_goto (tgt := 306) hx hb dX12_next0_111 (by decide) ?_
                    exact iv_vret X hr hlocks hB hM dX12_next0_306
                  · skip
                    have i192_x185 : iv_R 1 1 x185 := iv_ne_lo c187 i_x185 q_0 (by decide)
                    have i193_x183 : iv_R 65 122 x183 := ((i_x183.cutLo (n := 65) (hp186 c187).1).cutHi (n := 122) (hp186 c187).2)
                    have i194_x182 : iv_R 0 399 x182 := (i_x182.cutHi (n := 399) (np184 (Int.le_trans (by decide) i193_x183.1)).2)
                    refine lv_aload_n hx hb dX12_next0_90 rfl (lv_at hl 0 rfl) ?_
                    refine lv_dup hx hb dX12_next0_91 rfl ?_
                    refine iv_geti0 X ft_X12 hB a_h0 sh_12 16 (by decide) rfl k_fl_X12_85 dX12_next0_92 e_x182 ?_
                    refine lv_iconst (v := 1) hx hb dX12_next0_95 (by decide) ?_
                    refine iv_iadd hx hb i194_x182 q_1 (lo := 1) (hi := 400) (by decide) dX12_next0_96 (fun x196 e_x196 i_x196 => ?_)
                    refine iv_puti X ft_X12 hB a_h0 sh_12 16 (by decide) rfl rfl k_fl_X12_85 rfl (i_x196.wk (by decide)) rfl rfl dX12_next0_97 (fun H locs hB => ?_)
                    have hm := iv_Md.put (x := x196) a_h0 (j := 16) (by decide) (by decide)
                    have h9 := iv_up_eq (G := G181) (a := h0) (k := (12, upd g179 16 x196, r180))
                    generalize iv_up G181 h0 _ = G197 at hB hm h9
                    have hM := hM.stp hm (by decide)
                    generalize hgn_g198 : upd g179 _ _ = g198 at h9
                    have a_h0 := h9
                    have e9_g198 : x196 = g198 16 := by rw [← hgn_g198]; simp [upd]
                    refine lv_goto (tgt := 76) hx hb dX12_next0_100 (by decide) ?_
                    exact ih_76 G197 hM _ _ hB g198 r180 a_h0 (by have w1 := congrArg Int32.toInt e9_g198; have w2 := congrArg Int32.toInt e_x182; have w3 := i194_x182.2; have w4 : x196.toInt = x182.toInt + 1 := e_x196; omega) _ (lv_sub hl [0] rfl)
              exact L_76 _ G16 hM _ _ hB g17 r2 a_h0 (Nat.lt_succ_self _) _ (lv_sub hl [1] rfl)
          · skip
            have i198_x19 : iv_R (-1) (-1) x19 := (i_x19.cutHi (n := (-1)) (iv_eq_r c21 q_n1).2)
            refine lv_aload_n hx hb dX12_next0_61 rfl (lv_at hl 1 rfl) ?_
            refine lv_iconst (v := 0) hx hb dX12_next0_62 (by decide) ?_
            refine iv_puti X ft_X12 hB a_h0 sh_12 17 (by decide) rfl rfl k_fl_X12_165 rfl (q_0.wk (by decide)) rfl rfl dX12_next0_63 (fun H locs hB => ?_)
            have hm := iv_Md.put (x := 0) a_h0 (j := 17) (by decide) (by decide)
            have h9 := iv_up_eq (G := G16) (a := h0) (k := (12, upd g17 17 0, r2))
            generalize iv_up G16 h0 _ = G200 at hB hm h9
            have hM := hM.stp hm (by decide)
            generalize hgn_g201 : upd g17 _ _ = g201 at h9
            have a_h0 := h9
            have e202 : x4 = g201 16 := by rw [← hgn_g201]; exact e18
            have e203 : x4 = g201 18 := by rw [← hgn_g201]; exact e9_g17
            have e9_g201 : 0 = g201 17 := by rw [← hgn_g201]; simp [upd]
            refine lv_goto (tgt := 306) hx hb dX12_next0_66 (by decide) ?_
            exact iv_vret X hr hlocks hB hM dX12_next0_306
        · skip
          have i203_x13 : iv_R 10 10 x13 := ((i_x13.cutLo (n := 10) (iv_eq_r c15 q_10).1).cutHi (n := 10) (iv_eq_r c15 q_10).2)
          have i204_x4 : iv_R 0 399 x4 := (i_x4.cutHi (n := 399) (np14 (Int.le_trans (by decide) i203_x13.1)).2)
          refine lv_aload_n hx hb dX12_next0_26 rfl (lv_at hl 0 rfl) ?_
          refine lv_dup hx hb dX12_next0_27 rfl ?_
          refine iv_geti0 X ft_X12 hB a_h0 sh_12 16 (by decide) rfl k_fl_X12_85 dX12_next0_28 e_x4 ?_
          refine lv_iconst (v := 1) hx hb dX12_next0_31 (by decide) ?_
          refine iv_iadd hx hb i204_x4 q_1 (lo := 1) (hi := 400) (by decide) dX12_next0_32 (fun x206 e_x206 i_x206 => ?_)
          refine iv_puti X ft_X12 hB a_h0 sh_12 16 (by decide) rfl rfl k_fl_X12_85 rfl (i_x206.wk (by decide)) rfl rfl dX12_next0_33 (fun H locs hB => ?_)
          have hm := iv_Md.put (x := x206) a_h0 (j := 16) (by decide) (by decide)
          have h9 := iv_up_eq (G := G3) (a := h0) (k := (12, upd g1 16 x206, r2))
          generalize iv_up G3 h0 _ = G207 at hB hm h9
          have hM := hM.stp hm (by decide)
          generalize hgn_g208 : upd g1 _ _ = g208 at h9
          have a_h0 := h9
          have e9_g208 : x206 = g208 16 := by rw [← hgn_g208]; simp [upd]
          refine lv_goto (tgt := 0) hx hb dX12_next0_36 (by decide) ?_
          exact ih_0 G207 hM _ _ hB g208 r2 a_h0 (by have w1 := congrArg Int32.toInt e9_g208; have w2 := congrArg Int32.toInt e_x4; have w3 := i204_x4.2; have w4 : x206.toInt = x4.toInt + 1 := e_x206; omega) _ (lv_sub hl [0] rfl)
  exact L_0 _ G hM _ _ hB g_h0 r_h0 a_h0 (Nat.lt_succ_self _) _ (lv_sub hl [0] rfl)
theorem dX12_swapsWith_0 : decode cX12_swapsWith 0 = .ok (.iconst 0, 1) := by decide +kernel
theorem dX12_swapsWith_1 : decode cX12_swapsWith 1 = .ok (.istore_n 2, 1) := by decide +kernel
theorem dX12_swapsWith_2 : decode cX12_swapsWith 2 = .ok (.iload_n 2, 1) := by decide +kernel
theorem dX12_swapsWith_3 : decode cX12_swapsWith 3 = .ok (.aload_n 0, 1) := by decide +kernel
theorem dX12_swapsWith_4 : decode cX12_swapsWith 4 = .ok (.getfield 7, 3) := by decide +kernel
theorem dX12_swapsWith_7 : decode cX12_swapsWith 7 = .ok (.iconst 4, 1) := by decide +kernel
theorem dX12_swapsWith_8 : decode cX12_swapsWith 8 = .ok (.iaload, 1) := by decide +kernel
theorem dX12_swapsWith_9 : decode cX12_swapsWith 9 = .ok (.if_icmp .ge 35, 3) := by decide +kernel
theorem dX12_swapsWith_12 : decode cX12_swapsWith 12 = .ok (.aload_n 0, 1) := by decide +kernel
theorem dX12_swapsWith_13 : decode cX12_swapsWith 13 = .ok (.iload_n 1, 1) := by decide +kernel
theorem dX12_swapsWith_14 : decode cX12_swapsWith 14 = .ok (.iload_n 2, 1) := by decide +kernel
theorem dX12_swapsWith_15 : decode cX12_swapsWith 15 = .ok (.invokevirtual 420, 3) := by decide +kernel
theorem dX12_swapsWith_18 : decode cX12_swapsWith 18 = .ok (.ifCond .eq 20, 3) := by decide +kernel
theorem dX12_swapsWith_21 : decode cX12_swapsWith 21 = .ok (.aload_n 0, 1) := by decide +kernel
theorem dX12_swapsWith_22 : decode cX12_swapsWith 22 = .ok (.iload_n 2, 1) := by decide +kernel
theorem dX12_swapsWith_23 : decode cX12_swapsWith 23 = .ok (.iconst 0, 1) := by decide +kernel
theorem dX12_swapsWith_24 : decode cX12_swapsWith 24 = .ok (.invokevirtual 335, 3) := by decide +kernel
theorem dX12_swapsWith_27 : decode cX12_swapsWith 27 = .ok (.aload_n 0, 1) := by decide +kernel
theorem dX12_swapsWith_28 : decode cX12_swapsWith 28 = .ok (.getfield 47, 3) := by decide +kernel
theorem dX12_swapsWith_31 : decode cX12_swapsWith 31 = .ok (.iload_n 1, 1) := by decide +kernel
theorem dX12_swapsWith_32 : decode cX12_swapsWith 32 = .ok (.iaload, 1) := by decide +kernel
theorem dX12_swapsWith_33 : decode cX12_swapsWith 33 = .ok (.if_icmp .ne 5, 3) := by decide +kernel
theorem dX12_swapsWith_36 : decode cX12_swapsWith 36 = .ok (.iload_n 2, 1) := by decide +kernel
theorem dX12_swapsWith_37 : decode cX12_swapsWith 37 = .ok (.ireturn, 1) := by decide +kernel
theorem dX12_swapsWith_38 : decode cX12_swapsWith 38 = .ok (.iinc 2 1, 3) := by decide +kernel
theorem dX12_swapsWith_41 : decode cX12_swapsWith 41 = .ok (.goto (-39), 3) := by decide +kernel
theorem dX12_swapsWith_44 : decode cX12_swapsWith 44 = .ok (.iconst 0, 1) := by decide +kernel
theorem dX12_swapsWith_45 : decode cX12_swapsWith 45 = .ok (.istore_n 2, 1) := by decide +kernel
theorem dX12_swapsWith_46 : decode cX12_swapsWith 46 = .ok (.iload_n 2, 1) := by decide +kernel
theorem dX12_swapsWith_47 : decode cX12_swapsWith 47 = .ok (.aload_n 0, 1) := by decide +kernel
theorem dX12_swapsWith_48 : decode cX12_swapsWith 48 = .ok (.getfield 7, 3) := by decide +kernel
theorem dX12_swapsWith_51 : decode cX12_swapsWith 51 = .ok (.iconst 4, 1) := by decide +kernel
theorem dX12_swapsWith_52 : decode cX12_swapsWith 52 = .ok (.iaload, 1) := by decide +kernel
theorem dX12_swapsWith_53 : decode cX12_swapsWith 53 = .ok (.if_icmp .ge 20, 3) := by decide +kernel
theorem dX12_swapsWith_56 : decode cX12_swapsWith 56 = .ok (.aload_n 0, 1) := by decide +kernel
theorem dX12_swapsWith_57 : decode cX12_swapsWith 57 = .ok (.iload_n 1, 1) := by decide +kernel
theorem dX12_swapsWith_58 : decode cX12_swapsWith 58 = .ok (.iload_n 2, 1) := by decide +kernel
theorem dX12_swapsWith_59 : decode cX12_swapsWith 59 = .ok (.invokevirtual 420, 3) := by decide +kernel
theorem dX12_swapsWith_62 : decode cX12_swapsWith 62 = .ok (.ifCond .eq 5, 3) := by decide +kernel
theorem dX12_swapsWith_65 : decode cX12_swapsWith 65 = .ok (.iload_n 2, 1) := by decide +kernel
theorem dX12_swapsWith_66 : decode cX12_swapsWith 66 = .ok (.ireturn, 1) := by decide +kernel
theorem dX12_swapsWith_67 : decode cX12_swapsWith 67 = .ok (.iinc 2 1, 3) := by decide +kernel
theorem dX12_swapsWith_70 : decode cX12_swapsWith 70 = .ok (.goto (-24), 3) := by decide +kernel
theorem dX12_swapsWith_73 : decode cX12_swapsWith 73 = .ok (.iconst (-1), 1) := by decide +kernel
theorem dX12_swapsWith_74 : decode cX12_swapsWith 74 = .ok (.ireturn, 1) := by decide +kernel
set_option maxHeartbeats 4000000 in
set_option maxRecDepth 100000 in
theorem c_X12_swapsWith (l : Launch) (D : va_G) (tys : List (ClassId × FieldType)) (base : Nat) (G : iv_G) (h0 : Nat) (g_h0 : Nat → Int32) (r_h0 : Nat → Nat) (a_h0 : G h0 = some (12, g_h0, r_h0)) (x_0 : Int32) (i_x_0 : iv_R 0 19 x_0) : Met l yX12_swapsWith (Cond.code yX12_swapsWith cX12_swapsWith 3 (some .int) :: iv_W0) ({ frames := 3, cells := 0, slots := 0, locals := 65 }) (iv_Pc iv_sh D classes tys base G [.ref h0, .int x_0]) (iv_Qi iv_sh D classes tys base (fun v G' => G = G' ∧ iv_R (-1) 19 v)) 0 0 (iv_A base) := by
  refine iv_head (by decide) (Nat.le_of_ble_eq_true rfl) ?_
  intro p e s m args below meth c ls X hr hlocks hname hB hl
  have X := X
  have hx := X.1.1
  have hb := X.1.2.1
  have hl : lv_has ls 3 [(0, .ref h0), (1, .int x_0)] := hl
  refine lv_iconst (v := 0) hx hb dX12_swapsWith_0 (by decide) ?_
  refine lv_istore_n (lv' := [(2, .int 0), (0, .ref h0), (1, .int x_0)]) hx hb dX12_swapsWith_1 rfl hl (by decide) rfl (fun ls hl => ?_)
  have L_2 : ∀ (n_2 : Nat) (H : Heap) (locs : List Loc) (hB : iv_B iv_sh D classes tys base G s.heap H locs) (x1 : Int32) (i_x1 : iv_R 0 20 x1) (hn_2 : (21 - x1.toInt).toNat < n_2) (ls : Array Slot) (hl : lv_has ls 3 [(2, .int x1), (0, .ref h0), (1, .int x_0)]), W p l e ({ frames := 3, cells := 0, slots := 0, locals := 65 } : Room) s m args below meth c H locs 0 0 (MQ below (iv_Qi iv_sh D classes tys base (fun v G' => G = G' ∧ iv_R (-1) 19 v)) args s 0 0 (iv_A base)) (F0 m 2 ls []) := by
    intro n_2
    induction n_2 with
    | zero => intro H locs hB x1 i_x1 hn_2 ls hl; exact absurd hn_2 (Nat.not_lt_zero _)
    | succ n_2 ih_2 =>
      intro H locs hB x1 i_x1 hn_2 ls hl
      refine lv_iload_n hx hb dX12_swapsWith_2 rfl (lv_at hl 0 rfl) ?_
      refine lv_aload_n hx hb dX12_swapsWith_3 rfl (lv_at hl 1 rfl) ?_
      refine iv_getr X ft_X12 hB a_h0 sh_12 0 (by decide) rfl k_fl_X12_7 dX12_swapsWith_4 (fun b2 g_b2 r_b2 e_b2 a_b2 => ?_)
      refine lv_iconst (v := 4) hx hb dX12_swapsWith_7 (by decide) ?_
      refine iv_wald_c X hB a_b2 q_4 (by decide) (lo := 0) (hi' := 20) (by decide) dX12_swapsWith_8 (fun x3 e_x3 i_x3 => ?_)
      refine lv_icmp_ge (tgt := 44) hx hb dX12_swapsWith_9 (by decide) (fun c4 => ?_) (fun c4 => ?_)
      · skip
        refine lv_iconst (v := 0) hx hb dX12_swapsWith_44 (by decide) ?_
        refine lv_istore_n (lv' := [(2, .int 0), (0, .ref h0), (1, .int x_0)]) hx hb dX12_swapsWith_45 rfl hl (by decide) rfl (fun ls hl => ?_)
        have L_46 : ∀ (n_46 : Nat) (H : Heap) (locs : List Loc) (hB : iv_B iv_sh D classes tys base G s.heap H locs) (x5 : Int32) (i_x5 : iv_R 0 20 x5) (hn_46 : (21 - x5.toInt).toNat < n_46) (ls : Array Slot) (hl : lv_has ls 3 [(2, .int x5), (0, .ref h0), (1, .int x_0)]), W p l e ({ frames := 3, cells := 0, slots := 0, locals := 65 } : Room) s m args below meth c H locs 0 0 (MQ below (iv_Qi iv_sh D classes tys base (fun v G' => G = G' ∧ iv_R (-1) 19 v)) args s 0 0 (iv_A base)) (F0 m 46 ls []) := by
          intro n_46
          induction n_46 with
          | zero => intro H locs hB x5 i_x5 hn_46 ls hl; exact absurd hn_46 (Nat.not_lt_zero _)
          | succ n_46 ih_46 =>
            intro H locs hB x5 i_x5 hn_46 ls hl
            refine lv_iload_n hx hb dX12_swapsWith_46 rfl (lv_at hl 0 rfl) ?_
            refine lv_aload_n hx hb dX12_swapsWith_47 rfl (lv_at hl 1 rfl) ?_
            refine iv_getr0 X ft_X12 hB a_h0 sh_12 0 (by decide) rfl k_fl_X12_7 dX12_swapsWith_48 e_b2 ?_
            refine lv_iconst (v := 4) hx hb dX12_swapsWith_51 (by decide) ?_
            refine iv_wald_c X hB a_b2 q_4 (by decide) (lo := 0) (hi' := 20) (by decide) dX12_swapsWith_52 (fun x6 e_x6 k_x6 => ?_)
            obtain rfl : x3 = x6 := e_x3.trans e_x6.symm
            refine lv_icmp_ge (tgt := 73) hx hb dX12_swapsWith_53 (by decide) (fun c7 => ?_) (fun c7 => ?_)
            · skip
              refine lv_iconst (v := (-1)) hx hb dX12_swapsWith_73 (by decide) ?_
              exact iv_iret X hr hlocks hB ⟨rfl, (q_n1.wk (by decide))⟩ dX12_swapsWith_74
            · skip
              have i7_x5 : iv_R 0 19 x5 := (i_x5.cutHi (n := 19) (iv_lt_r (iv_nle c7) i_x3 (by decide)))
              have i8_x3 : iv_R 1 20 x3 := (i_x3.cutLo (n := 1) (iv_lt_l (iv_nle c7) i_x5 (by decide)))
              refine lv_aload_n hx hb dX12_swapsWith_56 rfl (lv_at hl 1 rfl) ?_
              refine lv_iload_n hx hb dX12_swapsWith_57 rfl (lv_at hl 2 rfl) ?_
              refine lv_iload_n hx hb dX12_swapsWith_58 rfl (lv_at hl 0 rfl) ?_
              refine iv_cVi X k_good k_mf_X12_canTakeFrom k_im_X12_canTakeFrom k_sel_X12_canTakeFrom k_ml_X12_420 ft_X12 hB a_h0 sh_12 (As := [.int x_0, .int x5]) (c_X12_canTakeFrom l D tys base G h0 g_h0 r_h0 a_h0 x_0 i_x_0 x5 i7_x5) ⟨rfl, rfl⟩ ⟨Nat.le_of_ble_eq_true rfl, Nat.le_of_ble_eq_true rfl⟩ ⟨Nat.le_of_ble_eq_true rfl, Nat.le_of_ble_eq_true rfl⟩ rfl rfl hl.1 (Nat.le_of_ble_eq_true rfl) dX12_swapsWith_59 (fun x10 G9 H locs hq hB => ?_)
              obtain ⟨rfl, i_x10⟩ := hq
              refine lv_if_eq (tgt := 67) hx hb dX12_swapsWith_62 (by decide) (fun c11 => ?_) (fun c11 => ?_)
              · skip
                have i11_x10 : iv_R 0 0 x10 := (i_x10.cutHi (n := 0) (iv_eq_r c11 q_0).2)
                refine iv_iinc hx hb i7_x5 (lo := 1) (hi := 20) (by decide) dX12_swapsWith_67 hl (k := 0) rfl (by decide) (fun x13 ls e_x13 i_x13 hl => ?_)
                have hl : lv_has ls 3 [(2, .int x13), (0, .ref h0), (1, .int x_0)] := hl
                refine lv_goto (tgt := 46) hx hb dX12_swapsWith_70 (by decide) ?_
                exact ih_46 _ _ hB x13 (i_x13.wk (by decide)) (iv_mup (c := 1) i_x5 (by decide) (by decide) (by omega) hn_46) _ (lv_sub hl [0, 1, 2] rfl)
              · skip
                have i13_x10 : iv_R 1 1 x10 := iv_ne_lo c11 i_x10 q_0 (by decide)
                refine lv_iload_n hx hb dX12_swapsWith_65 rfl (lv_at hl 0 rfl) ?_
                exact iv_iret X hr hlocks hB ⟨rfl, (i7_x5.wk (by decide))⟩ dX12_swapsWith_66
        exact L_46 _ _ _ hB 0 (q_0.wk (by decide)) (Nat.lt_succ_self _) _ (lv_sub hl [0, 1, 2] rfl)
      · skip
        have i14_x1 : iv_R 0 19 x1 := (i_x1.cutHi (n := 19) (iv_lt_r (iv_nle c4) i_x3 (by decide)))
        have i15_x3 : iv_R 1 20 x3 := (i_x3.cutLo (n := 1) (iv_lt_l (iv_nle c4) i_x1 (by decide)))
        refine lv_aload_n hx hb dX12_swapsWith_12 rfl (lv_at hl 1 rfl) ?_
        refine lv_iload_n hx hb dX12_swapsWith_13 rfl (lv_at hl 2 rfl) ?_
        refine lv_iload_n hx hb dX12_swapsWith_14 rfl (lv_at hl 0 rfl) ?_
        refine iv_cVi X k_good k_mf_X12_canTakeFrom k_im_X12_canTakeFrom k_sel_X12_canTakeFrom k_ml_X12_420 ft_X12 hB a_h0 sh_12 (As := [.int x_0, .int x1]) (c_X12_canTakeFrom l D tys base G h0 g_h0 r_h0 a_h0 x_0 i_x_0 x1 i14_x1) ⟨rfl, rfl⟩ ⟨Nat.le_of_ble_eq_true rfl, Nat.le_of_ble_eq_true rfl⟩ ⟨Nat.le_of_ble_eq_true rfl, Nat.le_of_ble_eq_true rfl⟩ rfl rfl hl.1 (Nat.le_of_ble_eq_true rfl) dX12_swapsWith_15 (fun x17 G9 H locs hq hB => ?_)
        obtain ⟨rfl, i_x17⟩ := hq
        refine lv_if_eq (tgt := 38) hx hb dX12_swapsWith_18 (by decide) (fun c18 => ?_) (fun c18 => ?_)
        · skip
          have i18_x17 : iv_R 0 0 x17 := (i_x17.cutHi (n := 0) (iv_eq_r c18 q_0).2)
          refine iv_iinc hx hb i14_x1 (lo := 1) (hi := 20) (by decide) dX12_swapsWith_38 hl (k := 0) rfl (by decide) (fun x20 ls e_x20 i_x20 hl => ?_)
          have hl : lv_has ls 3 [(2, .int x20), (0, .ref h0), (1, .int x_0)] := hl
          refine lv_goto (tgt := 2) hx hb dX12_swapsWith_41 (by decide) ?_
          exact ih_2 _ _ hB x20 (i_x20.wk (by decide)) (iv_mup (c := 1) i_x1 (by decide) (by decide) (by omega) hn_2) _ (lv_sub hl [0, 1, 2] rfl)
        · skip
          have i20_x17 : iv_R 1 1 x17 := iv_ne_lo c18 i_x17 q_0 (by decide)
          refine lv_aload_n hx hb dX12_swapsWith_21 rfl (lv_at hl 1 rfl) ?_
          refine lv_iload_n hx hb dX12_swapsWith_22 rfl (lv_at hl 0 rfl) ?_
          refine lv_iconst (v := 0) hx hb dX12_swapsWith_23 (by decide) ?_
          refine iv_cVi X k_good k_mf_X12_ofChild k_im_X12_ofChild k_sel_X12_ofChild k_ml_X12_335 ft_X12 hB a_h0 sh_12 (As := [.int x1, .int 0]) (c_X12_ofChild l D tys base G h0 g_h0 r_h0 a_h0 x1 i14_x1 0 (q_0.wk (by decide))) ⟨rfl, rfl⟩ ⟨Nat.le_of_ble_eq_true rfl, Nat.le_of_ble_eq_true rfl⟩ ⟨Nat.le_of_ble_eq_true rfl, Nat.le_of_ble_eq_true rfl⟩ rfl rfl hl.1 (Nat.le_of_ble_eq_true rfl) dX12_swapsWith_24 (fun x22 G9 H locs hq hB => ?_)
          obtain ⟨rfl, i_x22⟩ := hq
          refine lv_aload_n hx hb dX12_swapsWith_27 rfl (lv_at hl 1 rfl) ?_
          refine iv_getr X ft_X12 hB a_h0 sh_12 28 (by decide) rfl k_fl_X12_47 dX12_swapsWith_28 (fun b23 g_b23 r_b23 e_b23 a_b23 => ?_)
          refine lv_iload_n hx hb dX12_swapsWith_31 rfl (lv_at hl 2 rfl) ?_
          refine iv_ald X hB a_b23 sh_71 (iv_in i_x_0 (by decide)) dX12_swapsWith_32 (fun x24 e_x24 i_x24 => ?_)
          refine lv_icmp_ne (tgt := 38) hx hb dX12_swapsWith_33 (by decide) (fun c25 => ?_) (fun c25 => ?_)
          · skip
            refine iv_iinc hx hb i14_x1 (lo := 1) (hi := 20) (by decide) dX12_swapsWith_38 hl (k := 0) rfl (by decide) (fun x26 ls e_x26 i_x26 hl => ?_)
            have hl : lv_has ls 3 [(2, .int x26), (0, .ref h0), (1, .int x_0)] := hl
            refine lv_goto (tgt := 2) hx hb dX12_swapsWith_41 (by decide) ?_
            exact ih_2 _ _ hB x26 (i_x26.wk (by decide)) (iv_mup (c := 1) i_x1 (by decide) (by decide) (by omega) hn_2) _ (lv_sub hl [0, 1, 2] rfl)
          · skip
            refine lv_iload_n hx hb dX12_swapsWith_36 rfl (lv_at hl 0 rfl) ?_
            exact iv_iret X hr hlocks hB ⟨rfl, (i14_x1.wk (by decide))⟩ dX12_swapsWith_37
  exact L_2 _ _ _ hB 0 (q_0.wk (by decide)) (Nat.lt_succ_self _) _ (lv_sub hl [0, 1, 2] rfl)
theorem dX12_nextSwap_0 : decode cX12_nextSwap 0 = .ok (.iconst 0, 1) := by decide +kernel
theorem dX12_nextSwap_1 : decode cX12_nextSwap 1 = .ok (.istore_n 1, 1) := by decide +kernel
theorem dX12_nextSwap_2 : decode cX12_nextSwap 2 = .ok (.iload_n 1, 1) := by decide +kernel
theorem dX12_nextSwap_3 : decode cX12_nextSwap 3 = .ok (.aload_n 0, 1) := by decide +kernel
theorem dX12_nextSwap_4 : decode cX12_nextSwap 4 = .ok (.getfield 7, 3) := by decide +kernel
theorem dX12_nextSwap_7 : decode cX12_nextSwap 7 = .ok (.iconst 4, 1) := by decide +kernel
theorem dX12_nextSwap_8 : decode cX12_nextSwap 8 = .ok (.iaload, 1) := by decide +kernel
theorem dX12_nextSwap_9 : decode cX12_nextSwap 9 = .ok (.if_icmp .ge 37, 3) := by decide +kernel
theorem dX12_nextSwap_12 : decode cX12_nextSwap 12 = .ok (.aload_n 0, 1) := by decide +kernel
theorem dX12_nextSwap_13 : decode cX12_nextSwap 13 = .ok (.iload_n 1, 1) := by decide +kernel
theorem dX12_nextSwap_14 : decode cX12_nextSwap 14 = .ok (.invokevirtual 417, 3) := by decide +kernel
theorem dX12_nextSwap_17 : decode cX12_nextSwap 17 = .ok (.ifCond .eq 23, 3) := by decide +kernel
theorem dX12_nextSwap_20 : decode cX12_nextSwap 20 = .ok (.aload_n 0, 1) := by decide +kernel
theorem dX12_nextSwap_21 : decode cX12_nextSwap 21 = .ok (.iload_n 1, 1) := by decide +kernel
theorem dX12_nextSwap_22 : decode cX12_nextSwap 22 = .ok (.invokevirtual 423, 3) := by decide +kernel
theorem dX12_nextSwap_25 : decode cX12_nextSwap 25 = .ok (.iconst (-1), 1) := by decide +kernel
theorem dX12_nextSwap_26 : decode cX12_nextSwap 26 = .ok (.if_icmp .eq 14, 3) := by decide +kernel
theorem dX12_nextSwap_29 : decode cX12_nextSwap 29 = .ok (.bipush 20, 2) := by decide +kernel
theorem dX12_nextSwap_31 : decode cX12_nextSwap 31 = .ok (.iload_n 1, 1) := by decide +kernel
theorem dX12_nextSwap_32 : decode cX12_nextSwap 32 = .ok (.imul, 1) := by decide +kernel
theorem dX12_nextSwap_33 : decode cX12_nextSwap 33 = .ok (.aload_n 0, 1) := by decide +kernel
theorem dX12_nextSwap_34 : decode cX12_nextSwap 34 = .ok (.iload_n 1, 1) := by decide +kernel
theorem dX12_nextSwap_35 : decode cX12_nextSwap 35 = .ok (.invokevirtual 423, 3) := by decide +kernel
theorem dX12_nextSwap_38 : decode cX12_nextSwap 38 = .ok (.iadd, 1) := by decide +kernel
theorem dX12_nextSwap_39 : decode cX12_nextSwap 39 = .ok (.ireturn, 1) := by decide +kernel
theorem dX12_nextSwap_40 : decode cX12_nextSwap 40 = .ok (.iinc 1 1, 3) := by decide +kernel
theorem dX12_nextSwap_43 : decode cX12_nextSwap 43 = .ok (.goto (-41), 3) := by decide +kernel
theorem dX12_nextSwap_46 : decode cX12_nextSwap 46 = .ok (.iconst (-1), 1) := by decide +kernel
theorem dX12_nextSwap_47 : decode cX12_nextSwap 47 = .ok (.ireturn, 1) := by decide +kernel
set_option maxHeartbeats 4000000 in
set_option maxRecDepth 100000 in
theorem c_X12_nextSwap (l : Launch) (D : va_G) (tys : List (ClassId × FieldType)) (base : Nat) (G : iv_G) (h0 : Nat) (g_h0 : Nat → Int32) (r_h0 : Nat → Nat) (a_h0 : G h0 = some (12, g_h0, r_h0)) : Met l yX12_nextSwap (Cond.code yX12_nextSwap cX12_nextSwap 2 (some .int) :: iv_W0) ({ frames := 4, cells := 0, slots := 0, locals := 87 }) (iv_Pc iv_sh D classes tys base G [.ref h0]) (iv_Qi iv_sh D classes tys base (fun v G' => G = G' ∧ iv_R (-1) 399 v)) 0 0 (iv_A base) := by
  refine iv_head (by decide) (Nat.le_of_ble_eq_true rfl) ?_
  intro p e s m args below meth c ls X hr hlocks hname hB hl
  have X := X
  have hx := X.1.1
  have hb := X.1.2.1
  have hl : lv_has ls 2 [(0, .ref h0)] := hl
  refine lv_iconst (v := 0) hx hb dX12_nextSwap_0 (by decide) ?_
  refine lv_istore_n (lv' := [(1, .int 0), (0, .ref h0)]) hx hb dX12_nextSwap_1 rfl hl (by decide) rfl (fun ls hl => ?_)
  have L_2 : ∀ (n_2 : Nat) (H : Heap) (locs : List Loc) (hB : iv_B iv_sh D classes tys base G s.heap H locs) (x1 : Int32) (i_x1 : iv_R 0 20 x1) (hn_2 : (21 - x1.toInt).toNat < n_2) (ls : Array Slot) (hl : lv_has ls 2 [(1, .int x1), (0, .ref h0)]), W p l e ({ frames := 4, cells := 0, slots := 0, locals := 87 } : Room) s m args below meth c H locs 0 0 (MQ below (iv_Qi iv_sh D classes tys base (fun v G' => G = G' ∧ iv_R (-1) 399 v)) args s 0 0 (iv_A base)) (F0 m 2 ls []) := by
    intro n_2
    induction n_2 with
    | zero => intro H locs hB x1 i_x1 hn_2 ls hl; exact absurd hn_2 (Nat.not_lt_zero _)
    | succ n_2 ih_2 =>
      intro H locs hB x1 i_x1 hn_2 ls hl
      refine lv_iload_n hx hb dX12_nextSwap_2 rfl (lv_at hl 0 rfl) ?_
      refine lv_aload_n hx hb dX12_nextSwap_3 rfl (lv_at hl 1 rfl) ?_
      refine iv_getr X ft_X12 hB a_h0 sh_12 0 (by decide) rfl k_fl_X12_7 dX12_nextSwap_4 (fun b2 g_b2 r_b2 e_b2 a_b2 => ?_)
      refine lv_iconst (v := 4) hx hb dX12_nextSwap_7 (by decide) ?_
      refine iv_wald_c X hB a_b2 q_4 (by decide) (lo := 0) (hi' := 20) (by decide) dX12_nextSwap_8 (fun x3 e_x3 i_x3 => ?_)
      refine lv_icmp_ge (tgt := 46) hx hb dX12_nextSwap_9 (by decide) (fun c4 => ?_) (fun c4 => ?_)
      · skip
        refine lv_iconst (v := (-1)) hx hb dX12_nextSwap_46 (by decide) ?_
        exact iv_iret X hr hlocks hB ⟨rfl, (q_n1.wk (by decide))⟩ dX12_nextSwap_47
      · skip
        have i4_x1 : iv_R 0 19 x1 := (i_x1.cutHi (n := 19) (iv_lt_r (iv_nle c4) i_x3 (by decide)))
        have i5_x3 : iv_R 1 20 x3 := (i_x3.cutLo (n := 1) (iv_lt_l (iv_nle c4) i_x1 (by decide)))
        refine lv_aload_n hx hb dX12_nextSwap_12 rfl (lv_at hl 1 rfl) ?_
        refine lv_iload_n hx hb dX12_nextSwap_13 rfl (lv_at hl 0 rfl) ?_
        refine iv_cVi X k_good k_mf_X12_isWrong k_im_X12_isWrong k_sel_X12_isWrong k_ml_X12_417 ft_X12 hB a_h0 sh_12 (As := [.int x1]) (c_X12_isWrong l D tys base G h0 g_h0 r_h0 a_h0 x1 i4_x1) ⟨rfl, rfl⟩ ⟨Nat.le_of_ble_eq_true rfl, Nat.le_of_ble_eq_true rfl⟩ ⟨Nat.le_of_ble_eq_true rfl, Nat.le_of_ble_eq_true rfl⟩ rfl rfl hl.1 (Nat.le_of_ble_eq_true rfl) dX12_nextSwap_14 (fun x7 G9 H locs hq hB => ?_)
        obtain ⟨rfl, i_x7⟩ := hq
        refine lv_if_eq (tgt := 40) hx hb dX12_nextSwap_17 (by decide) (fun c8 => ?_) (fun c8 => ?_)
        · skip
          have i8_x7 : iv_R 0 0 x7 := (i_x7.cutHi (n := 0) (iv_eq_r c8 q_0).2)
          refine iv_iinc hx hb i4_x1 (lo := 1) (hi := 20) (by decide) dX12_nextSwap_40 hl (k := 0) rfl (by decide) (fun x10 ls e_x10 i_x10 hl => ?_)
          have hl : lv_has ls 2 [(1, .int x10), (0, .ref h0)] := hl
          refine lv_goto (tgt := 2) hx hb dX12_nextSwap_43 (by decide) ?_
          exact ih_2 _ _ hB x10 (i_x10.wk (by decide)) (iv_mup (c := 1) i_x1 (by decide) (by decide) (by omega) hn_2) _ (lv_sub hl [0, 1] rfl)
        · skip
          have i10_x7 : iv_R 1 1 x7 := iv_ne_lo c8 i_x7 q_0 (by decide)
          refine lv_aload_n hx hb dX12_nextSwap_20 rfl (lv_at hl 1 rfl) ?_
          refine lv_iload_n hx hb dX12_nextSwap_21 rfl (lv_at hl 0 rfl) ?_
          refine iv_cVi X k_good k_mf_X12_swapsWith k_im_X12_swapsWith k_sel_X12_swapsWith k_ml_X12_423 ft_X12 hB a_h0 sh_12 (As := [.int x1]) (c_X12_swapsWith l D tys base G h0 g_h0 r_h0 a_h0 x1 i4_x1) ⟨rfl, rfl⟩ ⟨Nat.le_of_ble_eq_true rfl, Nat.le_of_ble_eq_true rfl⟩ ⟨Nat.le_of_ble_eq_true rfl, Nat.le_of_ble_eq_true rfl⟩ rfl rfl hl.1 (Nat.le_of_ble_eq_true rfl) dX12_nextSwap_22 (fun x12 G9 H locs hq hB => ?_)
          obtain ⟨rfl, i_x12⟩ := hq
          refine lv_iconst (v := (-1)) hx hb dX12_nextSwap_25 (by decide) ?_
          refine lv_icmp_eq (tgt := 40) hx hb dX12_nextSwap_26 (by decide) (fun c13 => ?_) (fun c13 => ?_)
          · skip
            have i13_x12 : iv_R (-1) (-1) x12 := (i_x12.cutHi (n := (-1)) (iv_eq_r c13 q_n1).2)
            refine iv_iinc hx hb i4_x1 (lo := 1) (hi := 20) (by decide) dX12_nextSwap_40 hl (k := 0) rfl (by decide) (fun x15 ls e_x15 i_x15 hl => ?_)
            have hl : lv_has ls 2 [(1, .int x15), (0, .ref h0)] := hl
            refine lv_goto (tgt := 2) hx hb dX12_nextSwap_43 (by decide) ?_
            exact ih_2 _ _ hB x15 (i_x15.wk (by decide)) (iv_mup (c := 1) i_x1 (by decide) (by decide) (by omega) hn_2) _ (lv_sub hl [0, 1] rfl)
          · skip
            have i15_x12 : iv_R 0 19 x12 := iv_ne_lo c13 i_x12 q_n1 (by decide)
            refine lv_bipush (v := 20) hx hb dX12_nextSwap_29 (by decide) ?_
            refine lv_iload_n hx hb dX12_nextSwap_31 rfl (lv_at hl 0 rfl) ?_
            refine iv_imul hx hb q_20 i4_x1 (lo := 0) (hi := 380) (by decide) dX12_nextSwap_32 (fun x17 e_x17 i_x17 => ?_)
            refine lv_aload_n hx hb dX12_nextSwap_33 rfl (lv_at hl 1 rfl) ?_
            refine lv_iload_n hx hb dX12_nextSwap_34 rfl (lv_at hl 0 rfl) ?_
            refine iv_cVi X k_good k_mf_X12_swapsWith k_im_X12_swapsWith k_sel_X12_swapsWith k_ml_X12_423 ft_X12 hB a_h0 sh_12 (As := [.int x1]) (c_X12_swapsWith l D tys base G h0 g_h0 r_h0 a_h0 x1 i4_x1) ⟨rfl, rfl⟩ ⟨Nat.le_of_ble_eq_true rfl, Nat.le_of_ble_eq_true rfl⟩ ⟨Nat.le_of_ble_eq_true rfl, Nat.le_of_ble_eq_true rfl⟩ rfl rfl hl.1 (Nat.le_of_ble_eq_true rfl) dX12_nextSwap_35 (fun x18 G9 H locs hq hB => ?_)
            obtain ⟨rfl, i_x18⟩ := hq
            refine iv_iadd hx hb i_x17 i_x18 (lo := (-1)) (hi := 399) (by decide) dX12_nextSwap_38 (fun x19 e_x19 i_x19 => ?_)
            exact iv_iret X hr hlocks hB ⟨rfl, i_x19⟩ dX12_nextSwap_39
  exact L_2 _ _ _ hB 0 (q_0.wk (by decide)) (Nat.lt_succ_self _) _ (lv_sub hl [0, 1] rfl)
theorem dX12_octaves_0 : decode cX12_octaves 0 = .ok (.aload_n 0, 1) := by decide +kernel
theorem dX12_octaves_1 : decode cX12_octaves 1 = .ok (.iload_n 1, 1) := by decide +kernel
theorem dX12_octaves_2 : decode cX12_octaves 2 = .ok (.invokevirtual 76, 3) := by decide +kernel
theorem dX12_octaves_5 : decode cX12_octaves 5 = .ok (.ifCond .ne 5, 3) := by decide +kernel
theorem dX12_octaves_8 : decode cX12_octaves 8 = .ok (.iconst (-1), 1) := by decide +kernel
theorem dX12_octaves_9 : decode cX12_octaves 9 = .ok (.ireturn, 1) := by decide +kernel
theorem dX12_octaves_10 : decode cX12_octaves 10 = .ok (.iconst 0, 1) := by decide +kernel
theorem dX12_octaves_11 : decode cX12_octaves 11 = .ok (.istore_n 2, 1) := by decide +kernel
theorem dX12_octaves_12 : decode cX12_octaves 12 = .ok (.iconst 0, 1) := by decide +kernel
theorem dX12_octaves_13 : decode cX12_octaves 13 = .ok (.istore_n 3, 1) := by decide +kernel
theorem dX12_octaves_14 : decode cX12_octaves 14 = .ok (.iload_n 3, 1) := by decide +kernel
theorem dX12_octaves_15 : decode cX12_octaves 15 = .ok (.aload_n 0, 1) := by decide +kernel
theorem dX12_octaves_16 : decode cX12_octaves 16 = .ok (.getfield 7, 3) := by decide +kernel
theorem dX12_octaves_19 : decode cX12_octaves 19 = .ok (.sipush 146, 3) := by decide +kernel
theorem dX12_octaves_22 : decode cX12_octaves 22 = .ok (.iaload, 1) := by decide +kernel
theorem dX12_octaves_23 : decode cX12_octaves 23 = .ok (.if_icmp .ge 44, 3) := by decide +kernel
theorem dX12_octaves_26 : decode cX12_octaves 26 = .ok (.iload_n 2, 1) := by decide +kernel
theorem dX12_octaves_27 : decode cX12_octaves 27 = .ok (.iload_n 3, 1) := by decide +kernel
theorem dX12_octaves_28 : decode cX12_octaves 28 = .ok (.iload_n 1, 1) := by decide +kernel
theorem dX12_octaves_29 : decode cX12_octaves 29 = .ok (.if_icmp .eq 29, 3) := by decide +kernel
theorem dX12_octaves_32 : decode cX12_octaves 32 = .ok (.aload_n 0, 1) := by decide +kernel
theorem dX12_octaves_33 : decode cX12_octaves 33 = .ok (.iload_n 3, 1) := by decide +kernel
theorem dX12_octaves_34 : decode cX12_octaves 34 = .ok (.bipush 6, 2) := by decide +kernel
theorem dX12_octaves_36 : decode cX12_octaves 36 = .ok (.invokevirtual 282, 3) := by decide +kernel
theorem dX12_octaves_39 : decode cX12_octaves 39 = .ok (.iconst 2, 1) := by decide +kernel
theorem dX12_octaves_40 : decode cX12_octaves 40 = .ok (.if_icmp .eq 18, 3) := by decide +kernel
theorem dX12_octaves_43 : decode cX12_octaves 43 = .ok (.aload_n 0, 1) := by decide +kernel
theorem dX12_octaves_44 : decode cX12_octaves 44 = .ok (.iload_n 3, 1) := by decide +kernel
theorem dX12_octaves_45 : decode cX12_octaves 45 = .ok (.iload_n 1, 1) := by decide +kernel
theorem dX12_octaves_46 : decode cX12_octaves 46 = .ok (.invokevirtual 326, 3) := by decide +kernel
theorem dX12_octaves_49 : decode cX12_octaves 49 = .ok (.ifCond .eq 9, 3) := by decide +kernel
theorem dX12_octaves_52 : decode cX12_octaves 52 = .ok (.iconst 1, 1) := by decide +kernel
theorem dX12_octaves_53 : decode cX12_octaves 53 = .ok (.iload_n 3, 1) := by decide +kernel
theorem dX12_octaves_54 : decode cX12_octaves 54 = .ok (.ishl, 1) := by decide +kernel
theorem dX12_octaves_55 : decode cX12_octaves 55 = .ok (.goto 4, 3) := by decide +kernel
theorem dX12_octaves_58 : decode cX12_octaves 58 = .ok (.iconst 0, 1) := by decide +kernel
theorem dX12_octaves_59 : decode cX12_octaves 59 = .ok (.ior, 1) := by decide +kernel
theorem dX12_octaves_60 : decode cX12_octaves 60 = .ok (.istore_n 2, 1) := by decide +kernel
theorem dX12_octaves_61 : decode cX12_octaves 61 = .ok (.iinc 3 1, 3) := by decide +kernel
theorem dX12_octaves_64 : decode cX12_octaves 64 = .ok (.goto (-50), 3) := by decide +kernel
theorem dX12_octaves_67 : decode cX12_octaves 67 = .ok (.iload_n 2, 1) := by decide +kernel
theorem dX12_octaves_68 : decode cX12_octaves 68 = .ok (.ireturn, 1) := by decide +kernel
set_option maxHeartbeats 4000000 in
set_option maxRecDepth 100000 in
theorem c_X12_octaves (l : Launch) (D : va_G) (tys : List (ClassId × FieldType)) (base : Nat) (G : iv_G) (h0 : Nat) (g_h0 : Nat → Int32) (r_h0 : Nat → Nat) (a_h0 : G h0 = some (12, g_h0, r_h0)) (x_0 : Int32) (i_x_0 : iv_R (-2147483648) 2147483647 x_0) : Met l yX12_octaves (Cond.code yX12_octaves cX12_octaves 4 (some .int) :: iv_W0) ({ frames := 2, cells := 0, slots := 0, locals := 44 }) (iv_Pc iv_sh D classes tys base G [.ref h0, .int x_0]) (iv_Qi iv_sh D classes tys base (fun v G' => G = G' ∧ iv_R (-1) 2047 v)) 0 0 (iv_A base) := by
  refine iv_head (by decide) (Nat.le_of_ble_eq_true rfl) ?_
  intro p e s m args below meth c ls X hr hlocks hname hB hl
  have X := X
  have hx := X.1.1
  have hb := X.1.2.1
  have hl : lv_has ls 4 [(0, .ref h0), (1, .int x_0)] := hl
  refine lv_aload_n hx hb dX12_octaves_0 rfl (lv_at hl 0 rfl) ?_
  refine lv_iload_n hx hb dX12_octaves_1 rfl (lv_at hl 1 rfl) ?_
  refine iv_cVi X k_good k_mf_X12_isBell k_im_X12_isBell k_sel_X12_isBell k_ml_X12_76 ft_X12 hB a_h0 sh_12 (As := [.int x_0]) (c_X12_isBell l D tys base G h0 g_h0 r_h0 a_h0 x_0 i_x_0) ⟨rfl, rfl⟩ ⟨Nat.le_of_ble_eq_true rfl, Nat.le_of_ble_eq_true rfl⟩ ⟨Nat.le_of_ble_eq_true rfl, Nat.le_of_ble_eq_true rfl⟩ rfl rfl hl.1 (Nat.le_of_ble_eq_true rfl) dX12_octaves_2 (fun x1 G9 H locs hq hB => ?_)
  obtain ⟨rfl, i_x1, hp2⟩ := hq
  refine lv_if_ne (tgt := 10) hx hb dX12_octaves_5 (by decide) (fun c3 => ?_) (fun c3 => ?_)
  · skip
    have i3_x1 : iv_R 1 1 x1 := iv_ne_lo c3 i_x1 q_0 (by decide)
    have i4_x_0 : iv_R 0 9 x_0 := ((i_x_0.cutLo (n := 0) (hp2 c3).1).cutHi (n := 9) (hp2 c3).2)
    refine lv_iconst (v := 0) hx hb dX12_octaves_10 (by decide) ?_
    refine lv_istore_n (lv' := [(2, .int 0), (0, .ref h0), (1, .int x_0)]) hx hb dX12_octaves_11 rfl hl (by decide) rfl (fun ls hl => ?_)
    refine lv_iconst (v := 0) hx hb dX12_octaves_12 (by decide) ?_
    refine lv_istore_n (lv' := [(3, .int 0), (2, .int 0), (0, .ref h0), (1, .int x_0)]) hx hb dX12_octaves_13 rfl hl (by decide) rfl (fun ls hl => ?_)
    have L_14 : ∀ (n_14 : Nat) (H : Heap) (locs : List Loc) (hB : iv_B iv_sh D classes tys base G s.heap H locs) (x6 : Int32) (i_x6 : iv_R 0 2047 x6) (x7 : Int32) (i_x7 : iv_R 0 10 x7) (hn_14 : (11 - x7.toInt).toNat < n_14) (ls : Array Slot) (hl : lv_has ls 4 [(3, .int x7), (2, .int x6), (0, .ref h0), (1, .int x_0)]), W p l e ({ frames := 2, cells := 0, slots := 0, locals := 44 } : Room) s m args below meth c H locs 0 0 (MQ below (iv_Qi iv_sh D classes tys base (fun v G' => G = G' ∧ iv_R (-1) 2047 v)) args s 0 0 (iv_A base)) (F0 m 14 ls []) := by
      intro n_14
      induction n_14 with
      | zero => intro H locs hB x6 i_x6 x7 i_x7 hn_14 ls hl; exact absurd hn_14 (Nat.not_lt_zero _)
      | succ n_14 ih_14 =>
        intro H locs hB x6 i_x6 x7 i_x7 hn_14 ls hl
        refine lv_iload_n hx hb dX12_octaves_14 rfl (lv_at hl 0 rfl) ?_
        refine lv_aload_n hx hb dX12_octaves_15 rfl (lv_at hl 2 rfl) ?_
        refine iv_getr X ft_X12 hB a_h0 sh_12 0 (by decide) rfl k_fl_X12_7 dX12_octaves_16 (fun b8 g_b8 r_b8 e_b8 a_b8 => ?_)
        refine lv_sipush (v := 146) hx hb dX12_octaves_19 (by decide) ?_
        refine iv_wald_c X hB a_b8 q_146 (by decide) (lo := 0) (hi' := 10) (by decide) dX12_octaves_22 (fun x9 e_x9 i_x9 => ?_)
        refine lv_icmp_ge (tgt := 67) hx hb dX12_octaves_23 (by decide) (fun c10 => ?_) (fun c10 => ?_)
        · skip
          refine lv_iload_n hx hb dX12_octaves_67 rfl (lv_at hl 1 rfl) ?_
          exact iv_iret X hr hlocks hB ⟨rfl, (i_x6.wk (by decide))⟩ dX12_octaves_68
        · skip
          have i10_x7 : iv_R 0 9 x7 := (i_x7.cutHi (n := 9) (iv_lt_r (iv_nle c10) i_x9 (by decide)))
          have i11_x9 : iv_R 1 10 x9 := (i_x9.cutLo (n := 1) (iv_lt_l (iv_nle c10) i_x7 (by decide)))
          refine lv_iload_n hx hb dX12_octaves_26 rfl (lv_at hl 1 rfl) ?_
          refine lv_iload_n hx hb dX12_octaves_27 rfl (lv_at hl 0 rfl) ?_
          refine lv_iload_n hx hb dX12_octaves_28 rfl (lv_at hl 3 rfl) ?_
          refine lv_icmp_eq (tgt := 58) hx hb dX12_octaves_29 (by decide) (fun c13 => ?_) (fun c13 => ?_)
          · skip
            refine lv_iconst (v := 0) hx hb dX12_octaves_58 (by decide) ?_
            refine iv_ior hx hb i_x6 q_0 (k := 11) (hi := 2047) (by decide) dX12_octaves_59 (fun x14 e_x14 i_x14 => ?_)
            refine lv_istore_n (lv' := [(2, .int x14), (3, .int x7), (0, .ref h0), (1, .int x_0)]) hx hb dX12_octaves_60 rfl hl (by decide) rfl (fun ls hl => ?_)
            refine iv_iinc hx hb i10_x7 (lo := 1) (hi := 10) (by decide) dX12_octaves_61 hl (k := 1) rfl (by decide) (fun x15 ls e_x15 i_x15 hl => ?_)
            have hl : lv_has ls 4 [(3, .int x15), (2, .int x14), (0, .ref h0), (1, .int x_0)] := hl
            refine lv_goto (tgt := 14) hx hb dX12_octaves_64 (by decide) ?_
            exact ih_14 _ _ hB x14 i_x14 x15 (i_x15.wk (by decide)) (iv_mup (c := 1) i_x7 (by decide) (by decide) (by omega) hn_14) _ (lv_sub hl [0, 1, 2, 3] rfl)
          · skip
            refine lv_aload_n hx hb dX12_octaves_32 rfl (lv_at hl 2 rfl) ?_
            refine lv_iload_n hx hb dX12_octaves_33 rfl (lv_at hl 0 rfl) ?_
            refine lv_bipush (v := 6) hx hb dX12_octaves_34 (by decide) ?_
            refine iv_cVi X k_good k_mf_X12_ofBell k_im_X12_ofBell k_sel_X12_ofBell k_ml_X12_282 ft_X12 hB a_h0 sh_12 (As := [.int x7, .int 6]) (c_X12_ofBell l D tys base G h0 g_h0 r_h0 a_h0 x7 i10_x7 6 (q_6.wk (by decide))) ⟨rfl, rfl⟩ ⟨Nat.le_of_ble_eq_true rfl, Nat.le_of_ble_eq_true rfl⟩ ⟨Nat.le_of_ble_eq_true rfl, Nat.le_of_ble_eq_true rfl⟩ rfl rfl hl.1 (Nat.le_of_ble_eq_true rfl) dX12_octaves_36 (fun x16 G9 H locs hq hB => ?_)
            obtain ⟨rfl, i_x16, cp17, cp18⟩ := hq
            refine lv_iconst (v := 2) hx hb dX12_octaves_39 (by decide) ?_
            refine lv_icmp_eq (tgt := 58) hx hb dX12_octaves_40 (by decide) (fun c19 => ?_) (fun c19 => ?_)
            · skip
              have i19_x16 : iv_R 2 2 x16 := ((i_x16.cutLo (n := 2) (iv_eq_r c19 q_2).1).cutHi (n := 2) (iv_eq_r c19 q_2).2)
              refine lv_iconst (v := 0) hx hb dX12_octaves_58 (by decide) ?_
              refine iv_ior hx hb i_x6 q_0 (k := 11) (hi := 2047) (by decide) dX12_octaves_59 (fun x21 e_x21 i_x21 => ?_)
              refine lv_istore_n (lv' := [(2, .int x21), (3, .int x7), (0, .ref h0), (1, .int x_0)]) hx hb dX12_octaves_60 rfl hl (by decide) rfl (fun ls hl => ?_)
              refine iv_iinc hx hb i10_x7 (lo := 1) (hi := 10) (by decide) dX12_octaves_61 hl (k := 1) rfl (by decide) (fun x22 ls e_x22 i_x22 hl => ?_)
              have hl : lv_has ls 4 [(3, .int x22), (2, .int x21), (0, .ref h0), (1, .int x_0)] := hl
              refine lv_goto (tgt := 14) hx hb dX12_octaves_64 (by decide) ?_
              exact ih_14 _ _ hB x21 i_x21 x22 (i_x22.wk (by decide)) (iv_mup (c := 1) i_x7 (by decide) (by decide) (by omega) hn_14) _ (lv_sub hl [0, 1, 2, 3] rfl)
            · skip
              refine lv_aload_n hx hb dX12_octaves_43 rfl (lv_at hl 2 rfl) ?_
              refine lv_iload_n hx hb dX12_octaves_44 rfl (lv_at hl 0 rfl) ?_
              refine lv_iload_n hx hb dX12_octaves_45 rfl (lv_at hl 3 rfl) ?_
              refine iv_cVi X k_good k_mf_X12_isOctave k_im_X12_isOctave k_sel_X12_isOctave k_ml_X12_326 ft_X12 hB a_h0 sh_12 (As := [.int x7, .int x_0]) (c_X12_isOctave l D tys base G h0 g_h0 r_h0 a_h0 x7 i10_x7 x_0 i4_x_0) ⟨rfl, rfl⟩ ⟨Nat.le_of_ble_eq_true rfl, Nat.le_of_ble_eq_true rfl⟩ ⟨Nat.le_of_ble_eq_true rfl, Nat.le_of_ble_eq_true rfl⟩ rfl rfl hl.1 (Nat.le_of_ble_eq_true rfl) dX12_octaves_46 (fun x23 G9 H locs hq hB => ?_)
              obtain ⟨rfl, i_x23⟩ := hq
              refine lv_if_eq (tgt := 58) hx hb dX12_octaves_49 (by decide) (fun c24 => ?_) (fun c24 => ?_)
              · skip
                have i24_x23 : iv_R 0 0 x23 := (i_x23.cutHi (n := 0) (iv_eq_r c24 q_0).2)
                refine lv_iconst (v := 0) hx hb dX12_octaves_58 (by decide) ?_
                refine iv_ior hx hb i_x6 q_0 (k := 11) (hi := 2047) (by decide) dX12_octaves_59 (fun x26 e_x26 i_x26 => ?_)
                refine lv_istore_n (lv' := [(2, .int x26), (3, .int x7), (0, .ref h0), (1, .int x_0)]) hx hb dX12_octaves_60 rfl hl (by decide) rfl (fun ls hl => ?_)
                refine iv_iinc hx hb i10_x7 (lo := 1) (hi := 10) (by decide) dX12_octaves_61 hl (k := 1) rfl (by decide) (fun x27 ls e_x27 i_x27 hl => ?_)
                have hl : lv_has ls 4 [(3, .int x27), (2, .int x26), (0, .ref h0), (1, .int x_0)] := hl
                refine lv_goto (tgt := 14) hx hb dX12_octaves_64 (by decide) ?_
                exact ih_14 _ _ hB x26 i_x26 x27 (i_x27.wk (by decide)) (iv_mup (c := 1) i_x7 (by decide) (by decide) (by omega) hn_14) _ (lv_sub hl [0, 1, 2, 3] rfl)
              · skip
                have i27_x23 : iv_R 1 1 x23 := iv_ne_lo c24 i_x23 q_0 (by decide)
                refine lv_iconst (v := 1) hx hb dX12_octaves_52 (by decide) ?_
                refine lv_iload_n hx hb dX12_octaves_53 rfl (lv_at hl 0 rfl) ?_
                refine iv_shl1 hx hb i10_x7 (lo := 1) (hi := 512) (by decide) dX12_octaves_54 (fun x29 e_x29 i_x29 => ?_)
                refine lv_goto (tgt := 59) hx hb dX12_octaves_55 (by decide) ?_
                refine iv_ior hx hb i_x6 i_x29 (k := 11) (hi := 2047) (by decide) dX12_octaves_59 (fun x30 e_x30 i_x30 => ?_)
                refine lv_istore_n (lv' := [(2, .int x30), (3, .int x7), (0, .ref h0), (1, .int x_0)]) hx hb dX12_octaves_60 rfl hl (by decide) rfl (fun ls hl => ?_)
                refine iv_iinc hx hb i10_x7 (lo := 1) (hi := 10) (by decide) dX12_octaves_61 hl (k := 1) rfl (by decide) (fun x31 ls e_x31 i_x31 hl => ?_)
                have hl : lv_has ls 4 [(3, .int x31), (2, .int x30), (0, .ref h0), (1, .int x_0)] := hl
                refine lv_goto (tgt := 14) hx hb dX12_octaves_64 (by decide) ?_
                exact ih_14 _ _ hB x30 i_x30 x31 (i_x31.wk (by decide)) (iv_mup (c := 1) i_x7 (by decide) (by decide) (by omega) hn_14) _ (lv_sub hl [0, 1, 2, 3] rfl)
    exact L_14 _ _ _ hB 0 (q_0.wk (by decide)) 0 (q_0.wk (by decide)) (Nat.lt_succ_self _) _ (lv_sub hl [0, 1, 2, 3] rfl)
  · skip
    have i31_x1 : iv_R 0 0 x1 := (i_x1.cutHi (n := 0) (iv_eq_r c3 q_0).2)
    refine lv_iconst (v := (-1)) hx hb dX12_octaves_8 (by decide) ?_
    exact iv_iret X hr hlocks hB ⟨rfl, (q_n1.wk (by decide))⟩ dX12_octaves_9
theorem dX12_raised_0 : decode cX12_raised 0 = .ok (.iload_n 1, 1) := by decide +kernel
theorem dX12_raised_1 : decode cX12_raised 1 = .ok (.iconst 1, 1) := by decide +kernel
theorem dX12_raised_2 : decode cX12_raised 2 = .ok (.iconst 1, 1) := by decide +kernel
theorem dX12_raised_3 : decode cX12_raised 3 = .ok (.aload_n 0, 1) := by decide +kernel
theorem dX12_raised_4 : decode cX12_raised 4 = .ok (.getfield 7, 3) := by decide +kernel
theorem dX12_raised_7 : decode cX12_raised 7 = .ok (.sipush 146, 3) := by decide +kernel
theorem dX12_raised_10 : decode cX12_raised 10 = .ok (.iaload, 1) := by decide +kernel
theorem dX12_raised_11 : decode cX12_raised 11 = .ok (.ishl, 1) := by decide +kernel
theorem dX12_raised_12 : decode cX12_raised 12 = .ok (.iconst 1, 1) := by decide +kernel
theorem dX12_raised_13 : decode cX12_raised 13 = .ok (.isub, 1) := by decide +kernel
theorem dX12_raised_14 : decode cX12_raised 14 = .ok (.invokestatic 56, 3) := by decide +kernel
theorem dX12_raised_17 : decode cX12_raised 17 = .ok (.ifCond .ne 5, 3) := by decide +kernel
theorem dX12_raised_20 : decode cX12_raised 20 = .ok (.iconst (-1), 1) := by decide +kernel
theorem dX12_raised_21 : decode cX12_raised 21 = .ok (.ireturn, 1) := by decide +kernel
theorem dX12_raised_22 : decode cX12_raised 22 = .ok (.bipush 47, 2) := by decide +kernel
theorem dX12_raised_24 : decode cX12_raised 24 = .ok (.istore_n 2, 1) := by decide +kernel
theorem dX12_raised_25 : decode cX12_raised 25 = .ok (.iload_n 2, 1) := by decide +kernel
theorem dX12_raised_26 : decode cX12_raised 26 = .ok (.ifCond .lt 20, 3) := by decide +kernel
theorem dX12_raised_29 : decode cX12_raised 29 = .ok (.aload_n 0, 1) := by decide +kernel
theorem dX12_raised_30 : decode cX12_raised 30 = .ok (.iload_n 1, 1) := by decide +kernel
theorem dX12_raised_31 : decode cX12_raised 31 = .ok (.iload_n 2, 1) := by decide +kernel
theorem dX12_raised_32 : decode cX12_raised 32 = .ok (.invokevirtual 396, 3) := by decide +kernel
theorem dX12_raised_35 : decode cX12_raised 35 = .ok (.ifCond .eq 5, 3) := by decide +kernel
theorem dX12_raised_38 : decode cX12_raised 38 = .ok (.iload_n 2, 1) := by decide +kernel
theorem dX12_raised_39 : decode cX12_raised 39 = .ok (.ireturn, 1) := by decide +kernel
theorem dX12_raised_40 : decode cX12_raised 40 = .ok (.iinc 2 (-1), 3) := by decide +kernel
theorem dX12_raised_43 : decode cX12_raised 43 = .ok (.goto (-18), 3) := by decide +kernel
theorem dX12_raised_46 : decode cX12_raised 46 = .ok (.iconst (-1), 1) := by decide +kernel
theorem dX12_raised_47 : decode cX12_raised 47 = .ok (.ireturn, 1) := by decide +kernel
set_option maxHeartbeats 4000000 in
set_option maxRecDepth 100000 in
theorem c_X12_raised (l : Launch) (D : va_G) (tys : List (ClassId × FieldType)) (base : Nat) (G : iv_G) (h0 : Nat) (g_h0 : Nat → Int32) (r_h0 : Nat → Nat) (a_h0 : G h0 = some (12, g_h0, r_h0)) (x_0 : Int32) (i_x_0 : iv_R (-2147483648) 2147483647 x_0) : Met l yX12_raised (Cond.code yX12_raised cX12_raised 3 (some .int) :: iv_W0) ({ frames := 2, cells := 0, slots := 0, locals := 47 }) (iv_Pc iv_sh D classes tys base G [.ref h0, .int x_0]) (iv_Qi iv_sh D classes tys base (fun v G' => G = G' ∧ iv_R (-1) 47 v)) 0 0 (iv_A base) := by
  refine iv_head (by decide) (Nat.le_of_ble_eq_true rfl) ?_
  intro p e s m args below meth c ls X hr hlocks hname hB hl
  have X := X
  have hx := X.1.1
  have hb := X.1.2.1
  have hl : lv_has ls 3 [(0, .ref h0), (1, .int x_0)] := hl
  refine lv_iload_n hx hb dX12_raised_0 rfl (lv_at hl 1 rfl) ?_
  refine lv_iconst (v := 1) hx hb dX12_raised_1 (by decide) ?_
  refine lv_iconst (v := 1) hx hb dX12_raised_2 (by decide) ?_
  refine lv_aload_n hx hb dX12_raised_3 rfl (lv_at hl 0 rfl) ?_
  refine iv_getr X ft_X12 hB a_h0 sh_12 0 (by decide) rfl k_fl_X12_7 dX12_raised_4 (fun b1 g_b1 r_b1 e_b1 a_b1 => ?_)
  refine lv_sipush (v := 146) hx hb dX12_raised_7 (by decide) ?_
  refine iv_wald_c X hB a_b1 q_146 (by decide) (lo := 0) (hi' := 10) (by decide) dX12_raised_10 (fun x2 e_x2 i_x2 => ?_)
  refine iv_shl1 hx hb i_x2 (lo := 1) (hi := 1024) (by decide) dX12_raised_11 (fun x3 e_x3 i_x3 => ?_)
  refine lv_iconst (v := 1) hx hb dX12_raised_12 (by decide) ?_
  refine iv_isub hx hb i_x3 q_1 (lo := 0) (hi := 1023) (by decide) dX12_raised_13 (fun x4 e_x4 i_x4 => ?_)
  refine iv_cSi X k_good k_mf_X12_isIn k_st_X12_isIn k_ml_X12_56 hB (As := [.int x_0, .int 1, .int x4]) (c_X12_isIn l D tys base G x_0 i_x_0 1 (q_1.wk (by decide)) x4 (i_x4.wk (by decide))) ⟨rfl, rfl⟩ ⟨Nat.le_of_ble_eq_true rfl, Nat.le_of_ble_eq_true rfl⟩ ⟨Nat.le_of_ble_eq_true rfl, Nat.le_of_ble_eq_true rfl⟩ rfl rfl hl.1 (Nat.le_of_ble_eq_true rfl) dX12_raised_14 (fun x5 G9 H locs hq hB => ?_)
  obtain ⟨rfl, i_x5, hp6⟩ := hq
  have k7 : ¬ x5 = 0 → iv_R 1 1023 x_0 := fun h => ⟨iv_max i_x_0.1 (Int.le_trans q_1.1 (hp6.1 h).1) (by decide), iv_min i_x_0.2 (Int.le_trans (hp6.1 h).2 i_x4.2) (by decide)⟩
  refine lv_if_ne (tgt := 22) hx hb dX12_raised_17 (by decide) (fun c8 => ?_) (fun c8 => ?_)
  · skip
    have i8_x5 : iv_R 1 1 x5 := iv_ne_lo c8 i_x5 q_0 (by decide)
    have i9_x_0 : iv_R 1 1023 x_0 := ((i_x_0.cutLo (n := 1) (k7 c8).1).cutHi (n := 1023) (k7 c8).2)
    refine lv_bipush (v := 47) hx hb dX12_raised_22 (by decide) ?_
    refine lv_istore_n (lv' := [(2, .int 47), (0, .ref h0), (1, .int x_0)]) hx hb dX12_raised_24 rfl hl (by decide) rfl (fun ls hl => ?_)
    have L_25 : ∀ (n_25 : Nat) (H : Heap) (locs : List Loc) (hB : iv_B iv_sh D classes tys base G s.heap H locs) (x11 : Int32) (i_x11 : iv_R (-1) 47 x11) (hn_25 : (x11.toInt - (-2)).toNat < n_25) (ls : Array Slot) (hl : lv_has ls 3 [(2, .int x11), (0, .ref h0), (1, .int x_0)]), W p l e ({ frames := 2, cells := 0, slots := 0, locals := 47 } : Room) s m args below meth c H locs 0 0 (MQ below (iv_Qi iv_sh D classes tys base (fun v G' => G = G' ∧ iv_R (-1) 47 v)) args s 0 0 (iv_A base)) (F0 m 25 ls []) := by
      intro n_25
      induction n_25 with
      | zero => intro H locs hB x11 i_x11 hn_25 ls hl; exact absurd hn_25 (Nat.not_lt_zero _)
      | succ n_25 ih_25 =>
        intro H locs hB x11 i_x11 hn_25 ls hl
        refine lv_iload_n hx hb dX12_raised_25 rfl (lv_at hl 0 rfl) ?_
        refine lv_if_lt (tgt := 46) hx hb dX12_raised_26 (by decide) (fun c12 => ?_) (fun c12 => ?_)
        · skip
          have i12_x11 : iv_R (-1) (-1) x11 := (i_x11.cutHi (n := (-1)) (iv_lt_r c12 q_0 (by decide)))
          refine lv_iconst (v := (-1)) hx hb dX12_raised_46 (by decide) ?_
          exact iv_iret X hr hlocks hB ⟨rfl, (q_n1.wk (by decide))⟩ dX12_raised_47
        · skip
          have i13_x11 : iv_R 0 47 x11 := (i_x11.cutLo (n := 0) (iv_le_l (iv_nlt c12) q_0))
          refine lv_aload_n hx hb dX12_raised_29 rfl (lv_at hl 1 rfl) ?_
          refine lv_iload_n hx hb dX12_raised_30 rfl (lv_at hl 2 rfl) ?_
          refine lv_iload_n hx hb dX12_raised_31 rfl (lv_at hl 0 rfl) ?_
          refine iv_cVi X k_good k_mf_X12_canBeRaised k_im_X12_canBeRaised k_sel_X12_canBeRaised k_ml_X12_396 ft_X12 hB a_h0 sh_12 (As := [.int x_0, .int x11]) (c_X12_canBeRaised l D tys base G h0 g_h0 r_h0 a_h0 x_0 i9_x_0 x11 i13_x11) ⟨rfl, rfl⟩ ⟨Nat.le_of_ble_eq_true rfl, Nat.le_of_ble_eq_true rfl⟩ ⟨Nat.le_of_ble_eq_true rfl, Nat.le_of_ble_eq_true rfl⟩ rfl rfl hl.1 (Nat.le_of_ble_eq_true rfl) dX12_raised_32 (fun x15 G9 H locs hq hB => ?_)
          obtain ⟨rfl, i_x15⟩ := hq
          refine lv_if_eq (tgt := 40) hx hb dX12_raised_35 (by decide) (fun c16 => ?_) (fun c16 => ?_)
          · skip
            have i16_x15 : iv_R 0 0 x15 := (i_x15.cutHi (n := 0) (iv_eq_r c16 q_0).2)
            refine iv_iinc hx hb i13_x11 (lo := (-1)) (hi := 46) (by decide) dX12_raised_40 hl (k := 0) rfl (by decide) (fun x18 ls e_x18 i_x18 hl => ?_)
            have hl : lv_has ls 3 [(2, .int x18), (0, .ref h0), (1, .int x_0)] := hl
            refine lv_goto (tgt := 25) hx hb dX12_raised_43 (by decide) ?_
            exact ih_25 _ _ hB x18 (i_x18.wk (by decide)) (iv_mdn (c := 1) i_x11 (by decide) (by decide) (by omega) hn_25) _ (lv_sub hl [0, 1, 2] rfl)
          · skip
            have i18_x15 : iv_R 1 1 x15 := iv_ne_lo c16 i_x15 q_0 (by decide)
            refine lv_iload_n hx hb dX12_raised_38 rfl (lv_at hl 0 rfl) ?_
            exact iv_iret X hr hlocks hB ⟨rfl, (i13_x11.wk (by decide))⟩ dX12_raised_39
    exact L_25 _ _ _ hB 47 (q_47.wk (by decide)) (Nat.lt_succ_self _) _ (lv_sub hl [0, 1, 2] rfl)
  · skip
    have i19_x5 : iv_R 0 0 x5 := (i_x5.cutHi (n := 0) (iv_eq_r c8 q_0).2)
    refine lv_iconst (v := (-1)) hx hb dX12_raised_20 (by decide) ?_
    exact iv_iret X hr hlocks hB ⟨rfl, (q_n1.wk (by decide))⟩ dX12_raised_21
theorem dX12_wrongs_0 : decode cX12_wrongs 0 = .ok (.iconst 0, 1) := by decide +kernel
theorem dX12_wrongs_1 : decode cX12_wrongs 1 = .ok (.istore_n 1, 1) := by decide +kernel
theorem dX12_wrongs_2 : decode cX12_wrongs 2 = .ok (.iconst 0, 1) := by decide +kernel
theorem dX12_wrongs_3 : decode cX12_wrongs 3 = .ok (.istore_n 2, 1) := by decide +kernel
theorem dX12_wrongs_4 : decode cX12_wrongs 4 = .ok (.iload_n 2, 1) := by decide +kernel
theorem dX12_wrongs_5 : decode cX12_wrongs 5 = .ok (.aload_n 0, 1) := by decide +kernel
theorem dX12_wrongs_6 : decode cX12_wrongs 6 = .ok (.getfield 7, 3) := by decide +kernel
theorem dX12_wrongs_9 : decode cX12_wrongs 9 = .ok (.iconst 4, 1) := by decide +kernel
theorem dX12_wrongs_10 : decode cX12_wrongs 10 = .ok (.iaload, 1) := by decide +kernel
theorem dX12_wrongs_11 : decode cX12_wrongs 11 = .ok (.if_icmp .ge 27, 3) := by decide +kernel
theorem dX12_wrongs_14 : decode cX12_wrongs 14 = .ok (.iload_n 1, 1) := by decide +kernel
theorem dX12_wrongs_15 : decode cX12_wrongs 15 = .ok (.aload_n 0, 1) := by decide +kernel
theorem dX12_wrongs_16 : decode cX12_wrongs 16 = .ok (.iload_n 2, 1) := by decide +kernel
theorem dX12_wrongs_17 : decode cX12_wrongs 17 = .ok (.invokevirtual 417, 3) := by decide +kernel
theorem dX12_wrongs_20 : decode cX12_wrongs 20 = .ok (.ifCond .eq 9, 3) := by decide +kernel
theorem dX12_wrongs_23 : decode cX12_wrongs 23 = .ok (.iconst 1, 1) := by decide +kernel
theorem dX12_wrongs_24 : decode cX12_wrongs 24 = .ok (.iload_n 2, 1) := by decide +kernel
theorem dX12_wrongs_25 : decode cX12_wrongs 25 = .ok (.ishl, 1) := by decide +kernel
theorem dX12_wrongs_26 : decode cX12_wrongs 26 = .ok (.goto 4, 3) := by decide +kernel
theorem dX12_wrongs_29 : decode cX12_wrongs 29 = .ok (.iconst 0, 1) := by decide +kernel
theorem dX12_wrongs_30 : decode cX12_wrongs 30 = .ok (.ior, 1) := by decide +kernel
theorem dX12_wrongs_31 : decode cX12_wrongs 31 = .ok (.istore_n 1, 1) := by decide +kernel
theorem dX12_wrongs_32 : decode cX12_wrongs 32 = .ok (.iinc 2 1, 3) := by decide +kernel
theorem dX12_wrongs_35 : decode cX12_wrongs 35 = .ok (.goto (-31), 3) := by decide +kernel
theorem dX12_wrongs_38 : decode cX12_wrongs 38 = .ok (.iload_n 1, 1) := by decide +kernel
theorem dX12_wrongs_39 : decode cX12_wrongs 39 = .ok (.ireturn, 1) := by decide +kernel
set_option maxHeartbeats 4000000 in
set_option maxRecDepth 100000 in
theorem c_X12_wrongs (l : Launch) (D : va_G) (tys : List (ClassId × FieldType)) (base : Nat) (G : iv_G) (h0 : Nat) (g_h0 : Nat → Int32) (r_h0 : Nat → Nat) (a_h0 : G h0 = some (12, g_h0, r_h0)) : Met l yX12_wrongs (Cond.code yX12_wrongs cX12_wrongs 3 (some .int) :: iv_W0) ({ frames := 2, cells := 0, slots := 0, locals := 43 }) (iv_Pc iv_sh D classes tys base G [.ref h0]) (iv_Qi iv_sh D classes tys base (fun v G' => G = G' ∧ iv_R 0 2147483647 v)) 0 0 (iv_A base) := by
  refine iv_head (by decide) (Nat.le_of_ble_eq_true rfl) ?_
  intro p e s m args below meth c ls X hr hlocks hname hB hl
  have X := X
  have hx := X.1.1
  have hb := X.1.2.1
  have hl : lv_has ls 3 [(0, .ref h0)] := hl
  refine lv_iconst (v := 0) hx hb dX12_wrongs_0 (by decide) ?_
  refine lv_istore_n (lv' := [(1, .int 0), (0, .ref h0)]) hx hb dX12_wrongs_1 rfl hl (by decide) rfl (fun ls hl => ?_)
  refine lv_iconst (v := 0) hx hb dX12_wrongs_2 (by decide) ?_
  refine lv_istore_n (lv' := [(2, .int 0), (1, .int 0), (0, .ref h0)]) hx hb dX12_wrongs_3 rfl hl (by decide) rfl (fun ls hl => ?_)
  have L_4 : ∀ (n_4 : Nat) (H : Heap) (locs : List Loc) (hB : iv_B iv_sh D classes tys base G s.heap H locs) (x1 : Int32) (i_x1 : iv_R 0 2147483647 x1) (x2 : Int32) (i_x2 : iv_R 0 20 x2) (hn_4 : (21 - x2.toInt).toNat < n_4) (ls : Array Slot) (hl : lv_has ls 3 [(2, .int x2), (1, .int x1), (0, .ref h0)]), W p l e ({ frames := 2, cells := 0, slots := 0, locals := 43 } : Room) s m args below meth c H locs 0 0 (MQ below (iv_Qi iv_sh D classes tys base (fun v G' => G = G' ∧ iv_R 0 2147483647 v)) args s 0 0 (iv_A base)) (F0 m 4 ls []) := by
    intro n_4
    induction n_4 with
    | zero => intro H locs hB x1 i_x1 x2 i_x2 hn_4 ls hl; exact absurd hn_4 (Nat.not_lt_zero _)
    | succ n_4 ih_4 =>
      intro H locs hB x1 i_x1 x2 i_x2 hn_4 ls hl
      refine lv_iload_n hx hb dX12_wrongs_4 rfl (lv_at hl 0 rfl) ?_
      refine lv_aload_n hx hb dX12_wrongs_5 rfl (lv_at hl 2 rfl) ?_
      refine iv_getr X ft_X12 hB a_h0 sh_12 0 (by decide) rfl k_fl_X12_7 dX12_wrongs_6 (fun b3 g_b3 r_b3 e_b3 a_b3 => ?_)
      refine lv_iconst (v := 4) hx hb dX12_wrongs_9 (by decide) ?_
      refine iv_wald_c X hB a_b3 q_4 (by decide) (lo := 0) (hi' := 20) (by decide) dX12_wrongs_10 (fun x4 e_x4 i_x4 => ?_)
      refine lv_icmp_ge (tgt := 38) hx hb dX12_wrongs_11 (by decide) (fun c5 => ?_) (fun c5 => ?_)
      · skip
        refine lv_iload_n hx hb dX12_wrongs_38 rfl (lv_at hl 1 rfl) ?_
        exact iv_iret X hr hlocks hB ⟨rfl, i_x1⟩ dX12_wrongs_39
      · skip
        have i5_x2 : iv_R 0 19 x2 := (i_x2.cutHi (n := 19) (iv_lt_r (iv_nle c5) i_x4 (by decide)))
        have i6_x4 : iv_R 1 20 x4 := (i_x4.cutLo (n := 1) (iv_lt_l (iv_nle c5) i_x2 (by decide)))
        refine lv_iload_n hx hb dX12_wrongs_14 rfl (lv_at hl 1 rfl) ?_
        refine lv_aload_n hx hb dX12_wrongs_15 rfl (lv_at hl 2 rfl) ?_
        refine lv_iload_n hx hb dX12_wrongs_16 rfl (lv_at hl 0 rfl) ?_
        refine iv_cVi X k_good k_mf_X12_isWrong k_im_X12_isWrong k_sel_X12_isWrong k_ml_X12_417 ft_X12 hB a_h0 sh_12 (As := [.int x2]) (c_X12_isWrong l D tys base G h0 g_h0 r_h0 a_h0 x2 i5_x2) ⟨rfl, rfl⟩ ⟨Nat.le_of_ble_eq_true rfl, Nat.le_of_ble_eq_true rfl⟩ ⟨Nat.le_of_ble_eq_true rfl, Nat.le_of_ble_eq_true rfl⟩ rfl rfl hl.1 (Nat.le_of_ble_eq_true rfl) dX12_wrongs_17 (fun x8 G9 H locs hq hB => ?_)
        obtain ⟨rfl, i_x8⟩ := hq
        refine lv_if_eq (tgt := 29) hx hb dX12_wrongs_20 (by decide) (fun c9 => ?_) (fun c9 => ?_)
        · skip
          have i9_x8 : iv_R 0 0 x8 := (i_x8.cutHi (n := 0) (iv_eq_r c9 q_0).2)
          refine lv_iconst (v := 0) hx hb dX12_wrongs_29 (by decide) ?_
          refine iv_ior hx hb i_x1 q_0 (k := 31) (hi := 2147483647) (by decide) dX12_wrongs_30 (fun x11 e_x11 i_x11 => ?_)
          refine lv_istore_n (lv' := [(1, .int x11), (2, .int x2), (0, .ref h0)]) hx hb dX12_wrongs_31 rfl hl (by decide) rfl (fun ls hl => ?_)
          refine iv_iinc hx hb i5_x2 (lo := 1) (hi := 20) (by decide) dX12_wrongs_32 hl (k := 1) rfl (by decide) (fun x12 ls e_x12 i_x12 hl => ?_)
          have hl : lv_has ls 3 [(2, .int x12), (1, .int x11), (0, .ref h0)] := hl
          refine lv_goto (tgt := 4) hx hb dX12_wrongs_35 (by decide) ?_
          exact ih_4 _ _ hB x11 i_x11 x12 (i_x12.wk (by decide)) (iv_mup (c := 1) i_x2 (by decide) (by decide) (by omega) hn_4) _ (lv_sub hl [0, 1, 2] rfl)
        · skip
          have i12_x8 : iv_R 1 1 x8 := iv_ne_lo c9 i_x8 q_0 (by decide)
          refine lv_iconst (v := 1) hx hb dX12_wrongs_23 (by decide) ?_
          refine lv_iload_n hx hb dX12_wrongs_24 rfl (lv_at hl 0 rfl) ?_
          refine iv_shl1 hx hb i5_x2 (lo := 1) (hi := 524288) (by decide) dX12_wrongs_25 (fun x14 e_x14 i_x14 => ?_)
          refine lv_goto (tgt := 30) hx hb dX12_wrongs_26 (by decide) ?_
          refine iv_ior hx hb i_x1 i_x14 (k := 31) (hi := 2147483647) (by decide) dX12_wrongs_30 (fun x15 e_x15 i_x15 => ?_)
          refine lv_istore_n (lv' := [(1, .int x15), (2, .int x2), (0, .ref h0)]) hx hb dX12_wrongs_31 rfl hl (by decide) rfl (fun ls hl => ?_)
          refine iv_iinc hx hb i5_x2 (lo := 1) (hi := 20) (by decide) dX12_wrongs_32 hl (k := 1) rfl (by decide) (fun x16 ls e_x16 i_x16 hl => ?_)
          have hl : lv_has ls 3 [(2, .int x16), (1, .int x15), (0, .ref h0)] := hl
          refine lv_goto (tgt := 4) hx hb dX12_wrongs_35 (by decide) ?_
          exact ih_4 _ _ hB x15 i_x15 x16 (i_x16.wk (by decide)) (iv_mup (c := 1) i_x2 (by decide) (by decide) (by omega) hn_4) _ (lv_sub hl [0, 1, 2] rfl)
  exact L_4 _ _ _ hB 0 (q_0.wk (by decide)) 0 (q_0.wk (by decide)) (Nat.lt_succ_self _) _ (lv_sub hl [0, 1, 2] rfl)
theorem dX12_right_0 : decode cX12_right 0 = .ok (.iload_n 1, 1) := by decide +kernel
theorem dX12_right_1 : decode cX12_right 1 = .ok (.iconst 0, 1) := by decide +kernel
theorem dX12_right_2 : decode cX12_right 2 = .ok (.iconst 2, 1) := by decide +kernel
theorem dX12_right_3 : decode cX12_right 3 = .ok (.invokestatic 56, 3) := by decide +kernel
theorem dX12_right_6 : decode cX12_right 6 = .ok (.ifCond .ne 5, 3) := by decide +kernel
theorem dX12_right_9 : decode cX12_right 9 = .ok (.iconst (-1), 1) := by decide +kernel
theorem dX12_right_10 : decode cX12_right 10 = .ok (.ireturn, 1) := by decide +kernel
theorem dX12_right_11 : decode cX12_right 11 = .ok (.iconst 0, 1) := by decide +kernel
theorem dX12_right_12 : decode cX12_right 12 = .ok (.istore_n 2, 1) := by decide +kernel
theorem dX12_right_13 : decode cX12_right 13 = .ok (.iload_n 2, 1) := by decide +kernel
theorem dX12_right_14 : decode cX12_right 14 = .ok (.aload_n 0, 1) := by decide +kernel
theorem dX12_right_15 : decode cX12_right 15 = .ok (.getfield 7, 3) := by decide +kernel
theorem dX12_right_18 : decode cX12_right 18 = .ok (.iconst 4, 1) := by decide +kernel
theorem dX12_right_19 : decode cX12_right 19 = .ok (.iaload, 1) := by decide +kernel
theorem dX12_right_20 : decode cX12_right 20 = .ok (.if_icmp .ge 21, 3) := by decide +kernel
theorem dX12_right_23 : decode cX12_right 23 = .ok (.aload_n 0, 1) := by decide +kernel
theorem dX12_right_24 : decode cX12_right 24 = .ok (.getfield 47, 3) := by decide +kernel
theorem dX12_right_27 : decode cX12_right 27 = .ok (.iload_n 2, 1) := by decide +kernel
theorem dX12_right_28 : decode cX12_right 28 = .ok (.aload_n 0, 1) := by decide +kernel
theorem dX12_right_29 : decode cX12_right 29 = .ok (.iload_n 2, 1) := by decide +kernel
theorem dX12_right_30 : decode cX12_right 30 = .ok (.iconst 1, 1) := by decide +kernel
theorem dX12_right_31 : decode cX12_right 31 = .ok (.invokevirtual 335, 3) := by decide +kernel
theorem dX12_right_34 : decode cX12_right 34 = .ok (.iastore, 1) := by decide +kernel
theorem dX12_right_35 : decode cX12_right 35 = .ok (.iinc 2 1, 3) := by decide +kernel
theorem dX12_right_38 : decode cX12_right 38 = .ok (.goto (-25), 3) := by decide +kernel
theorem dX12_right_41 : decode cX12_right 41 = .ok (.iload_n 1, 1) := by decide +kernel
theorem dX12_right_42 : decode cX12_right 42 = .ok (.ifCond .ne 8, 3) := by decide +kernel
theorem dX12_right_45 : decode cX12_right 45 = .ok (.aload_n 0, 1) := by decide +kernel
theorem dX12_right_46 : decode cX12_right 46 = .ok (.invokevirtual 429, 3) := by decide +kernel
theorem dX12_right_49 : decode cX12_right 49 = .ok (.ireturn, 1) := by decide +kernel
theorem dX12_right_50 : decode cX12_right 50 = .ok (.aload_n 0, 1) := by decide +kernel
theorem dX12_right_51 : decode cX12_right 51 = .ok (.invokevirtual 432, 3) := by decide +kernel
theorem dX12_right_54 : decode cX12_right 54 = .ok (.istore_n 2, 1) := by decide +kernel
theorem dX12_right_55 : decode cX12_right 55 = .ok (.iload_n 1, 1) := by decide +kernel
theorem dX12_right_56 : decode cX12_right 56 = .ok (.iconst 1, 1) := by decide +kernel
theorem dX12_right_57 : decode cX12_right 57 = .ok (.if_icmp .ne 7, 3) := by decide +kernel
theorem dX12_right_60 : decode cX12_right 60 = .ok (.iload_n 2, 1) := by decide +kernel
theorem dX12_right_61 : decode cX12_right 61 = .ok (.goto 17, 3) := by decide +kernel
theorem dX12_right_64 : decode cX12_right 64 = .ok (.aload_n 0, 1) := by decide +kernel
theorem dX12_right_65 : decode cX12_right 65 = .ok (.getfield 7, 3) := by decide +kernel
theorem dX12_right_68 : decode cX12_right 68 = .ok (.iconst 4, 1) := by decide +kernel
theorem dX12_right_69 : decode cX12_right 69 = .ok (.iaload, 1) := by decide +kernel
theorem dX12_right_70 : decode cX12_right 70 = .ok (.aload_n 0, 1) := by decide +kernel
theorem dX12_right_71 : decode cX12_right 71 = .ok (.invokevirtual 429, 3) := by decide +kernel
theorem dX12_right_74 : decode cX12_right 74 = .ok (.invokestatic 320, 3) := by decide +kernel
theorem dX12_right_77 : decode cX12_right 77 = .ok (.isub, 1) := by decide +kernel
theorem dX12_right_78 : decode cX12_right 78 = .ok (.ireturn, 1) := by decide +kernel
set_option maxHeartbeats 4000000 in
set_option maxRecDepth 100000 in
theorem c_X12_right (l : Launch) (D : va_G) (tys : List (ClassId × FieldType)) (base : Nat) (G : iv_G) (h0 : Nat) (g_h0 : Nat → Int32) (r_h0 : Nat → Nat) (a_h0 : G h0 = some (12, g_h0, r_h0)) (x_0 : Int32) (i_x_0 : iv_R (-2147483648) 2147483647 x_0) : Met l yX12_right (Cond.code yX12_right cX12_right 3 (some .int) :: iv_W0) ({ frames := 6, cells := 0, slots := 0, locals := 133 }) (iv_Pc iv_sh D classes tys base G [.ref h0, .int x_0]) (iv_Qi iv_sh D classes tys base (fun v G' => iv_Md [71] G G' ∧ iv_R (-2147483648) 2147483647 v)) 0 0 (iv_A base) := by
  refine iv_head (by decide) (Nat.le_of_ble_eq_true rfl) ?_
  intro p e s m args below meth c ls X hr hlocks hname hB hl
  have X := X
  have hx := X.1.1
  have hb := X.1.2.1
  have hM : iv_Md [71] G G := iv_Md.rf
  have hl : lv_has ls 3 [(0, .ref h0), (1, .int x_0)] := hl
  refine lv_iload_n hx hb dX12_right_0 rfl (lv_at hl 1 rfl) ?_
  refine lv_iconst (v := 0) hx hb dX12_right_1 (by decide) ?_
  refine lv_iconst (v := 2) hx hb dX12_right_2 (by decide) ?_
  refine iv_cSi X k_good k_mf_X12_isIn k_st_X12_isIn k_ml_X12_56 hB (As := [.int x_0, .int 0, .int 2]) (c_X12_isIn l D tys base G x_0 i_x_0 0 (q_0.wk (by decide)) 2 (q_2.wk (by decide))) ⟨rfl, rfl⟩ ⟨Nat.le_of_ble_eq_true rfl, Nat.le_of_ble_eq_true rfl⟩ ⟨Nat.le_of_ble_eq_true rfl, Nat.le_of_ble_eq_true rfl⟩ rfl rfl hl.1 (Nat.le_of_ble_eq_true rfl) dX12_right_3 (fun x1 G9 H locs hq hB => ?_)
  obtain ⟨rfl, i_x1, hp2⟩ := hq
  have k3 : ¬ x1 = 0 → iv_R 0 2 x_0 := fun h => ⟨iv_max i_x_0.1 (Int.le_trans q_0.1 (hp2.1 h).1) (by decide), iv_min i_x_0.2 (Int.le_trans (hp2.1 h).2 q_2.2) (by decide)⟩
  refine lv_if_ne (tgt := 11) hx hb dX12_right_6 (by decide) (fun c4 => ?_) (fun c4 => ?_)
  · skip
    have i4_x1 : iv_R 1 1 x1 := iv_ne_lo c4 i_x1 q_0 (by decide)
    have i5_x_0 : iv_R 0 2 x_0 := ((i_x_0.cutLo (n := 0) (k3 c4).1).cutHi (n := 2) (k3 c4).2)
    refine lv_iconst (v := 0) hx hb dX12_right_11 (by decide) ?_
    refine lv_istore_n (lv' := [(2, .int 0), (0, .ref h0), (1, .int x_0)]) hx hb dX12_right_12 rfl hl (by decide) rfl (fun ls hl => ?_)
    have L_13 : ∀ (n_13 : Nat) (G8 : iv_G) (hM : iv_Md [71] G G8) (H : Heap) (locs : List Loc) (hB : iv_B iv_sh D classes tys base G8 s.heap H locs) (a_h0 : G8 h0 = some (12, g_h0, r_h0)) (x7 : Int32) (i_x7 : iv_R 0 20 x7) (hn_13 : (21 - x7.toInt).toNat < n_13) (ls : Array Slot) (hl : lv_has ls 3 [(2, .int x7), (0, .ref h0), (1, .int x_0)]), W p l e ({ frames := 6, cells := 0, slots := 0, locals := 133 } : Room) s m args below meth c H locs 0 0 (MQ below (iv_Qi iv_sh D classes tys base (fun v G' => iv_Md [71] G G' ∧ iv_R (-2147483648) 2147483647 v)) args s 0 0 (iv_A base)) (F0 m 13 ls []) := by
      intro n_13
      induction n_13 with
      | zero => intro G8 hM H locs hB a_h0 x7 i_x7 hn_13 ls hl; exact absurd hn_13 (Nat.not_lt_zero _)
      | succ n_13 ih_13 =>
        intro G8 hM H locs hB a_h0 x7 i_x7 hn_13 ls hl
        refine lv_iload_n hx hb dX12_right_13 rfl (lv_at hl 0 rfl) ?_
        refine lv_aload_n hx hb dX12_right_14 rfl (lv_at hl 1 rfl) ?_
        refine iv_getr X ft_X12 hB a_h0 sh_12 0 (by decide) rfl k_fl_X12_7 dX12_right_15 (fun b9 g_b9 r_b9 e_b9 a_b9 => ?_)
        refine lv_iconst (v := 4) hx hb dX12_right_18 (by decide) ?_
        refine iv_wald_c X hB a_b9 q_4 (by decide) (lo := 0) (hi' := 20) (by decide) dX12_right_19 (fun x10 e_x10 i_x10 => ?_)
        refine lv_icmp_ge (tgt := 41) hx hb dX12_right_20 (by decide) (fun c11 => ?_) (fun c11 => ?_)
        · skip
          refine lv_iload_n hx hb dX12_right_41 rfl (lv_at hl 2 rfl) ?_
          refine lv_if_ne (tgt := 50) hx hb dX12_right_42 (by decide) (fun c12 => ?_) (fun c12 => ?_)
          · skip
            have i12_x_0 : iv_R 1 2 x_0 := iv_ne_lo c12 i5_x_0 q_0 (by decide)
            refine lv_aload_n hx hb dX12_right_50 rfl (lv_at hl 1 rfl) ?_
            refine iv_cVi X k_good k_mf_X12_setsRight k_im_X12_setsRight k_sel_X12_setsRight k_ml_X12_432 ft_X12 hB a_h0 sh_12 (As := []) (c_X12_setsRight l D tys base G8 h0 g_h0 r_h0 a_h0) ⟨rfl, rfl⟩ ⟨Nat.le_of_ble_eq_true rfl, Nat.le_of_ble_eq_true rfl⟩ ⟨Nat.le_of_ble_eq_true rfl, Nat.le_of_ble_eq_true rfl⟩ rfl rfl hl.1 (Nat.le_of_ble_eq_true rfl) dX12_right_51 (fun x14 G9 H locs hq hB => ?_)
            obtain ⟨hm, i_x14⟩ := hq
            obtain ⟨G15, hG9⟩ : ∃ g, g = G9 := ⟨_, rfl⟩
            rw [← hG9] at hm hB
            have hM := hM.stp hm (by decide)
            have a_h0 := hm.at a_h0 (by decide)
            have a_b9 := hm.at a_b9 (by decide)
            refine lv_istore_n (lv' := [(2, .int x14), (0, .ref h0), (1, .int x_0)]) hx hb dX12_right_54 rfl hl (by decide) rfl (fun ls hl => ?_)
            refine lv_iload_n hx hb dX12_right_55 rfl (lv_at hl 2 rfl) ?_
            refine lv_iconst (v := 1) hx hb dX12_right_56 (by decide) ?_
            refine lv_icmp_ne (tgt := 64) hx hb dX12_right_57 (by decide) (fun c16 => ?_) (fun c16 => ?_)
            · skip
              have i16_x_0 : iv_R 2 2 x_0 := iv_ne_lo c16 i12_x_0 q_1 (by decide)
              refine lv_aload_n hx hb dX12_right_64 rfl (lv_at hl 1 rfl) ?_
              refine iv_getr0 X ft_X12 hB a_h0 sh_12 0 (by decide) rfl k_fl_X12_7 dX12_right_65 e_b9 ?_
              refine lv_iconst (v := 4) hx hb dX12_right_68 (by decide) ?_
              refine iv_wald_c X hB a_b9 q_4 (by decide) (lo := 0) (hi' := 20) (by decide) dX12_right_69 (fun x18 e_x18 k_x18 => ?_)
              obtain rfl : x10 = x18 := e_x10.trans e_x18.symm
              refine lv_aload_n hx hb dX12_right_70 rfl (lv_at hl 1 rfl) ?_
              refine iv_cVi X k_good k_mf_X12_wrongs k_im_X12_wrongs k_sel_X12_wrongs k_ml_X12_429 ft_X12 hB a_h0 sh_12 (As := []) (c_X12_wrongs l D tys base G15 h0 g_h0 r_h0 a_h0) ⟨rfl, rfl⟩ ⟨Nat.le_of_ble_eq_true rfl, Nat.le_of_ble_eq_true rfl⟩ ⟨Nat.le_of_ble_eq_true rfl, Nat.le_of_ble_eq_true rfl⟩ rfl rfl hl.1 (Nat.le_of_ble_eq_true rfl) dX12_right_71 (fun x19 G9 H locs hq hB => ?_)
              obtain ⟨rfl, i_x19⟩ := hq
              refine iv_cSi X k_good k_mf_X12_count k_st_X12_count k_ml_X12_320 hB (As := [.int x19]) (c_X12_count l D tys base G15 x19 i_x19) ⟨rfl, rfl⟩ ⟨Nat.le_of_ble_eq_true rfl, Nat.le_of_ble_eq_true rfl⟩ ⟨Nat.le_of_ble_eq_true rfl, Nat.le_of_ble_eq_true rfl⟩ rfl rfl hl.1 (Nat.le_of_ble_eq_true rfl) dX12_right_74 (fun x20 G9 H locs hq hB => ?_)
              obtain ⟨rfl, i_x20⟩ := hq
              refine lv_isub hx hb dX12_right_77 ?_
              refine lv_topi (fun x21 e_x21 => ?_)
              have i_x21 := iv_R.all x21
              exact iv_iret X hr hlocks hB ⟨hM, i_x21⟩ dX12_right_78
            · skip
              have i21_x_0 : iv_R 1 1 x_0 := (i12_x_0.cutHi (n := 1) (iv_eq_r c16 q_1).2)
              refine lv_iload_n hx hb dX12_right_60 rfl (lv_at hl 0 rfl) ?_
              refine lv_goto (tgt := 78) hx hb dX12_right_61 (by decide) ?_
              exact iv_iret X hr hlocks hB ⟨hM, i_x14⟩ dX12_right_78
          · skip
            have i22_x_0 : iv_R 0 0 x_0 := (i5_x_0.cutHi (n := 0) (iv_eq_r c12 q_0).2)
            refine lv_aload_n hx hb dX12_right_45 rfl (lv_at hl 1 rfl) ?_
            refine iv_cVi X k_good k_mf_X12_wrongs k_im_X12_wrongs k_sel_X12_wrongs k_ml_X12_429 ft_X12 hB a_h0 sh_12 (As := []) (c_X12_wrongs l D tys base G8 h0 g_h0 r_h0 a_h0) ⟨rfl, rfl⟩ ⟨Nat.le_of_ble_eq_true rfl, Nat.le_of_ble_eq_true rfl⟩ ⟨Nat.le_of_ble_eq_true rfl, Nat.le_of_ble_eq_true rfl⟩ rfl rfl hl.1 (Nat.le_of_ble_eq_true rfl) dX12_right_46 (fun x24 G9 H locs hq hB => ?_)
            obtain ⟨rfl, i_x24⟩ := hq
            exact iv_iret X hr hlocks hB ⟨hM, (i_x24.wk (by decide))⟩ dX12_right_49
        · skip
          have i24_x7 : iv_R 0 19 x7 := (i_x7.cutHi (n := 19) (iv_lt_r (iv_nle c11) i_x10 (by decide)))
          have i25_x10 : iv_R 1 20 x10 := (i_x10.cutLo (n := 1) (iv_lt_l (iv_nle c11) i_x7 (by decide)))
          refine lv_aload_n hx hb dX12_right_23 rfl (lv_at hl 1 rfl) ?_
          refine iv_getr X ft_X12 hB a_h0 sh_12 28 (by decide) rfl k_fl_X12_47 dX12_right_24 (fun b27 g_b27 r_b27 e_b27 a_b27 => ?_)
          refine lv_iload_n hx hb dX12_right_27 rfl (lv_at hl 0 rfl) ?_
          refine lv_aload_n hx hb dX12_right_28 rfl (lv_at hl 1 rfl) ?_
          refine lv_iload_n hx hb dX12_right_29 rfl (lv_at hl 0 rfl) ?_
          refine lv_iconst (v := 1) hx hb dX12_right_30 (by decide) ?_
          refine iv_cVi X k_good k_mf_X12_ofChild k_im_X12_ofChild k_sel_X12_ofChild k_ml_X12_335 ft_X12 hB a_h0 sh_12 (As := [.int x7, .int 1]) (c_X12_ofChild l D tys base G8 h0 g_h0 r_h0 a_h0 x7 i24_x7 1 (q_1.wk (by decide))) ⟨rfl, rfl⟩ ⟨Nat.le_of_ble_eq_true rfl, Nat.le_of_ble_eq_true rfl⟩ ⟨Nat.le_of_ble_eq_true rfl, Nat.le_of_ble_eq_true rfl⟩ rfl rfl hl.1 (Nat.le_of_ble_eq_true rfl) dX12_right_31 (fun x28 G9 H locs hq hB => ?_)
          obtain ⟨rfl, i_x28⟩ := hq
          refine iv_ast X hB a_b27 sh_71 (iv_in i24_x7 (by decide)) i_x28 dX12_right_34 (fun H locs hB => ?_)
          have hm := iv_Md.ast (j := x7.toNatClampNeg) (x := x28) a_b27 rfl (by decide)
          have h9 := iv_up_eq (G := G8) (a := b27) (k := (71, upd g_b27 x7.toNatClampNeg x28, r_b27))
          generalize iv_up G8 b27 _ = G29 at hB hm h9
          have hM := hM.stp hm (by decide)
          have a_h0 := hm.at a_h0 (by decide)
          have a_b9 := hm.at a_b9 (by decide)
          refine iv_iinc hx hb i24_x7 (lo := 1) (hi := 20) (by decide) dX12_right_35 hl (k := 0) rfl (by decide) (fun x31 ls e_x31 i_x31 hl => ?_)
          have hl : lv_has ls 3 [(2, .int x31), (0, .ref h0), (1, .int x_0)] := hl
          refine lv_goto (tgt := 13) hx hb dX12_right_38 (by decide) ?_
          exact ih_13 G29 hM _ _ hB a_h0 x31 (i_x31.wk (by decide)) (iv_mup (c := 1) i_x7 (by decide) (by decide) (by omega) hn_13) _ (lv_sub hl [0, 1, 2] rfl)
    exact L_13 _ G hM _ _ hB a_h0 0 (q_0.wk (by decide)) (Nat.lt_succ_self _) _ (lv_sub hl [0, 1, 2] rfl)
  · skip
    have i31_x1 : iv_R 0 0 x1 := (i_x1.cutHi (n := 0) (iv_eq_r c4 q_0).2)
    refine lv_iconst (v := (-1)) hx hb dX12_right_9 (by decide) ?_
    exact iv_iret X hr hlocks hB ⟨hM, (q_n1.wk (by decide))⟩ dX12_right_10
theorem dX12_soundingIn_0 : decode cX12_soundingIn 0 = .ok (.iconst 0, 1) := by decide +kernel
theorem dX12_soundingIn_1 : decode cX12_soundingIn 1 = .ok (.istore_n 2, 1) := by decide +kernel
theorem dX12_soundingIn_2 : decode cX12_soundingIn 2 = .ok (.iconst 0, 1) := by decide +kernel
theorem dX12_soundingIn_3 : decode cX12_soundingIn 3 = .ok (.istore_n 3, 1) := by decide +kernel
theorem dX12_soundingIn_4 : decode cX12_soundingIn 4 = .ok (.iload_n 3, 1) := by decide +kernel
theorem dX12_soundingIn_5 : decode cX12_soundingIn 5 = .ok (.aload_n 0, 1) := by decide +kernel
theorem dX12_soundingIn_6 : decode cX12_soundingIn 6 = .ok (.getfield 7, 3) := by decide +kernel
theorem dX12_soundingIn_9 : decode cX12_soundingIn 9 = .ok (.sipush 146, 3) := by decide +kernel
theorem dX12_soundingIn_12 : decode cX12_soundingIn 12 = .ok (.iaload, 1) := by decide +kernel
theorem dX12_soundingIn_13 : decode cX12_soundingIn 13 = .ok (.if_icmp .ge 26, 3) := by decide +kernel
theorem dX12_soundingIn_16 : decode cX12_soundingIn 16 = .ok (.iload_n 2, 1) := by decide +kernel
theorem dX12_soundingIn_17 : decode cX12_soundingIn 17 = .ok (.aload_n 0, 1) := by decide +kernel
theorem dX12_soundingIn_18 : decode cX12_soundingIn 18 = .ok (.iload_n 3, 1) := by decide +kernel
theorem dX12_soundingIn_19 : decode cX12_soundingIn 19 = .ok (.iload_n 1, 1) := by decide +kernel
theorem dX12_soundingIn_20 : decode cX12_soundingIn 20 = .ok (.invokevirtual 302, 3) := by decide +kernel
theorem dX12_soundingIn_23 : decode cX12_soundingIn 23 = .ok (.ifCond .eq 7, 3) := by decide +kernel
theorem dX12_soundingIn_26 : decode cX12_soundingIn 26 = .ok (.iconst 1, 1) := by decide +kernel
theorem dX12_soundingIn_27 : decode cX12_soundingIn 27 = .ok (.goto 4, 3) := by decide +kernel
theorem dX12_soundingIn_30 : decode cX12_soundingIn 30 = .ok (.iconst 0, 1) := by decide +kernel
theorem dX12_soundingIn_31 : decode cX12_soundingIn 31 = .ok (.iadd, 1) := by decide +kernel
theorem dX12_soundingIn_32 : decode cX12_soundingIn 32 = .ok (.istore_n 2, 1) := by decide +kernel
theorem dX12_soundingIn_33 : decode cX12_soundingIn 33 = .ok (.iinc 3 1, 3) := by decide +kernel
theorem dX12_soundingIn_36 : decode cX12_soundingIn 36 = .ok (.goto (-32), 3) := by decide +kernel
theorem dX12_soundingIn_39 : decode cX12_soundingIn 39 = .ok (.iload_n 2, 1) := by decide +kernel
theorem dX12_soundingIn_40 : decode cX12_soundingIn 40 = .ok (.ireturn, 1) := by decide +kernel
set_option maxHeartbeats 4000000 in
set_option maxRecDepth 100000 in
theorem c_X12_soundingIn (l : Launch) (D : va_G) (tys : List (ClassId × FieldType)) (base : Nat) (G : iv_G) (h0 : Nat) (g_h0 : Nat → Int32) (r_h0 : Nat → Nat) (a_h0 : G h0 = some (12, g_h0, r_h0)) (x_0 : Int32) (i_x_0 : iv_R 0 23 x_0) : Met l yX12_soundingIn (Cond.code yX12_soundingIn cX12_soundingIn 4 (some .int) :: iv_W0) ({ frames := 3, cells := 0, slots := 0, locals := 67 }) (iv_Pc iv_sh D classes tys base G [.ref h0, .int x_0]) (iv_Qi iv_sh D classes tys base (fun v G' => G = G' ∧ iv_R (-2147483648) 2147483647 v)) 0 0 (iv_A base) := by
  refine iv_head (by decide) (Nat.le_of_ble_eq_true rfl) ?_
  intro p e s m args below meth c ls X hr hlocks hname hB hl
  have X := X
  have hx := X.1.1
  have hb := X.1.2.1
  have hl : lv_has ls 4 [(0, .ref h0), (1, .int x_0)] := hl
  refine lv_iconst (v := 0) hx hb dX12_soundingIn_0 (by decide) ?_
  refine lv_istore_n (lv' := [(2, .int 0), (0, .ref h0), (1, .int x_0)]) hx hb dX12_soundingIn_1 rfl hl (by decide) rfl (fun ls hl => ?_)
  refine lv_iconst (v := 0) hx hb dX12_soundingIn_2 (by decide) ?_
  refine lv_istore_n (lv' := [(3, .int 0), (2, .int 0), (0, .ref h0), (1, .int x_0)]) hx hb dX12_soundingIn_3 rfl hl (by decide) rfl (fun ls hl => ?_)
  have L_4 : ∀ (n_4 : Nat) (H : Heap) (locs : List Loc) (hB : iv_B iv_sh D classes tys base G s.heap H locs) (x1 : Int32) (i_x1 : iv_R (-2147483648) 2147483647 x1) (x2 : Int32) (i_x2 : iv_R 0 10 x2) (hn_4 : (11 - x2.toInt).toNat < n_4) (ls : Array Slot) (hl : lv_has ls 4 [(3, .int x2), (2, .int x1), (0, .ref h0), (1, .int x_0)]), W p l e ({ frames := 3, cells := 0, slots := 0, locals := 67 } : Room) s m args below meth c H locs 0 0 (MQ below (iv_Qi iv_sh D classes tys base (fun v G' => G = G' ∧ iv_R (-2147483648) 2147483647 v)) args s 0 0 (iv_A base)) (F0 m 4 ls []) := by
    intro n_4
    induction n_4 with
    | zero => intro H locs hB x1 i_x1 x2 i_x2 hn_4 ls hl; exact absurd hn_4 (Nat.not_lt_zero _)
    | succ n_4 ih_4 =>
      intro H locs hB x1 i_x1 x2 i_x2 hn_4 ls hl
      refine lv_iload_n hx hb dX12_soundingIn_4 rfl (lv_at hl 0 rfl) ?_
      refine lv_aload_n hx hb dX12_soundingIn_5 rfl (lv_at hl 2 rfl) ?_
      refine iv_getr X ft_X12 hB a_h0 sh_12 0 (by decide) rfl k_fl_X12_7 dX12_soundingIn_6 (fun b3 g_b3 r_b3 e_b3 a_b3 => ?_)
      refine lv_sipush (v := 146) hx hb dX12_soundingIn_9 (by decide) ?_
      refine iv_wald_c X hB a_b3 q_146 (by decide) (lo := 0) (hi' := 10) (by decide) dX12_soundingIn_12 (fun x4 e_x4 i_x4 => ?_)
      refine lv_icmp_ge (tgt := 39) hx hb dX12_soundingIn_13 (by decide) (fun c5 => ?_) (fun c5 => ?_)
      · skip
        refine lv_iload_n hx hb dX12_soundingIn_39 rfl (lv_at hl 1 rfl) ?_
        exact iv_iret X hr hlocks hB ⟨rfl, i_x1⟩ dX12_soundingIn_40
      · skip
        have i5_x2 : iv_R 0 9 x2 := (i_x2.cutHi (n := 9) (iv_lt_r (iv_nle c5) i_x4 (by decide)))
        have i6_x4 : iv_R 1 10 x4 := (i_x4.cutLo (n := 1) (iv_lt_l (iv_nle c5) i_x2 (by decide)))
        refine lv_iload_n hx hb dX12_soundingIn_16 rfl (lv_at hl 1 rfl) ?_
        refine lv_aload_n hx hb dX12_soundingIn_17 rfl (lv_at hl 2 rfl) ?_
        refine lv_iload_n hx hb dX12_soundingIn_18 rfl (lv_at hl 0 rfl) ?_
        refine lv_iload_n hx hb dX12_soundingIn_19 rfl (lv_at hl 3 rfl) ?_
        refine iv_cVi X k_good k_mf_X12_sounds k_im_X12_sounds k_sel_X12_sounds k_ml_X12_302 ft_X12 hB a_h0 sh_12 (As := [.int x2, .int x_0]) (c_X12_sounds l D tys base G h0 g_h0 r_h0 a_h0 x2 i5_x2 x_0 i_x_0) ⟨rfl, rfl⟩ ⟨Nat.le_of_ble_eq_true rfl, Nat.le_of_ble_eq_true rfl⟩ ⟨Nat.le_of_ble_eq_true rfl, Nat.le_of_ble_eq_true rfl⟩ rfl rfl hl.1 (Nat.le_of_ble_eq_true rfl) dX12_soundingIn_20 (fun x8 G9 H locs hq hB => ?_)
        obtain ⟨rfl, i_x8⟩ := hq
        refine lv_if_eq (tgt := 30) hx hb dX12_soundingIn_23 (by decide) (fun c9 => ?_) (fun c9 => ?_)
        · skip
          have i9_x8 : iv_R 0 0 x8 := (i_x8.cutHi (n := 0) (iv_eq_r c9 q_0).2)
          refine lv_iconst (v := 0) hx hb dX12_soundingIn_30 (by decide) ?_
          refine iv_iadd hx hb i_x1 q_0 (lo := (-2147483648)) (hi := 2147483647) (by decide) dX12_soundingIn_31 (fun x11 e_x11 i_x11 => ?_)
          refine lv_istore_n (lv' := [(2, .int x11), (3, .int x2), (0, .ref h0), (1, .int x_0)]) hx hb dX12_soundingIn_32 rfl hl (by decide) rfl (fun ls hl => ?_)
          refine iv_iinc hx hb i5_x2 (lo := 1) (hi := 10) (by decide) dX12_soundingIn_33 hl (k := 1) rfl (by decide) (fun x12 ls e_x12 i_x12 hl => ?_)
          have hl : lv_has ls 4 [(3, .int x12), (2, .int x11), (0, .ref h0), (1, .int x_0)] := hl
          refine lv_goto (tgt := 4) hx hb dX12_soundingIn_36 (by decide) ?_
          exact ih_4 _ _ hB x11 i_x11 x12 (i_x12.wk (by decide)) (iv_mup (c := 1) i_x2 (by decide) (by decide) (by omega) hn_4) _ (lv_sub hl [0, 1, 2, 3] rfl)
        · skip
          have i12_x8 : iv_R 1 1 x8 := iv_ne_lo c9 i_x8 q_0 (by decide)
          refine lv_iconst (v := 1) hx hb dX12_soundingIn_26 (by decide) ?_
          refine lv_goto (tgt := 31) hx hb dX12_soundingIn_27 (by decide) ?_
          refine lv_iadd hx hb dX12_soundingIn_31 ?_
          refine lv_topi (fun x14 e_x14 => ?_)
          have i_x14 := iv_R.all x14
          refine lv_istore_n (lv' := [(2, .int x14), (3, .int x2), (0, .ref h0), (1, .int x_0)]) hx hb dX12_soundingIn_32 rfl hl (by decide) rfl (fun ls hl => ?_)
          refine iv_iinc hx hb i5_x2 (lo := 1) (hi := 10) (by decide) dX12_soundingIn_33 hl (k := 1) rfl (by decide) (fun x15 ls e_x15 i_x15 hl => ?_)
          have hl : lv_has ls 4 [(3, .int x15), (2, .int x14), (0, .ref h0), (1, .int x_0)] := hl
          refine lv_goto (tgt := 4) hx hb dX12_soundingIn_36 (by decide) ?_
          exact ih_4 _ _ hB x14 i_x14 x15 (i_x15.wk (by decide)) (iv_mup (c := 1) i_x2 (by decide) (by decide) (by omega) hn_4) _ (lv_sub hl [0, 1, 2, 3] rfl)
  exact L_4 _ _ _ hB 0 (q_0.wk (by decide)) 0 (q_0.wk (by decide)) (Nat.lt_succ_self _) _ (lv_sub hl [0, 1, 2, 3] rfl)
theorem dX12_ropes_0 : decode cX12_ropes 0 = .ok (.iload_n 1, 1) := by decide +kernel
theorem dX12_ropes_1 : decode cX12_ropes 1 = .ok (.iconst 0, 1) := by decide +kernel
theorem dX12_ropes_2 : decode cX12_ropes 2 = .ok (.iconst 1, 1) := by decide +kernel
theorem dX12_ropes_3 : decode cX12_ropes 3 = .ok (.invokestatic 56, 3) := by decide +kernel
theorem dX12_ropes_6 : decode cX12_ropes 6 = .ok (.ifCond .ne 5, 3) := by decide +kernel
theorem dX12_ropes_9 : decode cX12_ropes 9 = .ok (.iconst (-1), 1) := by decide +kernel
theorem dX12_ropes_10 : decode cX12_ropes 10 = .ok (.ireturn, 1) := by decide +kernel
theorem dX12_ropes_11 : decode cX12_ropes 11 = .ok (.iconst 0, 1) := by decide +kernel
theorem dX12_ropes_12 : decode cX12_ropes 12 = .ok (.istore_n 2, 1) := by decide +kernel
theorem dX12_ropes_13 : decode cX12_ropes 13 = .ok (.iconst (-1), 1) := by decide +kernel
theorem dX12_ropes_14 : decode cX12_ropes 14 = .ok (.istore_n 3, 1) := by decide +kernel
theorem dX12_ropes_15 : decode cX12_ropes 15 = .ok (.iconst 0, 1) := by decide +kernel
theorem dX12_ropes_16 : decode cX12_ropes 16 = .ok (.istore 4, 2) := by decide +kernel
theorem dX12_ropes_18 : decode cX12_ropes 18 = .ok (.iload 4, 2) := by decide +kernel
theorem dX12_ropes_20 : decode cX12_ropes 20 = .ok (.bipush 24, 2) := by decide +kernel
theorem dX12_ropes_22 : decode cX12_ropes 22 = .ok (.if_icmp .ge 32, 3) := by decide +kernel
theorem dX12_ropes_25 : decode cX12_ropes 25 = .ok (.aload_n 0, 1) := by decide +kernel
theorem dX12_ropes_26 : decode cX12_ropes 26 = .ok (.iload 4, 2) := by decide +kernel
theorem dX12_ropes_28 : decode cX12_ropes 28 = .ok (.invokevirtual 380, 3) := by decide +kernel
theorem dX12_ropes_31 : decode cX12_ropes 31 = .ok (.iload_n 2, 1) := by decide +kernel
theorem dX12_ropes_32 : decode cX12_ropes 32 = .ok (.if_icmp .gt 6, 3) := by decide +kernel
theorem dX12_ropes_35 : decode cX12_ropes 35 = .ok (.goto 13, 3) := by decide +kernel
theorem dX12_ropes_38 : decode cX12_ropes 38 = .ok (.aload_n 0, 1) := by decide +kernel
theorem dX12_ropes_39 : decode cX12_ropes 39 = .ok (.iload 4, 2) := by decide +kernel
theorem dX12_ropes_41 : decode cX12_ropes 41 = .ok (.invokevirtual 380, 3) := by decide +kernel
theorem dX12_ropes_44 : decode cX12_ropes 44 = .ok (.istore_n 2, 1) := by decide +kernel
theorem dX12_ropes_45 : decode cX12_ropes 45 = .ok (.iload 4, 2) := by decide +kernel
theorem dX12_ropes_47 : decode cX12_ropes 47 = .ok (.istore_n 3, 1) := by decide +kernel
theorem dX12_ropes_48 : decode cX12_ropes 48 = .ok (.iinc 4 1, 3) := by decide +kernel
theorem dX12_ropes_51 : decode cX12_ropes 51 = .ok (.goto (-33), 3) := by decide +kernel
theorem dX12_ropes_54 : decode cX12_ropes 54 = .ok (.iload_n 1, 1) := by decide +kernel
theorem dX12_ropes_55 : decode cX12_ropes 55 = .ok (.ifCond .ne 7, 3) := by decide +kernel
theorem dX12_ropes_58 : decode cX12_ropes 58 = .ok (.iload_n 3, 1) := by decide +kernel
theorem dX12_ropes_59 : decode cX12_ropes 59 = .ok (.goto 4, 3) := by decide +kernel
theorem dX12_ropes_62 : decode cX12_ropes 62 = .ok (.iload_n 2, 1) := by decide +kernel
theorem dX12_ropes_63 : decode cX12_ropes 63 = .ok (.ireturn, 1) := by decide +kernel
set_option maxHeartbeats 4000000 in
set_option maxRecDepth 100000 in
theorem c_X12_ropes (l : Launch) (D : va_G) (tys : List (ClassId × FieldType)) (base : Nat) (G : iv_G) (h0 : Nat) (g_h0 : Nat → Int32) (r_h0 : Nat → Nat) (a_h0 : G h0 = some (12, g_h0, r_h0)) (x_0 : Int32) (i_x_0 : iv_R (-2147483648) 2147483647 x_0) : Met l yX12_ropes (Cond.code yX12_ropes cX12_ropes 5 (some .int) :: iv_W0) ({ frames := 4, cells := 0, slots := 0, locals := 90 }) (iv_Pc iv_sh D classes tys base G [.ref h0, .int x_0]) (iv_Qi iv_sh D classes tys base (fun v G' => G = G' ∧ iv_R (-2147483648) 2147483647 v)) 0 0 (iv_A base) := by
  refine iv_head (by decide) (Nat.le_of_ble_eq_true rfl) ?_
  intro p e s m args below meth c ls X hr hlocks hname hB hl
  have X := X
  have hx := X.1.1
  have hb := X.1.2.1
  have hl : lv_has ls 5 [(0, .ref h0), (1, .int x_0)] := hl
  refine lv_iload_n hx hb dX12_ropes_0 rfl (lv_at hl 1 rfl) ?_
  refine lv_iconst (v := 0) hx hb dX12_ropes_1 (by decide) ?_
  refine lv_iconst (v := 1) hx hb dX12_ropes_2 (by decide) ?_
  refine iv_cSi X k_good k_mf_X12_isIn k_st_X12_isIn k_ml_X12_56 hB (As := [.int x_0, .int 0, .int 1]) (c_X12_isIn l D tys base G x_0 i_x_0 0 (q_0.wk (by decide)) 1 (q_1.wk (by decide))) ⟨rfl, rfl⟩ ⟨Nat.le_of_ble_eq_true rfl, Nat.le_of_ble_eq_true rfl⟩ ⟨Nat.le_of_ble_eq_true rfl, Nat.le_of_ble_eq_true rfl⟩ rfl rfl hl.1 (Nat.le_of_ble_eq_true rfl) dX12_ropes_3 (fun x1 G9 H locs hq hB => ?_)
  obtain ⟨rfl, i_x1, hp2⟩ := hq
  have k3 : ¬ x1 = 0 → iv_R 0 1 x_0 := fun h => ⟨iv_max i_x_0.1 (Int.le_trans q_0.1 (hp2.1 h).1) (by decide), iv_min i_x_0.2 (Int.le_trans (hp2.1 h).2 q_1.2) (by decide)⟩
  refine lv_if_ne (tgt := 11) hx hb dX12_ropes_6 (by decide) (fun c4 => ?_) (fun c4 => ?_)
  · skip
    have i4_x1 : iv_R 1 1 x1 := iv_ne_lo c4 i_x1 q_0 (by decide)
    have i5_x_0 : iv_R 0 1 x_0 := ((i_x_0.cutLo (n := 0) (k3 c4).1).cutHi (n := 1) (k3 c4).2)
    refine lv_iconst (v := 0) hx hb dX12_ropes_11 (by decide) ?_
    refine lv_istore_n (lv' := [(2, .int 0), (0, .ref h0), (1, .int x_0)]) hx hb dX12_ropes_12 rfl hl (by decide) rfl (fun ls hl => ?_)
    refine lv_iconst (v := (-1)) hx hb dX12_ropes_13 (by decide) ?_
    refine lv_istore_n (lv' := [(3, .int (-1)), (2, .int 0), (0, .ref h0), (1, .int x_0)]) hx hb dX12_ropes_14 rfl hl (by decide) rfl (fun ls hl => ?_)
    refine lv_iconst (v := 0) hx hb dX12_ropes_15 (by decide) ?_
    refine lv_istore (lv' := [(4, .int 0), (3, .int (-1)), (2, .int 0), (0, .ref h0), (1, .int x_0)]) hx hb dX12_ropes_16 hl (by decide) rfl (fun ls hl => ?_)
    have L_18 : ∀ (n_18 : Nat) (H : Heap) (locs : List Loc) (hB : iv_B iv_sh D classes tys base G s.heap H locs) (x7 : Int32) (i_x7 : iv_R (-2147483648) 2147483647 x7) (x8 : Int32) (i_x8 : iv_R (-1) 23 x8) (x9 : Int32) (i_x9 : iv_R 0 24 x9) (hn_18 : (25 - x9.toInt).toNat < n_18) (ls : Array Slot) (hl : lv_has ls 5 [(4, .int x9), (3, .int x8), (2, .int x7), (0, .ref h0), (1, .int x_0)]), W p l e ({ frames := 4, cells := 0, slots := 0, locals := 90 } : Room) s m args below meth c H locs 0 0 (MQ below (iv_Qi iv_sh D classes tys base (fun v G' => G = G' ∧ iv_R (-2147483648) 2147483647 v)) args s 0 0 (iv_A base)) (F0 m 18 ls []) := by
      intro n_18
      induction n_18 with
      | zero => intro H locs hB x7 i_x7 x8 i_x8 x9 i_x9 hn_18 ls hl; exact absurd hn_18 (Nat.not_lt_zero _)
      | succ n_18 ih_18 =>
        intro H locs hB x7 i_x7 x8 i_x8 x9 i_x9 hn_18 ls hl
        refine lv_iload hx hb dX12_ropes_18 (lv_at hl 0 rfl) ?_
        refine lv_bipush (v := 24) hx hb dX12_ropes_20 (by decide) ?_
        refine lv_icmp_ge (tgt := 54) hx hb dX12_ropes_22 (by decide) (fun c10 => ?_) (fun c10 => ?_)
        · skip
          have i10_x9 : iv_R 24 24 x9 := (i_x9.cutLo (n := 24) (iv_le_l c10 q_24))
          refine lv_iload_n hx hb dX12_ropes_54 rfl (lv_at hl 4 rfl) ?_
          refine lv_if_ne (tgt := 62) hx hb dX12_ropes_55 (by decide) (fun c12 => ?_) (fun c12 => ?_)
          · skip
            have i12_x_0 : iv_R 1 1 x_0 := iv_ne_lo c12 i5_x_0 q_0 (by decide)
            refine lv_iload_n hx hb dX12_ropes_62 rfl (lv_at hl 2 rfl) ?_
            exact iv_iret X hr hlocks hB ⟨rfl, i_x7⟩ dX12_ropes_63
          · skip
            have i13_x_0 : iv_R 0 0 x_0 := (i5_x_0.cutHi (n := 0) (iv_eq_r c12 q_0).2)
            refine lv_iload_n hx hb dX12_ropes_58 rfl (lv_at hl 1 rfl) ?_
            refine lv_goto (tgt := 63) hx hb dX12_ropes_59 (by decide) ?_
            exact iv_iret X hr hlocks hB ⟨rfl, (i_x8.wk (by decide))⟩ dX12_ropes_63
        · skip
          have i14_x9 : iv_R 0 23 x9 := (i_x9.cutHi (n := 23) (iv_lt_r (iv_nle c10) q_24 (by decide)))
          refine lv_aload_n hx hb dX12_ropes_25 rfl (lv_at hl 3 rfl) ?_
          refine lv_iload hx hb dX12_ropes_26 (lv_at hl 0 rfl) ?_
          refine iv_cVi X k_good k_mf_X12_soundingIn k_im_X12_soundingIn k_sel_X12_soundingIn k_ml_X12_380 ft_X12 hB a_h0 sh_12 (As := [.int x9]) (c_X12_soundingIn l D tys base G h0 g_h0 r_h0 a_h0 x9 i14_x9) ⟨rfl, rfl⟩ ⟨Nat.le_of_ble_eq_true rfl, Nat.le_of_ble_eq_true rfl⟩ ⟨Nat.le_of_ble_eq_true rfl, Nat.le_of_ble_eq_true rfl⟩ rfl rfl hl.1 (Nat.le_of_ble_eq_true rfl) dX12_ropes_28 (fun x16 G9 H locs hq hB => ?_)
          obtain ⟨rfl, i_x16⟩ := hq
          refine lv_iload_n hx hb dX12_ropes_31 rfl (lv_at hl 2 rfl) ?_
          refine lv_icmp_gt (tgt := 38) hx hb dX12_ropes_32 (by decide) (fun c17 => ?_) (fun c17 => ?_)
          · skip
            have i17_x7 : iv_R (-2147483648) 2147483646 x7 := (i_x7.cutHi (n := 2147483646) (iv_lt_r c17 i_x16 (by decide)))
            have i18_x16 : iv_R (-2147483647) 2147483647 x16 := (i_x16.cutLo (n := (-2147483647)) (iv_lt_l c17 i_x7 (by decide)))
            refine lv_aload_n hx hb dX12_ropes_38 rfl (lv_at hl 3 rfl) ?_
            refine lv_iload hx hb dX12_ropes_39 (lv_at hl 0 rfl) ?_
            refine iv_cVi X k_good k_mf_X12_soundingIn k_im_X12_soundingIn k_sel_X12_soundingIn k_ml_X12_380 ft_X12 hB a_h0 sh_12 (As := [.int x9]) (c_X12_soundingIn l D tys base G h0 g_h0 r_h0 a_h0 x9 i14_x9) ⟨rfl, rfl⟩ ⟨Nat.le_of_ble_eq_true rfl, Nat.le_of_ble_eq_true rfl⟩ ⟨Nat.le_of_ble_eq_true rfl, Nat.le_of_ble_eq_true rfl⟩ rfl rfl hl.1 (Nat.le_of_ble_eq_true rfl) dX12_ropes_41 (fun x20 G9 H locs hq hB => ?_)
            obtain ⟨rfl, i_x20⟩ := hq
            refine lv_istore_n (lv' := [(2, .int x20), (4, .int x9), (3, .int x8), (0, .ref h0), (1, .int x_0)]) hx hb dX12_ropes_44 rfl hl (by decide) rfl (fun ls hl => ?_)
            refine lv_iload hx hb dX12_ropes_45 (lv_at hl 1 rfl) ?_
            refine lv_istore_n (lv' := [(3, .int x9), (2, .int x20), (4, .int x9), (0, .ref h0), (1, .int x_0)]) hx hb dX12_ropes_47 rfl hl (by decide) rfl (fun ls hl => ?_)
            refine iv_iinc hx hb i14_x9 (lo := 1) (hi := 24) (by decide) dX12_ropes_48 hl (k := 2) rfl (by decide) (fun x21 ls e_x21 i_x21 hl => ?_)
            have hl : lv_has ls 5 [(4, .int x21), (3, .int x9), (2, .int x20), (0, .ref h0), (1, .int x_0)] := hl
            refine lv_goto (tgt := 18) hx hb dX12_ropes_51 (by decide) ?_
            exact ih_18 _ _ hB x20 i_x20 x9 (i14_x9.wk (by decide)) x21 (i_x21.wk (by decide)) (iv_mup (c := 1) i_x9 (by decide) (by decide) (by omega) hn_18) _ (lv_sub hl [0, 1, 2, 3, 4] rfl)
          · skip
            refine lv_goto (tgt := 48) hx hb dX12_ropes_35 (by decide) ?_
            refine iv_iinc hx hb i14_x9 (lo := 1) (hi := 24) (by decide) dX12_ropes_48 hl (k := 0) rfl (by decide) (fun x22 ls e_x22 i_x22 hl => ?_)
            have hl : lv_has ls 5 [(4, .int x22), (3, .int x8), (2, .int x7), (0, .ref h0), (1, .int x_0)] := hl
            refine lv_goto (tgt := 18) hx hb dX12_ropes_51 (by decide) ?_
            exact ih_18 _ _ hB x7 i_x7 x8 i_x8 x22 (i_x22.wk (by decide)) (iv_mup (c := 1) i_x9 (by decide) (by decide) (by omega) hn_18) _ (lv_sub hl [0, 1, 2, 3, 4] rfl)
    exact L_18 _ _ _ hB 0 (q_0.wk (by decide)) (-1) (q_n1.wk (by decide)) 0 (q_0.wk (by decide)) (Nat.lt_succ_self _) _ (lv_sub hl [0, 1, 2, 3, 4] rfl)
  · skip
    have i22_x1 : iv_R 0 0 x1 := (i_x1.cutHi (n := 0) (iv_eq_r c4 q_0).2)
    refine lv_iconst (v := (-1)) hx hb dX12_ropes_9 (by decide) ?_
    exact iv_iret X hr hlocks hB ⟨rfl, (q_n1.wk (by decide))⟩ dX12_ropes_10
theorem dX12_siblings_0 : decode cX12_siblings 0 = .ok (.iload_n 1, 1) := by decide +kernel
theorem dX12_siblings_1 : decode cX12_siblings 1 = .ok (.iconst 1, 1) := by decide +kernel
theorem dX12_siblings_2 : decode cX12_siblings 2 = .ok (.bipush 24, 2) := by decide +kernel
theorem dX12_siblings_4 : decode cX12_siblings 4 = .ok (.invokestatic 56, 3) := by decide +kernel
theorem dX12_siblings_7 : decode cX12_siblings 7 = .ok (.ifCond .eq 12, 3) := by decide +kernel
theorem dX12_siblings_10 : decode cX12_siblings 10 = .ok (.iload_n 2, 1) := by decide +kernel
theorem dX12_siblings_11 : decode cX12_siblings 11 = .ok (.iconst 0, 1) := by decide +kernel
theorem dX12_siblings_12 : decode cX12_siblings 12 = .ok (.iconst 1, 1) := by decide +kernel
theorem dX12_siblings_13 : decode cX12_siblings 13 = .ok (.invokestatic 56, 3) := by decide +kernel
theorem dX12_siblings_16 : decode cX12_siblings 16 = .ok (.ifCond .ne 5, 3) := by decide +kernel
theorem dX12_siblings_19 : decode cX12_siblings 19 = .ok (.iconst (-1), 1) := by decide +kernel
theorem dX12_siblings_20 : decode cX12_siblings 20 = .ok (.ireturn, 1) := by decide +kernel
theorem dX12_siblings_21 : decode cX12_siblings 21 = .ok (.iconst 0, 1) := by decide +kernel
theorem dX12_siblings_22 : decode cX12_siblings 22 = .ok (.istore_n 3, 1) := by decide +kernel
theorem dX12_siblings_23 : decode cX12_siblings 23 = .ok (.iconst (-1), 1) := by decide +kernel
theorem dX12_siblings_24 : decode cX12_siblings 24 = .ok (.istore 4, 2) := by decide +kernel
theorem dX12_siblings_26 : decode cX12_siblings 26 = .ok (.iconst 0, 1) := by decide +kernel
theorem dX12_siblings_27 : decode cX12_siblings 27 = .ok (.istore 5, 2) := by decide +kernel
theorem dX12_siblings_29 : decode cX12_siblings 29 = .ok (.iload 5, 2) := by decide +kernel
theorem dX12_siblings_31 : decode cX12_siblings 31 = .ok (.bipush 47, 2) := by decide +kernel
theorem dX12_siblings_33 : decode cX12_siblings 33 = .ok (.if_icmp .gt 48, 3) := by decide +kernel
theorem dX12_siblings_36 : decode cX12_siblings 36 = .ok (.iconst 0, 1) := by decide +kernel
theorem dX12_siblings_37 : decode cX12_siblings 37 = .ok (.istore 6, 2) := by decide +kernel
theorem dX12_siblings_39 : decode cX12_siblings 39 = .ok (.aload_n 0, 1) := by decide +kernel
theorem dX12_siblings_40 : decode cX12_siblings 40 = .ok (.iload 5, 2) := by decide +kernel
theorem dX12_siblings_42 : decode cX12_siblings 42 = .ok (.iload 6, 2) := by decide +kernel
theorem dX12_siblings_44 : decode cX12_siblings 44 = .ok (.iload_n 1, 1) := by decide +kernel
theorem dX12_siblings_45 : decode cX12_siblings 45 = .ok (.imul, 1) := by decide +kernel
theorem dX12_siblings_46 : decode cX12_siblings 46 = .ok (.iadd, 1) := by decide +kernel
theorem dX12_siblings_47 : decode cX12_siblings 47 = .ok (.invokevirtual 414, 3) := by decide +kernel
theorem dX12_siblings_50 : decode cX12_siblings 50 = .ok (.ifCond .eq 9, 3) := by decide +kernel
theorem dX12_siblings_53 : decode cX12_siblings 53 = .ok (.iinc 6 1, 3) := by decide +kernel
theorem dX12_siblings_56 : decode cX12_siblings 56 = .ok (.goto (-17), 3) := by decide +kernel
theorem dX12_siblings_59 : decode cX12_siblings 59 = .ok (.iload 6, 2) := by decide +kernel
theorem dX12_siblings_61 : decode cX12_siblings 61 = .ok (.iload_n 3, 1) := by decide +kernel
theorem dX12_siblings_62 : decode cX12_siblings 62 = .ok (.if_icmp .gt 6, 3) := by decide +kernel
theorem dX12_siblings_65 : decode cX12_siblings 65 = .ok (.goto 10, 3) := by decide +kernel
theorem dX12_siblings_68 : decode cX12_siblings 68 = .ok (.iload 6, 2) := by decide +kernel
theorem dX12_siblings_70 : decode cX12_siblings 70 = .ok (.istore_n 3, 1) := by decide +kernel
theorem dX12_siblings_71 : decode cX12_siblings 71 = .ok (.iload 5, 2) := by decide +kernel
theorem dX12_siblings_73 : decode cX12_siblings 73 = .ok (.istore 4, 2) := by decide +kernel
theorem dX12_siblings_75 : decode cX12_siblings 75 = .ok (.iinc 5 1, 3) := by decide +kernel
theorem dX12_siblings_78 : decode cX12_siblings 78 = .ok (.goto (-49), 3) := by decide +kernel
theorem dX12_siblings_81 : decode cX12_siblings 81 = .ok (.iload_n 2, 1) := by decide +kernel
theorem dX12_siblings_82 : decode cX12_siblings 82 = .ok (.ifCond .ne 7, 3) := by decide +kernel
theorem dX12_siblings_85 : decode cX12_siblings 85 = .ok (.iload_n 3, 1) := by decide +kernel
theorem dX12_siblings_86 : decode cX12_siblings 86 = .ok (.goto 5, 3) := by decide +kernel
theorem dX12_siblings_89 : decode cX12_siblings 89 = .ok (.iload 4, 2) := by decide +kernel
theorem dX12_siblings_91 : decode cX12_siblings 91 = .ok (.ireturn, 1) := by decide +kernel
set_option maxHeartbeats 4000000 in
set_option maxRecDepth 100000 in
theorem c_X12_siblings (l : Launch) (D : va_G) (tys : List (ClassId × FieldType)) (base : Nat) (G : iv_G) (h0 : Nat) (g_h0 : Nat → Int32) (r_h0 : Nat → Nat) (a_h0 : G h0 = some (12, g_h0, r_h0)) (x_0 : Int32) (i_x_0 : iv_R (-2147483648) 2147483647 x_0) (x_1 : Int32) (i_x_1 : iv_R (-2147483648) 2147483647 x_1) : Met l yX12_siblings (Cond.code yX12_siblings cX12_siblings 7 (some .int) :: iv_W0) ({ frames := 2, cells := 0, slots := 0, locals := 44 }) (iv_Pc iv_sh D classes tys base G [.ref h0, .int x_0, .int x_1]) (iv_Qi iv_sh D classes tys base (fun v G' => G = G' ∧ iv_R (-1) 48 v)) 0 0 (iv_A base) := by
  refine iv_head (by decide) (Nat.le_of_ble_eq_true rfl) ?_
  intro p e s m args below meth c ls X hr hlocks hname hB hl
  have X := X
  have hx := X.1.1
  have hb := X.1.2.1
  have hl : lv_has ls 7 [(0, .ref h0), (1, .int x_0), (2, .int x_1)] := hl
  refine lv_iload_n hx hb dX12_siblings_0 rfl (lv_at hl 1 rfl) ?_
  refine lv_iconst (v := 1) hx hb dX12_siblings_1 (by decide) ?_
  refine lv_bipush (v := 24) hx hb dX12_siblings_2 (by decide) ?_
  refine iv_cSi X k_good k_mf_X12_isIn k_st_X12_isIn k_ml_X12_56 hB (As := [.int x_0, .int 1, .int 24]) (c_X12_isIn l D tys base G x_0 i_x_0 1 (q_1.wk (by decide)) 24 (q_24.wk (by decide))) ⟨rfl, rfl⟩ ⟨Nat.le_of_ble_eq_true rfl, Nat.le_of_ble_eq_true rfl⟩ ⟨Nat.le_of_ble_eq_true rfl, Nat.le_of_ble_eq_true rfl⟩ rfl rfl hl.1 (Nat.le_of_ble_eq_true rfl) dX12_siblings_4 (fun x1 G9 H locs hq hB => ?_)
  obtain ⟨rfl, i_x1, hp2⟩ := hq
  have k3 : ¬ x1 = 0 → iv_R 1 24 x_0 := fun h => ⟨iv_max i_x_0.1 (Int.le_trans q_1.1 (hp2.1 h).1) (by decide), iv_min i_x_0.2 (Int.le_trans (hp2.1 h).2 q_24.2) (by decide)⟩
  refine lv_if_eq (tgt := 19) hx hb dX12_siblings_7 (by decide) (fun c4 => ?_) (fun c4 => ?_)
  · skip
    have i4_x1 : iv_R 0 0 x1 := (i_x1.cutHi (n := 0) (iv_eq_r c4 q_0).2)
    refine lv_iconst (v := (-1)) hx hb dX12_siblings_19 (by decide) ?_
    exact iv_iret X hr hlocks hB ⟨rfl, (q_n1.wk (by decide))⟩ dX12_siblings_20
  · skip
    have i5_x1 : iv_R 1 1 x1 := iv_ne_lo c4 i_x1 q_0 (by decide)
    have i6_x_0 : iv_R 1 24 x_0 := ((i_x_0.cutLo (n := 1) (k3 c4).1).cutHi (n := 24) (k3 c4).2)
    refine lv_iload_n hx hb dX12_siblings_10 rfl (lv_at hl 2 rfl) ?_
    refine lv_iconst (v := 0) hx hb dX12_siblings_11 (by decide) ?_
    refine lv_iconst (v := 1) hx hb dX12_siblings_12 (by decide) ?_
    refine iv_cSi X k_good k_mf_X12_isIn k_st_X12_isIn k_ml_X12_56 hB (As := [.int x_1, .int 0, .int 1]) (c_X12_isIn l D tys base G x_1 i_x_1 0 (q_0.wk (by decide)) 1 (q_1.wk (by decide))) ⟨rfl, rfl⟩ ⟨Nat.le_of_ble_eq_true rfl, Nat.le_of_ble_eq_true rfl⟩ ⟨Nat.le_of_ble_eq_true rfl, Nat.le_of_ble_eq_true rfl⟩ rfl rfl hl.1 (Nat.le_of_ble_eq_true rfl) dX12_siblings_13 (fun x8 G9 H locs hq hB => ?_)
    obtain ⟨rfl, i_x8, hp9⟩ := hq
    have k10 : ¬ x8 = 0 → iv_R 0 1 x_1 := fun h => ⟨iv_max i_x_1.1 (Int.le_trans q_0.1 (hp9.1 h).1) (by decide), iv_min i_x_1.2 (Int.le_trans (hp9.1 h).2 q_1.2) (by decide)⟩
    refine lv_if_ne (tgt := 21) hx hb dX12_siblings_16 (by decide) (fun c11 => ?_) (fun c11 => ?_)
    · skip
      have i11_x8 : iv_R 1 1 x8 := iv_ne_lo c11 i_x8 q_0 (by decide)
      have i12_x_1 : iv_R 0 1 x_1 := ((i_x_1.cutLo (n := 0) (k10 c11).1).cutHi (n := 1) (k10 c11).2)
      refine lv_iconst (v := 0) hx hb dX12_siblings_21 (by decide) ?_
      refine lv_istore_n (lv' := [(3, .int 0), (0, .ref h0), (1, .int x_0), (2, .int x_1)]) hx hb dX12_siblings_22 rfl hl (by decide) rfl (fun ls hl => ?_)
      refine lv_iconst (v := (-1)) hx hb dX12_siblings_23 (by decide) ?_
      refine lv_istore (lv' := [(4, .int (-1)), (3, .int 0), (0, .ref h0), (1, .int x_0), (2, .int x_1)]) hx hb dX12_siblings_24 hl (by decide) rfl (fun ls hl => ?_)
      refine lv_iconst (v := 0) hx hb dX12_siblings_26 (by decide) ?_
      refine lv_istore (lv' := [(5, .int 0), (4, .int (-1)), (3, .int 0), (0, .ref h0), (1, .int x_0), (2, .int x_1)]) hx hb dX12_siblings_27 hl (by decide) rfl (fun ls hl => ?_)
      have L_29 : ∀ (n_29 : Nat) (H : Heap) (locs : List Loc) (hB : iv_B iv_sh D classes tys base G s.heap H locs) (x14 : Int32) (i_x14 : iv_R 0 48 x14) (x15 : Int32) (i_x15 : iv_R (-1) 47 x15) (x16 : Int32) (i_x16 : iv_R 0 48 x16) (hn_29 : (49 - x16.toInt).toNat < n_29) (ls : Array Slot) (hl : lv_has ls 7 [(5, .int x16), (4, .int x15), (3, .int x14), (0, .ref h0), (1, .int x_0), (2, .int x_1)]), W p l e ({ frames := 2, cells := 0, slots := 0, locals := 44 } : Room) s m args below meth c H locs 0 0 (MQ below (iv_Qi iv_sh D classes tys base (fun v G' => G = G' ∧ iv_R (-1) 48 v)) args s 0 0 (iv_A base)) (F0 m 29 ls []) := by
        intro n_29
        induction n_29 with
        | zero => intro H locs hB x14 i_x14 x15 i_x15 x16 i_x16 hn_29 ls hl; exact absurd hn_29 (Nat.not_lt_zero _)
        | succ n_29 ih_29 =>
          intro H locs hB x14 i_x14 x15 i_x15 x16 i_x16 hn_29 ls hl
          refine lv_iload hx hb dX12_siblings_29 (lv_at hl 0 rfl) ?_
          refine lv_bipush (v := 47) hx hb dX12_siblings_31 (by decide) ?_
          refine lv_icmp_gt (tgt := 81) hx hb dX12_siblings_33 (by decide) (fun c17 => ?_) (fun c17 => ?_)
          · skip
            have i17_x16 : iv_R 48 48 x16 := (i_x16.cutLo (n := 48) (iv_lt_l c17 q_47 (by decide)))
            refine lv_iload_n hx hb dX12_siblings_81 rfl (lv_at hl 5 rfl) ?_
            refine lv_if_ne (tgt := 89) hx hb dX12_siblings_82 (by decide) (fun c19 => ?_) (fun c19 => ?_)
            · skip
              have i19_x_1 : iv_R 1 1 x_1 := iv_ne_lo c19 i12_x_1 q_0 (by decide)
              refine lv_iload hx hb dX12_siblings_89 (lv_at hl 1 rfl) ?_
              exact iv_iret X hr hlocks hB ⟨rfl, (i_x15.wk (by decide))⟩ dX12_siblings_91
            · skip
              have i20_x_1 : iv_R 0 0 x_1 := (i12_x_1.cutHi (n := 0) (iv_eq_r c19 q_0).2)
              refine lv_iload_n hx hb dX12_siblings_85 rfl (lv_at hl 2 rfl) ?_
              refine lv_goto (tgt := 91) hx hb dX12_siblings_86 (by decide) ?_
              exact iv_iret X hr hlocks hB ⟨rfl, (i_x14.wk (by decide))⟩ dX12_siblings_91
          · skip
            have i21_x16 : iv_R 0 47 x16 := (i_x16.cutHi (n := 47) (iv_le_r (iv_nlt c17) q_47))
            refine lv_iconst (v := 0) hx hb dX12_siblings_36 (by decide) ?_
            refine lv_istore (lv' := [(6, .int 0), (5, .int x16), (4, .int x15), (3, .int x14), (0, .ref h0), (1, .int x_0), (2, .int x_1)]) hx hb dX12_siblings_37 hl (by decide) rfl (fun ls hl => ?_)
            have L_39 : ∀ (n_39 : Nat) (H : Heap) (locs : List Loc) (hB : iv_B iv_sh D classes tys base G s.heap H locs) (x23 : Int32) (i_x23 : iv_R 0 48 x23) (hn_39 : (49 - x23.toInt).toNat < n_39) (ls : Array Slot) (hl : lv_has ls 7 [(6, .int x23), (5, .int x16), (4, .int x15), (3, .int x14), (0, .ref h0), (1, .int x_0), (2, .int x_1)]), W p l e ({ frames := 2, cells := 0, slots := 0, locals := 44 } : Room) s m args below meth c H locs 0 0 (MQ below (iv_Qi iv_sh D classes tys base (fun v G' => G = G' ∧ iv_R (-1) 48 v)) args s 0 0 (iv_A base)) (F0 m 39 ls []) := by
              intro n_39
              induction n_39 with
              | zero => intro H locs hB x23 i_x23 hn_39 ls hl; exact absurd hn_39 (Nat.not_lt_zero _)
              | succ n_39 ih_39 =>
                intro H locs hB x23 i_x23 hn_39 ls hl
                refine lv_aload_n hx hb dX12_siblings_39 rfl (lv_at hl 4 rfl) ?_
                refine lv_iload hx hb dX12_siblings_40 (lv_at hl 1 rfl) ?_
                refine lv_iload hx hb dX12_siblings_42 (lv_at hl 0 rfl) ?_
                refine lv_iload_n hx hb dX12_siblings_44 rfl (lv_at hl 5 rfl) ?_
                refine iv_imul hx hb i_x23 i6_x_0 (lo := 0) (hi := 1152) (by decide) dX12_siblings_45 (fun x24 e_x24 i_x24 => ?_)
                refine iv_iadd hx hb i21_x16 i_x24 (lo := 0) (hi := 1199) (by decide) dX12_siblings_46 (fun x25 e_x25 i_x25 => ?_)
                refine iv_cVi X k_good k_mf_X12_isPitched k_im_X12_isPitched k_sel_X12_isPitched k_ml_X12_414 ft_X12 hB a_h0 sh_12 (As := [.int x25]) (c_X12_isPitched l D tys base G h0 g_h0 r_h0 a_h0 x25 i_x25) ⟨rfl, rfl⟩ ⟨Nat.le_of_ble_eq_true rfl, Nat.le_of_ble_eq_true rfl⟩ ⟨Nat.le_of_ble_eq_true rfl, Nat.le_of_ble_eq_true rfl⟩ rfl rfl hl.1 (Nat.le_of_ble_eq_true rfl) dX12_siblings_47 (fun x26 G9 H locs hq hB => ?_)
                obtain ⟨rfl, i_x26, hp27⟩ := hq
                refine lv_if_eq (tgt := 59) hx hb dX12_siblings_50 (by decide) (fun c28 => ?_) (fun c28 => ?_)
                · skip
                  have i28_x26 : iv_R 0 0 x26 := (i_x26.cutHi (n := 0) (iv_eq_r c28 q_0).2)
                  refine lv_iload hx hb dX12_siblings_59 (lv_at hl 0 rfl) ?_
                  refine lv_iload_n hx hb dX12_siblings_61 rfl (lv_at hl 3 rfl) ?_
                  refine lv_icmp_gt (tgt := 68) hx hb dX12_siblings_62 (by decide) (fun c30 => ?_) (fun c30 => ?_)
                  · skip
                    have i30_x14 : iv_R 0 47 x14 := (i_x14.cutHi (n := 47) (iv_lt_r c30 i_x23 (by decide)))
                    have i31_x23 : iv_R 1 48 x23 := (i_x23.cutLo (n := 1) (iv_lt_l c30 i_x14 (by decide)))
                    refine lv_iload hx hb dX12_siblings_68 (lv_at hl 0 rfl) ?_
                    refine lv_istore_n (lv' := [(3, .int x23), (6, .int x23), (5, .int x16), (4, .int x15), (0, .ref h0), (1, .int x_0), (2, .int x_1)]) hx hb dX12_siblings_70 rfl hl (by decide) rfl (fun ls hl => ?_)
                    refine lv_iload hx hb dX12_siblings_71 (lv_at hl 2 rfl) ?_
                    refine lv_istore (lv' := [(4, .int x16), (3, .int x23), (6, .int x23), (5, .int x16), (0, .ref h0), (1, .int x_0), (2, .int x_1)]) hx hb dX12_siblings_73 hl (by decide) rfl (fun ls hl => ?_)
                    refine iv_iinc hx hb i21_x16 (lo := 1) (hi := 48) (by decide) dX12_siblings_75 hl (k := 3) rfl (by decide) (fun x33 ls e_x33 i_x33 hl => ?_)
                    have hl : lv_has ls 7 [(5, .int x33), (4, .int x16), (3, .int x23), (6, .int x23), (0, .ref h0), (1, .int x_0), (2, .int x_1)] := hl
                    refine lv_goto (tgt := 29) hx hb dX12_siblings_78 (by decide) ?_
                    exact ih_29 _ _ hB x23 (i31_x23.wk (by decide)) x16 (i21_x16.wk (by decide)) x33 (i_x33.wk (by decide)) (iv_mup (c := 1) i_x16 (by decide) (by decide) (by omega) hn_29) _ (lv_sub hl [0, 1, 2, 4, 5, 6] rfl)
                  · skip
                    refine lv_goto (tgt := 75) hx hb dX12_siblings_65 (by decide) ?_
                    refine iv_iinc hx hb i21_x16 (lo := 1) (hi := 48) (by decide) dX12_siblings_75 hl (k := 1) rfl (by decide) (fun x34 ls e_x34 i_x34 hl => ?_)
                    have hl : lv_has ls 7 [(5, .int x34), (6, .int x23), (4, .int x15), (3, .int x14), (0, .ref h0), (1, .int x_0), (2, .int x_1)] := hl
                    refine lv_goto (tgt := 29) hx hb dX12_siblings_78 (by decide) ?_
                    exact ih_29 _ _ hB x14 i_x14 x15 i_x15 x34 (i_x34.wk (by decide)) (iv_mup (c := 1) i_x16 (by decide) (by decide) (by omega) hn_29) _ (lv_sub hl [0, 2, 3, 4, 5, 6] rfl)
                · skip
                  have i34_x26 : iv_R 1 1 x26 := iv_ne_lo c28 i_x26 q_0 (by decide)
                  have i35_x25 : iv_R 0 47 x25 := (i_x25.cutHi (n := 47) (hp27 c28).2)
                  refine iv_iinc hx hb i_x23 (lo := 1) (hi := 49) (by decide) dX12_siblings_53 hl (k := 0) rfl (by decide) (fun x37 ls e_x37 i_x37 hl => ?_)
                  have hl : lv_has ls 7 [(6, .int x37), (5, .int x16), (4, .int x15), (3, .int x14), (0, .ref h0), (1, .int x_0), (2, .int x_1)] := hl
                  refine lv_goto (tgt := 39) hx hb dX12_siblings_56 (by decide) ?_
                  exact ih_39 _ _ hB x37 ⟨by have w3 := i_x23.1; omega, by have w1 := i35_x25.2; have w2 := i21_x16.1; have w3 := i_x23.1; have w4 := i6_x_0.1; have w5 : x23.toInt * 1 ≤ x23.toInt * x_0.toInt := Int.mul_le_mul_of_nonneg_left w4 w3; omega⟩ (iv_mup (c := 1) i_x23 (by decide) (by decide) (by omega) hn_39) _ (lv_sub hl [0, 1, 2, 3, 4, 5, 6] rfl)
            exact L_39 _ _ _ hB 0 (q_0.wk (by decide)) (Nat.lt_succ_self _) _ (lv_sub hl [0, 1, 2, 3, 4, 5, 6] rfl)
      exact L_29 _ _ _ hB 0 (q_0.wk (by decide)) (-1) (q_n1.wk (by decide)) 0 (q_0.wk (by decide)) (Nat.lt_succ_self _) _ (lv_sub hl [0, 1, 2, 3, 4, 5] rfl)
    · skip
      have i37_x8 : iv_R 0 0 x8 := (i_x8.cutHi (n := 0) (iv_eq_r c11 q_0).2)
      refine lv_iconst (v := (-1)) hx hb dX12_siblings_19 (by decide) ?_
      exact iv_iret X hr hlocks hB ⟨rfl, (q_n1.wk (by decide))⟩ dX12_siblings_20
theorem dX12_silentFrom_0 : decode cX12_silentFrom 0 = .ok (.iconst 0, 1) := by decide +kernel
theorem dX12_silentFrom_1 : decode cX12_silentFrom 1 = .ok (.istore_n 2, 1) := by decide +kernel
theorem dX12_silentFrom_2 : decode cX12_silentFrom 2 = .ok (.iload_n 2, 1) := by decide +kernel
theorem dX12_silentFrom_3 : decode cX12_silentFrom 3 = .ok (.bipush 24, 2) := by decide +kernel
theorem dX12_silentFrom_5 : decode cX12_silentFrom 5 = .ok (.if_icmp .ge 22, 3) := by decide +kernel
theorem dX12_silentFrom_8 : decode cX12_silentFrom 8 = .ok (.aload_n 0, 1) := by decide +kernel
theorem dX12_silentFrom_9 : decode cX12_silentFrom 9 = .ok (.iload_n 1, 1) := by decide +kernel
theorem dX12_silentFrom_10 : decode cX12_silentFrom 10 = .ok (.iload_n 2, 1) := by decide +kernel
theorem dX12_silentFrom_11 : decode cX12_silentFrom 11 = .ok (.iadd, 1) := by decide +kernel
theorem dX12_silentFrom_12 : decode cX12_silentFrom 12 = .ok (.bipush 24, 2) := by decide +kernel
theorem dX12_silentFrom_14 : decode cX12_silentFrom 14 = .ok (.irem, 1) := by decide +kernel
theorem dX12_silentFrom_15 : decode cX12_silentFrom 15 = .ok (.invokevirtual 374, 3) := by decide +kernel
theorem dX12_silentFrom_18 : decode cX12_silentFrom 18 = .ok (.ifCond .eq 9, 3) := by decide +kernel
theorem dX12_silentFrom_21 : decode cX12_silentFrom 21 = .ok (.iinc 2 1, 3) := by decide +kernel
theorem dX12_silentFrom_24 : decode cX12_silentFrom 24 = .ok (.goto (-22), 3) := by decide +kernel
theorem dX12_silentFrom_27 : decode cX12_silentFrom 27 = .ok (.iload_n 2, 1) := by decide +kernel
theorem dX12_silentFrom_28 : decode cX12_silentFrom 28 = .ok (.ireturn, 1) := by decide +kernel
set_option maxHeartbeats 4000000 in
set_option maxRecDepth 100000 in
theorem c_X12_silentFrom (l : Launch) (D : va_G) (tys : List (ClassId × FieldType)) (base : Nat) (G : iv_G) (h0 : Nat) (g_h0 : Nat → Int32) (r_h0 : Nat → Nat) (a_h0 : G h0 = some (12, g_h0, r_h0)) (x_0 : Int32) (i_x_0 : iv_R 0 23 x_0) : Met l yX12_silentFrom (Cond.code yX12_silentFrom cX12_silentFrom 3 (some .int) :: iv_W0) ({ frames := 4, cells := 0, slots := 0, locals := 89 }) (iv_Pc iv_sh D classes tys base G [.ref h0, .int x_0]) (iv_Qi iv_sh D classes tys base (fun v G' => G = G' ∧ iv_R 0 24 v)) 0 0 (iv_A base) := by
  refine iv_head (by decide) (Nat.le_of_ble_eq_true rfl) ?_
  intro p e s m args below meth c ls X hr hlocks hname hB hl
  have X := X
  have hx := X.1.1
  have hb := X.1.2.1
  have hl : lv_has ls 3 [(0, .ref h0), (1, .int x_0)] := hl
  refine lv_iconst (v := 0) hx hb dX12_silentFrom_0 (by decide) ?_
  refine lv_istore_n (lv' := [(2, .int 0), (0, .ref h0), (1, .int x_0)]) hx hb dX12_silentFrom_1 rfl hl (by decide) rfl (fun ls hl => ?_)
  have L_2 : ∀ (n_2 : Nat) (H : Heap) (locs : List Loc) (hB : iv_B iv_sh D classes tys base G s.heap H locs) (x1 : Int32) (i_x1 : iv_R 0 24 x1) (hn_2 : (25 - x1.toInt).toNat < n_2) (ls : Array Slot) (hl : lv_has ls 3 [(2, .int x1), (0, .ref h0), (1, .int x_0)]), W p l e ({ frames := 4, cells := 0, slots := 0, locals := 89 } : Room) s m args below meth c H locs 0 0 (MQ below (iv_Qi iv_sh D classes tys base (fun v G' => G = G' ∧ iv_R 0 24 v)) args s 0 0 (iv_A base)) (F0 m 2 ls []) := by
    intro n_2
    induction n_2 with
    | zero => intro H locs hB x1 i_x1 hn_2 ls hl; exact absurd hn_2 (Nat.not_lt_zero _)
    | succ n_2 ih_2 =>
      intro H locs hB x1 i_x1 hn_2 ls hl
      refine lv_iload_n hx hb dX12_silentFrom_2 rfl (lv_at hl 0 rfl) ?_
      refine lv_bipush (v := 24) hx hb dX12_silentFrom_3 (by decide) ?_
      refine lv_icmp_ge (tgt := 27) hx hb dX12_silentFrom_5 (by decide) (fun c2 => ?_) (fun c2 => ?_)
      · skip
        have i2_x1 : iv_R 24 24 x1 := (i_x1.cutLo (n := 24) (iv_le_l c2 q_24))
        refine lv_iload_n hx hb dX12_silentFrom_27 rfl (lv_at hl 0 rfl) ?_
        exact iv_iret X hr hlocks hB ⟨rfl, (i2_x1.wk (by decide))⟩ dX12_silentFrom_28
      · skip
        have i3_x1 : iv_R 0 23 x1 := (i_x1.cutHi (n := 23) (iv_lt_r (iv_nle c2) q_24 (by decide)))
        refine lv_aload_n hx hb dX12_silentFrom_8 rfl (lv_at hl 1 rfl) ?_
        refine lv_iload_n hx hb dX12_silentFrom_9 rfl (lv_at hl 2 rfl) ?_
        refine lv_iload_n hx hb dX12_silentFrom_10 rfl (lv_at hl 0 rfl) ?_
        refine iv_iadd hx hb i_x_0 i3_x1 (lo := 0) (hi := 46) (by decide) dX12_silentFrom_11 (fun x5 e_x5 i_x5 => ?_)
        refine lv_bipush (v := 24) hx hb dX12_silentFrom_12 (by decide) ?_
        refine iv_iremp hx hb i_x5 q_24 (lo := 0) (hi := 23) (by decide) dX12_silentFrom_14 (fun x6 e_x6 i_x6 => ?_)
        refine iv_cVi X k_good k_mf_X12_isSilent k_im_X12_isSilent k_sel_X12_isSilent k_ml_X12_374 ft_X12 hB a_h0 sh_12 (As := [.int x6]) (c_X12_isSilent l D tys base G h0 g_h0 r_h0 a_h0 x6 i_x6) ⟨rfl, rfl⟩ ⟨Nat.le_of_ble_eq_true rfl, Nat.le_of_ble_eq_true rfl⟩ ⟨Nat.le_of_ble_eq_true rfl, Nat.le_of_ble_eq_true rfl⟩ rfl rfl hl.1 (Nat.le_of_ble_eq_true rfl) dX12_silentFrom_15 (fun x7 G9 H locs hq hB => ?_)
        obtain ⟨rfl, i_x7⟩ := hq
        refine lv_if_eq (tgt := 27) hx hb dX12_silentFrom_18 (by decide) (fun c8 => ?_) (fun c8 => ?_)
        · skip
          have i8_x7 : iv_R 0 0 x7 := (i_x7.cutHi (n := 0) (iv_eq_r c8 q_0).2)
          refine lv_iload_n hx hb dX12_silentFrom_27 rfl (lv_at hl 0 rfl) ?_
          exact iv_iret X hr hlocks hB ⟨rfl, (i3_x1.wk (by decide))⟩ dX12_silentFrom_28
        · skip
          have i9_x7 : iv_R 1 1 x7 := iv_ne_lo c8 i_x7 q_0 (by decide)
          refine iv_iinc hx hb i3_x1 (lo := 1) (hi := 24) (by decide) dX12_silentFrom_21 hl (k := 0) rfl (by decide) (fun x11 ls e_x11 i_x11 hl => ?_)
          have hl : lv_has ls 3 [(2, .int x11), (0, .ref h0), (1, .int x_0)] := hl
          refine lv_goto (tgt := 2) hx hb dX12_silentFrom_24 (by decide) ?_
          exact ih_2 _ _ hB x11 (i_x11.wk (by decide)) (iv_mup (c := 1) i_x1 (by decide) (by decide) (by omega) hn_2) _ (lv_sub hl [0, 1, 2] rfl)
  exact L_2 _ _ _ hB 0 (q_0.wk (by decide)) (Nat.lt_succ_self _) _ (lv_sub hl [0, 1, 2] rfl)
