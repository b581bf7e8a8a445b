theorem dJ0_isLatin1_aae02_0 : decode cJ0_isLatin1_aae02 0 = .ok (.getstatic 38, 3) := by decide +kernel
theorem dJ0_isLatin1_aae02_3 : decode cJ0_isLatin1_aae02 3 = .ok (.ifCond .eq 14, 3) := by decide +kernel
theorem dJ0_isLatin1_aae02_6 : decode cJ0_isLatin1_aae02 6 = .ok (.aload_n 0, 1) := by decide +kernel
theorem dJ0_isLatin1_aae02_7 : decode cJ0_isLatin1_aae02 7 = .ok (.getfield 15, 3) := by decide +kernel
theorem dJ0_isLatin1_aae02_10 : decode cJ0_isLatin1_aae02 10 = .ok (.ifCond .ne 7, 3) := by decide +kernel
theorem dJ0_isLatin1_aae02_13 : decode cJ0_isLatin1_aae02 13 = .ok (.iconst 1, 1) := by decide +kernel
theorem dJ0_isLatin1_aae02_14 : decode cJ0_isLatin1_aae02 14 = .ok (.goto 4, 3) := by decide +kernel
theorem dJ0_isLatin1_aae02_17 : decode cJ0_isLatin1_aae02 17 = .ok (.iconst 0, 1) := by decide +kernel
theorem dJ0_isLatin1_aae02_18 : decode cJ0_isLatin1_aae02 18 = .ok (.ireturn, 1) := by decide +kernel
set_option maxHeartbeats 4000000 in
set_option maxRecDepth 100000 in
theorem c_J0_isLatin1_aae02 (l : Launch) (D : va_G) (tys : List (ClassId × FieldType)) (base : Nat) (G : iv_G) (sh0 : Nat) (hs0 : sh0 < 23) : Met l yJ0_isLatin1_aae02 (Cond.code yJ0_isLatin1_aae02 cJ0_isLatin1_aae02 1 (some .boolean) :: iv_W0) ({ frames := 0, cells := 0, slots := 0, locals := 0 }) (iv_Pc iv_sh D classes tys base G [.ref (D.2 100 sh0)]) (iv_Qi iv_sh D classes tys base (fun v G' => G = G' ∧ iv_R 1 1 v)) 0 0 (iv_A base) := by
  refine iv_head (by decide) (Nat.le_of_ble_eq_true rfl) ?_
  intro p e s m args below meth c ls X hr hlocks hname hB hl
  have X := X
  have hx := X.1.1
  have hb := X.1.2.1
  have hl : lv_has ls 1 [(0, .ref (D.2 100 sh0))] := hl
  refine iv_gets X hB k_sfl_J0_38 dJ0_isLatin1_aae02_0 ?_
  refine lv_if_eq (tgt := 17) hx hb dJ0_isLatin1_aae02_3 (by decide) (fun c1 => ?_) (fun c1 => ?_)
  · skip
    exact (q_1.cutHi (n := 0) (iv_eq_r c1 q_0).2).no (by decide)
  · skip
    refine lv_aload_n hx hb dJ0_isLatin1_aae02_6 rfl (lv_at hl 0 rfl) ?_
    refine iv_scod X hs0 hB k_sfl_J0_15 dJ0_isLatin1_aae02_7 ?_
    refine lv_if_ne (tgt := 17) hx hb dJ0_isLatin1_aae02_10 (by decide) (fun c2 => ?_) (fun c2 => ?_)
    · skip
      exact absurd rfl c2
    · skip
      refine lv_iconst (v := 1) hx hb dJ0_isLatin1_aae02_13 (by decide) ?_
      refine lv_goto (tgt := 18) hx hb dJ0_isLatin1_aae02_14 (by decide) ?_
      exact iv_zret X hr hlocks hB (q_1.wk (by decide)) ⟨rfl, q_1⟩ dJ0_isLatin1_aae02_18
theorem dJ3_checkIndex_8e157_0 : decode cJ3_checkIndex_8e157 0 = .ok (.iload_n 0, 1) := by decide +kernel
theorem dJ3_checkIndex_8e157_1 : decode cJ3_checkIndex_8e157 1 = .ok (.ifCond .lt 8, 3) := by decide +kernel
theorem dJ3_checkIndex_8e157_4 : decode cJ3_checkIndex_8e157 4 = .ok (.iload_n 0, 1) := by decide +kernel
theorem dJ3_checkIndex_8e157_5 : decode cJ3_checkIndex_8e157 5 = .ok (.iload_n 1, 1) := by decide +kernel
theorem dJ3_checkIndex_8e157_6 : decode cJ3_checkIndex_8e157 6 = .ok (.if_icmp .lt 10, 3) := by decide +kernel
theorem dJ3_checkIndex_8e157_9 : decode cJ3_checkIndex_8e157 9 = .ok (.aload_n 2, 1) := by decide +kernel
theorem dJ3_checkIndex_8e157_10 : decode cJ3_checkIndex_8e157 10 = .ok (.iload_n 0, 1) := by decide +kernel
theorem dJ3_checkIndex_8e157_11 : decode cJ3_checkIndex_8e157 11 = .ok (.iload_n 1, 1) := by decide +kernel
theorem dJ3_checkIndex_8e157_12 : decode cJ3_checkIndex_8e157 12 = .ok (.invokestatic 95, 3) := by decide +kernel
theorem dJ3_checkIndex_8e157_15 : decode cJ3_checkIndex_8e157 15 = .ok (.athrow, 1) := by decide +kernel
theorem dJ3_checkIndex_8e157_16 : decode cJ3_checkIndex_8e157 16 = .ok (.iload_n 0, 1) := by decide +kernel
theorem dJ3_checkIndex_8e157_17 : decode cJ3_checkIndex_8e157 17 = .ok (.ireturn, 1) := by decide +kernel
set_option maxHeartbeats 4000000 in
set_option maxRecDepth 100000 in
theorem c_J3_checkIndex_8e157 (l : Launch) (D : va_G) (tys : List (ClassId × FieldType)) (base : Nat) (G : iv_G) (x_0 : Int32) (i_x_0 : iv_R 0 254 x_0) (x_1 : Int32) (i_x_1 : iv_R 0 255 x_1) (lt_0 : x_0.toInt < x_1.toInt) : Met l yJ3_checkIndex_8e157 (Cond.code yJ3_checkIndex_8e157 cJ3_checkIndex_8e157 3 (some .int) :: iv_W0) ({ frames := 0, cells := 0, slots := 0, locals := 0 }) (iv_Pc iv_sh D classes tys base G [.int x_0, .int x_1, iv_fv D]) (iv_Qi iv_sh D classes tys base (fun v G' => G = G' ∧ iv_R 0 254 v)) 0 0 (iv_A base) := by
  rcases iv_fv_or D with e9 | ⟨t9, e9⟩
  all_goals
    rw [e9]
    refine iv_head (by decide) (Nat.le_of_ble_eq_true rfl) ?_
    intro p e s m args below meth c ls X hr hlocks hname hB hl
    have X := X
    have hx := X.1.1
    have hb := X.1.2.1
    have hl : lv_has ls 3 [(0, .int x_0), (1, .int x_1)] := lv_sub hl [0, 1] rfl
    refine lv_iload_n hx hb dJ3_checkIndex_8e157_0 rfl (lv_at hl 0 rfl) ?_
    refine lv_if_lt (tgt := 9) hx hb dJ3_checkIndex_8e157_1 (by decide) (fun c1 => ?_) (fun c1 => ?_)
    · skip
      exact (i_x_0.cutHi (n := (-1)) (iv_lt_r c1 q_0 (by decide))).no (by decide)
    · skip
      refine lv_iload_n hx hb dJ3_checkIndex_8e157_4 rfl (lv_at hl 0 rfl) ?_
      refine lv_iload_n hx hb dJ3_checkIndex_8e157_5 rfl (lv_at hl 1 rfl) ?_
      refine lv_icmp_lt (tgt := 16) hx hb dJ3_checkIndex_8e157_6 (by decide) (fun c2 => ?_) (fun c2 => ?_)
      · skip
        have i2_x_1 : iv_R 1 255 x_1 := (i_x_1.cutLo (n := 1) (iv_lt_l c2 i_x_0 (by decide)))
        refine lv_iload_n hx hb dJ3_checkIndex_8e157_16 rfl (lv_at hl 0 rfl) ?_
        exact iv_iret X hr hlocks hB ⟨rfl, i_x_0⟩ dJ3_checkIndex_8e157_17
      · skip
        exact absurd (Int32.lt_iff_toInt_lt.mpr lt_0) (Int32.not_lt.mpr (iv_nlt c2))
theorem dJ0_checkIndex_df160_0 : decode cJ0_checkIndex_df160 0 = .ok (.iload_n 0, 1) := by decide +kernel
theorem dJ0_checkIndex_df160_1 : decode cJ0_checkIndex_df160 1 = .ok (.iload_n 1, 1) := by decide +kernel
theorem dJ0_checkIndex_df160_2 : decode cJ0_checkIndex_df160 2 = .ok (.getstatic 1053, 3) := by decide +kernel
theorem dJ0_checkIndex_df160_5 : decode cJ0_checkIndex_df160 5 = .ok (.invokestatic 1059, 3) := by decide +kernel
theorem dJ0_checkIndex_df160_8 : decode cJ0_checkIndex_df160 8 = .ok (.pop, 1) := by decide +kernel
theorem dJ0_checkIndex_df160_9 : decode cJ0_checkIndex_df160 9 = .ok (.return_, 1) := by decide +kernel
set_option maxHeartbeats 4000000 in
set_option maxRecDepth 100000 in
theorem c_J0_checkIndex_df160 (l : Launch) (D : va_G) (tys : List (ClassId × FieldType)) (base : Nat) (G : iv_G) (x_0 : Int32) (i_x_0 : iv_R 0 254 x_0) (x_1 : Int32) (i_x_1 : iv_R 0 255 x_1) (lt_0 : x_0.toInt < x_1.toInt) : Met l yJ0_checkIndex_df160 (Cond.code yJ0_checkIndex_df160 cJ0_checkIndex_df160 2 none :: iv_W0) ({ frames := 1, cells := 0, slots := 0, locals := 22 }) (iv_Pc iv_sh D classes tys base G [.int x_0, .int x_1]) (iv_Qv iv_sh D classes tys base (fun G' => G = G')) 0 0 (iv_A base) := by
  refine iv_head (by decide) (Nat.le_of_ble_eq_true rfl) ?_
  intro p e s m args below meth c ls X hr hlocks hname hB hl
  have X := X
  have hx := X.1.1
  have hb := X.1.2.1
  have hl : lv_has ls 2 [(0, .int x_0), (1, .int x_1)] := hl
  refine lv_iload_n hx hb dJ0_checkIndex_df160_0 rfl (lv_at hl 0 rfl) ?_
  refine lv_iload_n hx hb dJ0_checkIndex_df160_1 rfl (lv_at hl 1 rfl) ?_
  refine iv_getF X hB k_sfl_J0_1053 dJ0_checkIndex_df160_2 ?_
  refine iv_cSi X k_good k_mf_J3_checkIndex_8e157 k_st_J3_checkIndex_8e157 k_ml_J0_1059 hB (As := [.int x_0, .int x_1, iv_fv D]) (c_J3_checkIndex_8e157 l D tys base G x_0 i_x_0 x_1 i_x_1 (Int32.lt_iff_toInt_lt.mp (Int32.lt_iff_toInt_lt.mpr lt_0))) ⟨rfl, rfl⟩ ⟨Nat.le_of_ble_eq_true rfl, Nat.le_of_ble_eq_true rfl⟩ ⟨Nat.le_of_ble_eq_true rfl, Nat.le_of_ble_eq_true rfl⟩ rfl rfl hl.1 (Nat.le_of_ble_eq_true rfl) dJ0_checkIndex_df160_5 (fun x1 G9 H locs hq hB => ?_)
  obtain ⟨rfl, i_x1⟩ := hq
  refine lv_pop hx hb dJ0_checkIndex_df160_8 rfl ?_
  exact iv_vret X hr hlocks hB rfl dJ0_checkIndex_df160_9
theorem dJ1_charAt_3b067_0 : decode cJ1_charAt_3b067 0 = .ok (.iload_n 1, 1) := by decide +kernel
theorem dJ1_charAt_3b067_1 : decode cJ1_charAt_3b067 1 = .ok (.aload_n 0, 1) := by decide +kernel
theorem dJ1_charAt_3b067_2 : decode cJ1_charAt_3b067 2 = .ok (.arraylength, 1) := by decide +kernel
theorem dJ1_charAt_3b067_3 : decode cJ1_charAt_3b067 3 = .ok (.invokestatic 9, 3) := by decide +kernel
theorem dJ1_charAt_3b067_6 : decode cJ1_charAt_3b067 6 = .ok (.aload_n 0, 1) := by decide +kernel
theorem dJ1_charAt_3b067_7 : decode cJ1_charAt_3b067 7 = .ok (.iload_n 1, 1) := by decide +kernel
theorem dJ1_charAt_3b067_8 : decode cJ1_charAt_3b067 8 = .ok (.baload, 1) := by decide +kernel
theorem dJ1_charAt_3b067_9 : decode cJ1_charAt_3b067 9 = .ok (.sipush 255, 3) := by decide +kernel
theorem dJ1_charAt_3b067_12 : decode cJ1_charAt_3b067 12 = .ok (.iand, 1) := by decide +kernel
theorem dJ1_charAt_3b067_13 : decode cJ1_charAt_3b067 13 = .ok (.i2c, 1) := by decide +kernel
theorem dJ1_charAt_3b067_14 : decode cJ1_charAt_3b067 14 = .ok (.ireturn, 1) := by decide +kernel
set_option maxHeartbeats 4000000 in
set_option maxRecDepth 100000 in
theorem c_J1_charAt_3b067 (l : Launch) (D : va_G) (tys : List (ClassId × FieldType)) (base : Nat) (G : iv_G) (s1 : Nat) (hs1 : s1 < 23) (x_1 : Int32) (i_x_1 : iv_R 0 254 x_1) (lb_1 : x_1.toInt < ((iv_len.getD s1 0 : Nat) : Int)) : Met l yJ1_charAt_3b067 (Cond.code yJ1_charAt_3b067 cJ1_charAt_3b067 2 (some .char) :: iv_W0) ({ frames := 2, cells := 0, slots := 0, locals := 43 }) (iv_Pc iv_sh D classes tys base G [.ref (D.2 101 s1), .int x_1]) (iv_Qi iv_sh D classes tys base (fun v G' => G = G' ∧ iv_R 0 255 v)) 0 0 (iv_A base) := by
  refine iv_head (by decide) (Nat.le_of_ble_eq_true rfl) ?_
  intro p e s m args below meth c ls X hr hlocks hname hB hl
  have X := X
  have hx := X.1.1
  have hb := X.1.2.1
  have hl : lv_has ls 2 [(0, .ref (D.2 101 s1)), (1, .int x_1)] := hl
  refine lv_iload_n hx hb dJ1_charAt_3b067_0 rfl (lv_at hl 1 rfl) ?_
  refine lv_aload_n hx hb dJ1_charAt_3b067_1 rfl (lv_at hl 0 rfl) ?_
  refine iv_blen X hs1 hB dJ1_charAt_3b067_2 (fun x1 e_x1 i_x1 => ?_)
  refine iv_cSv X k_good k_mf_J0_checkIndex_df160 k_st_J0_checkIndex_df160 k_ml_J1_9 hB (As := [.int x_1, .int x1]) (c_J0_checkIndex_df160 l D tys base G x_1 i_x_1 x1 i_x1 (by have w1 := lb_1; have w2 := e_x1; omega)) ⟨rfl, rfl⟩ ⟨Nat.le_of_ble_eq_true rfl, Nat.le_of_ble_eq_true rfl⟩ ⟨Nat.le_of_ble_eq_true rfl, Nat.le_of_ble_eq_true rfl⟩ rfl rfl hl.1 (Nat.le_of_ble_eq_true rfl) dJ1_charAt_3b067_3 (fun G9 H locs hq hB => ?_)
  subst hq
  refine lv_aload_n hx hb dJ1_charAt_3b067_6 rfl (lv_at hl 0 rfl) ?_
  refine lv_iload_n hx hb dJ1_charAt_3b067_7 rfl (lv_at hl 1 rfl) ?_
  refine iv_bald X hs1 hB (iv_inU i_x_1 (by decide) lb_1) dJ1_charAt_3b067_8 (fun x2 => ?_)
  have i_x2 := iv_R.all x2
  refine lv_sipush (v := 255) hx hb dJ1_charAt_3b067_9 (by decide) ?_
  refine iv_iand_r hx hb q_255 (by decide) dJ1_charAt_3b067_12 (fun x3 e_x3 i_x3 => ?_)
  refine iv_i2c hx hb i_x3 (by decide) dJ1_charAt_3b067_13 ?_
  exact iv_nret X hr (iv_narC (i_x3.wk (by decide))) hlocks hB ⟨rfl, i_x3⟩ dJ1_charAt_3b067_14
theorem dJ0_charAt_5068e_0 : decode cJ0_charAt_5068e 0 = .ok (.aload_n 0, 1) := by decide +kernel
theorem dJ0_charAt_5068e_1 : decode cJ0_charAt_5068e 1 = .ok (.invokevirtual 492, 3) := by decide +kernel
theorem dJ0_charAt_5068e_4 : decode cJ0_charAt_5068e 4 = .ok (.ifCond .eq 12, 3) := by decide +kernel
theorem dJ0_charAt_5068e_7 : decode cJ0_charAt_5068e 7 = .ok (.aload_n 0, 1) := by decide +kernel
theorem dJ0_charAt_5068e_8 : decode cJ0_charAt_5068e 8 = .ok (.getfield 9, 3) := by decide +kernel
theorem dJ0_charAt_5068e_11 : decode cJ0_charAt_5068e 11 = .ok (.iload_n 1, 1) := by decide +kernel
theorem dJ0_charAt_5068e_12 : decode cJ0_charAt_5068e 12 = .ok (.invokestatic 495, 3) := by decide +kernel
theorem dJ0_charAt_5068e_15 : decode cJ0_charAt_5068e 15 = .ok (.ireturn, 1) := by decide +kernel
theorem dJ0_charAt_5068e_16 : decode cJ0_charAt_5068e 16 = .ok (.aload_n 0, 1) := by decide +kernel
theorem dJ0_charAt_5068e_17 : decode cJ0_charAt_5068e 17 = .ok (.getfield 9, 3) := by decide +kernel
theorem dJ0_charAt_5068e_20 : decode cJ0_charAt_5068e 20 = .ok (.iload_n 1, 1) := by decide +kernel
theorem dJ0_charAt_5068e_21 : decode cJ0_charAt_5068e 21 = .ok (.invokestatic 498, 3) := by decide +kernel
theorem dJ0_charAt_5068e_24 : decode cJ0_charAt_5068e 24 = .ok (.ireturn, 1) := by decide +kernel
set_option maxHeartbeats 4000000 in
set_option maxRecDepth 100000 in
theorem c_J0_charAt_5068e (l : Launch) (D : va_G) (tys : List (ClassId × FieldType)) (base : Nat) (G : iv_G) (sh0 : Nat) (hs0 : sh0 < 23) (x_0 : Int32) (i_x_0 : iv_R 0 254 x_0) (lb_0 : x_0.toInt < ((iv_len.getD sh0 0 : Nat) : Int)) : Met l yJ0_charAt_5068e (Cond.code yJ0_charAt_5068e cJ0_charAt_5068e 2 (some .char) :: iv_W0) ({ frames := 3, cells := 0, slots := 0, locals := 64 }) (iv_Pc iv_sh D classes tys base G [.ref (D.2 100 sh0), .int x_0]) (iv_Qi iv_sh D classes tys base (fun v G' => G = G' ∧ iv_R 0 255 v)) 0 0 (iv_A base) := by
  refine iv_head (by decide) (Nat.le_of_ble_eq_true rfl) ?_
  intro p e s m args below meth c ls X hr hlocks hname hB hl
  have X := X
  have hx := X.1.1
  have hb := X.1.2.1
  have hl : lv_has ls 2 [(0, .ref (D.2 100 sh0)), (1, .int x_0)] := hl
  refine lv_aload_n hx hb dJ0_charAt_5068e_0 rfl (lv_at hl 0 rfl) ?_
  refine iv_cKi X k_good k_mf_J0_isLatin1_aae02 k_im_J0_isLatin1_aae02 k_sel_J0_isLatin1_aae02 k_ml_J0_492 hs0 rfl hB (As := []) (c_J0_isLatin1_aae02 l D tys base G sh0 hs0) ⟨rfl, rfl⟩ ⟨Nat.le_of_ble_eq_true rfl, Nat.le_of_ble_eq_true rfl⟩ ⟨Nat.le_of_ble_eq_true rfl, Nat.le_of_ble_eq_true rfl⟩ rfl rfl hl.1 (Nat.le_of_ble_eq_true rfl) dJ0_charAt_5068e_1 (fun x1 G9 H locs hq hB => ?_)
  obtain ⟨rfl, i_x1⟩ := hq
  refine lv_if_eq (tgt := 16) hx hb dJ0_charAt_5068e_4 (by decide) (fun c2 => ?_) (fun c2 => ?_)
  · skip
    exact (i_x1.cutHi (n := 0) (iv_eq_r c2 q_0).2).no (by decide)
  · skip
    refine lv_aload_n hx hb dJ0_charAt_5068e_7 rfl (lv_at hl 0 rfl) ?_
    refine iv_sval X hs0 hB k_sfl_J0_9 dJ0_charAt_5068e_8 ?_
    refine lv_iload_n hx hb dJ0_charAt_5068e_11 rfl (lv_at hl 1 rfl) ?_
    refine iv_cSi X k_good k_mf_J1_charAt_3b067 k_st_J1_charAt_3b067 k_ml_J0_495 hB (As := [.ref (D.2 101 sh0), .int x_0]) (c_J1_charAt_3b067 l D tys base G sh0 hs0 x_0 i_x_0 lb_0) ⟨rfl, rfl⟩ ⟨Nat.le_of_ble_eq_true rfl, Nat.le_of_ble_eq_true rfl⟩ ⟨Nat.le_of_ble_eq_true rfl, Nat.le_of_ble_eq_true rfl⟩ rfl rfl hl.1 (Nat.le_of_ble_eq_true rfl) dJ0_charAt_5068e_12 (fun x3 G9 H locs hq hB => ?_)
    obtain ⟨rfl, i_x3⟩ := hq
    exact iv_nret X hr (iv_narC (i_x3.wk (by decide))) hlocks hB ⟨rfl, i_x3⟩ dJ0_charAt_5068e_15
theorem dJ0_coder_7d493_0 : decode cJ0_coder_7d493 0 = .ok (.getstatic 38, 3) := by decide +kernel
theorem dJ0_coder_7d493_3 : decode cJ0_coder_7d493 3 = .ok (.ifCond .eq 10, 3) := by decide +kernel
theorem dJ0_coder_7d493_6 : decode cJ0_coder_7d493 6 = .ok (.aload_n 0, 1) := by decide +kernel
theorem dJ0_coder_7d493_7 : decode cJ0_coder_7d493 7 = .ok (.getfield 15, 3) := by decide +kernel
theorem dJ0_coder_7d493_10 : decode cJ0_coder_7d493 10 = .ok (.goto 4, 3) := by decide +kernel
theorem dJ0_coder_7d493_13 : decode cJ0_coder_7d493 13 = .ok (.iconst 1, 1) := by decide +kernel
theorem dJ0_coder_7d493_14 : decode cJ0_coder_7d493 14 = .ok (.ireturn, 1) := by decide +kernel
set_option maxHeartbeats 4000000 in
set_option maxRecDepth 100000 in
theorem c_J0_coder_7d493 (l : Launch) (D : va_G) (tys : List (ClassId × FieldType)) (base : Nat) (G : iv_G) (sh0 : Nat) (hs0 : sh0 < 23) : Met l yJ0_coder_7d493 (Cond.code yJ0_coder_7d493 cJ0_coder_7d493 1 (some .byte) :: iv_W0) ({ frames := 0, cells := 0, slots := 0, locals := 0 }) (iv_Pc iv_sh D classes tys base G [.ref (D.2 100 sh0)]) (iv_Qi iv_sh D classes tys base (fun v G' => G = G' ∧ iv_R 0 0 v)) 0 0 (iv_A base) := by
  refine iv_head (by decide) (Nat.le_of_ble_eq_true rfl) ?_
  intro p e s m args below meth c ls X hr hlocks hname hB hl
  have X := X
  have hx := X.1.1
  have hb := X.1.2.1
  have hl : lv_has ls 1 [(0, .ref (D.2 100 sh0))] := hl
  refine iv_gets X hB k_sfl_J0_38 dJ0_coder_7d493_0 ?_
  refine lv_if_eq (tgt := 13) hx hb dJ0_coder_7d493_3 (by decide) (fun c1 => ?_) (fun c1 => ?_)
  · skip
    exact (q_1.cutHi (n := 0) (iv_eq_r c1 q_0).2).no (by decide)
  · skip
    refine lv_aload_n hx hb dJ0_coder_7d493_6 rfl (lv_at hl 0 rfl) ?_
    refine iv_scod X hs0 hB k_sfl_J0_15 dJ0_coder_7d493_7 ?_
    refine lv_goto (tgt := 14) hx hb dJ0_coder_7d493_10 (by decide) ?_
    exact iv_nret X hr rfl hlocks hB ⟨rfl, q_0⟩ dJ0_coder_7d493_14
theorem dJ0_length_8abf5_0 : decode cJ0_length_8abf5 0 = .ok (.aload_n 0, 1) := by decide +kernel
theorem dJ0_length_8abf5_1 : decode cJ0_length_8abf5 1 = .ok (.getfield 9, 3) := by decide +kernel
theorem dJ0_length_8abf5_4 : decode cJ0_length_8abf5 4 = .ok (.arraylength, 1) := by decide +kernel
theorem dJ0_length_8abf5_5 : decode cJ0_length_8abf5 5 = .ok (.aload_n 0, 1) := by decide +kernel
theorem dJ0_length_8abf5_6 : decode cJ0_length_8abf5 6 = .ok (.invokevirtual 335, 3) := by decide +kernel
theorem dJ0_length_8abf5_9 : decode cJ0_length_8abf5 9 = .ok (.ishr, 1) := by decide +kernel
theorem dJ0_length_8abf5_10 : decode cJ0_length_8abf5 10 = .ok (.ireturn, 1) := by decide +kernel
set_option maxHeartbeats 4000000 in
set_option maxRecDepth 100000 in
theorem c_J0_length_8abf5 (l : Launch) (D : va_G) (tys : List (ClassId × FieldType)) (base : Nat) (G : iv_G) (sh0 : Nat) (hs0 : sh0 < 23) : Met l yJ0_length_8abf5 (Cond.code yJ0_length_8abf5 cJ0_length_8abf5 1 (some .int) :: iv_W0) ({ frames := 1, cells := 0, slots := 0, locals := 20 }) (iv_Pc iv_sh D classes tys base G [.ref (D.2 100 sh0)]) (iv_Qi iv_sh D classes tys base (fun v G' => G = G' ∧ iv_R 0 255 v ∧ v.toInt = ((iv_len.getD sh0 0 : Nat) : Int))) 0 0 (iv_A base) := by
  refine iv_head (by decide) (Nat.le_of_ble_eq_true rfl) ?_
  intro p e s m args below meth c ls X hr hlocks hname hB hl
  have X := X
  have hx := X.1.1
  have hb := X.1.2.1
  have hl : lv_has ls 1 [(0, .ref (D.2 100 sh0))] := hl
  refine lv_aload_n hx hb dJ0_length_8abf5_0 rfl (lv_at hl 0 rfl) ?_
  refine iv_sval X hs0 hB k_sfl_J0_9 dJ0_length_8abf5_1 ?_
  refine iv_blen X hs0 hB dJ0_length_8abf5_4 (fun x1 e_x1 i_x1 => ?_)
  refine lv_aload_n hx hb dJ0_length_8abf5_5 rfl (lv_at hl 0 rfl) ?_
  refine iv_cKi X k_good k_mf_J0_coder_7d493 k_im_J0_coder_7d493 k_sel_J0_coder_7d493 k_ml_J0_335 hs0 rfl hB (As := []) (c_J0_coder_7d493 l D tys base G sh0 hs0) ⟨rfl, rfl⟩ ⟨Nat.le_of_ble_eq_true rfl, Nat.le_of_ble_eq_true rfl⟩ ⟨Nat.le_of_ble_eq_true rfl, Nat.le_of_ble_eq_true rfl⟩ rfl rfl hl.1 (Nat.le_of_ble_eq_true rfl) dJ0_length_8abf5_6 (fun x2 G9 H locs hq hB => ?_)
  obtain ⟨rfl, i_x2⟩ := hq
  refine iv_ishr0 hx hb i_x2 dJ0_length_8abf5_9 ?_
  exact iv_iret X hr hlocks hB ⟨rfl, i_x1, e_x1⟩ dJ0_length_8abf5_10
theorem dJ1_canEncode_9a6ad_0 : decode cJ1_canEncode_9a6ad 0 = .ok (.iload_n 0, 1) := by decide +kernel
theorem dJ1_canEncode_9a6ad_1 : decode cJ1_canEncode_9a6ad 1 = .ok (.ifCond .lt 14, 3) := by decide +kernel
theorem dJ1_canEncode_9a6ad_4 : decode cJ1_canEncode_9a6ad 4 = .ok (.iload_n 0, 1) := by decide +kernel
theorem dJ1_canEncode_9a6ad_5 : decode cJ1_canEncode_9a6ad 5 = .ok (.sipush 255, 3) := by decide +kernel
theorem dJ1_canEncode_9a6ad_8 : decode cJ1_canEncode_9a6ad 8 = .ok (.if_icmp .gt 7, 3) := by decide +kernel
theorem dJ1_canEncode_9a6ad_11 : decode cJ1_canEncode_9a6ad 11 = .ok (.iconst 1, 1) := by decide +kernel
theorem dJ1_canEncode_9a6ad_12 : decode cJ1_canEncode_9a6ad 12 = .ok (.goto 4, 3) := by decide +kernel
theorem dJ1_canEncode_9a6ad_15 : decode cJ1_canEncode_9a6ad 15 = .ok (.iconst 0, 1) := by decide +kernel
theorem dJ1_canEncode_9a6ad_16 : decode cJ1_canEncode_9a6ad 16 = .ok (.ireturn, 1) := by decide +kernel
set_option maxHeartbeats 4000000 in
set_option maxRecDepth 100000 in
theorem c_J1_canEncode_9a6ad (l : Launch) (D : va_G) (tys : List (ClassId × FieldType)) (base : Nat) (G : iv_G) (x_0 : Int32) (i_x_0 : iv_R (-2147483648) 2147483647 x_0) : Met l yJ1_canEncode_9a6ad (Cond.code yJ1_canEncode_9a6ad cJ1_canEncode_9a6ad 1 (some .boolean) :: iv_W0) ({ frames := 0, cells := 0, slots := 0, locals := 0 }) (iv_Pc iv_sh D classes tys base G [.int x_0]) (iv_Qi iv_sh D classes tys base (fun v G' => G = G' ∧ iv_R 0 1 v ∧ (¬ v = 0 → iv_R 0 255 x_0))) 0 0 (iv_A base) := by
  refine iv_head (by decide) (Nat.le_of_ble_eq_true rfl) ?_
  intro p e s m args below meth c ls X hr hlocks hname hB hl
  have X := X
  have hx := X.1.1
  have hb := X.1.2.1
  have hl : lv_has ls 1 [(0, .int x_0)] := hl
  refine lv_iload_n hx hb dJ1_canEncode_9a6ad_0 rfl (lv_at hl 0 rfl) ?_
  refine lv_if_lt (tgt := 15) hx hb dJ1_canEncode_9a6ad_1 (by decide) (fun c1 => ?_) (fun c1 => ?_)
  · skip
    have i1_x_0 : iv_R (-2147483648) (-1) x_0 := (i_x_0.cutHi (n := (-1)) (iv_lt_r c1 q_0 (by decide)))
    refine lv_iconst (v := 0) hx hb dJ1_canEncode_9a6ad_15 (by decide) ?_
    exact iv_zret X hr hlocks hB (q_0.wk (by decide)) ⟨rfl, (q_0.wk (by decide)), fun h => absurd (iv_z q_0) h⟩ dJ1_canEncode_9a6ad_16
  · skip
    have i2_x_0 : iv_R 0 2147483647 x_0 := (i_x_0.cutLo (n := 0) (iv_le_l (iv_nlt c1) q_0))
    refine lv_iload_n hx hb dJ1_canEncode_9a6ad_4 rfl (lv_at hl 0 rfl) ?_
    refine lv_sipush (v := 255) hx hb dJ1_canEncode_9a6ad_5 (by decide) ?_
    refine lv_icmp_gt (tgt := 15) hx hb dJ1_canEncode_9a6ad_8 (by decide) (fun c4 => ?_) (fun c4 => ?_)
    · skip
      have i4_x_0 : iv_R 256 2147483647 x_0 := (i2_x_0.cutLo (n := 256) (iv_lt_l c4 q_255 (by decide)))
      refine lv_iconst (v := 0) hx hb dJ1_canEncode_9a6ad_15 (by decide) ?_
      exact iv_zret X hr hlocks hB (q_0.wk (by decide)) ⟨rfl, (q_0.wk (by decide)), fun h => absurd (iv_z q_0) h⟩ dJ1_canEncode_9a6ad_16
    · skip
      have i5_x_0 : iv_R 0 255 x_0 := (i2_x_0.cutHi (n := 255) (iv_le_r (iv_nlt c4) q_255))
      refine lv_iconst (v := 1) hx hb dJ1_canEncode_9a6ad_11 (by decide) ?_
      refine lv_goto (tgt := 16) hx hb dJ1_canEncode_9a6ad_12 (by decide) ?_
      exact iv_zret X hr hlocks hB (q_1.wk (by decide)) ⟨rfl, (q_1.wk (by decide)), fun _ => i5_x_0⟩ dJ1_canEncode_9a6ad_16
theorem dJ1_indexOfChar_4cfef_0 : decode cJ1_indexOfChar_4cfef 0 = .ok (.iload_n 1, 1) := by decide +kernel
theorem dJ1_indexOfChar_4cfef_1 : decode cJ1_indexOfChar_4cfef 1 = .ok (.i2b, 1) := by decide +kernel
theorem dJ1_indexOfChar_4cfef_2 : decode cJ1_indexOfChar_4cfef 2 = .ok (.istore 4, 2) := by decide +kernel
theorem dJ1_indexOfChar_4cfef_4 : decode cJ1_indexOfChar_4cfef 4 = .ok (.iload_n 2, 1) := by decide +kernel
theorem dJ1_indexOfChar_4cfef_5 : decode cJ1_indexOfChar_4cfef 5 = .ok (.istore 5, 2) := by decide +kernel
theorem dJ1_indexOfChar_4cfef_7 : decode cJ1_indexOfChar_4cfef 7 = .ok (.iload 5, 2) := by decide +kernel
theorem dJ1_indexOfChar_4cfef_9 : decode cJ1_indexOfChar_4cfef 9 = .ok (.iload_n 3, 1) := by decide +kernel
theorem dJ1_indexOfChar_4cfef_10 : decode cJ1_indexOfChar_4cfef 10 = .ok (.if_icmp .ge 21, 3) := by decide +kernel
theorem dJ1_indexOfChar_4cfef_13 : decode cJ1_indexOfChar_4cfef 13 = .ok (.aload_n 0, 1) := by decide +kernel
theorem dJ1_indexOfChar_4cfef_14 : decode cJ1_indexOfChar_4cfef 14 = .ok (.iload 5, 2) := by decide +kernel
theorem dJ1_indexOfChar_4cfef_16 : decode cJ1_indexOfChar_4cfef 16 = .ok (.baload, 1) := by decide +kernel
theorem dJ1_indexOfChar_4cfef_17 : decode cJ1_indexOfChar_4cfef 17 = .ok (.iload 4, 2) := by decide +kernel
theorem dJ1_indexOfChar_4cfef_19 : decode cJ1_indexOfChar_4cfef 19 = .ok (.if_icmp .ne 6, 3) := by decide +kernel
theorem dJ1_indexOfChar_4cfef_22 : decode cJ1_indexOfChar_4cfef 22 = .ok (.iload 5, 2) := by decide +kernel
theorem dJ1_indexOfChar_4cfef_24 : decode cJ1_indexOfChar_4cfef 24 = .ok (.ireturn, 1) := by decide +kernel
theorem dJ1_indexOfChar_4cfef_25 : decode cJ1_indexOfChar_4cfef 25 = .ok (.iinc 5 1, 3) := by decide +kernel
theorem dJ1_indexOfChar_4cfef_28 : decode cJ1_indexOfChar_4cfef 28 = .ok (.goto (-21), 3) := by decide +kernel
theorem dJ1_indexOfChar_4cfef_31 : decode cJ1_indexOfChar_4cfef 31 = .ok (.iconst (-1), 1) := by decide +kernel
theorem dJ1_indexOfChar_4cfef_32 : decode cJ1_indexOfChar_4cfef 32 = .ok (.ireturn, 1) := by decide +kernel
set_option maxHeartbeats 4000000 in
set_option maxRecDepth 100000 in
theorem c_J1_indexOfChar_4cfef (l : Launch) (D : va_G) (tys : List (ClassId × FieldType)) (base : Nat) (G : iv_G) (s1 : Nat) (hs1 : s1 < 23) (x_1 : Int32) (i_x_1 : iv_R 0 255 x_1) (x_2 : Int32) (i_x_2 : iv_R 0 0 x_2) (x_3 : Int32) (i_x_3 : iv_R 1 255 x_3) (u_x_3 : x_3.toInt ≤ ((iv_len.getD s1 0 : Nat) : Int)) : Met l yJ1_indexOfChar_4cfef (Cond.code yJ1_indexOfChar_4cfef cJ1_indexOfChar_4cfef 6 (some .int) :: iv_W0) ({ frames := 0, cells := 0, slots := 0, locals := 0 }) (iv_Pc iv_sh D classes tys base G [.ref (D.2 101 s1), .int x_1, .int x_2, .int x_3]) (iv_Qi iv_sh D classes tys base (fun v G' => G = G' ∧ iv_R (-1) 254 v)) 0 0 (iv_A base) := by
  refine iv_head (by decide) (Nat.le_of_ble_eq_true rfl) ?_
  intro p e s m args below meth c ls X hr hlocks hname hB hl
  have X := X
  have hx := X.1.1
  have hb := X.1.2.1
  have hl : lv_has ls 6 [(0, .ref (D.2 101 s1)), (1, .int x_1), (2, .int x_2), (3, .int x_3)] := hl
  refine lv_iload_n hx hb dJ1_indexOfChar_4cfef_0 rfl (lv_at hl 1 rfl) ?_
  refine lv_i2b hx hb dJ1_indexOfChar_4cfef_1 rfl ?_
  refine lv_topi (fun x1 e_x1 => ?_)
  have i_x1 := iv_R.all x1
  refine lv_istore (lv' := [(4, .int x1), (0, .ref (D.2 101 s1)), (1, .int x_1), (2, .int x_2), (3, .int x_3)]) hx hb dJ1_indexOfChar_4cfef_2 hl (by decide) rfl (fun ls hl => ?_)
  refine lv_iload_n hx hb dJ1_indexOfChar_4cfef_4 rfl (lv_at hl 3 rfl) ?_
  refine lv_istore (lv' := [(5, .int x_2), (4, .int x1), (0, .ref (D.2 101 s1)), (1, .int x_1), (2, .int x_2), (3, .int x_3)]) hx hb dJ1_indexOfChar_4cfef_5 hl (by decide) rfl (fun ls hl => ?_)
  have L_7 : ∀ (n_7 : Nat) (H : Heap) (locs : List Loc) (hB : iv_B iv_sh D classes tys base G s.heap H locs) (x2 : Int32) (i_x2 : iv_R 0 255 x2) (hn_7 : (256 - x2.toInt).toNat < n_7) (ls : Array Slot) (hl : lv_has ls 6 [(5, .int x2), (4, .int x1), (0, .ref (D.2 101 s1)), (3, .int x_3)]), W p l e ({ frames := 0, cells := 0, slots := 0, locals := 0 } : Room) s m args below meth c H locs 0 0 (MQ below (iv_Qi iv_sh D classes tys base (fun v G' => G = G' ∧ iv_R (-1) 254 v)) args s 0 0 (iv_A base)) (F0 m 7 ls []) := by
    intro n_7
    induction n_7 with
    | zero => intro H locs hB x2 i_x2 hn_7 ls hl; exact absurd hn_7 (Nat.not_lt_zero _)
    | succ n_7 ih_7 =>
      intro H locs hB x2 i_x2 hn_7 ls hl
      refine lv_iload hx hb dJ1_indexOfChar_4cfef_7 (lv_at hl 0 rfl) ?_
      refine lv_iload_n hx hb dJ1_indexOfChar_4cfef_9 rfl (lv_at hl 3 rfl) ?_
      refine lv_icmp_ge (tgt := 31) hx hb dJ1_indexOfChar_4cfef_10 (by decide) (fun c3 => ?_) (fun c3 => ?_)
      · skip
        have i3_x2 : iv_R 1 255 x2 := (i_x2.cutLo (n := 1) (iv_le_l c3 i_x_3))
        refine lv_iconst (v := (-1)) hx hb dJ1_indexOfChar_4cfef_31 (by decide) ?_
        exact iv_iret X hr hlocks hB ⟨rfl, (q_n1.wk (by decide))⟩ dJ1_indexOfChar_4cfef_32
      · skip
        have i4_x2 : iv_R 0 254 x2 := (i_x2.cutHi (n := 254) (iv_lt_r (iv_nle c3) i_x_3 (by decide)))
        refine lv_aload_n hx hb dJ1_indexOfChar_4cfef_13 rfl (lv_at hl 2 rfl) ?_
        refine lv_iload hx hb dJ1_indexOfChar_4cfef_14 (lv_at hl 0 rfl) ?_
        refine iv_bald X hs1 hB (iv_inU i4_x2 (by decide) (iv_ltU (iv_nle c3) u_x_3)) dJ1_indexOfChar_4cfef_16 (fun x6 => ?_)
        have i_x6 := iv_R.all x6
        refine lv_iload hx hb dJ1_indexOfChar_4cfef_17 (lv_at hl 1 rfl) ?_
        refine lv_icmp_ne (tgt := 25) hx hb dJ1_indexOfChar_4cfef_19 (by decide) (fun c7 => ?_) (fun c7 => ?_)
        · skip
          refine iv_iinc hx hb i4_x2 (lo := 1) (hi := 255) (by decide) dJ1_indexOfChar_4cfef_25 hl (k := 0) rfl (by decide) (fun x8 ls e_x8 i_x8 hl => ?_)
          have hl : lv_has ls 6 [(5, .int x8), (4, .int x1), (0, .ref (D.2 101 s1)), (3, .int x_3)] := hl
          refine lv_goto (tgt := 7) hx hb dJ1_indexOfChar_4cfef_28 (by decide) ?_
          exact ih_7 _ _ hB x8 (i_x8.wk (by decide)) (iv_mup (c := 1) i_x2 (by decide) (by decide) (by omega) hn_7) _ (lv_sub hl [0, 1, 2, 3] rfl)
        · skip
          refine lv_iload hx hb dJ1_indexOfChar_4cfef_22 (lv_at hl 0 rfl) ?_
          exact iv_iret X hr hlocks hB ⟨rfl, (i4_x2.wk (by decide))⟩ dJ1_indexOfChar_4cfef_24
  exact L_7 _ _ _ hB x_2 (i_x_2.wk (by decide)) (Nat.lt_succ_self _) _ (lv_sub hl [0, 1, 2, 5] rfl)
theorem dJ1_indexOf_4cfef_0 : decode cJ1_indexOf_4cfef 0 = .ok (.iload_n 1, 1) := by decide +kernel
theorem dJ1_indexOf_4cfef_1 : decode cJ1_indexOf_4cfef 1 = .ok (.invokestatic 88, 3) := by decide +kernel
theorem dJ1_indexOf_4cfef_4 : decode cJ1_indexOf_4cfef 4 = .ok (.ifCond .ne 5, 3) := by decide +kernel
theorem dJ1_indexOf_4cfef_7 : decode cJ1_indexOf_4cfef 7 = .ok (.iconst (-1), 1) := by decide +kernel
theorem dJ1_indexOf_4cfef_8 : decode cJ1_indexOf_4cfef 8 = .ok (.ireturn, 1) := by decide +kernel
theorem dJ1_indexOf_4cfef_9 : decode cJ1_indexOf_4cfef 9 = .ok (.iload_n 2, 1) := by decide +kernel
theorem dJ1_indexOf_4cfef_10 : decode cJ1_indexOf_4cfef 10 = .ok (.iconst 0, 1) := by decide +kernel
theorem dJ1_indexOf_4cfef_11 : decode cJ1_indexOf_4cfef 11 = .ok (.invokestatic 92, 3) := by decide +kernel
theorem dJ1_indexOf_4cfef_14 : decode cJ1_indexOf_4cfef 14 = .ok (.istore_n 2, 1) := by decide +kernel
theorem dJ1_indexOf_4cfef_15 : decode cJ1_indexOf_4cfef 15 = .ok (.iload_n 3, 1) := by decide +kernel
theorem dJ1_indexOf_4cfef_16 : decode cJ1_indexOf_4cfef 16 = .ok (.aload_n 0, 1) := by decide +kernel
theorem dJ1_indexOf_4cfef_17 : decode cJ1_indexOf_4cfef 17 = .ok (.arraylength, 1) := by decide +kernel
theorem dJ1_indexOf_4cfef_18 : decode cJ1_indexOf_4cfef 18 = .ok (.invokestatic 38, 3) := by decide +kernel
theorem dJ1_indexOf_4cfef_21 : decode cJ1_indexOf_4cfef 21 = .ok (.istore_n 3, 1) := by decide +kernel
theorem dJ1_indexOf_4cfef_22 : decode cJ1_indexOf_4cfef 22 = .ok (.iload_n 2, 1) := by decide +kernel
theorem dJ1_indexOf_4cfef_23 : decode cJ1_indexOf_4cfef 23 = .ok (.iload_n 3, 1) := by decide +kernel
theorem dJ1_indexOf_4cfef_24 : decode cJ1_indexOf_4cfef 24 = .ok (.if_icmp .lt 5, 3) := by decide +kernel
theorem dJ1_indexOf_4cfef_27 : decode cJ1_indexOf_4cfef 27 = .ok (.iconst (-1), 1) := by decide +kernel
theorem dJ1_indexOf_4cfef_28 : decode cJ1_indexOf_4cfef 28 = .ok (.ireturn, 1) := by decide +kernel
theorem dJ1_indexOf_4cfef_29 : decode cJ1_indexOf_4cfef 29 = .ok (.aload_n 0, 1) := by decide +kernel
theorem dJ1_indexOf_4cfef_30 : decode cJ1_indexOf_4cfef 30 = .ok (.iload_n 1, 1) := by decide +kernel
theorem dJ1_indexOf_4cfef_31 : decode cJ1_indexOf_4cfef 31 = .ok (.iload_n 2, 1) := by decide +kernel
theorem dJ1_indexOf_4cfef_32 : decode cJ1_indexOf_4cfef 32 = .ok (.iload_n 3, 1) := by decide +kernel
theorem dJ1_indexOf_4cfef_33 : decode cJ1_indexOf_4cfef 33 = .ok (.invokestatic 95, 3) := by decide +kernel
theorem dJ1_indexOf_4cfef_36 : decode cJ1_indexOf_4cfef 36 = .ok (.ireturn, 1) := by decide +kernel
set_option maxHeartbeats 4000000 in
set_option maxRecDepth 100000 in
theorem c_J1_indexOf_4cfef (l : Launch) (D : va_G) (tys : List (ClassId × FieldType)) (base : Nat) (G : iv_G) (s1 : Nat) (hs1 : s1 < 23) (x_1 : Int32) (i_x_1 : iv_R (-2147483648) 2147483647 x_1) (x_2 : Int32) (i_x_2 : iv_R 0 0 x_2) (x_3 : Int32) (i_x_3 : iv_R 0 255 x_3) : Met l yJ1_indexOf_4cfef (Cond.code yJ1_indexOf_4cfef cJ1_indexOf_4cfef 4 (some .int) :: iv_W0) ({ frames := 1, cells := 0, slots := 0, locals := 25 }) (iv_Pc iv_sh D classes tys base G [.ref (D.2 101 s1), .int x_1, .int x_2, .int x_3]) (iv_Qi iv_sh D classes tys base (fun v G' => G = G' ∧ iv_R (-1) 254 v)) 0 0 (iv_A base) := by
  refine iv_head (by decide) (Nat.le_of_ble_eq_true rfl) ?_
  intro p e s m args below meth c ls X hr hlocks hname hB hl
  have X := X
  have hx := X.1.1
  have hb := X.1.2.1
  have hl : lv_has ls 4 [(0, .ref (D.2 101 s1)), (1, .int x_1), (2, .int x_2), (3, .int x_3)] := hl
  refine lv_iload_n hx hb dJ1_indexOf_4cfef_0 rfl (lv_at hl 1 rfl) ?_
  refine iv_cSi X k_good k_mf_J1_canEncode_9a6ad k_st_J1_canEncode_9a6ad k_ml_J1_88 hB (As := [.int x_1]) (c_J1_canEncode_9a6ad l D tys base G x_1 i_x_1) ⟨rfl, rfl⟩ ⟨Nat.le_of_ble_eq_true rfl, Nat.le_of_ble_eq_true rfl⟩ ⟨Nat.le_of_ble_eq_true rfl, Nat.le_of_ble_eq_true rfl⟩ rfl rfl hl.1 (Nat.le_of_ble_eq_true rfl) dJ1_indexOf_4cfef_1 (fun x1 G9 H locs hq hB => ?_)
  obtain ⟨rfl, i_x1, hp2⟩ := hq
  refine lv_if_ne (tgt := 9) hx hb dJ1_indexOf_4cfef_4 (by decide) (fun c3 => ?_) (fun c3 => ?_)
  · skip
    have i3_x1 : iv_R 1 1 x1 := iv_ne_lo c3 i_x1 q_0 (by decide)
    have i4_x_1 : iv_R 0 255 x_1 := ((i_x_1.cutLo (n := 0) (hp2 c3).1).cutHi (n := 255) (hp2 c3).2)
    refine lv_iload_n hx hb dJ1_indexOf_4cfef_9 rfl (lv_at hl 2 rfl) ?_
    refine lv_iconst (v := 0) hx hb dJ1_indexOf_4cfef_10 (by decide) ?_
    refine iv_mmax X hl.1 k_mm_J1_92 ⟨Nat.le_of_ble_eq_true rfl, Nat.le_of_ble_eq_true rfl⟩ ⟨Nat.le_of_ble_eq_true rfl, Nat.le_of_ble_eq_true rfl⟩ i_x_2 q_0 (lo := 0) (hi := 0) (by decide) dJ1_indexOf_4cfef_11 (fun x6 e_x6 i_x6 => ?_)
    refine lv_istore_n (lv' := [(2, .int x6), (0, .ref (D.2 101 s1)), (1, .int x_1), (3, .int x_3)]) hx hb dJ1_indexOf_4cfef_14 rfl hl (by decide) rfl (fun ls hl => ?_)
    refine lv_iload_n hx hb dJ1_indexOf_4cfef_15 rfl (lv_at hl 3 rfl) ?_
    refine lv_aload_n hx hb dJ1_indexOf_4cfef_16 rfl (lv_at hl 1 rfl) ?_
    refine iv_blen X hs1 hB dJ1_indexOf_4cfef_17 (fun x7 e_x7 i_x7 => ?_)
    refine iv_mmin X hl.1 k_mm_J1_38 ⟨Nat.le_of_ble_eq_true rfl, Nat.le_of_ble_eq_true rfl⟩ ⟨Nat.le_of_ble_eq_true rfl, Nat.le_of_ble_eq_true rfl⟩ i_x_3 i_x7 (lo := 0) (hi := 255) (by decide) dJ1_indexOf_4cfef_18 (fun x8 e_x8 i_x8 => ?_)
    refine lv_istore_n (lv' := [(3, .int x8), (2, .int x6), (0, .ref (D.2 101 s1)), (1, .int x_1)]) hx hb dJ1_indexOf_4cfef_21 rfl hl (by decide) rfl (fun ls hl => ?_)
    refine lv_iload_n hx hb dJ1_indexOf_4cfef_22 rfl (lv_at hl 1 rfl) ?_
    refine lv_iload_n hx hb dJ1_indexOf_4cfef_23 rfl (lv_at hl 0 rfl) ?_
    refine lv_icmp_lt (tgt := 29) hx hb dJ1_indexOf_4cfef_24 (by decide) (fun c9 => ?_) (fun c9 => ?_)
    · skip
      have i9_x8 : iv_R 1 255 x8 := (i_x8.cutLo (n := 1) (iv_lt_l c9 i_x6 (by decide)))
      refine lv_aload_n hx hb dJ1_indexOf_4cfef_29 rfl (lv_at hl 2 rfl) ?_
      refine lv_iload_n hx hb dJ1_indexOf_4cfef_30 rfl (lv_at hl 3 rfl) ?_
      refine lv_iload_n hx hb dJ1_indexOf_4cfef_31 rfl (lv_at hl 1 rfl) ?_
      refine lv_iload_n hx hb dJ1_indexOf_4cfef_32 rfl (lv_at hl 0 rfl) ?_
      refine iv_cSi X k_good k_mf_J1_indexOfChar_4cfef k_st_J1_indexOfChar_4cfef k_ml_J1_95 hB (As := [.ref (D.2 101 s1), .int x_1, .int x6, .int x8]) (c_J1_indexOfChar_4cfef l D tys base G s1 hs1 x_1 i4_x_1 x6 i_x6 x8 i9_x8 (iv_minU e_x8 (Int.le_of_eq e_x7))) ⟨rfl, rfl⟩ ⟨Nat.le_of_ble_eq_true rfl, Nat.le_of_ble_eq_true rfl⟩ ⟨Nat.le_of_ble_eq_true rfl, Nat.le_of_ble_eq_true rfl⟩ rfl rfl hl.1 (Nat.le_of_ble_eq_true rfl) dJ1_indexOf_4cfef_33 (fun x11 G9 H locs hq hB => ?_)
      obtain ⟨rfl, i_x11⟩ := hq
      exact iv_iret X hr hlocks hB ⟨rfl, i_x11⟩ dJ1_indexOf_4cfef_36
    · skip
      have i11_x8 : iv_R 0 0 x8 := (i_x8.cutHi (n := 0) (iv_le_r (iv_nlt c9) i_x6))
      refine lv_iconst (v := (-1)) hx hb dJ1_indexOf_4cfef_27 (by decide) ?_
      exact iv_iret X hr hlocks hB ⟨rfl, (q_n1.wk (by decide))⟩ dJ1_indexOf_4cfef_28
  · skip
    have i12_x1 : iv_R 0 0 x1 := (i_x1.cutHi (n := 0) (iv_eq_r c3 q_0).2)
    refine lv_iconst (v := (-1)) hx hb dJ1_indexOf_4cfef_7 (by decide) ?_
    exact iv_iret X hr hlocks hB ⟨rfl, (q_n1.wk (by decide))⟩ dJ1_indexOf_4cfef_8
theorem dJ0_indexOf_7cf53_0 : decode cJ0_indexOf_7cf53 0 = .ok (.aload_n 0, 1) := by decide +kernel
theorem dJ0_indexOf_7cf53_1 : decode cJ0_indexOf_7cf53 1 = .ok (.invokevirtual 492, 3) := by decide +kernel
theorem dJ0_indexOf_7cf53_4 : decode cJ0_indexOf_7cf53 4 = .ok (.ifCond .eq 19, 3) := by decide +kernel
theorem dJ0_indexOf_7cf53_7 : decode cJ0_indexOf_7cf53 7 = .ok (.aload_n 0, 1) := by decide +kernel
theorem dJ0_indexOf_7cf53_8 : decode cJ0_indexOf_7cf53 8 = .ok (.getfield 9, 3) := by decide +kernel
theorem dJ0_indexOf_7cf53_11 : decode cJ0_indexOf_7cf53 11 = .ok (.iload_n 1, 1) := by decide +kernel
theorem dJ0_indexOf_7cf53_12 : decode cJ0_indexOf_7cf53 12 = .ok (.iload_n 2, 1) := by decide +kernel
theorem dJ0_indexOf_7cf53_13 : decode cJ0_indexOf_7cf53 13 = .ok (.aload_n 0, 1) := by decide +kernel
theorem dJ0_indexOf_7cf53_14 : decode cJ0_indexOf_7cf53 14 = .ok (.invokevirtual 505, 3) := by decide +kernel
theorem dJ0_indexOf_7cf53_17 : decode cJ0_indexOf_7cf53 17 = .ok (.invokestatic 637, 3) := by decide +kernel
theorem dJ0_indexOf_7cf53_20 : decode cJ0_indexOf_7cf53 20 = .ok (.goto 16, 3) := by decide +kernel
theorem dJ0_indexOf_7cf53_23 : decode cJ0_indexOf_7cf53 23 = .ok (.aload_n 0, 1) := by decide +kernel
theorem dJ0_indexOf_7cf53_24 : decode cJ0_indexOf_7cf53 24 = .ok (.getfield 9, 3) := by decide +kernel
theorem dJ0_indexOf_7cf53_27 : decode cJ0_indexOf_7cf53 27 = .ok (.iload_n 1, 1) := by decide +kernel
theorem dJ0_indexOf_7cf53_28 : decode cJ0_indexOf_7cf53 28 = .ok (.iload_n 2, 1) := by decide +kernel
theorem dJ0_indexOf_7cf53_29 : decode cJ0_indexOf_7cf53 29 = .ok (.aload_n 0, 1) := by decide +kernel
theorem dJ0_indexOf_7cf53_30 : decode cJ0_indexOf_7cf53 30 = .ok (.invokevirtual 505, 3) := by decide +kernel
theorem dJ0_indexOf_7cf53_33 : decode cJ0_indexOf_7cf53 33 = .ok (.invokestatic 640, 3) := by decide +kernel
theorem dJ0_indexOf_7cf53_36 : decode cJ0_indexOf_7cf53 36 = .ok (.ireturn, 1) := by decide +kernel
set_option maxHeartbeats 4000000 in
set_option maxRecDepth 100000 in
theorem c_J0_indexOf_7cf53 (l : Launch) (D : va_G) (tys : List (ClassId × FieldType)) (base : Nat) (G : iv_G) (sh0 : Nat) (hs0 : sh0 < 23) (x_0 : Int32) (i_x_0 : iv_R (-2147483648) 2147483647 x_0) (x_1 : Int32) (i_x_1 : iv_R 0 0 x_1) : Met l yJ0_indexOf_7cf53 (Cond.code yJ0_indexOf_7cf53 cJ0_indexOf_7cf53 3 (some .int) :: iv_W0) ({ frames := 2, cells := 0, slots := 0, locals := 48 }) (iv_Pc iv_sh D classes tys base G [.ref (D.2 100 sh0), .int x_0, .int x_1]) (iv_Qi iv_sh D classes tys base (fun v G' => G = G' ∧ iv_R (-1) 254 v)) 0 0 (iv_A base) := by
  refine iv_head (by decide) (Nat.le_of_ble_eq_true rfl) ?_
  intro p e s m args below meth c ls X hr hlocks hname hB hl
  have X := X
  have hx := X.1.1
  have hb := X.1.2.1
  have hl : lv_has ls 3 [(0, .ref (D.2 100 sh0)), (1, .int x_0), (2, .int x_1)] := hl
  refine lv_aload_n hx hb dJ0_indexOf_7cf53_0 rfl (lv_at hl 0 rfl) ?_
  refine iv_cKi X k_good k_mf_J0_isLatin1_aae02 k_im_J0_isLatin1_aae02 k_sel_J0_isLatin1_aae02 k_ml_J0_492 hs0 rfl hB (As := []) (c_J0_isLatin1_aae02 l D tys base G sh0 hs0) ⟨rfl, rfl⟩ ⟨Nat.le_of_ble_eq_true rfl, Nat.le_of_ble_eq_true rfl⟩ ⟨Nat.le_of_ble_eq_true rfl, Nat.le_of_ble_eq_true rfl⟩ rfl rfl hl.1 (Nat.le_of_ble_eq_true rfl) dJ0_indexOf_7cf53_1 (fun x1 G9 H locs hq hB => ?_)
  obtain ⟨rfl, i_x1⟩ := hq
  refine lv_if_eq (tgt := 23) hx hb dJ0_indexOf_7cf53_4 (by decide) (fun c2 => ?_) (fun c2 => ?_)
  · skip
    exact (i_x1.cutHi (n := 0) (iv_eq_r c2 q_0).2).no (by decide)
  · skip
    refine lv_aload_n hx hb dJ0_indexOf_7cf53_7 rfl (lv_at hl 0 rfl) ?_
    refine iv_sval X hs0 hB k_sfl_J0_9 dJ0_indexOf_7cf53_8 ?_
    refine lv_iload_n hx hb dJ0_indexOf_7cf53_11 rfl (lv_at hl 1 rfl) ?_
    refine lv_iload_n hx hb dJ0_indexOf_7cf53_12 rfl (lv_at hl 2 rfl) ?_
    refine lv_aload_n hx hb dJ0_indexOf_7cf53_13 rfl (lv_at hl 0 rfl) ?_
    refine iv_cKi X k_good k_mf_J0_length_8abf5 k_im_J0_length_8abf5 k_sel_J0_length_8abf5 k_ml_J0_505 hs0 rfl hB (As := []) (c_J0_length_8abf5 l D tys base G sh0 hs0) ⟨rfl, rfl⟩ ⟨Nat.le_of_ble_eq_true rfl, Nat.le_of_ble_eq_true rfl⟩ ⟨Nat.le_of_ble_eq_true rfl, Nat.le_of_ble_eq_true rfl⟩ rfl rfl hl.1 (Nat.le_of_ble_eq_true rfl) dJ0_indexOf_7cf53_14 (fun x3 G9 H locs hq hB => ?_)
    obtain ⟨rfl, i_x3, e_x3⟩ := hq
    refine iv_cSi X k_good k_mf_J1_indexOf_4cfef k_st_J1_indexOf_4cfef k_ml_J0_637 hB (As := [.ref (D.2 101 sh0), .int x_0, .int x_1, .int x3]) (c_J1_indexOf_4cfef l D tys base G sh0 hs0 x_0 i_x_0 x_1 i_x_1 x3 i_x3) ⟨rfl, rfl⟩ ⟨Nat.le_of_ble_eq_true rfl, Nat.le_of_ble_eq_true rfl⟩ ⟨Nat.le_of_ble_eq_true rfl, Nat.le_of_ble_eq_true rfl⟩ rfl rfl hl.1 (Nat.le_of_ble_eq_true rfl) dJ0_indexOf_7cf53_17 (fun x4 G9 H locs hq hB => ?_)
    obtain ⟨rfl, i_x4⟩ := hq
    refine lv_goto (tgt := 36) hx hb dJ0_indexOf_7cf53_20 (by decide) ?_
    exact iv_iret X hr hlocks hB ⟨rfl, i_x4⟩ dJ0_indexOf_7cf53_36
theorem dJ0_indexOf_0f7a4_0 : decode cJ0_indexOf_0f7a4 0 = .ok (.aload_n 0, 1) := by decide +kernel
theorem dJ0_indexOf_0f7a4_1 : decode cJ0_indexOf_0f7a4 1 = .ok (.iload_n 1, 1) := by decide +kernel
theorem dJ0_indexOf_0f7a4_2 : decode cJ0_indexOf_0f7a4 2 = .ok (.iconst 0, 1) := by decide +kernel
theorem dJ0_indexOf_0f7a4_3 : decode cJ0_indexOf_0f7a4 3 = .ok (.invokevirtual 633, 3) := by decide +kernel
theorem dJ0_indexOf_0f7a4_6 : decode cJ0_indexOf_0f7a4 6 = .ok (.ireturn, 1) := by decide +kernel
set_option maxHeartbeats 4000000 in
set_option maxRecDepth 100000 in
theorem c_J0_indexOf_0f7a4 (l : Launch) (D : va_G) (tys : List (ClassId × FieldType)) (base : Nat) (G : iv_G) (sh0 : Nat) (hs0 : sh0 < 23) (x_0 : Int32) (i_x_0 : iv_R (-2147483648) 2147483647 x_0) : Met l yJ0_indexOf_0f7a4 (Cond.code yJ0_indexOf_0f7a4 cJ0_indexOf_0f7a4 2 (some .int) :: iv_W0) ({ frames := 3, cells := 0, slots := 0, locals := 70 }) (iv_Pc iv_sh D classes tys base G [.ref (D.2 100 sh0), .int x_0]) (iv_Qi iv_sh D classes tys base (fun v G' => G = G' ∧ iv_R (-1) 254 v)) 0 0 (iv_A base) := by
  refine iv_head (by decide) (Nat.le_of_ble_eq_true rfl) ?_
  intro p e s m args below meth c ls X hr hlocks hname hB hl
  have X := X
  have hx := X.1.1
  have hb := X.1.2.1
  have hl : lv_has ls 2 [(0, .ref (D.2 100 sh0)), (1, .int x_0)] := hl
  refine lv_aload_n hx hb dJ0_indexOf_0f7a4_0 rfl (lv_at hl 0 rfl) ?_
  refine lv_iload_n hx hb dJ0_indexOf_0f7a4_1 rfl (lv_at hl 1 rfl) ?_
  refine lv_iconst (v := 0) hx hb dJ0_indexOf_0f7a4_2 (by decide) ?_
  refine iv_cKi X k_good k_mf_J0_indexOf_7cf53 k_im_J0_indexOf_7cf53 k_sel_J0_indexOf_7cf53 k_ml_J0_633 hs0 rfl hB (As := [.int x_0, .int 0]) (c_J0_indexOf_7cf53 l D tys base G sh0 hs0 x_0 i_x_0 0 q_0) ⟨rfl, rfl⟩ ⟨Nat.le_of_ble_eq_true rfl, Nat.le_of_ble_eq_true rfl⟩ ⟨Nat.le_of_ble_eq_true rfl, Nat.le_of_ble_eq_true rfl⟩ rfl rfl hl.1 (Nat.le_of_ble_eq_true rfl) dJ0_indexOf_0f7a4_3 (fun x1 G9 H locs hq hB => ?_)
  obtain ⟨rfl, i_x1⟩ := hq
  exact iv_iret X hr hlocks hB ⟨rfl, i_x1⟩ dJ0_indexOf_0f7a4_6
theorem dX10_isDigit_0 : decode cX10_isDigit 0 = .ok (.iload_n 0, 1) := by decide +kernel
theorem dX10_isDigit_1 : decode cX10_isDigit 1 = .ok (.bipush 48, 2) := by decide +kernel
theorem dX10_isDigit_3 : decode cX10_isDigit 3 = .ok (.if_icmp .lt 13, 3) := by decide +kernel
theorem dX10_isDigit_6 : decode cX10_isDigit 6 = .ok (.iload_n 0, 1) := by decide +kernel
theorem dX10_isDigit_7 : decode cX10_isDigit 7 = .ok (.bipush 57, 2) := by decide +kernel
theorem dX10_isDigit_9 : decode cX10_isDigit 9 = .ok (.if_icmp .gt 7, 3) := by decide +kernel
theorem dX10_isDigit_12 : decode cX10_isDigit 12 = .ok (.iconst 1, 1) := by decide +kernel
theorem dX10_isDigit_13 : decode cX10_isDigit 13 = .ok (.goto 4, 3) := by decide +kernel
theorem dX10_isDigit_16 : decode cX10_isDigit 16 = .ok (.iconst 0, 1) := by decide +kernel
theorem dX10_isDigit_17 : decode cX10_isDigit 17 = .ok (.ireturn, 1) := by decide +kernel
set_option maxHeartbeats 4000000 in
set_option maxRecDepth 100000 in
theorem c_X10_isDigit (l : Launch) (D : va_G) (tys : List (ClassId × FieldType)) (base : Nat) (G : iv_G) (x_0 : Int32) (i_x_0 : iv_R (-2147483648) 2147483647 x_0) : Met l yX10_isDigit (Cond.code yX10_isDigit cX10_isDigit 1 (some .boolean) :: iv_W0) ({ frames := 0, cells := 0, slots := 0, locals := 0 }) (iv_Pc iv_sh D classes tys base G [.int x_0]) (iv_Qi iv_sh D classes tys base (fun v G' => G = G' ∧ iv_R 0 1 v ∧ (¬ v = 0 → iv_R 48 57 x_0))) 0 0 (iv_A base) := by
  refine iv_head (by decide) (Nat.le_of_ble_eq_true rfl) ?_
  intro p e s m args below meth c ls X hr hlocks hname hB hl
  have X := X
  have hx := X.1.1
  have hb := X.1.2.1
  have hl : lv_has ls 1 [(0, .int x_0)] := hl
  refine lv_iload_n hx hb dX10_isDigit_0 rfl (lv_at hl 0 rfl) ?_
  refine lv_bipush (v := 48) hx hb dX10_isDigit_1 (by decide) ?_
  refine lv_icmp_lt (tgt := 16) hx hb dX10_isDigit_3 (by decide) (fun c1 => ?_) (fun c1 => ?_)
  · skip
    have i1_x_0 : iv_R (-2147483648) 47 x_0 := (i_x_0.cutHi (n := 47) (iv_lt_r c1 q_48 (by decide)))
    refine lv_iconst (v := 0) hx hb dX10_isDigit_16 (by decide) ?_
    exact iv_zret X hr hlocks hB (q_0.wk (by decide)) ⟨rfl, (q_0.wk (by decide)), fun h => absurd (iv_z q_0) h⟩ dX10_isDigit_17
  · skip
    have i2_x_0 : iv_R 48 2147483647 x_0 := (i_x_0.cutLo (n := 48) (iv_le_l (iv_nlt c1) q_48))
    refine lv_iload_n hx hb dX10_isDigit_6 rfl (lv_at hl 0 rfl) ?_
    refine lv_bipush (v := 57) hx hb dX10_isDigit_7 (by decide) ?_
    refine lv_icmp_gt (tgt := 16) hx hb dX10_isDigit_9 (by decide) (fun c4 => ?_) (fun c4 => ?_)
    · skip
      have i4_x_0 : iv_R 58 2147483647 x_0 := (i2_x_0.cutLo (n := 58) (iv_lt_l c4 q_57 (by decide)))
      refine lv_iconst (v := 0) hx hb dX10_isDigit_16 (by decide) ?_
      exact iv_zret X hr hlocks hB (q_0.wk (by decide)) ⟨rfl, (q_0.wk (by decide)), fun h => absurd (iv_z q_0) h⟩ dX10_isDigit_17
    · skip
      have i5_x_0 : iv_R 48 57 x_0 := (i2_x_0.cutHi (n := 57) (iv_le_r (iv_nlt c4) q_57))
      refine lv_iconst (v := 1) hx hb dX10_isDigit_12 (by decide) ?_
      refine lv_goto (tgt := 17) hx hb dX10_isDigit_13 (by decide) ?_
      exact iv_zret X hr hlocks hB (q_1.wk (by decide)) ⟨rfl, (q_1.wk (by decide)), fun _ => i5_x_0⟩ dX10_isDigit_17
theorem dX10_isLetter_0 : decode cX10_isLetter 0 = .ok (.iload_n 0, 1) := by decide +kernel
theorem dX10_isLetter_1 : decode cX10_isLetter 1 = .ok (.bipush 97, 2) := by decide +kernel
theorem dX10_isLetter_3 : decode cX10_isLetter 3 = .ok (.if_icmp .lt 9, 3) := by decide +kernel
theorem dX10_isLetter_6 : decode cX10_isLetter 6 = .ok (.iload_n 0, 1) := by decide +kernel
theorem dX10_isLetter_7 : decode cX10_isLetter 7 = .ok (.bipush 122, 2) := by decide +kernel
theorem dX10_isLetter_9 : decode cX10_isLetter 9 = .ok (.if_icmp .le 15, 3) := by decide +kernel
theorem dX10_isLetter_12 : decode cX10_isLetter 12 = .ok (.iload_n 0, 1) := by decide +kernel
theorem dX10_isLetter_13 : decode cX10_isLetter 13 = .ok (.bipush 65, 2) := by decide +kernel
theorem dX10_isLetter_15 : decode cX10_isLetter 15 = .ok (.if_icmp .lt 13, 3) := by decide +kernel
theorem dX10_isLetter_18 : decode cX10_isLetter 18 = .ok (.iload_n 0, 1) := by decide +kernel
theorem dX10_isLetter_19 : decode cX10_isLetter 19 = .ok (.bipush 90, 2) := by decide +kernel
theorem dX10_isLetter_21 : decode cX10_isLetter 21 = .ok (.if_icmp .gt 7, 3) := by decide +kernel
theorem dX10_isLetter_24 : decode cX10_isLetter 24 = .ok (.iconst 1, 1) := by decide +kernel
theorem dX10_isLetter_25 : decode cX10_isLetter 25 = .ok (.goto 4, 3) := by decide +kernel
theorem dX10_isLetter_28 : decode cX10_isLetter 28 = .ok (.iconst 0, 1) := by decide +kernel
theorem dX10_isLetter_29 : decode cX10_isLetter 29 = .ok (.ireturn, 1) := by decide +kernel
set_option maxHeartbeats 4000000 in
set_option maxRecDepth 100000 in
theorem c_X10_isLetter (l : Launch) (D : va_G) (tys : List (ClassId × FieldType)) (base : Nat) (G : iv_G) (x_0 : Int32) (i_x_0 : iv_R (-2147483648) 2147483647 x_0) : Met l yX10_isLetter (Cond.code yX10_isLetter cX10_isLetter 1 (some .boolean) :: iv_W0) ({ frames := 0, cells := 0, slots := 0, locals := 0 }) (iv_Pc iv_sh D classes tys base G [.int x_0]) (iv_Qi iv_sh D classes tys base (fun v G' => G = G' ∧ iv_R 0 1 v ∧ (¬ v = 0 → iv_R 65 122 x_0))) 0 0 (iv_A base) := by
  refine iv_head (by decide) (Nat.le_of_ble_eq_true rfl) ?_
  intro p e s m args below meth c ls X hr hlocks hname hB hl
  have X := X
  have hx := X.1.1
  have hb := X.1.2.1
  have hl : lv_has ls 1 [(0, .int x_0)] := hl
  refine lv_iload_n hx hb dX10_isLetter_0 rfl (lv_at hl 0 rfl) ?_
  refine lv_bipush (v := 97) hx hb dX10_isLetter_1 (by decide) ?_
  refine lv_icmp_lt (tgt := 12) hx hb dX10_isLetter_3 (by decide) (fun c1 => ?_) (fun c1 => ?_)
  · skip
    have i1_x_0 : iv_R (-2147483648) 96 x_0 := (i_x_0.cutHi (n := 96) (iv_lt_r c1 q_97 (by decide)))
    refine lv_iload_n hx hb dX10_isLetter_12 rfl (lv_at hl 0 rfl) ?_
    refine lv_bipush (v := 65) hx hb dX10_isLetter_13 (by decide) ?_
    refine lv_icmp_lt (tgt := 28) hx hb dX10_isLetter_15 (by decide) (fun c3 => ?_) (fun c3 => ?_)
    · skip
      have i3_x_0 : iv_R (-2147483648) 64 x_0 := (i1_x_0.cutHi (n := 64) (iv_lt_r c3 q_65 (by decide)))
      refine lv_iconst (v := 0) hx hb dX10_isLetter_28 (by decide) ?_
      exact iv_zret X hr hlocks hB (q_0.wk (by decide)) ⟨rfl, (q_0.wk (by decide)), fun h => absurd (iv_z q_0) h⟩ dX10_isLetter_29
    · skip
      have i4_x_0 : iv_R 65 96 x_0 := (i1_x_0.cutLo (n := 65) (iv_le_l (iv_nlt c3) q_65))
      refine lv_iload_n hx hb dX10_isLetter_18 rfl (lv_at hl 0 rfl) ?_
      refine lv_bipush (v := 90) hx hb dX10_isLetter_19 (by decide) ?_
      refine lv_icmp_gt (tgt := 28) hx hb dX10_isLetter_21 (by decide) (fun c6 => ?_) (fun c6 => ?_)
      · skip
        have i6_x_0 : iv_R 91 96 x_0 := (i4_x_0.cutLo (n := 91) (iv_lt_l c6 q_90 (by decide)))
        refine lv_iconst (v := 0) hx hb dX10_isLetter_28 (by decide) ?_
        exact iv_zret X hr hlocks hB (q_0.wk (by decide)) ⟨rfl, (q_0.wk (by decide)), fun _ => (i6_x_0.wk (by decide))⟩ dX10_isLetter_29
      · skip
        have i7_x_0 : iv_R 65 90 x_0 := (i4_x_0.cutHi (n := 90) (iv_le_r (iv_nlt c6) q_90))
        refine lv_iconst (v := 1) hx hb dX10_isLetter_24 (by decide) ?_
        refine lv_goto (tgt := 29) hx hb dX10_isLetter_25 (by decide) ?_
        exact iv_zret X hr hlocks hB (q_1.wk (by decide)) ⟨rfl, (q_1.wk (by decide)), fun _ => (i7_x_0.wk (by decide))⟩ dX10_isLetter_29
  · skip
    have i8_x_0 : iv_R 97 2147483647 x_0 := (i_x_0.cutLo (n := 97) (iv_le_l (iv_nlt c1) q_97))
    refine lv_iload_n hx hb dX10_isLetter_6 rfl (lv_at hl 0 rfl) ?_
    refine lv_bipush (v := 122) hx hb dX10_isLetter_7 (by decide) ?_
    refine lv_icmp_le (tgt := 24) hx hb dX10_isLetter_9 (by decide) (fun c10 => ?_) (fun c10 => ?_)
    · skip
      have i10_x_0 : iv_R 97 122 x_0 := (i8_x_0.cutHi (n := 122) (iv_le_r c10 q_122))
      refine lv_iconst (v := 1) hx hb dX10_isLetter_24 (by decide) ?_
      refine lv_goto (tgt := 29) hx hb dX10_isLetter_25 (by decide) ?_
      exact iv_zret X hr hlocks hB (q_1.wk (by decide)) ⟨rfl, (q_1.wk (by decide)), fun _ => (i10_x_0.wk (by decide))⟩ dX10_isLetter_29
    · skip
      have i11_x_0 : iv_R 123 2147483647 x_0 := (i8_x_0.cutLo (n := 123) (iv_lt_l (iv_nle c10) q_122 (by decide)))
      refine lv_iload_n hx hb dX10_isLetter_12 rfl (lv_at hl 0 rfl) ?_
      refine lv_bipush (v := 65) hx hb dX10_isLetter_13 (by decide) ?_
      refine lv_icmp_lt (tgt := 28) hx hb dX10_isLetter_15 (by decide) (fun c13 => ?_) (fun c13 => ?_)
      · skip
        exact (i11_x_0.cutHi (n := 64) (iv_lt_r c13 q_65 (by decide))).no (by decide)
      · skip
        refine lv_iload_n hx hb dX10_isLetter_18 rfl (lv_at hl 0 rfl) ?_
        refine lv_bipush (v := 90) hx hb dX10_isLetter_19 (by decide) ?_
        refine lv_icmp_gt (tgt := 28) hx hb dX10_isLetter_21 (by decide) (fun c14 => ?_) (fun c14 => ?_)
        · skip
          refine lv_iconst (v := 0) hx hb dX10_isLetter_28 (by decide) ?_
          exact iv_zret X hr hlocks hB (q_0.wk (by decide)) ⟨rfl, (q_0.wk (by decide)), fun h => absurd (iv_z q_0) h⟩ dX10_isLetter_29
        · skip
          exact (i11_x_0.cutHi (n := 90) (iv_le_r (iv_nlt c14) q_90)).no (by decide)
theorem dX10_goesOn_0 : decode cX10_goesOn 0 = .ok (.iload_n 1, 1) := by decide +kernel
theorem dX10_goesOn_1 : decode cX10_goesOn 1 = .ok (.ifCond .ne 5, 3) := by decide +kernel
theorem dX10_goesOn_4 : decode cX10_goesOn 4 = .ok (.iconst 0, 1) := by decide +kernel
theorem dX10_goesOn_5 : decode cX10_goesOn 5 = .ok (.ireturn, 1) := by decide +kernel
theorem dX10_goesOn_6 : decode cX10_goesOn 6 = .ok (.aload_n 0, 1) := by decide +kernel
theorem dX10_goesOn_7 : decode cX10_goesOn 7 = .ok (.iload_n 1, 1) := by decide +kernel
theorem dX10_goesOn_8 : decode cX10_goesOn 8 = .ok (.iconst 1, 1) := by decide +kernel
theorem dX10_goesOn_9 : decode cX10_goesOn 9 = .ok (.isub, 1) := by decide +kernel
theorem dX10_goesOn_10 : decode cX10_goesOn 10 = .ok (.iaload, 1) := by decide +kernel
theorem dX10_goesOn_11 : decode cX10_goesOn 11 = .ok (.invokestatic 35, 3) := by decide +kernel
theorem dX10_goesOn_14 : decode cX10_goesOn 14 = .ok (.ifCond .eq 16, 3) := by decide +kernel
theorem dX10_goesOn_17 : decode cX10_goesOn 17 = .ok (.aload_n 0, 1) := by decide +kernel
theorem dX10_goesOn_18 : decode cX10_goesOn 18 = .ok (.iload_n 1, 1) := by decide +kernel
theorem dX10_goesOn_19 : decode cX10_goesOn 19 = .ok (.iaload, 1) := by decide +kernel
theorem dX10_goesOn_20 : decode cX10_goesOn 20 = .ok (.invokestatic 35, 3) := by decide +kernel
theorem dX10_goesOn_23 : decode cX10_goesOn 23 = .ok (.ifCond .eq 7, 3) := by decide +kernel
theorem dX10_goesOn_26 : decode cX10_goesOn 26 = .ok (.iconst 1, 1) := by decide +kernel
theorem dX10_goesOn_27 : decode cX10_goesOn 27 = .ok (.goto 4, 3) := by decide +kernel
theorem dX10_goesOn_30 : decode cX10_goesOn 30 = .ok (.iconst 0, 1) := by decide +kernel
theorem dX10_goesOn_31 : decode cX10_goesOn 31 = .ok (.istore_n 2, 1) := by decide +kernel
theorem dX10_goesOn_32 : decode cX10_goesOn 32 = .ok (.iload_n 2, 1) := by decide +kernel
theorem dX10_goesOn_33 : decode cX10_goesOn 33 = .ok (.ifCond .ne 23, 3) := by decide +kernel
theorem dX10_goesOn_36 : decode cX10_goesOn 36 = .ok (.aload_n 0, 1) := by decide +kernel
theorem dX10_goesOn_37 : decode cX10_goesOn 37 = .ok (.iload_n 1, 1) := by decide +kernel
theorem dX10_goesOn_38 : decode cX10_goesOn 38 = .ok (.iconst 1, 1) := by decide +kernel
theorem dX10_goesOn_39 : decode cX10_goesOn 39 = .ok (.isub, 1) := by decide +kernel
theorem dX10_goesOn_40 : decode cX10_goesOn 40 = .ok (.iaload, 1) := by decide +kernel
theorem dX10_goesOn_41 : decode cX10_goesOn 41 = .ok (.invokestatic 39, 3) := by decide +kernel
theorem dX10_goesOn_44 : decode cX10_goesOn 44 = .ok (.ifCond .eq 16, 3) := by decide +kernel
theorem dX10_goesOn_47 : decode cX10_goesOn 47 = .ok (.aload_n 0, 1) := by decide +kernel
theorem dX10_goesOn_48 : decode cX10_goesOn 48 = .ok (.iload_n 1, 1) := by decide +kernel
theorem dX10_goesOn_49 : decode cX10_goesOn 49 = .ok (.iaload, 1) := by decide +kernel
theorem dX10_goesOn_50 : decode cX10_goesOn 50 = .ok (.invokestatic 39, 3) := by decide +kernel
theorem dX10_goesOn_53 : decode cX10_goesOn 53 = .ok (.ifCond .eq 7, 3) := by decide +kernel
theorem dX10_goesOn_56 : decode cX10_goesOn 56 = .ok (.iconst 1, 1) := by decide +kernel
theorem dX10_goesOn_57 : decode cX10_goesOn 57 = .ok (.goto 4, 3) := by decide +kernel
theorem dX10_goesOn_60 : decode cX10_goesOn 60 = .ok (.iconst 0, 1) := by decide +kernel
theorem dX10_goesOn_61 : decode cX10_goesOn 61 = .ok (.ireturn, 1) := by decide +kernel
set_option maxHeartbeats 4000000 in
set_option maxRecDepth 100000 in
theorem c_X10_goesOn (l : Launch) (D : va_G) (tys : List (ClassId × FieldType)) (base : Nat) (G : iv_G) (h1 : Nat) (g_h1 : Nat → Int32) (r_h1 : Nat → Nat) (a_h1 : G h1 = some (45, g_h1, r_h1)) (x_1 : Int32) (i_x_1 : iv_R 0 399 x_1) : Met l yX10_goesOn (Cond.code yX10_goesOn cX10_goesOn 3 (some .boolean) :: iv_W0) ({ frames := 1, cells := 0, slots := 0, locals := 20 }) (iv_Pc iv_sh D classes tys base G [.ref h1, .int x_1]) (iv_Qi iv_sh D classes tys base (fun v G' => G = G' ∧ iv_R 0 1 v ∧ (¬ v = 0 → iv_R 1 399 x_1))) 0 0 (iv_A base) := by
  refine iv_head (by decide) (Nat.le_of_ble_eq_true rfl) ?_
  intro p e s m args below meth c ls X hr hlocks hname hB hl
  have X := X
  have hx := X.1.1
  have hb := X.1.2.1
  have hl : lv_has ls 3 [(0, .ref h1), (1, .int x_1)] := hl
  refine lv_iload_n hx hb dX10_goesOn_0 rfl (lv_at hl 1 rfl) ?_
  refine lv_if_ne (tgt := 6) hx hb dX10_goesOn_1 (by decide) (fun c1 => ?_) (fun c1 => ?_)
  · skip
    have i1_x_1 : iv_R 1 399 x_1 := iv_ne_lo c1 i_x_1 q_0 (by decide)
    refine lv_aload_n hx hb dX10_goesOn_6 rfl (lv_at hl 0 rfl) ?_
    refine lv_iload_n hx hb dX10_goesOn_7 rfl (lv_at hl 1 rfl) ?_
    refine lv_iconst (v := 1) hx hb dX10_goesOn_8 (by decide) ?_
    refine iv_isub hx hb i1_x_1 q_1 (lo := 0) (hi := 398) (by decide) dX10_goesOn_9 (fun x3 e_x3 i_x3 => ?_)
    refine iv_ald X hB a_h1 sh_45 (iv_in i_x3 (by decide)) dX10_goesOn_10 (fun x4 e_x4 i_x4 => ?_)
    refine iv_cSi X k_good k_mf_X10_isLetter k_st_X10_isLetter k_ml_X10_35 hB (As := [.int x4]) (c_X10_isLetter l D tys base G x4 i_x4) ⟨rfl, rfl⟩ ⟨Nat.le_of_ble_eq_true rfl, Nat.le_of_ble_eq_true rfl⟩ ⟨Nat.le_of_ble_eq_true rfl, Nat.le_of_ble_eq_true rfl⟩ rfl rfl hl.1 (Nat.le_of_ble_eq_true rfl) dX10_goesOn_11 (fun x5 G9 H locs hq hB => ?_)
    obtain ⟨rfl, i_x5, hp6⟩ := hq
    refine lv_if_eq (tgt := 30) hx hb dX10_goesOn_14 (by decide) (fun c7 => ?_) (fun c7 => ?_)
    · skip
      have i7_x5 : iv_R 0 0 x5 := (i_x5.cutHi (n := 0) (iv_eq_r c7 q_0).2)
      refine lv_iconst (v := 0) hx hb dX10_goesOn_30 (by decide) ?_
      refine lv_istore_n (lv' := [(2, .int 0), (0, .ref h1), (1, .int x_1)]) hx hb dX10_goesOn_31 rfl hl (by decide) rfl (fun ls hl => ?_)
      refine lv_iload_n hx hb dX10_goesOn_32 rfl (lv_at hl 0 rfl) ?_
      refine lv_if_ne (tgt := 56) hx hb dX10_goesOn_33 (by decide) (fun c9 => ?_) (fun c9 => ?_)
      · skip
        exact absurd rfl c9
      · skip
        refine lv_aload_n hx hb dX10_goesOn_36 rfl (lv_at hl 1 rfl) ?_
        refine lv_iload_n hx hb dX10_goesOn_37 rfl (lv_at hl 2 rfl) ?_
        refine lv_iconst (v := 1) hx hb dX10_goesOn_38 (by decide) ?_
        refine iv_isub hx hb i1_x_1 q_1 (lo := 0) (hi := 398) (by decide) dX10_goesOn_39 (fun x10 e_x10 i_x10 => ?_)
        refine iv_ald X hB a_h1 sh_45 (iv_in i_x10 (by decide)) dX10_goesOn_40 (fun x11 e_x11 i_x11 => ?_)
        refine iv_cSi X k_good k_mf_X10_isDigit k_st_X10_isDigit k_ml_X10_39 hB (As := [.int x11]) (c_X10_isDigit l D tys base G x11 i_x11) ⟨rfl, rfl⟩ ⟨Nat.le_of_ble_eq_true rfl, Nat.le_of_ble_eq_true rfl⟩ ⟨Nat.le_of_ble_eq_true rfl, Nat.le_of_ble_eq_true rfl⟩ rfl rfl hl.1 (Nat.le_of_ble_eq_true rfl) dX10_goesOn_41 (fun x12 G9 H locs hq hB => ?_)
        obtain ⟨rfl, i_x12, hp13⟩ := hq
        refine lv_if_eq (tgt := 60) hx hb dX10_goesOn_44 (by decide) (fun c14 => ?_) (fun c14 => ?_)
        · skip
          have i14_x12 : iv_R 0 0 x12 := (i_x12.cutHi (n := 0) (iv_eq_r c14 q_0).2)
          refine lv_iconst (v := 0) hx hb dX10_goesOn_60 (by decide) ?_
          exact iv_zret X hr hlocks hB (q_0.wk (by decide)) ⟨rfl, (q_0.wk (by decide)), fun _ => i1_x_1⟩ dX10_goesOn_61
        · skip
          have i15_x12 : iv_R 1 1 x12 := iv_ne_lo c14 i_x12 q_0 (by decide)
          have i16_x11 : iv_R 48 57 x11 := ((i_x11.cutLo (n := 48) (hp13 c14).1).cutHi (n := 57) (hp13 c14).2)
          refine lv_aload_n hx hb dX10_goesOn_47 rfl (lv_at hl 1 rfl) ?_
          refine lv_iload_n hx hb dX10_goesOn_48 rfl (lv_at hl 2 rfl) ?_
          refine iv_ald X hB a_h1 sh_45 (iv_in i1_x_1 (by decide)) dX10_goesOn_49 (fun x18 e_x18 i_x18 => ?_)
          refine iv_cSi X k_good k_mf_X10_isDigit k_st_X10_isDigit k_ml_X10_39 hB (As := [.int x18]) (c_X10_isDigit l D tys base G x18 i_x18) ⟨rfl, rfl⟩ ⟨Nat.le_of_ble_eq_true rfl, Nat.le_of_ble_eq_true rfl⟩ ⟨Nat.le_of_ble_eq_true rfl, Nat.le_of_ble_eq_true rfl⟩ rfl rfl hl.1 (Nat.le_of_ble_eq_true rfl) dX10_goesOn_50 (fun x19 G9 H locs hq hB => ?_)
          obtain ⟨rfl, i_x19, hp20⟩ := hq
          refine lv_if_eq (tgt := 60) hx hb dX10_goesOn_53 (by decide) (fun c21 => ?_) (fun c21 => ?_)
          · skip
            have i21_x19 : iv_R 0 0 x19 := (i_x19.cutHi (n := 0) (iv_eq_r c21 q_0).2)
            refine lv_iconst (v := 0) hx hb dX10_goesOn_60 (by decide) ?_
            exact iv_zret X hr hlocks hB (q_0.wk (by decide)) ⟨rfl, (q_0.wk (by decide)), fun _ => i1_x_1⟩ dX10_goesOn_61
          · skip
            have i22_x19 : iv_R 1 1 x19 := iv_ne_lo c21 i_x19 q_0 (by decide)
            have i23_x18 : iv_R 48 57 x18 := ((i_x18.cutLo (n := 48) (hp20 c21).1).cutHi (n := 57) (hp20 c21).2)
            refine lv_iconst (v := 1) hx hb dX10_goesOn_56 (by decide) ?_
            refine lv_goto (tgt := 61) hx hb dX10_goesOn_57 (by decide) ?_
            exact iv_zret X hr hlocks hB (q_1.wk (by decide)) ⟨rfl, (q_1.wk (by decide)), fun _ => i1_x_1⟩ dX10_goesOn_61
    · skip
      have i24_x5 : iv_R 1 1 x5 := iv_ne_lo c7 i_x5 q_0 (by decide)
      have i25_x4 : iv_R 65 122 x4 := ((i_x4.cutLo (n := 65) (hp6 c7).1).cutHi (n := 122) (hp6 c7).2)
      refine lv_aload_n hx hb dX10_goesOn_17 rfl (lv_at hl 0 rfl) ?_
      refine lv_iload_n hx hb dX10_goesOn_18 rfl (lv_at hl 1 rfl) ?_
      refine iv_ald X hB a_h1 sh_45 (iv_in i1_x_1 (by decide)) dX10_goesOn_19 (fun x27 e_x27 i_x27 => ?_)
      refine iv_cSi X k_good k_mf_X10_isLetter k_st_X10_isLetter k_ml_X10_35 hB (As := [.int x27]) (c_X10_isLetter l D tys base G x27 i_x27) ⟨rfl, rfl⟩ ⟨Nat.le_of_ble_eq_true rfl, Nat.le_of_ble_eq_true rfl⟩ ⟨Nat.le_of_ble_eq_true rfl, Nat.le_of_ble_eq_true rfl⟩ rfl rfl hl.1 (Nat.le_of_ble_eq_true rfl) dX10_goesOn_20 (fun x28 G9 H locs hq hB => ?_)
      obtain ⟨rfl, i_x28, hp29⟩ := hq
      refine lv_if_eq (tgt := 30) hx hb dX10_goesOn_23 (by decide) (fun c30 => ?_) (fun c30 => ?_)
      · skip
        have i30_x28 : iv_R 0 0 x28 := (i_x28.cutHi (n := 0) (iv_eq_r c30 q_0).2)
        refine lv_iconst (v := 0) hx hb dX10_goesOn_30 (by decide) ?_
        refine lv_istore_n (lv' := [(2, .int 0), (0, .ref h1), (1, .int x_1)]) hx hb dX10_goesOn_31 rfl hl (by decide) rfl (fun ls hl => ?_)
        refine lv_iload_n hx hb dX10_goesOn_32 rfl (lv_at hl 0 rfl) ?_
        refine lv_if_ne (tgt := 56) hx hb dX10_goesOn_33 (by decide) (fun c32 => ?_) (fun c32 => ?_)
        · skip
          exact absurd rfl c32
        · skip
          refine lv_aload_n hx hb dX10_goesOn_36 rfl (lv_at hl 1 rfl) ?_
          refine lv_iload_n hx hb dX10_goesOn_37 rfl (lv_at hl 2 rfl) ?_
          refine lv_iconst (v := 1) hx hb dX10_goesOn_38 (by decide) ?_
          refine iv_isub hx hb i1_x_1 q_1 (lo := 0) (hi := 398) (by decide) dX10_goesOn_39 (fun x33 e_x33 i_x33 => ?_)
          refine iv_ald X hB a_h1 sh_45 (iv_in i_x33 (by decide)) dX10_goesOn_40 (fun x34 e_x34 i_x34 => ?_)
          refine iv_cSi X k_good k_mf_X10_isDigit k_st_X10_isDigit k_ml_X10_39 hB (As := [.int x34]) (c_X10_isDigit l D tys base G x34 i_x34) ⟨rfl, rfl⟩ ⟨Nat.le_of_ble_eq_true rfl, Nat.le_of_ble_eq_true rfl⟩ ⟨Nat.le_of_ble_eq_true rfl, Nat.le_of_ble_eq_true rfl⟩ rfl rfl hl.1 (Nat.le_of_ble_eq_true rfl) dX10_goesOn_41 (fun x35 G9 H locs hq hB => ?_)
          obtain ⟨rfl, i_x35, hp36⟩ := hq
          refine lv_if_eq (tgt := 60) hx hb dX10_goesOn_44 (by decide) (fun c37 => ?_) (fun c37 => ?_)
          · skip
            have i37_x35 : iv_R 0 0 x35 := (i_x35.cutHi (n := 0) (iv_eq_r c37 q_0).2)
            refine lv_iconst (v := 0) hx hb dX10_goesOn_60 (by decide) ?_
            exact iv_zret X hr hlocks hB (q_0.wk (by decide)) ⟨rfl, (q_0.wk (by decide)), fun _ => i1_x_1⟩ dX10_goesOn_61
          · skip
            have i38_x35 : iv_R 1 1 x35 := iv_ne_lo c37 i_x35 q_0 (by decide)
            have i39_x34 : iv_R 48 57 x34 := ((i_x34.cutLo (n := 48) (hp36 c37).1).cutHi (n := 57) (hp36 c37).2)
            refine lv_aload_n hx hb dX10_goesOn_47 rfl (lv_at hl 1 rfl) ?_
            refine lv_iload_n hx hb dX10_goesOn_48 rfl (lv_at hl 2 rfl) ?_
            refine iv_ald X hB a_h1 sh_45 (iv_in i1_x_1 (by decide)) dX10_goesOn_49 (fun x41 e_x41 i_x41 => ?_)
            refine iv_cSi X k_good k_mf_X10_isDigit k_st_X10_isDigit k_ml_X10_39 hB (As := [.int x41]) (c_X10_isDigit l D tys base G x41 i_x41) ⟨rfl, rfl⟩ ⟨Nat.le_of_ble_eq_true rfl, Nat.le_of_ble_eq_true rfl⟩ ⟨Nat.le_of_ble_eq_true rfl, Nat.le_of_ble_eq_true rfl⟩ rfl rfl hl.1 (Nat.le_of_ble_eq_true rfl) dX10_goesOn_50 (fun x42 G9 H locs hq hB => ?_)
            obtain ⟨rfl, i_x42, hp43⟩ := hq
            refine lv_if_eq (tgt := 60) hx hb dX10_goesOn_53 (by decide) (fun c44 => ?_) (fun c44 => ?_)
            · skip
              have i44_x42 : iv_R 0 0 x42 := (i_x42.cutHi (n := 0) (iv_eq_r c44 q_0).2)
              refine lv_iconst (v := 0) hx hb dX10_goesOn_60 (by decide) ?_
              exact iv_zret X hr hlocks hB (q_0.wk (by decide)) ⟨rfl, (q_0.wk (by decide)), fun _ => i1_x_1⟩ dX10_goesOn_61
            · skip
              have i45_x42 : iv_R 1 1 x42 := iv_ne_lo c44 i_x42 q_0 (by decide)
              have i46_x41 : iv_R 48 57 x41 := ((i_x41.cutLo (n := 48) (hp43 c44).1).cutHi (n := 57) (hp43 c44).2)
              refine lv_iconst (v := 1) hx hb dX10_goesOn_56 (by decide) ?_
              refine lv_goto (tgt := 61) hx hb dX10_goesOn_57 (by decide) ?_
              exact iv_zret X hr hlocks hB (q_1.wk (by decide)) ⟨rfl, (q_1.wk (by decide)), fun _ => i1_x_1⟩ dX10_goesOn_61
      · skip
        have i47_x28 : iv_R 1 1 x28 := iv_ne_lo c30 i_x28 q_0 (by decide)
        have i48_x27 : iv_R 65 122 x27 := ((i_x27.cutLo (n := 65) (hp29 c30).1).cutHi (n := 122) (hp29 c30).2)
        refine lv_iconst (v := 1) hx hb dX10_goesOn_26 (by decide) ?_
        refine lv_goto (tgt := 31) hx hb dX10_goesOn_27 (by decide) ?_
        refine lv_istore_n (lv' := [(2, .int 1), (0, .ref h1), (1, .int x_1)]) hx hb dX10_goesOn_31 rfl hl (by decide) rfl (fun ls hl => ?_)
        refine lv_iload_n hx hb dX10_goesOn_32 rfl (lv_at hl 0 rfl) ?_
        refine lv_if_ne (tgt := 56) hx hb dX10_goesOn_33 (by decide) (fun c50 => ?_) (fun c50 => ?_)
        · skip
          refine lv_iconst (v := 1) hx hb dX10_goesOn_56 (by decide) ?_
          refine lv_goto (tgt := 61) hx hb dX10_goesOn_57 (by decide) ?_
          exact iv_zret X hr hlocks hB (q_1.wk (by decide)) ⟨rfl, (q_1.wk (by decide)), fun _ => i1_x_1⟩ dX10_goesOn_61
        · skip
          exact (q_1.cutHi (n := 0) (iv_eq_r c50 q_0).2).no (by decide)
  · skip
    have i50_x_1 : iv_R 0 0 x_1 := (i_x_1.cutHi (n := 0) (iv_eq_r c1 q_0).2)
    refine lv_iconst (v := 0) hx hb dX10_goesOn_4 (by decide) ?_
    exact iv_zret X hr hlocks hB (q_0.wk (by decide)) ⟨rfl, (q_0.wk (by decide)), fun h => absurd (iv_z q_0) h⟩ dX10_goesOn_5
theorem dX10_behindToken_0 : decode cX10_behindToken 0 = .ok (.iload_n 1, 1) := by decide +kernel
theorem dX10_behindToken_1 : decode cX10_behindToken 1 = .ok (.iconst 1, 1) := by decide +kernel
theorem dX10_behindToken_2 : decode cX10_behindToken 2 = .ok (.iadd, 1) := by decide +kernel
theorem dX10_behindToken_3 : decode cX10_behindToken 3 = .ok (.istore_n 3, 1) := by decide +kernel
theorem dX10_behindToken_4 : decode cX10_behindToken 4 = .ok (.iload_n 3, 1) := by decide +kernel
theorem dX10_behindToken_5 : decode cX10_behindToken 5 = .ok (.iload_n 2, 1) := by decide +kernel
theorem dX10_behindToken_6 : decode cX10_behindToken 6 = .ok (.if_icmp .ge 17, 3) := by decide +kernel
theorem dX10_behindToken_9 : decode cX10_behindToken 9 = .ok (.aload_n 0, 1) := by decide +kernel
theorem dX10_behindToken_10 : decode cX10_behindToken 10 = .ok (.iload_n 3, 1) := by decide +kernel
theorem dX10_behindToken_11 : decode cX10_behindToken 11 = .ok (.invokestatic 21, 3) := by decide +kernel
theorem dX10_behindToken_14 : decode cX10_behindToken 14 = .ok (.ifCond .eq 9, 3) := by decide +kernel
theorem dX10_behindToken_17 : decode cX10_behindToken 17 = .ok (.iinc 3 1, 3) := by decide +kernel
theorem dX10_behindToken_20 : decode cX10_behindToken 20 = .ok (.goto (-16), 3) := by decide +kernel
theorem dX10_behindToken_23 : decode cX10_behindToken 23 = .ok (.iload_n 3, 1) := by decide +kernel
theorem dX10_behindToken_24 : decode cX10_behindToken 24 = .ok (.ireturn, 1) := by decide +kernel
set_option maxHeartbeats 4000000 in
set_option maxRecDepth 100000 in
theorem c_X10_behindToken (l : Launch) (D : va_G) (tys : List (ClassId × FieldType)) (base : Nat) (G : iv_G) (h1 : Nat) (g_h1 : Nat → Int32) (r_h1 : Nat → Nat) (a_h1 : G h1 = some (45, g_h1, r_h1)) (x_1 : Int32) (i_x_1 : iv_R 0 399 x_1) (x_2 : Int32) (i_x_2 : iv_R 1 400 x_2) : Met l yX10_behindToken (Cond.code yX10_behindToken cX10_behindToken 4 (some .int) :: iv_W0) ({ frames := 2, cells := 0, slots := 0, locals := 42 }) (iv_Pc iv_sh D classes tys base G [.ref h1, .int x_1, .int x_2]) (iv_Qi iv_sh D classes tys base (fun v G' => G = G' ∧ iv_R 1 400 v)) 0 0 (iv_A base) := by
  refine iv_head (by decide) (Nat.le_of_ble_eq_true rfl) ?_
  intro p e s m args below meth c ls X hr hlocks hname hB hl
  have X := X
  have hx := X.1.1
  have hb := X.1.2.1
  have hl : lv_has ls 4 [(0, .ref h1), (1, .int x_1), (2, .int x_2)] := hl
  refine lv_iload_n hx hb dX10_behindToken_0 rfl (lv_at hl 1 rfl) ?_
  refine lv_iconst (v := 1) hx hb dX10_behindToken_1 (by decide) ?_
  refine iv_iadd hx hb i_x_1 q_1 (lo := 1) (hi := 400) (by decide) dX10_behindToken_2 (fun x1 e_x1 i_x1 => ?_)
  refine lv_istore_n (lv' := [(3, .int x1), (0, .ref h1), (1, .int x_1), (2, .int x_2)]) hx hb dX10_behindToken_3 rfl hl (by decide) rfl (fun ls hl => ?_)
  have L_4 : ∀ (n_4 : Nat) (H : Heap) (locs : List Loc) (hB : iv_B iv_sh D classes tys base G s.heap H locs) (x2 : Int32) (i_x2 : iv_R 1 400 x2) (hn_4 : (401 - x2.toInt).toNat < n_4) (ls : Array Slot) (hl : lv_has ls 4 [(3, .int x2), (0, .ref h1), (2, .int x_2)]), W p l e ({ frames := 2, cells := 0, slots := 0, locals := 42 } : Room) s m args below meth c H locs 0 0 (MQ below (iv_Qi iv_sh D classes tys base (fun v G' => G = G' ∧ iv_R 1 400 v)) args s 0 0 (iv_A base)) (F0 m 4 ls []) := by
    intro n_4
    induction n_4 with
    | zero => intro H locs hB x2 i_x2 hn_4 ls hl; exact absurd hn_4 (Nat.not_lt_zero _)
    | succ n_4 ih_4 =>
      intro H locs hB x2 i_x2 hn_4 ls hl
      refine lv_iload_n hx hb dX10_behindToken_4 rfl (lv_at hl 0 rfl) ?_
      refine lv_iload_n hx hb dX10_behindToken_5 rfl (lv_at hl 2 rfl) ?_
      refine lv_icmp_ge (tgt := 23) hx hb dX10_behindToken_6 (by decide) (fun c3 => ?_) (fun c3 => ?_)
      · skip
        refine lv_iload_n hx hb dX10_behindToken_23 rfl (lv_at hl 0 rfl) ?_
        exact iv_iret X hr hlocks hB ⟨rfl, i_x2⟩ dX10_behindToken_24
      · skip
        have i3_x2 : iv_R 1 399 x2 := (i_x2.cutHi (n := 399) (iv_lt_r (iv_nle c3) i_x_2 (by decide)))
        have i4_x_2 : iv_R 2 400 x_2 := (i_x_2.cutLo (n := 2) (iv_lt_l (iv_nle c3) i_x2 (by decide)))
        refine lv_aload_n hx hb dX10_behindToken_9 rfl (lv_at hl 1 rfl) ?_
        refine lv_iload_n hx hb dX10_behindToken_10 rfl (lv_at hl 0 rfl) ?_
        refine iv_cSi X k_good k_mf_X10_goesOn k_st_X10_goesOn k_ml_X10_21 hB (As := [.ref h1, .int x2]) (c_X10_goesOn l D tys base G h1 g_h1 r_h1 a_h1 x2 (i3_x2.wk (by decide))) ⟨rfl, rfl⟩ ⟨Nat.le_of_ble_eq_true rfl, Nat.le_of_ble_eq_true rfl⟩ ⟨Nat.le_of_ble_eq_true rfl, Nat.le_of_ble_eq_true rfl⟩ rfl rfl hl.1 (Nat.le_of_ble_eq_true rfl) dX10_behindToken_11 (fun x6 G9 H locs hq hB => ?_)
        obtain ⟨rfl, i_x6, hp7⟩ := hq
        refine lv_if_eq (tgt := 23) hx hb dX10_behindToken_14 (by decide) (fun c8 => ?_) (fun c8 => ?_)
        · skip
          have i8_x6 : iv_R 0 0 x6 := (i_x6.cutHi (n := 0) (iv_eq_r c8 q_0).2)
          refine lv_iload_n hx hb dX10_behindToken_23 rfl (lv_at hl 0 rfl) ?_
          exact iv_iret X hr hlocks hB ⟨rfl, (i3_x2.wk (by decide))⟩ dX10_behindToken_24
        · skip
          have i9_x6 : iv_R 1 1 x6 := iv_ne_lo c8 i_x6 q_0 (by decide)
          refine iv_iinc hx hb i3_x2 (lo := 2) (hi := 400) (by decide) dX10_behindToken_17 hl (k := 0) rfl (by decide) (fun x11 ls e_x11 i_x11 hl => ?_)
          have hl : lv_has ls 4 [(3, .int x11), (0, .ref h1), (2, .int x_2)] := hl
          refine lv_goto (tgt := 4) hx hb dX10_behindToken_20 (by decide) ?_
          exact ih_4 _ _ hB x11 (i_x11.wk (by decide)) (iv_mup (c := 1) i_x2 (by decide) (by decide) (by omega) hn_4) _ (lv_sub hl [0, 1, 2] rfl)
  exact L_4 _ _ _ hB x1 i_x1 (Nat.lt_succ_self _) _ (lv_sub hl [0, 1, 3] rfl)
theorem dX10_wordOf_0 : decode cX10_wordOf 0 = .ok (.sipush 128, 3) := by decide +kernel
theorem dX10_wordOf_3 : decode cX10_wordOf 3 = .ok (.istore_n 3, 1) := by decide +kernel
theorem dX10_wordOf_4 : decode cX10_wordOf 4 = .ok (.iload_n 1, 1) := by decide +kernel
theorem dX10_wordOf_5 : decode cX10_wordOf 5 = .ok (.istore 4, 2) := by decide +kernel
theorem dX10_wordOf_7 : decode cX10_wordOf 7 = .ok (.iconst 1, 1) := by decide +kernel
theorem dX10_wordOf_8 : decode cX10_wordOf 8 = .ok (.istore 5, 2) := by decide +kernel
theorem dX10_wordOf_10 : decode cX10_wordOf 10 = .ok (.iconst 0, 1) := by decide +kernel
theorem dX10_wordOf_11 : decode cX10_wordOf 11 = .ok (.istore 6, 2) := by decide +kernel
theorem dX10_wordOf_13 : decode cX10_wordOf 13 = .ok (.iload 6, 2) := by decide +kernel
theorem dX10_wordOf_15 : decode cX10_wordOf 15 = .ok (.ldc 53, 2) := by decide +kernel
theorem dX10_wordOf_17 : decode cX10_wordOf 17 = .ok (.invokevirtual 55, 3) := by decide +kernel
theorem dX10_wordOf_20 : decode cX10_wordOf 20 = .ok (.if_icmp .ge 80, 3) := by decide +kernel
theorem dX10_wordOf_23 : decode cX10_wordOf 23 = .ok (.ldc 53, 2) := by decide +kernel
theorem dX10_wordOf_25 : decode cX10_wordOf 25 = .ok (.iload 6, 2) := by decide +kernel
theorem dX10_wordOf_27 : decode cX10_wordOf 27 = .ok (.invokevirtual 59, 3) := by decide +kernel
theorem dX10_wordOf_30 : decode cX10_wordOf 30 = .ok (.istore 7, 2) := by decide +kernel
theorem dX10_wordOf_32 : decode cX10_wordOf 32 = .ok (.iload 7, 2) := by decide +kernel
theorem dX10_wordOf_34 : decode cX10_wordOf 34 = .ok (.bipush 32, 2) := by decide +kernel
theorem dX10_wordOf_36 : decode cX10_wordOf 36 = .ok (.if_icmp .eq 36, 3) := by decide +kernel
theorem dX10_wordOf_39 : decode cX10_wordOf 39 = .ok (.iload 5, 2) := by decide +kernel
theorem dX10_wordOf_41 : decode cX10_wordOf 41 = .ok (.ifCond .eq 22, 3) := by decide +kernel
theorem dX10_wordOf_44 : decode cX10_wordOf 44 = .ok (.iload 4, 2) := by decide +kernel
theorem dX10_wordOf_46 : decode cX10_wordOf 46 = .ok (.iload_n 2, 1) := by decide +kernel
theorem dX10_wordOf_47 : decode cX10_wordOf 47 = .ok (.if_icmp .ge 16, 3) := by decide +kernel
theorem dX10_wordOf_50 : decode cX10_wordOf 50 = .ok (.aload_n 0, 1) := by decide +kernel
theorem dX10_wordOf_51 : decode cX10_wordOf 51 = .ok (.iload 4, 2) := by decide +kernel
theorem dX10_wordOf_53 : decode cX10_wordOf 53 = .ok (.iaload, 1) := by decide +kernel
theorem dX10_wordOf_54 : decode cX10_wordOf 54 = .ok (.iload 7, 2) := by decide +kernel
theorem dX10_wordOf_56 : decode cX10_wordOf 56 = .ok (.if_icmp .ne 7, 3) := by decide +kernel
theorem dX10_wordOf_59 : decode cX10_wordOf 59 = .ok (.iconst 1, 1) := by decide +kernel
theorem dX10_wordOf_60 : decode cX10_wordOf 60 = .ok (.goto 4, 3) := by decide +kernel
theorem dX10_wordOf_63 : decode cX10_wordOf 63 = .ok (.iconst 0, 1) := by decide +kernel
theorem dX10_wordOf_64 : decode cX10_wordOf 64 = .ok (.istore 5, 2) := by decide +kernel
theorem dX10_wordOf_66 : decode cX10_wordOf 66 = .ok (.iinc 4 1, 3) := by decide +kernel
theorem dX10_wordOf_69 : decode cX10_wordOf 69 = .ok (.goto 25, 3) := by decide +kernel
theorem dX10_wordOf_72 : decode cX10_wordOf 72 = .ok (.iload 5, 2) := by decide +kernel
theorem dX10_wordOf_74 : decode cX10_wordOf 74 = .ok (.ifCond .eq 11, 3) := by decide +kernel
theorem dX10_wordOf_77 : decode cX10_wordOf 77 = .ok (.iload 4, 2) := by decide +kernel
theorem dX10_wordOf_79 : decode cX10_wordOf 79 = .ok (.iload_n 2, 1) := by decide +kernel
theorem dX10_wordOf_80 : decode cX10_wordOf 80 = .ok (.if_icmp .ne 5, 3) := by decide +kernel
theorem dX10_wordOf_83 : decode cX10_wordOf 83 = .ok (.iload_n 3, 1) := by decide +kernel
theorem dX10_wordOf_84 : decode cX10_wordOf 84 = .ok (.ireturn, 1) := by decide +kernel
theorem dX10_wordOf_85 : decode cX10_wordOf 85 = .ok (.iinc 3 1, 3) := by decide +kernel
theorem dX10_wordOf_88 : decode cX10_wordOf 88 = .ok (.iload_n 1, 1) := by decide +kernel
theorem dX10_wordOf_89 : decode cX10_wordOf 89 = .ok (.istore 4, 2) := by decide +kernel
theorem dX10_wordOf_91 : decode cX10_wordOf 91 = .ok (.iconst 1, 1) := by decide +kernel
theorem dX10_wordOf_92 : decode cX10_wordOf 92 = .ok (.istore 5, 2) := by decide +kernel
theorem dX10_wordOf_94 : decode cX10_wordOf 94 = .ok (.iinc 6 1, 3) := by decide +kernel
theorem dX10_wordOf_97 : decode cX10_wordOf 97 = .ok (.goto (-84), 3) := by decide +kernel
theorem dX10_wordOf_100 : decode cX10_wordOf 100 = .ok (.iconst 1, 1) := by decide +kernel
theorem dX10_wordOf_101 : decode cX10_wordOf 101 = .ok (.ireturn, 1) := by decide +kernel
set_option maxHeartbeats 4000000 in
set_option maxRecDepth 100000 in
theorem c_X10_wordOf (l : Launch) (D : va_G) (tys : List (ClassId × FieldType)) (base : Nat) (G : iv_G) (h1 : Nat) (g_h1 : Nat → Int32) (r_h1 : Nat → Nat) (a_h1 : G h1 = some (45, g_h1, r_h1)) (x_1 : Int32) (i_x_1 : iv_R 0 399 x_1) (x_2 : Int32) (i_x_2 : iv_R 1 400 x_2) : Met l yX10_wordOf (Cond.code yX10_wordOf cX10_wordOf 8 (some .int) :: iv_W0) ({ frames := 4, cells := 0, slots := 0, locals := 85 }) (iv_Pc iv_sh D classes tys base G [.ref h1, .int x_1, .int x_2]) (iv_Qi iv_sh D classes tys base (fun v G' => G = G' ∧ iv_R (-2147483648) 2147483647 v)) 0 0 (iv_A base) := by
  refine iv_head (by decide) (Nat.le_of_ble_eq_true rfl) ?_
  intro p e s m args below meth c ls X hr hlocks hname hB hl
  have X := X
  have hx := X.1.1
  have hb := X.1.2.1
  have hl : lv_has ls 8 [(0, .ref h1), (1, .int x_1), (2, .int x_2)] := hl
  refine lv_sipush (v := 128) hx hb dX10_wordOf_0 (by decide) ?_
  refine lv_istore_n (lv' := [(3, .int 128), (0, .ref h1), (1, .int x_1), (2, .int x_2)]) hx hb dX10_wordOf_3 rfl hl (by decide) rfl (fun ls hl => ?_)
  refine lv_iload_n hx hb dX10_wordOf_4 rfl (lv_at hl 2 rfl) ?_
  refine lv_istore (lv' := [(4, .int x_1), (3, .int 128), (0, .ref h1), (1, .int x_1), (2, .int x_2)]) hx hb dX10_wordOf_5 hl (by decide) rfl (fun ls hl => ?_)
  refine lv_iconst (v := 1) hx hb dX10_wordOf_7 (by decide) ?_
  refine lv_istore (lv' := [(5, .int 1), (4, .int x_1), (3, .int 128), (0, .ref h1), (1, .int x_1), (2, .int x_2)]) hx hb dX10_wordOf_8 hl (by decide) rfl (fun ls hl => ?_)
  refine lv_iconst (v := 0) hx hb dX10_wordOf_10 (by decide) ?_
  refine lv_istore (lv' := [(6, .int 0), (5, .int 1), (4, .int x_1), (3, .int 128), (0, .ref h1), (1, .int x_1), (2, .int x_2)]) hx hb dX10_wordOf_11 hl (by decide) rfl (fun ls hl => ?_)
  have L_13 : ∀ (n_13 : Nat) (H : Heap) (locs : List Loc) (hB : iv_B iv_sh D classes tys base G s.heap H locs) (x1 : Int32) (i_x1 : iv_R (-2147483648) 2147483647 x1) (x2 : Int32) (i_x2 : iv_R 0 700 x2) (x3 : Int32) (i_x3 : iv_R 0 1 x3) (x4 : Int32) (i_x4 : iv_R 0 255 x4) (hn_13 : (256 - x4.toInt).toNat < n_13) (inv_13 : 0 ≤ x2.toInt ∧ x2.toInt ≤ 400 + x4.toInt ∧ 0 ≤ x4.toInt) (ls : Array Slot) (hl : lv_has ls 8 [(6, .int x4), (5, .int x3), (4, .int x2), (3, .int x1), (0, .ref h1), (1, .int x_1), (2, .int x_2)]), W p l e ({ frames := 4, cells := 0, slots := 0, locals := 85 } : Room) s m args below meth c H locs 0 0 (MQ below (iv_Qi iv_sh D classes tys base (fun v G' => G = G' ∧ iv_R (-2147483648) 2147483647 v)) args s 0 0 (iv_A base)) (F0 m 13 ls []) := by
    intro n_13
    induction n_13 with
    | zero => intro H locs hB x1 i_x1 x2 i_x2 x3 i_x3 x4 i_x4 hn_13 inv_13 ls hl; exact absurd hn_13 (Nat.not_lt_zero _)
    | succ n_13 ih_13 =>
      intro H locs hB x1 i_x1 x2 i_x2 x3 i_x3 x4 i_x4 hn_13 inv_13 ls hl
      refine lv_iload hx hb dX10_wordOf_13 (lv_at hl 0 rfl) ?_
      refine iv_sldc X (i := 0) rfl dX10_wordOf_15 ?_
      refine iv_cKi X k_good k_mf_J0_length_8abf5 k_im_J0_length_8abf5 k_sel_J0_length_8abf5 k_ml_X10_55 (by decide) rfl hB (As := []) (c_J0_length_8abf5 l D tys base G 0 (by decide)) ⟨rfl, rfl⟩ ⟨Nat.le_of_ble_eq_true rfl, Nat.le_of_ble_eq_true rfl⟩ ⟨Nat.le_of_ble_eq_true rfl, Nat.le_of_ble_eq_true rfl⟩ rfl rfl hl.1 (Nat.le_of_ble_eq_true rfl) dX10_wordOf_17 (fun x5 G9 H locs hq hB => ?_)
      obtain ⟨rfl, i_x5, e_x5⟩ := hq
      refine lv_icmp_ge (tgt := 100) hx hb dX10_wordOf_20 (by decide) (fun c6 => ?_) (fun c6 => ?_)
      · skip
        refine lv_iconst (v := 1) hx hb dX10_wordOf_100 (by decide) ?_
        exact iv_iret X hr hlocks hB ⟨rfl, (q_1.wk (by decide))⟩ dX10_wordOf_101
      · skip
        have i6_x4 : iv_R 0 254 x4 := (i_x4.cutHi (n := 254) (iv_lt_r (iv_nle c6) i_x5 (by decide)))
        have i7_x5 : iv_R 1 255 x5 := (i_x5.cutLo (n := 1) (iv_lt_l (iv_nle c6) i_x4 (by decide)))
        refine iv_sldc X (i := 0) rfl dX10_wordOf_23 ?_
        refine lv_iload hx hb dX10_wordOf_25 (lv_at hl 0 rfl) ?_
        refine iv_cKi X k_good k_mf_J0_charAt_5068e k_im_J0_charAt_5068e k_sel_J0_charAt_5068e k_ml_X10_59 (by decide) rfl hB (As := [.int x4]) (c_J0_charAt_5068e l D tys base G 0 (by decide) x4 i6_x4 (iv_ltU (iv_nle c6) (Int.le_of_eq e_x5))) ⟨rfl, rfl⟩ ⟨Nat.le_of_ble_eq_true rfl, Nat.le_of_ble_eq_true rfl⟩ ⟨Nat.le_of_ble_eq_true rfl, Nat.le_of_ble_eq_true rfl⟩ rfl rfl hl.1 (Nat.le_of_ble_eq_true rfl) dX10_wordOf_27 (fun x9 G9 H locs hq hB => ?_)
        obtain ⟨rfl, i_x9⟩ := hq
        refine lv_istore (lv' := [(7, .int x9), (6, .int x4), (5, .int x3), (4, .int x2), (3, .int x1), (0, .ref h1), (1, .int x_1), (2, .int x_2)]) hx hb dX10_wordOf_30 hl (by decide) rfl (fun ls hl => ?_)
        refine lv_iload hx hb dX10_wordOf_32 (lv_at hl 0 rfl) ?_
        refine lv_bipush (v := 32) hx hb dX10_wordOf_34 (by decide) ?_
        refine lv_icmp_eq (tgt := 72) hx hb dX10_wordOf_36 (by decide) (fun c10 => ?_) (fun c10 => ?_)
        · skip
          have i10_x9 : iv_R 32 32 x9 := ((i_x9.cutLo (n := 32) (iv_eq_r c10 q_32).1).cutHi (n := 32) (iv_eq_r c10 q_32).2)
          refine lv_iload hx hb dX10_wordOf_72 (lv_at hl 2 rfl) ?_
          refine lv_if_eq (tgt := 85) hx hb dX10_wordOf_74 (by decide) (fun c12 => ?_) (fun c12 => ?_)
          · skip
            have i12_x3 : iv_R 0 0 x3 := (i_x3.cutHi (n := 0) (iv_eq_r c12 q_0).2)
            obtain ⟨x14, e_x14⟩ : ∃ y : Int32, y = x1 + Int32.ofInt 1 := ⟨_, rfl⟩
            refine lv_iinc (v := x14) (lv' := [(3, .int x14), (7, .int x9), (6, .int x4), (5, .int x3), (4, .int x2), (0, .ref h1), (1, .int x_1), (2, .int x_2)]) hx hb dX10_wordOf_85 hl (k := 4) rfl e_x14.symm (by decide) rfl (fun ls hl => ?_)
            have i_x14 := iv_R.all x14
            refine lv_iload_n hx hb dX10_wordOf_88 rfl (lv_at hl 6 rfl) ?_
            refine lv_istore (lv' := [(4, .int x_1), (3, .int x14), (7, .int x9), (6, .int x4), (5, .int x3), (0, .ref h1), (1, .int x_1), (2, .int x_2)]) hx hb dX10_wordOf_89 hl (by decide) rfl (fun ls hl => ?_)
            refine lv_iconst (v := 1) hx hb dX10_wordOf_91 (by decide) ?_
            refine lv_istore (lv' := [(5, .int 1), (4, .int x_1), (3, .int x14), (7, .int x9), (6, .int x4), (0, .ref h1), (1, .int x_1), (2, .int x_2)]) hx hb dX10_wordOf_92 hl (by decide) rfl (fun ls hl => ?_)
            refine iv_iinc hx hb i6_x4 (lo := 1) (hi := 255) (by decide) dX10_wordOf_94 hl (k := 4) rfl (by decide) (fun x15 ls e_x15 i_x15 hl => ?_)
            have hl : lv_has ls 8 [(6, .int x15), (5, .int 1), (4, .int x_1), (3, .int x14), (7, .int x9), (0, .ref h1), (1, .int x_1), (2, .int x_2)] := hl
            refine lv_goto (tgt := 13) hx hb dX10_wordOf_97 (by decide) ?_
            exact ih_13 _ _ hB x14 i_x14 x_1 (i_x_1.wk (by decide)) 1 (q_1.wk (by decide)) x15 (i_x15.wk (by decide)) (iv_mup (c := 1) i_x4 (by decide) (by decide) (by omega) hn_13) ⟨by have w1 := i_x_1.1; omega, by have w1 := i_x_1.2; omega, by omega⟩ _ (lv_sub hl [0, 1, 2, 3, 5, 6, 7] rfl)
          · skip
            have i15_x3 : iv_R 1 1 x3 := iv_ne_lo c12 i_x3 q_0 (by decide)
            refine lv_iload hx hb dX10_wordOf_77 (lv_at hl 3 rfl) ?_
            refine lv_iload_n hx hb dX10_wordOf_79 rfl (lv_at hl 7 rfl) ?_
            refine lv_icmp_ne (tgt := 85) hx hb dX10_wordOf_80 (by decide) (fun c17 => ?_) (fun c17 => ?_)
            · skip
              obtain ⟨x18, e_x18⟩ : ∃ y : Int32, y = x1 + Int32.ofInt 1 := ⟨_, rfl⟩
              refine lv_iinc (v := x18) (lv' := [(3, .int x18), (7, .int x9), (6, .int x4), (5, .int x3), (4, .int x2), (0, .ref h1), (1, .int x_1), (2, .int x_2)]) hx hb dX10_wordOf_85 hl (k := 4) rfl e_x18.symm (by decide) rfl (fun ls hl => ?_)
              have i_x18 := iv_R.all x18
              refine lv_iload_n hx hb dX10_wordOf_88 rfl (lv_at hl 6 rfl) ?_
              refine lv_istore (lv' := [(4, .int x_1), (3, .int x18), (7, .int x9), (6, .int x4), (5, .int x3), (0, .ref h1), (1, .int x_1), (2, .int x_2)]) hx hb dX10_wordOf_89 hl (by decide) rfl (fun ls hl => ?_)
              refine lv_iconst (v := 1) hx hb dX10_wordOf_91 (by decide) ?_
              refine lv_istore (lv' := [(5, .int 1), (4, .int x_1), (3, .int x18), (7, .int x9), (6, .int x4), (0, .ref h1), (1, .int x_1), (2, .int x_2)]) hx hb dX10_wordOf_92 hl (by decide) rfl (fun ls hl => ?_)
              refine iv_iinc hx hb i6_x4 (lo := 1) (hi := 255) (by decide) dX10_wordOf_94 hl (k := 4) rfl (by decide) (fun x19 ls e_x19 i_x19 hl => ?_)
              have hl : lv_has ls 8 [(6, .int x19), (5, .int 1), (4, .int x_1), (3, .int x18), (7, .int x9), (0, .ref h1), (1, .int x_1), (2, .int x_2)] := hl
              refine lv_goto (tgt := 13) hx hb dX10_wordOf_97 (by decide) ?_
              exact ih_13 _ _ hB x18 i_x18 x_1 (i_x_1.wk (by decide)) 1 (q_1.wk (by decide)) x19 (i_x19.wk (by decide)) (iv_mup (c := 1) i_x4 (by decide) (by decide) (by omega) hn_13) ⟨by have w1 := i_x_1.1; omega, by have w1 := i_x_1.2; omega, by omega⟩ _ (lv_sub hl [0, 1, 2, 3, 5, 6, 7] rfl)
            · skip
              have i19_x2 : iv_R 1 400 x2 := ((i_x2.cutLo (n := 1) (iv_eq_r c17 i_x_2).1).cutHi (n := 400) (iv_eq_r c17 i_x_2).2)
              refine lv_iload_n hx hb dX10_wordOf_83 rfl (lv_at hl 4 rfl) ?_
              exact iv_iret X hr hlocks hB ⟨rfl, i_x1⟩ dX10_wordOf_84
        · skip
          refine lv_iload hx hb dX10_wordOf_39 (lv_at hl 2 rfl) ?_
          refine lv_if_eq (tgt := 63) hx hb dX10_wordOf_41 (by decide) (fun c21 => ?_) (fun c21 => ?_)
          · skip
            have i21_x3 : iv_R 0 0 x3 := (i_x3.cutHi (n := 0) (iv_eq_r c21 q_0).2)
            refine lv_iconst (v := 0) hx hb dX10_wordOf_63 (by decide) ?_
            refine lv_istore (lv' := [(5, .int 0), (7, .int x9), (6, .int x4), (4, .int x2), (3, .int x1), (0, .ref h1), (1, .int x_1), (2, .int x_2)]) hx hb dX10_wordOf_64 hl (by decide) rfl (fun ls hl => ?_)
            refine iv_iinc hx hb i_x2 (lo := 1) (hi := 701) (by decide) dX10_wordOf_66 hl (k := 3) rfl (by decide) (fun x23 ls e_x23 i_x23 hl => ?_)
            have hl : lv_has ls 8 [(4, .int x23), (5, .int 0), (7, .int x9), (6, .int x4), (3, .int x1), (0, .ref h1), (1, .int x_1), (2, .int x_2)] := hl
            refine lv_goto (tgt := 94) hx hb dX10_wordOf_69 (by decide) ?_
            refine iv_iinc hx hb i6_x4 (lo := 1) (hi := 255) (by decide) dX10_wordOf_94 hl (k := 3) rfl (by decide) (fun x24 ls e_x24 i_x24 hl => ?_)
            have hl : lv_has ls 8 [(6, .int x24), (4, .int x23), (5, .int 0), (7, .int x9), (3, .int x1), (0, .ref h1), (1, .int x_1), (2, .int x_2)] := hl
            refine lv_goto (tgt := 13) hx hb dX10_wordOf_97 (by decide) ?_
            exact ih_13 _ _ hB x1 i_x1 x23 ⟨by have w1 := i_x_1.1; omega, by have w1 := i_x_1.2; have w2 := i_x24.2; omega⟩ 0 (q_0.wk (by decide)) x24 (i_x24.wk (by decide)) (iv_mup (c := 1) i_x4 (by decide) (by decide) (by omega) hn_13) ⟨by have w1 := i_x_1.1; omega, by have w1 := i_x_1.2; omega, by omega⟩ _ (lv_sub hl [0, 2, 1, 4, 5, 6, 7] rfl)
          · skip
            have i24_x3 : iv_R 1 1 x3 := iv_ne_lo c21 i_x3 q_0 (by decide)
            refine lv_iload hx hb dX10_wordOf_44 (lv_at hl 3 rfl) ?_
            refine lv_iload_n hx hb dX10_wordOf_46 rfl (lv_at hl 7 rfl) ?_
            refine lv_icmp_ge (tgt := 63) hx hb dX10_wordOf_47 (by decide) (fun c26 => ?_) (fun c26 => ?_)
            · skip
              have i26_x2 : iv_R 1 700 x2 := (i_x2.cutLo (n := 1) (iv_le_l c26 i_x_2))
              refine lv_iconst (v := 0) hx hb dX10_wordOf_63 (by decide) ?_
              refine lv_istore (lv' := [(5, .int 0), (7, .int x9), (6, .int x4), (4, .int x2), (3, .int x1), (0, .ref h1), (1, .int x_1), (2, .int x_2)]) hx hb dX10_wordOf_64 hl (by decide) rfl (fun ls hl => ?_)
              refine iv_iinc hx hb i26_x2 (lo := 2) (hi := 701) (by decide) dX10_wordOf_66 hl (k := 3) rfl (by decide) (fun x28 ls e_x28 i_x28 hl => ?_)
              have hl : lv_has ls 8 [(4, .int x28), (5, .int 0), (7, .int x9), (6, .int x4), (3, .int x1), (0, .ref h1), (1, .int x_1), (2, .int x_2)] := hl
              refine lv_goto (tgt := 94) hx hb dX10_wordOf_69 (by decide) ?_
              refine iv_iinc hx hb i6_x4 (lo := 1) (hi := 255) (by decide) dX10_wordOf_94 hl (k := 3) rfl (by decide) (fun x29 ls e_x29 i_x29 hl => ?_)
              have hl : lv_has ls 8 [(6, .int x29), (4, .int x28), (5, .int 0), (7, .int x9), (3, .int x1), (0, .ref h1), (1, .int x_1), (2, .int x_2)] := hl
              refine lv_goto (tgt := 13) hx hb dX10_wordOf_97 (by decide) ?_
              exact ih_13 _ _ hB x1 i_x1 x28 ⟨by have w1 := i_x_1.1; omega, by have w1 := i_x_1.2; have w2 := i_x29.2; omega⟩ 0 (q_0.wk (by decide)) x29 (i_x29.wk (by decide)) (iv_mup (c := 1) i_x4 (by decide) (by decide) (by omega) hn_13) ⟨by have w1 := i_x_1.1; omega, by have w1 := i_x_1.2; omega, by omega⟩ _ (lv_sub hl [0, 2, 1, 4, 5, 6, 7] rfl)
            · skip
              have i29_x2 : iv_R 0 399 x2 := (i_x2.cutHi (n := 399) (iv_lt_r (iv_nle c26) i_x_2 (by decide)))
              refine lv_aload_n hx hb dX10_wordOf_50 rfl (lv_at hl 5 rfl) ?_
              refine lv_iload hx hb dX10_wordOf_51 (lv_at hl 3 rfl) ?_
              refine iv_ald X hB a_h1 sh_45 (iv_in i29_x2 (by decide)) dX10_wordOf_53 (fun x31 e_x31 i_x31 => ?_)
              refine lv_iload hx hb dX10_wordOf_54 (lv_at hl 0 rfl) ?_
              refine lv_icmp_ne (tgt := 63) hx hb dX10_wordOf_56 (by decide) (fun c32 => ?_) (fun c32 => ?_)
              · skip
                refine lv_iconst (v := 0) hx hb dX10_wordOf_63 (by decide) ?_
                refine lv_istore (lv' := [(5, .int 0), (7, .int x9), (6, .int x4), (4, .int x2), (3, .int x1), (0, .ref h1), (1, .int x_1), (2, .int x_2)]) hx hb dX10_wordOf_64 hl (by decide) rfl (fun ls hl => ?_)
                refine iv_iinc hx hb i29_x2 (lo := 1) (hi := 400) (by decide) dX10_wordOf_66 hl (k := 3) rfl (by decide) (fun x33 ls e_x33 i_x33 hl => ?_)
                have hl : lv_has ls 8 [(4, .int x33), (5, .int 0), (7, .int x9), (6, .int x4), (3, .int x1), (0, .ref h1), (1, .int x_1), (2, .int x_2)] := hl
                refine lv_goto (tgt := 94) hx hb dX10_wordOf_69 (by decide) ?_
                refine iv_iinc hx hb i6_x4 (lo := 1) (hi := 255) (by decide) dX10_wordOf_94 hl (k := 3) rfl (by decide) (fun x34 ls e_x34 i_x34 hl => ?_)
                have hl : lv_has ls 8 [(6, .int x34), (4, .int x33), (5, .int 0), (7, .int x9), (3, .int x1), (0, .ref h1), (1, .int x_1), (2, .int x_2)] := hl
                refine lv_goto (tgt := 13) hx hb dX10_wordOf_97 (by decide) ?_
                exact ih_13 _ _ hB x1 i_x1 x33 (i_x33.wk (by decide)) 0 (q_0.wk (by decide)) x34 (i_x34.wk (by decide)) (iv_mup (c := 1) i_x4 (by decide) (by decide) (by omega) hn_13) ⟨by have w1 := i_x_1.1; omega, by have w1 := i_x_1.2; omega, by omega⟩ _ (lv_sub hl [0, 2, 1, 4, 5, 6, 7] rfl)
              · skip
                have i34_x31 : iv_R 0 255 x31 := ((i_x31.cutLo (n := 0) (iv_eq_r c32 i_x9).1).cutHi (n := 255) (iv_eq_r c32 i_x9).2)
                refine lv_iconst (v := 1) hx hb dX10_wordOf_59 (by decide) ?_
                refine lv_goto (tgt := 64) hx hb dX10_wordOf_60 (by decide) ?_
                refine lv_istore (lv' := [(5, .int 1), (7, .int x9), (6, .int x4), (4, .int x2), (3, .int x1), (0, .ref h1), (1, .int x_1), (2, .int x_2)]) hx hb dX10_wordOf_64 hl (by decide) rfl (fun ls hl => ?_)
                refine iv_iinc hx hb i29_x2 (lo := 1) (hi := 400) (by decide) dX10_wordOf_66 hl (k := 3) rfl (by decide) (fun x36 ls e_x36 i_x36 hl => ?_)
                have hl : lv_has ls 8 [(4, .int x36), (5, .int 1), (7, .int x9), (6, .int x4), (3, .int x1), (0, .ref h1), (1, .int x_1), (2, .int x_2)] := hl
                refine lv_goto (tgt := 94) hx hb dX10_wordOf_69 (by decide) ?_
                refine iv_iinc hx hb i6_x4 (lo := 1) (hi := 255) (by decide) dX10_wordOf_94 hl (k := 3) rfl (by decide) (fun x37 ls e_x37 i_x37 hl => ?_)
                have hl : lv_has ls 8 [(6, .int x37), (4, .int x36), (5, .int 1), (7, .int x9), (3, .int x1), (0, .ref h1), (1, .int x_1), (2, .int x_2)] := hl
                refine lv_goto (tgt := 13) hx hb dX10_wordOf_97 (by decide) ?_
                exact ih_13 _ _ hB x1 i_x1 x36 (i_x36.wk (by decide)) 1 (q_1.wk (by decide)) x37 (i_x37.wk (by decide)) (iv_mup (c := 1) i_x4 (by decide) (by decide) (by omega) hn_13) ⟨by have w1 := i_x_1.1; omega, by have w1 := i_x_1.2; omega, by omega⟩ _ (lv_sub hl [0, 2, 1, 4, 5, 6, 7] rfl)
  exact L_13 _ _ _ hB 128 (q_128.wk (by decide)) x_1 (i_x_1.wk (by decide)) 1 (q_1.wk (by decide)) 0 (q_0.wk (by decide)) (Nat.lt_succ_self _) ⟨i_x_1.1, by have w1 := i_x_1.2; have w2 : (0 : Int32).toInt = 0 := rfl; omega, by decide⟩ _ (lv_sub hl [0, 1, 2, 3, 4, 5, 6] rfl)
theorem dX10_kindOf_0 : decode cX10_kindOf 0 = .ok (.aload_n 0, 1) := by decide +kernel
theorem dX10_kindOf_1 : decode cX10_kindOf 1 = .ok (.iload_n 1, 1) := by decide +kernel
theorem dX10_kindOf_2 : decode cX10_kindOf 2 = .ok (.iaload, 1) := by decide +kernel
theorem dX10_kindOf_3 : decode cX10_kindOf 3 = .ok (.istore_n 3, 1) := by decide +kernel
theorem dX10_kindOf_4 : decode cX10_kindOf 4 = .ok (.iload_n 3, 1) := by decide +kernel
theorem dX10_kindOf_5 : decode cX10_kindOf 5 = .ok (.invokestatic 35, 3) := by decide +kernel
theorem dX10_kindOf_8 : decode cX10_kindOf 8 = .ok (.ifCond .eq 10, 3) := by decide +kernel
theorem dX10_kindOf_11 : decode cX10_kindOf 11 = .ok (.aload_n 0, 1) := by decide +kernel
theorem dX10_kindOf_12 : decode cX10_kindOf 12 = .ok (.iload_n 1, 1) := by decide +kernel
theorem dX10_kindOf_13 : decode cX10_kindOf 13 = .ok (.iload_n 2, 1) := by decide +kernel
theorem dX10_kindOf_14 : decode cX10_kindOf 14 = .ok (.invokestatic 42, 3) := by decide +kernel
theorem dX10_kindOf_17 : decode cX10_kindOf 17 = .ok (.ireturn, 1) := by decide +kernel
theorem dX10_kindOf_18 : decode cX10_kindOf 18 = .ok (.iload_n 3, 1) := by decide +kernel
theorem dX10_kindOf_19 : decode cX10_kindOf 19 = .ok (.invokestatic 39, 3) := by decide +kernel
theorem dX10_kindOf_22 : decode cX10_kindOf 22 = .ok (.ifCond .eq 16, 3) := by decide +kernel
theorem dX10_kindOf_25 : decode cX10_kindOf 25 = .ok (.iload_n 2, 1) := by decide +kernel
theorem dX10_kindOf_26 : decode cX10_kindOf 26 = .ok (.iload_n 1, 1) := by decide +kernel
theorem dX10_kindOf_27 : decode cX10_kindOf 27 = .ok (.isub, 1) := by decide +kernel
theorem dX10_kindOf_28 : decode cX10_kindOf 28 = .ok (.iconst 4, 1) := by decide +kernel
theorem dX10_kindOf_29 : decode cX10_kindOf 29 = .ok (.if_icmp .gt 7, 3) := by decide +kernel
theorem dX10_kindOf_32 : decode cX10_kindOf 32 = .ok (.iconst 2, 1) := by decide +kernel
theorem dX10_kindOf_33 : decode cX10_kindOf 33 = .ok (.goto 4, 3) := by decide +kernel
theorem dX10_kindOf_36 : decode cX10_kindOf 36 = .ok (.iconst 1, 1) := by decide +kernel
theorem dX10_kindOf_37 : decode cX10_kindOf 37 = .ok (.ireturn, 1) := by decide +kernel
theorem dX10_kindOf_38 : decode cX10_kindOf 38 = .ok (.ldc 45, 2) := by decide +kernel
theorem dX10_kindOf_40 : decode cX10_kindOf 40 = .ok (.iload_n 3, 1) := by decide +kernel
theorem dX10_kindOf_41 : decode cX10_kindOf 41 = .ok (.i2c, 1) := by decide +kernel
theorem dX10_kindOf_42 : decode cX10_kindOf 42 = .ok (.invokevirtual 47, 3) := by decide +kernel
theorem dX10_kindOf_45 : decode cX10_kindOf 45 = .ok (.ifCond .lt 7, 3) := by decide +kernel
theorem dX10_kindOf_48 : decode cX10_kindOf 48 = .ok (.iload_n 3, 1) := by decide +kernel
theorem dX10_kindOf_49 : decode cX10_kindOf 49 = .ok (.goto 4, 3) := by decide +kernel
theorem dX10_kindOf_52 : decode cX10_kindOf 52 = .ok (.iconst 1, 1) := by decide +kernel
theorem dX10_kindOf_53 : decode cX10_kindOf 53 = .ok (.ireturn, 1) := by decide +kernel
set_option maxHeartbeats 4000000 in
set_option maxRecDepth 100000 in
theorem c_X10_kindOf (l : Launch) (D : va_G) (tys : List (ClassId × FieldType)) (base : Nat) (G : iv_G) (h1 : Nat) (g_h1 : Nat → Int32) (r_h1 : Nat → Nat) (a_h1 : G h1 = some (45, g_h1, r_h1)) (x_1 : Int32) (i_x_1 : iv_R 0 399 x_1) (x_2 : Int32) (i_x_2 : iv_R 1 400 x_2) : Met l yX10_kindOf (Cond.code yX10_kindOf cX10_kindOf 4 (some .int) :: iv_W0) ({ frames := 5, cells := 0, slots := 0, locals := 112 }) (iv_Pc iv_sh D classes tys base G [.ref h1, .int x_1, .int x_2]) (iv_Qi iv_sh D classes tys base (fun v G' => G = G' ∧ iv_R (-2147483648) 2147483647 v)) 0 0 (iv_A base) := by
  refine iv_head (by decide) (Nat.le_of_ble_eq_true rfl) ?_
  intro p e s m args below meth c ls X hr hlocks hname hB hl
  have X := X
  have hx := X.1.1
  have hb := X.1.2.1
  have hl : lv_has ls 4 [(0, .ref h1), (1, .int x_1), (2, .int x_2)] := hl
  refine lv_aload_n hx hb dX10_kindOf_0 rfl (lv_at hl 0 rfl) ?_
  refine lv_iload_n hx hb dX10_kindOf_1 rfl (lv_at hl 1 rfl) ?_
  refine iv_ald X hB a_h1 sh_45 (iv_in i_x_1 (by decide)) dX10_kindOf_2 (fun x1 e_x1 i_x1 => ?_)
  refine lv_istore_n (lv' := [(3, .int x1), (0, .ref h1), (1, .int x_1), (2, .int x_2)]) hx hb dX10_kindOf_3 rfl hl (by decide) rfl (fun ls hl => ?_)
  refine lv_iload_n hx hb dX10_kindOf_4 rfl (lv_at hl 0 rfl) ?_
  refine iv_cSi X k_good k_mf_X10_isLetter k_st_X10_isLetter k_ml_X10_35 hB (As := [.int x1]) (c_X10_isLetter l D tys base G x1 i_x1) ⟨rfl, rfl⟩ ⟨Nat.le_of_ble_eq_true rfl, Nat.le_of_ble_eq_true rfl⟩ ⟨Nat.le_of_ble_eq_true rfl, Nat.le_of_ble_eq_true rfl⟩ rfl rfl hl.1 (Nat.le_of_ble_eq_true rfl) dX10_kindOf_5 (fun x2 G9 H locs hq hB => ?_)
  obtain ⟨rfl, i_x2, hp3⟩ := hq
  refine lv_if_eq (tgt := 18) hx hb dX10_kindOf_8 (by decide) (fun c4 => ?_) (fun c4 => ?_)
  · skip
    have i4_x2 : iv_R 0 0 x2 := (i_x2.cutHi (n := 0) (iv_eq_r c4 q_0).2)
    refine lv_iload_n hx hb dX10_kindOf_18 rfl (lv_at hl 0 rfl) ?_
    refine iv_cSi X k_good k_mf_X10_isDigit k_st_X10_isDigit k_ml_X10_39 hB (As := [.int x1]) (c_X10_isDigit l D tys base G x1 i_x1) ⟨rfl, rfl⟩ ⟨Nat.le_of_ble_eq_true rfl, Nat.le_of_ble_eq_true rfl⟩ ⟨Nat.le_of_ble_eq_true rfl, Nat.le_of_ble_eq_true rfl⟩ rfl rfl hl.1 (Nat.le_of_ble_eq_true rfl) dX10_kindOf_19 (fun x6 G9 H locs hq hB => ?_)
    obtain ⟨rfl, i_x6, hp7⟩ := hq
    refine lv_if_eq (tgt := 38) hx hb dX10_kindOf_22 (by decide) (fun c8 => ?_) (fun c8 => ?_)
    · skip
      have i8_x6 : iv_R 0 0 x6 := (i_x6.cutHi (n := 0) (iv_eq_r c8 q_0).2)
      refine iv_sldc X (i := 1) rfl dX10_kindOf_38 ?_
      refine lv_iload_n hx hb dX10_kindOf_40 rfl (lv_at hl 0 rfl) ?_
      refine lv_i2c hx hb dX10_kindOf_41 rfl ?_
      refine lv_topi (fun x10 e_x10 => ?_)
      have i_x10 := iv_R.all x10
      refine iv_cKi X k_good k_mf_J0_indexOf_0f7a4 k_im_J0_indexOf_0f7a4 k_sel_J0_indexOf_0f7a4 k_ml_X10_47 (by decide) rfl hB (As := [.int x10]) (c_J0_indexOf_0f7a4 l D tys base G 1 (by decide) x10 i_x10) ⟨rfl, rfl⟩ ⟨Nat.le_of_ble_eq_true rfl, Nat.le_of_ble_eq_true rfl⟩ ⟨Nat.le_of_ble_eq_true rfl, Nat.le_of_ble_eq_true rfl⟩ rfl rfl hl.1 (Nat.le_of_ble_eq_true rfl) dX10_kindOf_42 (fun x11 G9 H locs hq hB => ?_)
      obtain ⟨rfl, i_x11⟩ := hq
      refine lv_if_lt (tgt := 52) hx hb dX10_kindOf_45 (by decide) (fun c12 => ?_) (fun c12 => ?_)
      · skip
        have i12_x11 : iv_R (-1) (-1) x11 := (i_x11.cutHi (n := (-1)) (iv_lt_r c12 q_0 (by decide)))
        refine lv_iconst (v := 1) hx hb dX10_kindOf_52 (by decide) ?_
        exact iv_iret X hr hlocks hB ⟨rfl, (q_1.wk (by decide))⟩ dX10_kindOf_53
      · skip
        have i13_x11 : iv_R 0 254 x11 := (i_x11.cutLo (n := 0) (iv_le_l (iv_nlt c12) q_0))
        refine lv_iload_n hx hb dX10_kindOf_48 rfl (lv_at hl 0 rfl) ?_
        refine lv_goto (tgt := 53) hx hb dX10_kindOf_49 (by decide) ?_
        exact iv_iret X hr hlocks hB ⟨rfl, i_x1⟩ dX10_kindOf_53
    · skip
      have i14_x6 : iv_R 1 1 x6 := iv_ne_lo c8 i_x6 q_0 (by decide)
      have i15_x1 : iv_R 48 57 x1 := ((i_x1.cutLo (n := 48) (hp7 c8).1).cutHi (n := 57) (hp7 c8).2)
      refine lv_iload_n hx hb dX10_kindOf_25 rfl (lv_at hl 3 rfl) ?_
      refine lv_iload_n hx hb dX10_kindOf_26 rfl (lv_at hl 2 rfl) ?_
      refine iv_isub hx hb i_x_2 i_x_1 (lo := (-398)) (hi := 400) (by decide) dX10_kindOf_27 (fun x17 e_x17 i_x17 => ?_)
      refine lv_iconst (v := 4) hx hb dX10_kindOf_28 (by decide) ?_
      refine lv_icmp_gt (tgt := 36) hx hb dX10_kindOf_29 (by decide) (fun c18 => ?_) (fun c18 => ?_)
      · skip
        have i18_x17 : iv_R 5 400 x17 := (i_x17.cutLo (n := 5) (iv_lt_l c18 q_4 (by decide)))
        refine lv_iconst (v := 1) hx hb dX10_kindOf_36 (by decide) ?_
        exact iv_iret X hr hlocks hB ⟨rfl, (q_1.wk (by decide))⟩ dX10_kindOf_37
      · skip
        have i19_x17 : iv_R (-398) 4 x17 := (i_x17.cutHi (n := 4) (iv_le_r (iv_nlt c18) q_4))
        refine lv_iconst (v := 2) hx hb dX10_kindOf_32 (by decide) ?_
        refine lv_goto (tgt := 37) hx hb dX10_kindOf_33 (by decide) ?_
        exact iv_iret X hr hlocks hB ⟨rfl, (q_2.wk (by decide))⟩ dX10_kindOf_37
  · skip
    have i20_x2 : iv_R 1 1 x2 := iv_ne_lo c4 i_x2 q_0 (by decide)
    have i21_x1 : iv_R 65 122 x1 := ((i_x1.cutLo (n := 65) (hp3 c4).1).cutHi (n := 122) (hp3 c4).2)
    refine lv_aload_n hx hb dX10_kindOf_11 rfl (lv_at hl 1 rfl) ?_
    refine lv_iload_n hx hb dX10_kindOf_12 rfl (lv_at hl 2 rfl) ?_
    refine lv_iload_n hx hb dX10_kindOf_13 rfl (lv_at hl 3 rfl) ?_
    refine iv_cSi X k_good k_mf_X10_wordOf k_st_X10_wordOf k_ml_X10_42 hB (As := [.ref h1, .int x_1, .int x_2]) (c_X10_wordOf l D tys base G h1 g_h1 r_h1 a_h1 x_1 i_x_1 x_2 i_x_2) ⟨rfl, rfl⟩ ⟨Nat.le_of_ble_eq_true rfl, Nat.le_of_ble_eq_true rfl⟩ ⟨Nat.le_of_ble_eq_true rfl, Nat.le_of_ble_eq_true rfl⟩ rfl rfl hl.1 (Nat.le_of_ble_eq_true rfl) dX10_kindOf_14 (fun x23 G9 H locs hq hB => ?_)
    obtain ⟨rfl, i_x23⟩ := hq
    exact iv_iret X hr hlocks hB ⟨rfl, i_x23⟩ dX10_kindOf_17
theorem dX10_numberOf_0 : decode cX10_numberOf 0 = .ok (.iconst 0, 1) := by decide +kernel
theorem dX10_numberOf_1 : decode cX10_numberOf 1 = .ok (.istore_n 3, 1) := by decide +kernel
theorem dX10_numberOf_2 : decode cX10_numberOf 2 = .ok (.iload_n 1, 1) := by decide +kernel
theorem dX10_numberOf_3 : decode cX10_numberOf 3 = .ok (.istore 4, 2) := by decide +kernel
theorem dX10_numberOf_5 : decode cX10_numberOf 5 = .ok (.iload 4, 2) := by decide +kernel
theorem dX10_numberOf_7 : decode cX10_numberOf 7 = .ok (.iload_n 2, 1) := by decide +kernel
theorem dX10_numberOf_8 : decode cX10_numberOf 8 = .ok (.if_icmp .ge 22, 3) := by decide +kernel
theorem dX10_numberOf_11 : decode cX10_numberOf 11 = .ok (.iload_n 3, 1) := by decide +kernel
theorem dX10_numberOf_12 : decode cX10_numberOf 12 = .ok (.bipush 10, 2) := by decide +kernel
theorem dX10_numberOf_14 : decode cX10_numberOf 14 = .ok (.imul, 1) := by decide +kernel
theorem dX10_numberOf_15 : decode cX10_numberOf 15 = .ok (.aload_n 0, 1) := by decide +kernel
theorem dX10_numberOf_16 : decode cX10_numberOf 16 = .ok (.iload 4, 2) := by decide +kernel
theorem dX10_numberOf_18 : decode cX10_numberOf 18 = .ok (.iaload, 1) := by decide +kernel
theorem dX10_numberOf_19 : decode cX10_numberOf 19 = .ok (.iadd, 1) := by decide +kernel
theorem dX10_numberOf_20 : decode cX10_numberOf 20 = .ok (.bipush 48, 2) := by decide +kernel
theorem dX10_numberOf_22 : decode cX10_numberOf 22 = .ok (.isub, 1) := by decide +kernel
theorem dX10_numberOf_23 : decode cX10_numberOf 23 = .ok (.istore_n 3, 1) := by decide +kernel
theorem dX10_numberOf_24 : decode cX10_numberOf 24 = .ok (.iinc 4 1, 3) := by decide +kernel
theorem dX10_numberOf_27 : decode cX10_numberOf 27 = .ok (.goto (-22), 3) := by decide +kernel
theorem dX10_numberOf_30 : decode cX10_numberOf 30 = .ok (.iload_n 3, 1) := by decide +kernel
theorem dX10_numberOf_31 : decode cX10_numberOf 31 = .ok (.ireturn, 1) := by decide +kernel
set_option maxHeartbeats 4000000 in
set_option maxRecDepth 100000 in
theorem c_X10_numberOf (l : Launch) (D : va_G) (tys : List (ClassId × FieldType)) (base : Nat) (G : iv_G) (h1 : Nat) (g_h1 : Nat → Int32) (r_h1 : Nat → Nat) (a_h1 : G h1 = some (45, g_h1, r_h1)) (x_1 : Int32) (i_x_1 : iv_R 0 399 x_1) (x_2 : Int32) (i_x_2 : iv_R 1 400 x_2) : Met l yX10_numberOf (Cond.code yX10_numberOf cX10_numberOf 5 (some .int) :: iv_W0) ({ frames := 0, cells := 0, slots := 0, locals := 0 }) (iv_Pc iv_sh D classes tys base G [.ref h1, .int x_1, .int x_2]) (iv_Qi iv_sh D classes tys base (fun v G' => G = G' ∧ iv_R (-2147483648) 2147483647 v)) 0 0 (iv_A base) := by
  refine iv_head (by decide) (Nat.le_of_ble_eq_true rfl) ?_
  intro p e s m args below meth c ls X hr hlocks hname hB hl
  have X := X
  have hx := X.1.1
  have hb := X.1.2.1
  have hl : lv_has ls 5 [(0, .ref h1), (1, .int x_1), (2, .int x_2)] := hl
  refine lv_iconst (v := 0) hx hb dX10_numberOf_0 (by decide) ?_
  refine lv_istore_n (lv' := [(3, .int 0), (0, .ref h1), (1, .int x_1), (2, .int x_2)]) hx hb dX10_numberOf_1 rfl hl (by decide) rfl (fun ls hl => ?_)
  refine lv_iload_n hx hb dX10_numberOf_2 rfl (lv_at hl 2 rfl) ?_
  refine lv_istore (lv' := [(4, .int x_1), (3, .int 0), (0, .ref h1), (1, .int x_1), (2, .int x_2)]) hx hb dX10_numberOf_3 hl (by decide) rfl (fun ls hl => ?_)
  have L_5 : ∀ (n_5 : Nat) (H : Heap) (locs : List Loc) (hB : iv_B iv_sh D classes tys base G s.heap H locs) (x1 : Int32) (i_x1 : iv_R (-2147483648) 2147483647 x1) (x2 : Int32) (i_x2 : iv_R 0 400 x2) (hn_5 : (401 - x2.toInt).toNat < n_5) (ls : Array Slot) (hl : lv_has ls 5 [(4, .int x2), (3, .int x1), (0, .ref h1), (2, .int x_2)]), W p l e ({ frames := 0, cells := 0, slots := 0, locals := 0 } : Room) s m args below meth c H locs 0 0 (MQ below (iv_Qi iv_sh D classes tys base (fun v G' => G = G' ∧ iv_R (-2147483648) 2147483647 v)) args s 0 0 (iv_A base)) (F0 m 5 ls []) := by
    intro n_5
    induction n_5 with
    | zero => intro H locs hB x1 i_x1 x2 i_x2 hn_5 ls hl; exact absurd hn_5 (Nat.not_lt_zero _)
    | succ n_5 ih_5 =>
      intro H locs hB x1 i_x1 x2 i_x2 hn_5 ls hl
      refine lv_iload hx hb dX10_numberOf_5 (lv_at hl 0 rfl) ?_
      refine lv_iload_n hx hb dX10_numberOf_7 rfl (lv_at hl 3 rfl) ?_
      refine lv_icmp_ge (tgt := 30) hx hb dX10_numberOf_8 (by decide) (fun c3 => ?_) (fun c3 => ?_)
      · skip
        have i3_x2 : iv_R 1 400 x2 := (i_x2.cutLo (n := 1) (iv_le_l c3 i_x_2))
        refine lv_iload_n hx hb dX10_numberOf_30 rfl (lv_at hl 1 rfl) ?_
        exact iv_iret X hr hlocks hB ⟨rfl, i_x1⟩ dX10_numberOf_31
      · skip
        have i4_x2 : iv_R 0 399 x2 := (i_x2.cutHi (n := 399) (iv_lt_r (iv_nle c3) i_x_2 (by decide)))
        refine lv_iload_n hx hb dX10_numberOf_11 rfl (lv_at hl 1 rfl) ?_
        refine lv_bipush (v := 10) hx hb dX10_numberOf_12 (by decide) ?_
        refine lv_imul hx hb dX10_numberOf_14 ?_
        refine lv_topi (fun x6 e_x6 => ?_)
        have i_x6 := iv_R.all x6
        refine lv_aload_n hx hb dX10_numberOf_15 rfl (lv_at hl 2 rfl) ?_
        refine lv_iload hx hb dX10_numberOf_16 (lv_at hl 0 rfl) ?_
        refine iv_ald X hB a_h1 sh_45 (iv_in i4_x2 (by decide)) dX10_numberOf_18 (fun x7 e_x7 i_x7 => ?_)
        refine lv_iadd hx hb dX10_numberOf_19 ?_
        refine lv_topi (fun x8 e_x8 => ?_)
        have i_x8 := iv_R.all x8
        refine lv_bipush (v := 48) hx hb dX10_numberOf_20 (by decide) ?_
        refine lv_isub hx hb dX10_numberOf_22 ?_
        refine lv_topi (fun x9 e_x9 => ?_)
        have i_x9 := iv_R.all x9
        refine lv_istore_n (lv' := [(3, .int x9), (4, .int x2), (0, .ref h1), (2, .int x_2)]) hx hb dX10_numberOf_23 rfl hl (by decide) rfl (fun ls hl => ?_)
        refine iv_iinc hx hb i4_x2 (lo := 1) (hi := 400) (by decide) dX10_numberOf_24 hl (k := 1) rfl (by decide) (fun x10 ls e_x10 i_x10 hl => ?_)
        have hl : lv_has ls 5 [(4, .int x10), (3, .int x9), (0, .ref h1), (2, .int x_2)] := hl
        refine lv_goto (tgt := 5) hx hb dX10_numberOf_27 (by decide) ?_
        exact ih_5 _ _ hB x9 i_x9 x10 (i_x10.wk (by decide)) (iv_mup (c := 1) i_x2 (by decide) (by decide) (by omega) hn_5) _ (lv_sub hl [0, 1, 2, 3] rfl)
  exact L_5 _ _ _ hB 0 (q_0.wk (by decide)) x_1 (i_x_1.wk (by decide)) (Nat.lt_succ_self _) _ (lv_sub hl [0, 1, 2, 4] rfl)
theorem dX10_read_0 : decode cX10_read 0 = .ok (.iconst 0, 1) := by decide +kernel
theorem dX10_read_1 : decode cX10_read 1 = .ok (.istore_n 3, 1) := by decide +kernel
theorem dX10_read_2 : decode cX10_read 2 = .ok (.iconst 0, 1) := by decide +kernel
theorem dX10_read_3 : decode cX10_read 3 = .ok (.istore 4, 2) := by decide +kernel
theorem dX10_read_5 : decode cX10_read 5 = .ok (.iload 4, 2) := by decide +kernel
theorem dX10_read_7 : decode cX10_read 7 = .ok (.iload_n 2, 1) := by decide +kernel
theorem dX10_read_8 : decode cX10_read 8 = .ok (.if_icmp .ge 110, 3) := by decide +kernel
theorem dX10_read_11 : decode cX10_read 11 = .ok (.aload_n 1, 1) := by decide +kernel
theorem dX10_read_12 : decode cX10_read 12 = .ok (.iload 4, 2) := by decide +kernel
theorem dX10_read_14 : decode cX10_read 14 = .ok (.iaload, 1) := by decide +kernel
theorem dX10_read_15 : decode cX10_read 15 = .ok (.bipush 32, 2) := by decide +kernel
theorem dX10_read_17 : decode cX10_read 17 = .ok (.if_icmp .eq 12, 3) := by decide +kernel
theorem dX10_read_20 : decode cX10_read 20 = .ok (.aload_n 1, 1) := by decide +kernel
theorem dX10_read_21 : decode cX10_read 21 = .ok (.iload 4, 2) := by decide +kernel
theorem dX10_read_23 : decode cX10_read 23 = .ok (.iaload, 1) := by decide +kernel
theorem dX10_read_24 : decode cX10_read 24 = .ok (.bipush 10, 2) := by decide +kernel
theorem dX10_read_26 : decode cX10_read 26 = .ok (.if_icmp .ne 7, 3) := by decide +kernel
theorem dX10_read_29 : decode cX10_read 29 = .ok (.iconst 1, 1) := by decide +kernel
theorem dX10_read_30 : decode cX10_read 30 = .ok (.goto 4, 3) := by decide +kernel
theorem dX10_read_33 : decode cX10_read 33 = .ok (.iconst 0, 1) := by decide +kernel
theorem dX10_read_34 : decode cX10_read 34 = .ok (.istore 5, 2) := by decide +kernel
theorem dX10_read_36 : decode cX10_read 36 = .ok (.iload 5, 2) := by decide +kernel
theorem dX10_read_38 : decode cX10_read 38 = .ok (.ifCond .ne 74, 3) := by decide +kernel
theorem dX10_read_41 : decode cX10_read 41 = .ok (.aload_n 1, 1) := by decide +kernel
theorem dX10_read_42 : decode cX10_read 42 = .ok (.iload 4, 2) := by decide +kernel
theorem dX10_read_44 : decode cX10_read 44 = .ok (.invokestatic 21, 3) := by decide +kernel
theorem dX10_read_47 : decode cX10_read 47 = .ok (.ifCond .ne 65, 3) := by decide +kernel
theorem dX10_read_50 : decode cX10_read 50 = .ok (.aload_n 1, 1) := by decide +kernel
theorem dX10_read_51 : decode cX10_read 51 = .ok (.iload 4, 2) := by decide +kernel
theorem dX10_read_53 : decode cX10_read 53 = .ok (.iload_n 2, 1) := by decide +kernel
theorem dX10_read_54 : decode cX10_read 54 = .ok (.invokestatic 25, 3) := by decide +kernel
theorem dX10_read_57 : decode cX10_read 57 = .ok (.istore 6, 2) := by decide +kernel
theorem dX10_read_59 : decode cX10_read 59 = .ok (.aload_n 0, 1) := by decide +kernel
theorem dX10_read_60 : decode cX10_read 60 = .ok (.getfield 15, 3) := by decide +kernel
theorem dX10_read_63 : decode cX10_read 63 = .ok (.iload_n 3, 1) := by decide +kernel
theorem dX10_read_64 : decode cX10_read 64 = .ok (.iload 4, 2) := by decide +kernel
theorem dX10_read_66 : decode cX10_read 66 = .ok (.iastore, 1) := by decide +kernel
theorem dX10_read_67 : decode cX10_read 67 = .ok (.aload_n 0, 1) := by decide +kernel
theorem dX10_read_68 : decode cX10_read 68 = .ok (.getfield 9, 3) := by decide +kernel
theorem dX10_read_71 : decode cX10_read 71 = .ok (.iload_n 3, 1) := by decide +kernel
theorem dX10_read_72 : decode cX10_read 72 = .ok (.aload_n 1, 1) := by decide +kernel
theorem dX10_read_73 : decode cX10_read 73 = .ok (.iload 4, 2) := by decide +kernel
theorem dX10_read_75 : decode cX10_read 75 = .ok (.iload 6, 2) := by decide +kernel
theorem dX10_read_77 : decode cX10_read 77 = .ok (.invokestatic 29, 3) := by decide +kernel
theorem dX10_read_80 : decode cX10_read 80 = .ok (.iastore, 1) := by decide +kernel
theorem dX10_read_81 : decode cX10_read 81 = .ok (.aload_n 0, 1) := by decide +kernel
theorem dX10_read_82 : decode cX10_read 82 = .ok (.getfield 18, 3) := by decide +kernel
theorem dX10_read_85 : decode cX10_read 85 = .ok (.iload_n 3, 1) := by decide +kernel
theorem dX10_read_86 : decode cX10_read 86 = .ok (.aload_n 0, 1) := by decide +kernel
theorem dX10_read_87 : decode cX10_read 87 = .ok (.getfield 9, 3) := by decide +kernel
theorem dX10_read_90 : decode cX10_read 90 = .ok (.iload_n 3, 1) := by decide +kernel
theorem dX10_read_91 : decode cX10_read 91 = .ok (.iaload, 1) := by decide +kernel
theorem dX10_read_92 : decode cX10_read 92 = .ok (.iconst 2, 1) := by decide +kernel
theorem dX10_read_93 : decode cX10_read 93 = .ok (.if_icmp .ne 14, 3) := by decide +kernel
theorem dX10_read_96 : decode cX10_read 96 = .ok (.aload_n 1, 1) := by decide +kernel
theorem dX10_read_97 : decode cX10_read 97 = .ok (.iload 4, 2) := by decide +kernel
theorem dX10_read_99 : decode cX10_read 99 = .ok (.iload 6, 2) := by decide +kernel
theorem dX10_read_101 : decode cX10_read 101 = .ok (.invokestatic 32, 3) := by decide +kernel
theorem dX10_read_104 : decode cX10_read 104 = .ok (.goto 4, 3) := by decide +kernel
theorem dX10_read_107 : decode cX10_read 107 = .ok (.iconst 0, 1) := by decide +kernel
theorem dX10_read_108 : decode cX10_read 108 = .ok (.iastore, 1) := by decide +kernel
theorem dX10_read_109 : decode cX10_read 109 = .ok (.iinc 3 1, 3) := by decide +kernel
theorem dX10_read_112 : decode cX10_read 112 = .ok (.iinc 4 1, 3) := by decide +kernel
theorem dX10_read_115 : decode cX10_read 115 = .ok (.goto (-110), 3) := by decide +kernel
theorem dX10_read_118 : decode cX10_read 118 = .ok (.aload_n 0, 1) := by decide +kernel
theorem dX10_read_119 : decode cX10_read 119 = .ok (.getfield 9, 3) := by decide +kernel
theorem dX10_read_122 : decode cX10_read 122 = .ok (.iload_n 3, 1) := by decide +kernel
theorem dX10_read_123 : decode cX10_read 123 = .ok (.iconst 0, 1) := by decide +kernel
theorem dX10_read_124 : decode cX10_read 124 = .ok (.iastore, 1) := by decide +kernel
theorem dX10_read_125 : decode cX10_read 125 = .ok (.aload_n 0, 1) := by decide +kernel
theorem dX10_read_126 : decode cX10_read 126 = .ok (.getfield 15, 3) := by decide +kernel
theorem dX10_read_129 : decode cX10_read 129 = .ok (.iload_n 3, 1) := by decide +kernel
theorem dX10_read_130 : decode cX10_read 130 = .ok (.iload_n 2, 1) := by decide +kernel
theorem dX10_read_131 : decode cX10_read 131 = .ok (.iastore, 1) := by decide +kernel
theorem dX10_read_132 : decode cX10_read 132 = .ok (.aload_n 0, 1) := by decide +kernel
theorem dX10_read_133 : decode cX10_read 133 = .ok (.getfield 18, 3) := by decide +kernel
theorem dX10_read_136 : decode cX10_read 136 = .ok (.iload_n 3, 1) := by decide +kernel
theorem dX10_read_137 : decode cX10_read 137 = .ok (.iconst 0, 1) := by decide +kernel
theorem dX10_read_138 : decode cX10_read 138 = .ok (.iastore, 1) := by decide +kernel
theorem dX10_read_139 : decode cX10_read 139 = .ok (.return_, 1) := by decide +kernel
set_option maxHeartbeats 4000000 in
set_option maxRecDepth 100000 in
theorem c_X10_read (l : Launch) (D : va_G) (tys : List (ClassId × FieldType)) (base : Nat) (G : iv_G) (h0 : Nat) (g_h0 : Nat → Int32) (r_h0 : Nat → Nat) (a_h0 : G h0 = some (10, g_h0, r_h0)) (h1 : Nat) (g_h1 : Nat → Int32) (r_h1 : Nat → Nat) (a_h1 : G h1 = some (45, g_h1, r_h1)) (x_1 : Int32) (i_x_1 : iv_R 0 400 x_1) : Met l yX10_read (Cond.code yX10_read cX10_read 7 none :: iv_W0) ({ frames := 6, cells := 0, slots := 0, locals := 135 }) (iv_Pc iv_sh D classes tys base G [.ref h0, .ref h1, .int x_1]) (iv_Qv iv_sh D classes tys base (fun G' => iv_Md [42, 43, 44] G G')) 0 0 (iv_A base) := by
  refine iv_head (by decide) (Nat.le_of_ble_eq_true rfl) ?_
  intro p e s m args below meth c ls X hr hlocks hname hB hl
  have X := X
  have hx := X.1.1
  have hb := X.1.2.1
  have hM : iv_Md [42, 43, 44] G G := iv_Md.rf
  have hl : lv_has ls 7 [(0, .ref h0), (1, .ref h1), (2, .int x_1)] := hl
  refine lv_iconst (v := 0) hx hb dX10_read_0 (by decide) ?_
  refine lv_istore_n (lv' := [(3, .int 0), (0, .ref h0), (1, .ref h1), (2, .int x_1)]) hx hb dX10_read_1 rfl hl (by decide) rfl (fun ls hl => ?_)
  refine lv_iconst (v := 0) hx hb dX10_read_2 (by decide) ?_
  refine lv_istore (lv' := [(4, .int 0), (3, .int 0), (0, .ref h0), (1, .ref h1), (2, .int x_1)]) hx hb dX10_read_3 hl (by decide) rfl (fun ls hl => ?_)
  have L_5 : ∀ (n_5 : Nat) (G3 : iv_G) (hM : iv_Md [42, 43, 44] G G3) (H : Heap) (locs : List Loc) (hB : iv_B iv_sh D classes tys base G3 s.heap H locs) (a_h0 : G3 h0 = some (10, g_h0, r_h0)) (a_h1 : G3 h1 = some (45, g_h1, r_h1)) (x1 : Int32) (i_x1 : iv_R 0 400 x1) (x2 : Int32) (i_x2 : iv_R 0 400 x2) (hn_5 : (401 - x2.toInt).toNat < n_5) (inv_5 : 0 ≤ x1.toInt ∧ x1.toInt ≤ x2.toInt) (ls : Array Slot) (hl : lv_has ls 7 [(4, .int x2), (3, .int x1), (0, .ref h0), (1, .ref h1), (2, .int x_1)]), W p l e ({ frames := 6, cells := 0, slots := 0, locals := 135 } : Room) s m args below meth c H locs 0 0 (MQ below (iv_Qv iv_sh D classes tys base (fun G' => iv_Md [42, 43, 44] G G')) args s 0 0 (iv_A base)) (F0 m 5 ls []) := by
    intro n_5
    induction n_5 with
    | zero => intro G3 hM H locs hB a_h0 a_h1 x1 i_x1 x2 i_x2 hn_5 inv_5 ls hl; exact absurd hn_5 (Nat.not_lt_zero _)
    | succ n_5 ih_5 =>
      intro G3 hM H locs hB a_h0 a_h1 x1 i_x1 x2 i_x2 hn_5 inv_5 ls hl
      refine lv_iload hx hb dX10_read_5 (lv_at hl 0 rfl) ?_
      refine lv_iload_n hx hb dX10_read_7 rfl (lv_at hl 4 rfl) ?_
      refine lv_icmp_ge (tgt := 118) hx hb dX10_read_8 (by decide) (fun c4 => ?_) (fun c4 => ?_)
      · skip
        refine lv_aload_n hx hb dX10_read_118 rfl (lv_at hl 2 rfl) ?_
        refine iv_getr X ft_X10 hB a_h0 sh_10 0 (by decide) rfl k_fl_X10_9 dX10_read_119 (fun b5 g_b5 r_b5 e_b5 a_b5 => ?_)
        refine lv_iload_n hx hb dX10_read_122 rfl (lv_at hl 1 rfl) ?_
        refine lv_iconst (v := 0) hx hb dX10_read_123 (by decide) ?_
        refine iv_ast X hB a_b5 sh_42 (iv_in i_x1 (by decide)) (q_0.wk (by decide)) dX10_read_124 (fun H locs hB => ?_)
        have hm := iv_Md.ast (j := x1.toNatClampNeg) (x := 0) a_b5 rfl (by decide)
        have h9 := iv_up_eq (G := G3) (a := b5) (k := (42, upd g_b5 x1.toNatClampNeg 0, r_b5))
        generalize iv_up G3 b5 _ = G6 at hB hm h9
        have hM := hM.stp hm (by decide)
        have a_h0 := hm.at a_h0 (by decide)
        have a_h1 := hm.at a_h1 (by decide)
        refine lv_aload_n hx hb dX10_read_125 rfl (lv_at hl 2 rfl) ?_
        refine iv_getr X ft_X10 hB a_h0 sh_10 1 (by decide) rfl k_fl_X10_15 dX10_read_126 (fun b8 g_b8 r_b8 e_b8 a_b8 => ?_)
        refine lv_iload_n hx hb dX10_read_129 rfl (lv_at hl 1 rfl) ?_
        refine lv_iload_n hx hb dX10_read_130 rfl (lv_at hl 4 rfl) ?_
        refine iv_ast X hB a_b8 sh_43 (iv_in i_x1 (by decide)) (i_x_1.wk (by decide)) dX10_read_131 (fun H locs hB => ?_)
        have hm := iv_Md.ast (j := x1.toNatClampNeg) (x := x_1) a_b8 rfl (by decide)
        have h9 := iv_up_eq (G := G6) (a := b8) (k := (43, upd g_b8 x1.toNatClampNeg x_1, r_b8))
        generalize iv_up G6 b8 _ = G9 at hB hm h9
        have hM := hM.stp hm (by decide)
        have a_h0 := hm.at a_h0 (by decide)
        have a_h1 := hm.at a_h1 (by decide)
        refine lv_aload_n hx hb dX10_read_132 rfl (lv_at hl 2 rfl) ?_
        refine iv_getr X ft_X10 hB a_h0 sh_10 2 (by decide) rfl k_fl_X10_18 dX10_read_133 (fun b11 g_b11 r_b11 e_b11 a_b11 => ?_)
        refine lv_iload_n hx hb dX10_read_136 rfl (lv_at hl 1 rfl) ?_
        refine lv_iconst (v := 0) hx hb dX10_read_137 (by decide) ?_
        refine iv_ast X hB a_b11 sh_44 (iv_in i_x1 (by decide)) (q_0.wk (by decide)) dX10_read_138 (fun H locs hB => ?_)
        have hm := iv_Md.ast (j := x1.toNatClampNeg) (x := 0) a_b11 rfl (by decide)
        have h9 := iv_up_eq (G := G9) (a := b11) (k := (44, upd g_b11 x1.toNatClampNeg 0, r_b11))
        generalize iv_up G9 b11 _ = G12 at hB hm h9
        have hM := hM.stp hm (by decide)
        have a_h0 := hm.at a_h0 (by decide)
        have a_h1 := hm.at a_h1 (by decide)
        exact iv_vret X hr hlocks hB hM dX10_read_139
      · skip
        have i13_x2 : iv_R 0 399 x2 := (i_x2.cutHi (n := 399) (iv_lt_r (iv_nle c4) i_x_1 (by decide)))
        have i14_x_1 : iv_R 1 400 x_1 := (i_x_1.cutLo (n := 1) (iv_lt_l (iv_nle c4) i_x2 (by decide)))
        refine lv_aload_n hx hb dX10_read_11 rfl (lv_at hl 3 rfl) ?_
        refine lv_iload hx hb dX10_read_12 (lv_at hl 0 rfl) ?_
        refine iv_ald X hB a_h1 sh_45 (iv_in i13_x2 (by decide)) dX10_read_14 (fun x16 e_x16 i_x16 => ?_)
        refine lv_bipush (v := 32) hx hb dX10_read_15 (by decide) ?_
        refine lv_icmp_eq (tgt := 29) hx hb dX10_read_17 (by decide) (fun c17 => ?_) (fun c17 => ?_)
        · skip
          have i17_x16 : iv_R 32 32 x16 := ((i_x16.cutLo (n := 32) (iv_eq_r c17 q_32).1).cutHi (n := 32) (iv_eq_r c17 q_32).2)
          refine lv_iconst (v := 1) hx hb dX10_read_29 (by decide) ?_
          refine lv_goto (tgt := 34) hx hb dX10_read_30 (by decide) ?_
          refine lv_istore (lv' := [(5, .int 1), (4, .int x2), (3, .int x1), (0, .ref h0), (1, .ref h1), (2, .int x_1)]) hx hb dX10_read_34 hl (by decide) rfl (fun ls hl => ?_)
          refine lv_iload hx hb dX10_read_36 (lv_at hl 0 rfl) ?_
          refine lv_if_ne (tgt := 112) hx hb dX10_read_38 (by decide) (fun c19 => ?_) (fun c19 => ?_)
          · skip
            refine iv_iinc hx hb i13_x2 (lo := 1) (hi := 400) (by decide) dX10_read_112 hl (k := 1) rfl (by decide) (fun x20 ls e_x20 i_x20 hl => ?_)
            have hl : lv_has ls 7 [(4, .int x20), (5, .int 1), (3, .int x1), (0, .ref h0), (1, .ref h1), (2, .int x_1)] := hl
            refine lv_goto (tgt := 5) hx hb dX10_read_115 (by decide) ?_
            exact ih_5 G3 hM _ _ hB a_h0 a_h1 x1 i_x1 x20 (i_x20.wk (by decide)) (iv_mup (c := 1) i_x2 (by decide) (by decide) (by omega) hn_5) ⟨by omega, by omega⟩ _ (lv_sub hl [0, 2, 3, 4, 5] rfl)
          · skip
            exact (q_1.cutHi (n := 0) (iv_eq_r c19 q_0).2).no (by decide)
        · skip
          refine lv_aload_n hx hb dX10_read_20 rfl (lv_at hl 3 rfl) ?_
          refine lv_iload hx hb dX10_read_21 (lv_at hl 0 rfl) ?_
          refine iv_ald X hB a_h1 sh_45 (iv_in i13_x2 (by decide)) dX10_read_23 (fun x21 e_x21 i_x21 => ?_)
          refine lv_bipush (v := 10) hx hb dX10_read_24 (by decide) ?_
          refine lv_icmp_ne (tgt := 33) hx hb dX10_read_26 (by decide) (fun c22 => ?_) (fun c22 => ?_)
          · skip
            refine lv_iconst (v := 0) hx hb dX10_read_33 (by decide) ?_
            refine lv_istore (lv' := [(5, .int 0), (4, .int x2), (3, .int x1), (0, .ref h0), (1, .ref h1), (2, .int x_1)]) hx hb dX10_read_34 hl (by decide) rfl (fun ls hl => ?_)
            refine lv_iload hx hb dX10_read_36 (lv_at hl 0 rfl) ?_
            refine lv_if_ne (tgt := 112) hx hb dX10_read_38 (by decide) (fun c23 => ?_) (fun c23 => ?_)
            · skip
              exact absurd rfl c23
            · skip
              refine lv_aload_n hx hb dX10_read_41 rfl (lv_at hl 4 rfl) ?_
              refine lv_iload hx hb dX10_read_42 (lv_at hl 1 rfl) ?_
              refine iv_cSi X k_good k_mf_X10_goesOn k_st_X10_goesOn k_ml_X10_21 hB (As := [.ref h1, .int x2]) (c_X10_goesOn l D tys base G3 h1 g_h1 r_h1 a_h1 x2 i13_x2) ⟨rfl, rfl⟩ ⟨Nat.le_of_ble_eq_true rfl, Nat.le_of_ble_eq_true rfl⟩ ⟨Nat.le_of_ble_eq_true rfl, Nat.le_of_ble_eq_true rfl⟩ rfl rfl hl.1 (Nat.le_of_ble_eq_true rfl) dX10_read_44 (fun x24 G9 H locs hq hB => ?_)
              obtain ⟨rfl, i_x24, hp25⟩ := hq
              refine lv_if_ne (tgt := 112) hx hb dX10_read_47 (by decide) (fun c26 => ?_) (fun c26 => ?_)
              · skip
                have i26_x24 : iv_R 1 1 x24 := iv_ne_lo c26 i_x24 q_0 (by decide)
                have i27_x2 : iv_R 1 399 x2 := (i13_x2.cutLo (n := 1) (hp25 c26).1)
                refine iv_iinc hx hb i27_x2 (lo := 2) (hi := 400) (by decide) dX10_read_112 hl (k := 1) rfl (by decide) (fun x29 ls e_x29 i_x29 hl => ?_)
                have hl : lv_has ls 7 [(4, .int x29), (5, .int 0), (3, .int x1), (0, .ref h0), (1, .ref h1), (2, .int x_1)] := hl
                refine lv_goto (tgt := 5) hx hb dX10_read_115 (by decide) ?_
                exact ih_5 G3 hM _ _ hB a_h0 a_h1 x1 i_x1 x29 (i_x29.wk (by decide)) (iv_mup (c := 1) i_x2 (by decide) (by decide) (by omega) hn_5) ⟨by omega, by omega⟩ _ (lv_sub hl [0, 2, 3, 4, 5] rfl)
              · skip
                have i29_x24 : iv_R 0 0 x24 := (i_x24.cutHi (n := 0) (iv_eq_r c26 q_0).2)
                refine lv_aload_n hx hb dX10_read_50 rfl (lv_at hl 4 rfl) ?_
                refine lv_iload hx hb dX10_read_51 (lv_at hl 1 rfl) ?_
                refine lv_iload_n hx hb dX10_read_53 rfl (lv_at hl 5 rfl) ?_
                refine iv_cSi X k_good k_mf_X10_behindToken k_st_X10_behindToken k_ml_X10_25 hB (As := [.ref h1, .int x2, .int x_1]) (c_X10_behindToken l D tys base G3 h1 g_h1 r_h1 a_h1 x2 i13_x2 x_1 i14_x_1) ⟨rfl, rfl⟩ ⟨Nat.le_of_ble_eq_true rfl, Nat.le_of_ble_eq_true rfl⟩ ⟨Nat.le_of_ble_eq_true rfl, Nat.le_of_ble_eq_true rfl⟩ rfl rfl hl.1 (Nat.le_of_ble_eq_true rfl) dX10_read_54 (fun x31 G9 H locs hq hB => ?_)
                obtain ⟨rfl, i_x31⟩ := hq
                refine lv_istore (lv' := [(6, .int x31), (5, .int 0), (4, .int x2), (3, .int x1), (0, .ref h0), (1, .ref h1), (2, .int x_1)]) hx hb dX10_read_57 hl (by decide) rfl (fun ls hl => ?_)
                refine lv_aload_n hx hb dX10_read_59 rfl (lv_at hl 4 rfl) ?_
                refine iv_getr X ft_X10 hB a_h0 sh_10 1 (by decide) rfl k_fl_X10_15 dX10_read_60 (fun b32 g_b32 r_b32 e_b32 a_b32 => ?_)
                refine lv_iload_n hx hb dX10_read_63 rfl (lv_at hl 3 rfl) ?_
                refine lv_iload hx hb dX10_read_64 (lv_at hl 2 rfl) ?_
                refine iv_ast X hB a_b32 sh_43 (iv_in i_x1 (by decide)) (i13_x2.wk (by decide)) dX10_read_66 (fun H locs hB => ?_)
                have hm := iv_Md.ast (j := x1.toNatClampNeg) (x := x2) a_b32 rfl (by decide)
                have h9 := iv_up_eq (G := G3) (a := b32) (k := (43, upd g_b32 x1.toNatClampNeg x2, r_b32))
                generalize iv_up G3 b32 _ = G33 at hB hm h9
                have hM := hM.stp hm (by decide)
                have a_h0 := hm.at a_h0 (by decide)
                have a_h1 := hm.at a_h1 (by decide)
                refine lv_aload_n hx hb dX10_read_67 rfl (lv_at hl 4 rfl) ?_
                refine iv_getr X ft_X10 hB a_h0 sh_10 0 (by decide) rfl k_fl_X10_9 dX10_read_68 (fun b35 g_b35 r_b35 e_b35 a_b35 => ?_)
                refine lv_iload_n hx hb dX10_read_71 rfl (lv_at hl 3 rfl) ?_
                refine lv_aload_n hx hb dX10_read_72 rfl (lv_at hl 5 rfl) ?_
                refine lv_iload hx hb dX10_read_73 (lv_at hl 2 rfl) ?_
                refine lv_iload hx hb dX10_read_75 (lv_at hl 0 rfl) ?_
                refine iv_cSi X k_good k_mf_X10_kindOf k_st_X10_kindOf k_ml_X10_29 hB (As := [.ref h1, .int x2, .int x31]) (c_X10_kindOf l D tys base G33 h1 g_h1 r_h1 a_h1 x2 i13_x2 x31 i_x31) ⟨rfl, rfl⟩ ⟨Nat.le_of_ble_eq_true rfl, Nat.le_of_ble_eq_true rfl⟩ ⟨Nat.le_of_ble_eq_true rfl, Nat.le_of_ble_eq_true rfl⟩ rfl rfl hl.1 (Nat.le_of_ble_eq_true rfl) dX10_read_77 (fun x36 G9 H locs hq hB => ?_)
                obtain ⟨rfl, i_x36⟩ := hq
                refine iv_ast X hB a_b35 sh_42 (iv_in i_x1 (by decide)) i_x36 dX10_read_80 (fun H locs hB => ?_)
                have hm := iv_Md.ast (j := x1.toNatClampNeg) (x := x36) a_b35 rfl (by decide)
                have h9 := iv_up_eq (G := G33) (a := b35) (k := (42, upd g_b35 x1.toNatClampNeg x36, r_b35))
                generalize iv_up G33 b35 _ = G37 at hB hm h9
                have hM := hM.stp hm (by decide)
                have a_h0 := hm.at a_h0 (by decide)
                have a_h1 := hm.at a_h1 (by decide)
                refine lv_aload_n hx hb dX10_read_81 rfl (lv_at hl 4 rfl) ?_
                refine iv_getr X ft_X10 hB a_h0 sh_10 2 (by decide) rfl k_fl_X10_18 dX10_read_82 (fun b39 g_b39 r_b39 e_b39 a_b39 => ?_)
                refine lv_iload_n hx hb dX10_read_85 rfl (lv_at hl 3 rfl) ?_
                refine lv_aload_n hx hb dX10_read_86 rfl (lv_at hl 4 rfl) ?_
                refine iv_getr X ft_X10 hB a_h0 sh_10 0 (by decide) rfl k_fl_X10_9 dX10_read_87 (fun b40 g_b40 r_b40 e_b40 a_b40 => ?_)
                refine lv_iload_n hx hb dX10_read_90 rfl (lv_at hl 3 rfl) ?_
                refine iv_ald X hB a_b40 sh_42 (iv_in i_x1 (by decide)) dX10_read_91 (fun x41 e_x41 i_x41 => ?_)
                refine lv_iconst (v := 2) hx hb dX10_read_92 (by decide) ?_
                refine lv_icmp_ne (tgt := 107) hx hb dX10_read_93 (by decide) (fun c42 => ?_) (fun c42 => ?_)
                · skip
                  refine lv_iconst (v := 0) hx hb dX10_read_107 (by decide) ?_
                  refine iv_ast X hB a_b39 sh_44 (iv_in i_x1 (by decide)) (q_0.wk (by decide)) dX10_read_108 (fun H locs hB => ?_)
                  have hm := iv_Md.ast (j := x1.toNatClampNeg) (x := 0) a_b39 rfl (by decide)
                  have h9 := iv_up_eq (G := G37) (a := b39) (k := (44, upd g_b39 x1.toNatClampNeg 0, r_b39))
                  generalize iv_up G37 b39 _ = G43 at hB hm h9
                  have hM := hM.stp hm (by decide)
                  have a_h0 := hm.at a_h0 (by decide)
                  have a_h1 := hm.at a_h1 (by decide)
                  refine iv_iinc hx hb i_x1 (lo := 1) (hi := 401) (by decide) dX10_read_109 hl (k := 3) rfl (by decide) (fun x45 ls e_x45 i_x45 hl => ?_)
                  have hl : lv_has ls 7 [(3, .int x45), (6, .int x31), (5, .int 0), (4, .int x2), (0, .ref h0), (1, .ref h1), (2, .int x_1)] := hl
                  refine iv_iinc hx hb i13_x2 (lo := 1) (hi := 400) (by decide) dX10_read_112 hl (k := 3) rfl (by decide) (fun x46 ls e_x46 i_x46 hl => ?_)
                  have hl : lv_has ls 7 [(4, .int x46), (3, .int x45), (6, .int x31), (5, .int 0), (0, .ref h0), (1, .ref h1), (2, .int x_1)] := hl
                  refine lv_goto (tgt := 5) hx hb dX10_read_115 (by decide) ?_
                  exact ih_5 G43 hM _ _ hB a_h0 a_h1 x45 ⟨by omega, by have w9 := i_x46.2; omega⟩ x46 (i_x46.wk (by decide)) (iv_mup (c := 1) i_x2 (by decide) (by decide) (by omega) hn_5) ⟨by omega, by omega⟩ _ (lv_sub hl [0, 1, 4, 5, 6] rfl)
                · skip
                  have i46_x41 : iv_R 2 2 x41 := ((i_x41.cutLo (n := 2) (iv_eq_r c42 q_2).1).cutHi (n := 2) (iv_eq_r c42 q_2).2)
                  refine lv_aload_n hx hb dX10_read_96 rfl (lv_at hl 5 rfl) ?_
                  refine lv_iload hx hb dX10_read_97 (lv_at hl 2 rfl) ?_
                  refine lv_iload hx hb dX10_read_99 (lv_at hl 0 rfl) ?_
                  refine iv_cSi X k_good k_mf_X10_numberOf k_st_X10_numberOf k_ml_X10_32 hB (As := [.ref h1, .int x2, .int x31]) (c_X10_numberOf l D tys base G37 h1 g_h1 r_h1 a_h1 x2 i13_x2 x31 i_x31) ⟨rfl, rfl⟩ ⟨Nat.le_of_ble_eq_true rfl, Nat.le_of_ble_eq_true rfl⟩ ⟨Nat.le_of_ble_eq_true rfl, Nat.le_of_ble_eq_true rfl⟩ rfl rfl hl.1 (Nat.le_of_ble_eq_true rfl) dX10_read_101 (fun x48 G9 H locs hq hB => ?_)
                  obtain ⟨rfl, i_x48⟩ := hq
                  refine lv_goto (tgt := 108) hx hb dX10_read_104 (by decide) ?_
                  refine iv_ast X hB a_b39 sh_44 (iv_in i_x1 (by decide)) i_x48 dX10_read_108 (fun H locs hB => ?_)
                  have hm := iv_Md.ast (j := x1.toNatClampNeg) (x := x48) a_b39 rfl (by decide)
                  have h9 := iv_up_eq (G := G37) (a := b39) (k := (44, upd g_b39 x1.toNatClampNeg x48, r_b39))
                  generalize iv_up G37 b39 _ = G49 at hB hm h9
                  have hM := hM.stp hm (by decide)
                  have a_h0 := hm.at a_h0 (by decide)
                  have a_h1 := hm.at a_h1 (by decide)
                  refine iv_iinc hx hb i_x1 (lo := 1) (hi := 401) (by decide) dX10_read_109 hl (k := 3) rfl (by decide) (fun x51 ls e_x51 i_x51 hl => ?_)
                  have hl : lv_has ls 7 [(3, .int x51), (6, .int x31), (5, .int 0), (4, .int x2), (0, .ref h0), (1, .ref h1), (2, .int x_1)] := hl
                  refine iv_iinc hx hb i13_x2 (lo := 1) (hi := 400) (by decide) dX10_read_112 hl (k := 3) rfl (by decide) (fun x52 ls e_x52 i_x52 hl => ?_)
                  have hl : lv_has ls 7 [(4, .int x52), (3, .int x51), (6, .int x31), (5, .int 0), (0, .ref h0), (1, .ref h1), (2, .int x_1)] := hl
                  refine lv_goto (tgt := 5) hx hb dX10_read_115 (by decide) ?_
                  exact ih_5 G49 hM _ _ hB a_h0 a_h1 x51 ⟨by omega, by have w9 := i_x52.2; omega⟩ x52 (i_x52.wk (by decide)) (iv_mup (c := 1) i_x2 (by decide) (by decide) (by omega) hn_5) ⟨by omega, by omega⟩ _ (lv_sub hl [0, 1, 4, 5, 6] rfl)
          · skip
            have i52_x21 : iv_R 10 10 x21 := ((i_x21.cutLo (n := 10) (iv_eq_r c22 q_10).1).cutHi (n := 10) (iv_eq_r c22 q_10).2)
            refine lv_iconst (v := 1) hx hb dX10_read_29 (by decide) ?_
            refine lv_goto (tgt := 34) hx hb dX10_read_30 (by decide) ?_
            refine lv_istore (lv' := [(5, .int 1), (4, .int x2), (3, .int x1), (0, .ref h0), (1, .ref h1), (2, .int x_1)]) hx hb dX10_read_34 hl (by decide) rfl (fun ls hl => ?_)
            refine lv_iload hx hb dX10_read_36 (lv_at hl 0 rfl) ?_
            refine lv_if_ne (tgt := 112) hx hb dX10_read_38 (by decide) (fun c54 => ?_) (fun c54 => ?_)
            · skip
              refine iv_iinc hx hb i13_x2 (lo := 1) (hi := 400) (by decide) dX10_read_112 hl (k := 1) rfl (by decide) (fun x55 ls e_x55 i_x55 hl => ?_)
              have hl : lv_has ls 7 [(4, .int x55), (5, .int 1), (3, .int x1), (0, .ref h0), (1, .ref h1), (2, .int x_1)] := hl
              refine lv_goto (tgt := 5) hx hb dX10_read_115 (by decide) ?_
              exact ih_5 G3 hM _ _ hB a_h0 a_h1 x1 i_x1 x55 (i_x55.wk (by decide)) (iv_mup (c := 1) i_x2 (by decide) (by decide) (by omega) hn_5) ⟨by omega, by omega⟩ _ (lv_sub hl [0, 2, 3, 4, 5] rfl)
            · skip
              exact (q_1.cutHi (n := 0) (iv_eq_r c54 q_0).2).no (by decide)
  exact L_5 _ G hM _ _ hB a_h0 a_h1 0 (q_0.wk (by decide)) 0 (q_0.wk (by decide)) (Nat.lt_succ_self _) ⟨by decide, Int.le_refl _⟩ _ (lv_sub hl [0, 1, 2, 3, 4] rfl)
theorem dX12_is_0 : decode cX12_is 0 = .ok (.aload_n 0, 1) := by decide +kernel
theorem dX12_is_1 : decode cX12_is 1 = .ok (.getfield 85, 3) := by decide +kernel
theorem dX12_is_4 : decode cX12_is 4 = .ok (.aload_n 0, 1) := by decide +kernel
theorem dX12_is_5 : decode cX12_is 5 = .ok (.getfield 88, 3) := by decide +kernel
theorem dX12_is_8 : decode cX12_is 8 = .ok (.isub, 1) := by decide +kernel
theorem dX12_is_9 : decode cX12_is 9 = .ok (.aload_n 1, 1) := by decide +kernel
theorem dX12_is_10 : decode cX12_is 10 = .ok (.invokevirtual 91, 3) := by decide +kernel
theorem dX12_is_13 : decode cX12_is 13 = .ok (.if_icmp .ne 7, 3) := by decide +kernel
theorem dX12_is_16 : decode cX12_is 16 = .ok (.iconst 1, 1) := by decide +kernel
theorem dX12_is_17 : decode cX12_is 17 = .ok (.goto 4, 3) := by decide +kernel
theorem dX12_is_20 : decode cX12_is 20 = .ok (.iconst 0, 1) := by decide +kernel
theorem dX12_is_21 : decode cX12_is 21 = .ok (.istore_n 2, 1) := by decide +kernel
theorem dX12_is_22 : decode cX12_is 22 = .ok (.iconst 0, 1) := by decide +kernel
theorem dX12_is_23 : decode cX12_is 23 = .ok (.istore_n 3, 1) := by decide +kernel
theorem dX12_is_24 : decode cX12_is 24 = .ok (.iload_n 3, 1) := by decide +kernel
theorem dX12_is_25 : decode cX12_is 25 = .ok (.aload_n 1, 1) := by decide +kernel
theorem dX12_is_26 : decode cX12_is 26 = .ok (.invokevirtual 91, 3) := by decide +kernel
theorem dX12_is_29 : decode cX12_is 29 = .ok (.if_icmp .ge 38, 3) := by decide +kernel
theorem dX12_is_32 : decode cX12_is 32 = .ok (.iload_n 2, 1) := by decide +kernel
theorem dX12_is_33 : decode cX12_is 33 = .ok (.ifCond .eq 34, 3) := by decide +kernel
theorem dX12_is_36 : decode cX12_is 36 = .ok (.aload_n 0, 1) := by decide +kernel
theorem dX12_is_37 : decode cX12_is 37 = .ok (.getfield 28, 3) := by decide +kernel
theorem dX12_is_40 : decode cX12_is 40 = .ok (.aload_n 0, 1) := by decide +kernel
theorem dX12_is_41 : decode cX12_is 41 = .ok (.getfield 88, 3) := by decide +kernel
theorem dX12_is_44 : decode cX12_is 44 = .ok (.iload_n 3, 1) := by decide +kernel
theorem dX12_is_45 : decode cX12_is 45 = .ok (.iadd, 1) := by decide +kernel
theorem dX12_is_46 : decode cX12_is 46 = .ok (.iaload, 1) := by decide +kernel
theorem dX12_is_47 : decode cX12_is 47 = .ok (.aload_n 1, 1) := by decide +kernel
theorem dX12_is_48 : decode cX12_is 48 = .ok (.iload_n 3, 1) := by decide +kernel
theorem dX12_is_49 : decode cX12_is 49 = .ok (.invokevirtual 97, 3) := by decide +kernel
theorem dX12_is_52 : decode cX12_is 52 = .ok (.if_icmp .ne 7, 3) := by decide +kernel
theorem dX12_is_55 : decode cX12_is 55 = .ok (.iconst 1, 1) := by decide +kernel
theorem dX12_is_56 : decode cX12_is 56 = .ok (.goto 4, 3) := by decide +kernel
theorem dX12_is_59 : decode cX12_is 59 = .ok (.iconst 0, 1) := by decide +kernel
theorem dX12_is_60 : decode cX12_is 60 = .ok (.istore_n 2, 1) := by decide +kernel
theorem dX12_is_61 : decode cX12_is 61 = .ok (.iinc 3 1, 3) := by decide +kernel
theorem dX12_is_64 : decode cX12_is 64 = .ok (.goto (-40), 3) := by decide +kernel
theorem dX12_is_67 : decode cX12_is 67 = .ok (.iload_n 2, 1) := by decide +kernel
theorem dX12_is_68 : decode cX12_is 68 = .ok (.ireturn, 1) := by decide +kernel
set_option maxHeartbeats 4000000 in
set_option maxRecDepth 100000 in
theorem c_X12_is (l : Launch) (D : va_G) (tys : List (ClassId × FieldType)) (base : Nat) (G : iv_G) (h0 : Nat) (g_h0 : Nat → Int32) (r_h0 : Nat → Nat) (a_h0 : G h0 = some (12, g_h0, r_h0)) (s1 : Nat) (hs1 : s1 < 23) : Met l yX12_is (Cond.code yX12_is cX12_is 4 (some .boolean) :: iv_W0) ({ frames := 4, cells := 0, slots := 0, locals := 85 }) (iv_Pc iv_sh D classes tys base G [.ref h0, .ref (D.2 100 s1)]) (iv_Qi iv_sh D classes tys base (fun v G' => G = G' ∧ iv_R 0 1 v)) 0 0 (iv_A base) := by
  refine iv_head (by decide) (Nat.le_of_ble_eq_true rfl) ?_
  intro p e s m args below meth c ls X hr hlocks hname hB hl
  have X := X
  have hx := X.1.1
  have hb := X.1.2.1
  have hl : lv_has ls 4 [(0, .ref h0), (1, .ref (D.2 100 s1))] := hl
  refine lv_aload_n hx hb dX12_is_0 rfl (lv_at hl 0 rfl) ?_
  refine iv_geti X ft_X12 hB a_h0 sh_12 16 (by decide) rfl k_fl_X12_85 dX12_is_1 (fun x1 e_x1 i_x1 => ?_)
  refine lv_aload_n hx hb dX12_is_4 rfl (lv_at hl 0 rfl) ?_
  refine iv_geti X ft_X12 hB a_h0 sh_12 18 (by decide) rfl k_fl_X12_88 dX12_is_5 (fun x2 e_x2 i_x2 => ?_)
  refine iv_isub hx hb i_x1 i_x2 (lo := (-400)) (hi := 400) (by decide) dX12_is_8 (fun x3 e_x3 i_x3 => ?_)
  refine lv_aload_n hx hb dX12_is_9 rfl (lv_at hl 1 rfl) ?_
  refine iv_cKi X k_good k_mf_J0_length_8abf5 k_im_J0_length_8abf5 k_sel_J0_length_8abf5 k_ml_X12_91 hs1 rfl hB (As := []) (c_J0_length_8abf5 l D tys base G s1 hs1) ⟨rfl, rfl⟩ ⟨Nat.le_of_ble_eq_true rfl, Nat.le_of_ble_eq_true rfl⟩ ⟨Nat.le_of_ble_eq_true rfl, Nat.le_of_ble_eq_true rfl⟩ rfl rfl hl.1 (Nat.le_of_ble_eq_true rfl) dX12_is_10 (fun x4 G9 H locs hq hB => ?_)
  obtain ⟨rfl, i_x4, e_x4⟩ := hq
  refine lv_icmp_ne (tgt := 20) hx hb dX12_is_13 (by decide) (fun c5 => ?_) (fun c5 => ?_)
  · skip
    refine lv_iconst (v := 0) hx hb dX12_is_20 (by decide) ?_
    refine lv_istore_n (lv' := [(2, .int 0), (0, .ref h0), (1, .ref (D.2 100 s1))]) hx hb dX12_is_21 rfl hl (by decide) rfl (fun ls hl => ?_)
    refine lv_iconst (v := 0) hx hb dX12_is_22 (by decide) ?_
    refine lv_istore_n (lv' := [(3, .int 0), (2, .int 0), (0, .ref h0), (1, .ref (D.2 100 s1))]) hx hb dX12_is_23 rfl hl (by decide) rfl (fun ls hl => ?_)
    have L_24 : ∀ (n_24 : Nat) (H : Heap) (locs : List Loc) (hB : iv_B iv_sh D classes tys base G s.heap H locs) (x6 : Int32) (i_x6 : iv_R 0 1 x6) (x7 : Int32) (i_x7 : iv_R 0 255 x7) (hn_24 : (256 - x7.toInt).toNat < n_24) (inv_24 : x6 = 0 ∨ (g_h0 16).toInt - (g_h0 18).toInt = ((iv_len.getD s1 0 : Nat) : Int)) (ls : Array Slot) (hl : lv_has ls 4 [(3, .int x7), (2, .int x6), (0, .ref h0), (1, .ref (D.2 100 s1))]), W p l e ({ frames := 4, cells := 0, slots := 0, locals := 85 } : Room) s m args below meth c H locs 0 0 (MQ below (iv_Qi iv_sh D classes tys base (fun v G' => G = G' ∧ iv_R 0 1 v)) args s 0 0 (iv_A base)) (F0 m 24 ls []) := by
      intro n_24
      induction n_24 with
      | zero => intro H locs hB x6 i_x6 x7 i_x7 hn_24 inv_24 ls hl; exact absurd hn_24 (Nat.not_lt_zero _)
      | succ n_24 ih_24 =>
        intro H locs hB x6 i_x6 x7 i_x7 hn_24 inv_24 ls hl
        refine lv_iload_n hx hb dX12_is_24 rfl (lv_at hl 0 rfl) ?_
        refine lv_aload_n hx hb dX12_is_25 rfl (lv_at hl 3 rfl) ?_
        refine iv_cKi X k_good k_mf_J0_length_8abf5 k_im_J0_length_8abf5 k_sel_J0_length_8abf5 k_ml_X12_91 hs1 rfl hB (As := []) (c_J0_length_8abf5 l D tys base G s1 hs1) ⟨rfl, rfl⟩ ⟨Nat.le_of_ble_eq_true rfl, Nat.le_of_ble_eq_true rfl⟩ ⟨Nat.le_of_ble_eq_true rfl, Nat.le_of_ble_eq_true rfl⟩ rfl rfl hl.1 (Nat.le_of_ble_eq_true rfl) dX12_is_26 (fun x8 G9 H locs hq hB => ?_)
        obtain ⟨rfl, i_x8, e_x8⟩ := hq
        refine lv_icmp_ge (tgt := 67) hx hb dX12_is_29 (by decide) (fun c9 => ?_) (fun c9 => ?_)
        · skip
          refine lv_iload_n hx hb dX12_is_67 rfl (lv_at hl 1 rfl) ?_
          exact iv_zret X hr hlocks hB i_x6 ⟨rfl, i_x6⟩ dX12_is_68
        · skip
          have i9_x7 : iv_R 0 254 x7 := (i_x7.cutHi (n := 254) (iv_lt_r (iv_nle c9) i_x8 (by decide)))
          have i10_x8 : iv_R 1 255 x8 := (i_x8.cutLo (n := 1) (iv_lt_l (iv_nle c9) i_x7 (by decide)))
          refine lv_iload_n hx hb dX12_is_32 rfl (lv_at hl 1 rfl) ?_
          refine lv_if_eq (tgt := 67) hx hb dX12_is_33 (by decide) (fun c12 => ?_) (fun c12 => ?_)
          · skip
            have i12_x6 : iv_R 0 0 x6 := (i_x6.cutHi (n := 0) (iv_eq_r c12 q_0).2)
            refine lv_iload_n hx hb dX12_is_67 rfl (lv_at hl 1 rfl) ?_
            exact iv_zret X hr hlocks hB (i12_x6.wk (by decide)) ⟨rfl, (i12_x6.wk (by decide))⟩ dX12_is_68
          · skip
            have i13_x6 : iv_R 1 1 x6 := iv_ne_lo c12 i_x6 q_0 (by decide)
            refine lv_aload_n hx hb dX12_is_36 rfl (lv_at hl 2 rfl) ?_
            refine iv_getr X ft_X12 hB a_h0 sh_12 8 (by decide) rfl k_fl_X12_28 dX12_is_37 (fun b15 g_b15 r_b15 e_b15 a_b15 => ?_)
            refine lv_aload_n hx hb dX12_is_40 rfl (lv_at hl 2 rfl) ?_
            refine iv_geti0 X ft_X12 hB a_h0 sh_12 18 (by decide) rfl k_fl_X12_88 dX12_is_41 e_x2 ?_
            refine lv_iload_n hx hb dX12_is_44 rfl (lv_at hl 0 rfl) ?_
            refine iv_iadd hx hb i_x2 i9_x7 (lo := 0) (hi := 654) (by decide) dX12_is_45 (fun x16 e_x16 i_x16 => ?_)
            refine iv_ald X hB a_b15 sh_66 (iv_inU i_x16 (by decide) (by have w1 := inv_24.resolve_left (by assumption); have w2 := iv_ltU (iv_nle c9) (Int.le_of_eq e_x8); have w3 := i_x1.2; rw [e_x1] at w3; have w4 : x2.toInt = (g_h0 18).toInt := congrArg Int32.toInt e_x2; omega)) dX12_is_46 (fun x17 e_x17 i_x17 => ?_)
            refine lv_aload_n hx hb dX12_is_47 rfl (lv_at hl 3 rfl) ?_
            refine lv_iload_n hx hb dX12_is_48 rfl (lv_at hl 0 rfl) ?_
            refine iv_cKi X k_good k_mf_J0_charAt_5068e k_im_J0_charAt_5068e k_sel_J0_charAt_5068e k_ml_X12_97 hs1 rfl hB (As := [.int x7]) (c_J0_charAt_5068e l D tys base G s1 hs1 x7 i9_x7 (iv_ltU (iv_nle c9) (Int.le_of_eq e_x8))) ⟨rfl, rfl⟩ ⟨Nat.le_of_ble_eq_true rfl, Nat.le_of_ble_eq_true rfl⟩ ⟨Nat.le_of_ble_eq_true rfl, Nat.le_of_ble_eq_true rfl⟩ rfl rfl hl.1 (Nat.le_of_ble_eq_true rfl) dX12_is_49 (fun x18 G9 H locs hq hB => ?_)
            obtain ⟨rfl, i_x18⟩ := hq
            refine lv_icmp_ne (tgt := 59) hx hb dX12_is_52 (by decide) (fun c19 => ?_) (fun c19 => ?_)
            · skip
              refine lv_iconst (v := 0) hx hb dX12_is_59 (by decide) ?_
              refine lv_istore_n (lv' := [(2, .int 0), (3, .int x7), (0, .ref h0), (1, .ref (D.2 100 s1))]) hx hb dX12_is_60 rfl hl (by decide) rfl (fun ls hl => ?_)
              refine iv_iinc hx hb i9_x7 (lo := 1) (hi := 255) (by decide) dX12_is_61 hl (k := 1) rfl (by decide) (fun x20 ls e_x20 i_x20 hl => ?_)
              have hl : lv_has ls 4 [(3, .int x20), (2, .int 0), (0, .ref h0), (1, .ref (D.2 100 s1))] := hl
              refine lv_goto (tgt := 24) hx hb dX12_is_64 (by decide) ?_
              exact ih_24 _ _ hB 0 (q_0.wk (by decide)) x20 (i_x20.wk (by decide)) (iv_mup (c := 1) i_x7 (by decide) (by decide) (by omega) hn_24) (by first | exact Or.inl rfl | exact Or.inr (inv_24.resolve_left (by assumption))) _ (lv_sub hl [0, 1, 2, 3] rfl)
            · skip
              refine lv_iconst (v := 1) hx hb dX12_is_55 (by decide) ?_
              refine lv_goto (tgt := 60) hx hb dX12_is_56 (by decide) ?_
              refine lv_istore_n (lv' := [(2, .int 1), (3, .int x7), (0, .ref h0), (1, .ref (D.2 100 s1))]) hx hb dX12_is_60 rfl hl (by decide) rfl (fun ls hl => ?_)
              refine iv_iinc hx hb i9_x7 (lo := 1) (hi := 255) (by decide) dX12_is_61 hl (k := 1) rfl (by decide) (fun x21 ls e_x21 i_x21 hl => ?_)
              have hl : lv_has ls 4 [(3, .int x21), (2, .int 1), (0, .ref h0), (1, .ref (D.2 100 s1))] := hl
              refine lv_goto (tgt := 24) hx hb dX12_is_64 (by decide) ?_
              exact ih_24 _ _ hB 1 (q_1.wk (by decide)) x21 (i_x21.wk (by decide)) (iv_mup (c := 1) i_x7 (by decide) (by decide) (by omega) hn_24) (by first | exact Or.inl rfl | exact Or.inr (inv_24.resolve_left (by assumption))) _ (lv_sub hl [0, 1, 2, 3] rfl)
    exact L_24 _ _ _ hB 0 (q_0.wk (by decide)) 0 (q_0.wk (by decide)) (Nat.lt_succ_self _) (by first | exact Or.inl rfl | exact Or.inr (by have w1 : x3.toInt = x4.toInt := congrArg Int32.toInt (by assumption); have w2 : x1.toInt = (g_h0 16).toInt := congrArg Int32.toInt e_x1; have w3 : x2.toInt = (g_h0 18).toInt := congrArg Int32.toInt e_x2; omega)) _ (lv_sub hl [0, 1, 2, 3] rfl)
  · skip
    have i21_x3 : iv_R 0 255 x3 := ((i_x3.cutLo (n := 0) (iv_eq_r c5 i_x4).1).cutHi (n := 255) (iv_eq_r c5 i_x4).2)
    refine lv_iconst (v := 1) hx hb dX12_is_16 (by decide) ?_
    refine lv_goto (tgt := 21) hx hb dX12_is_17 (by decide) ?_
    refine lv_istore_n (lv' := [(2, .int 1), (0, .ref h0), (1, .ref (D.2 100 s1))]) hx hb dX12_is_21 rfl hl (by decide) rfl (fun ls hl => ?_)
    refine lv_iconst (v := 0) hx hb dX12_is_22 (by decide) ?_
    refine lv_istore_n (lv' := [(3, .int 0), (2, .int 1), (0, .ref h0), (1, .ref (D.2 100 s1))]) hx hb dX12_is_23 rfl hl (by decide) rfl (fun ls hl => ?_)
    have L_24 : ∀ (n_24 : Nat) (H : Heap) (locs : List Loc) (hB : iv_B iv_sh D classes tys base G s.heap H locs) (x23 : Int32) (i_x23 : iv_R 0 1 x23) (x24 : Int32) (i_x24 : iv_R 0 255 x24) (hn_24 : (256 - x24.toInt).toNat < n_24) (inv_24 : x23 = 0 ∨ (g_h0 16).toInt - (g_h0 18).toInt = ((iv_len.getD s1 0 : Nat) : Int)) (ls : Array Slot) (hl : lv_has ls 4 [(3, .int x24), (2, .int x23), (0, .ref h0), (1, .ref (D.2 100 s1))]), W p l e ({ frames := 4, cells := 0, slots := 0, locals := 85 } : Room) s m args below meth c H locs 0 0 (MQ below (iv_Qi iv_sh D classes tys base (fun v G' => G = G' ∧ iv_R 0 1 v)) args s 0 0 (iv_A base)) (F0 m 24 ls []) := by
      intro n_24
      induction n_24 with
      | zero => intro H locs hB x23 i_x23 x24 i_x24 hn_24 inv_24 ls hl; exact absurd hn_24 (Nat.not_lt_zero _)
      | succ n_24 ih_24 =>
        intro H locs hB x23 i_x23 x24 i_x24 hn_24 inv_24 ls hl
        refine lv_iload_n hx hb dX12_is_24 rfl (lv_at hl 0 rfl) ?_
        refine lv_aload_n hx hb dX12_is_25 rfl (lv_at hl 3 rfl) ?_
        refine iv_cKi X k_good k_mf_J0_length_8abf5 k_im_J0_length_8abf5 k_sel_J0_length_8abf5 k_ml_X12_91 hs1 rfl hB (As := []) (c_J0_length_8abf5 l D tys base G s1 hs1) ⟨rfl, rfl⟩ ⟨Nat.le_of_ble_eq_true rfl, Nat.le_of_ble_eq_true rfl⟩ ⟨Nat.le_of_ble_eq_true rfl, Nat.le_of_ble_eq_true rfl⟩ rfl rfl hl.1 (Nat.le_of_ble_eq_true rfl) dX12_is_26 (fun x25 G9 H locs hq hB => ?_)
        obtain ⟨rfl, i_x25, e_x25⟩ := hq
        refine lv_icmp_ge (tgt := 67) hx hb dX12_is_29 (by decide) (fun c26 => ?_) (fun c26 => ?_)
        · skip
          refine lv_iload_n hx hb dX12_is_67 rfl (lv_at hl 1 rfl) ?_
          exact iv_zret X hr hlocks hB i_x23 ⟨rfl, i_x23⟩ dX12_is_68
        · skip
          have i26_x24 : iv_R 0 254 x24 := (i_x24.cutHi (n := 254) (iv_lt_r (iv_nle c26) i_x25 (by decide)))
          have i27_x25 : iv_R 1 255 x25 := (i_x25.cutLo (n := 1) (iv_lt_l (iv_nle c26) i_x24 (by decide)))
          refine lv_iload_n hx hb dX12_is_32 rfl (lv_at hl 1 rfl) ?_
          refine lv_if_eq (tgt := 67) hx hb dX12_is_33 (by decide) (fun c29 => ?_) (fun c29 => ?_)
          · skip
            have i29_x23 : iv_R 0 0 x23 := (i_x23.cutHi (n := 0) (iv_eq_r c29 q_0).2)
            refine lv_iload_n hx hb dX12_is_67 rfl (lv_at hl 1 rfl) ?_
            exact iv_zret X hr hlocks hB (i29_x23.wk (by decide)) ⟨rfl, (i29_x23.wk (by decide))⟩ dX12_is_68
          · skip
            have i30_x23 : iv_R 1 1 x23 := iv_ne_lo c29 i_x23 q_0 (by decide)
            refine lv_aload_n hx hb dX12_is_36 rfl (lv_at hl 2 rfl) ?_
            refine iv_getr X ft_X12 hB a_h0 sh_12 8 (by decide) rfl k_fl_X12_28 dX12_is_37 (fun b32 g_b32 r_b32 e_b32 a_b32 => ?_)
            refine lv_aload_n hx hb dX12_is_40 rfl (lv_at hl 2 rfl) ?_
            refine iv_geti0 X ft_X12 hB a_h0 sh_12 18 (by decide) rfl k_fl_X12_88 dX12_is_41 e_x2 ?_
            refine lv_iload_n hx hb dX12_is_44 rfl (lv_at hl 0 rfl) ?_
            refine iv_iadd hx hb i_x2 i26_x24 (lo := 0) (hi := 654) (by decide) dX12_is_45 (fun x33 e_x33 i_x33 => ?_)
            refine iv_ald X hB a_b32 sh_66 (iv_inU i_x33 (by decide) (by have w1 := inv_24.resolve_left (by assumption); have w2 := iv_ltU (iv_nle c26) (Int.le_of_eq e_x25); have w3 := i_x1.2; rw [e_x1] at w3; have w4 : x2.toInt = (g_h0 18).toInt := congrArg Int32.toInt e_x2; omega)) dX12_is_46 (fun x34 e_x34 i_x34 => ?_)
            refine lv_aload_n hx hb dX12_is_47 rfl (lv_at hl 3 rfl) ?_
            refine lv_iload_n hx hb dX12_is_48 rfl (lv_at hl 0 rfl) ?_
            refine iv_cKi X k_good k_mf_J0_charAt_5068e k_im_J0_charAt_5068e k_sel_J0_charAt_5068e k_ml_X12_97 hs1 rfl hB (As := [.int x24]) (c_J0_charAt_5068e l D tys base G s1 hs1 x24 i26_x24 (iv_ltU (iv_nle c26) (Int.le_of_eq e_x25))) ⟨rfl, rfl⟩ ⟨Nat.le_of_ble_eq_true rfl, Nat.le_of_ble_eq_true rfl⟩ ⟨Nat.le_of_ble_eq_true rfl, Nat.le_of_ble_eq_true rfl⟩ rfl rfl hl.1 (Nat.le_of_ble_eq_true rfl) dX12_is_49 (fun x35 G9 H locs hq hB => ?_)
            obtain ⟨rfl, i_x35⟩ := hq
            refine lv_icmp_ne (tgt := 59) hx hb dX12_is_52 (by decide) (fun c36 => ?_) (fun c36 => ?_)
            · skip
              refine lv_iconst (v := 0) hx hb dX12_is_59 (by decide) ?_
              refine lv_istore_n (lv' := [(2, .int 0), (3, .int x24), (0, .ref h0), (1, .ref (D.2 100 s1))]) hx hb dX12_is_60 rfl hl (by decide) rfl (fun ls hl => ?_)
              refine iv_iinc hx hb i26_x24 (lo := 1) (hi := 255) (by decide) dX12_is_61 hl (k := 1) rfl (by decide) (fun x37 ls e_x37 i_x37 hl => ?_)
              have hl : lv_has ls 4 [(3, .int x37), (2, .int 0), (0, .ref h0), (1, .ref (D.2 100 s1))] := hl
              refine lv_goto (tgt := 24) hx hb dX12_is_64 (by decide) ?_
              exact ih_24 _ _ hB 0 (q_0.wk (by decide)) x37 (i_x37.wk (by decide)) (iv_mup (c := 1) i_x24 (by decide) (by decide) (by omega) hn_24) (by first | exact Or.inl rfl | exact Or.inr (inv_24.resolve_left (by assumption))) _ (lv_sub hl [0, 1, 2, 3] rfl)
            · skip
              refine lv_iconst (v := 1) hx hb dX12_is_55 (by decide) ?_
              refine lv_goto (tgt := 60) hx hb dX12_is_56 (by decide) ?_
              refine lv_istore_n (lv' := [(2, .int 1), (3, .int x24), (0, .ref h0), (1, .ref (D.2 100 s1))]) hx hb dX12_is_60 rfl hl (by decide) rfl (fun ls hl => ?_)
              refine iv_iinc hx hb i26_x24 (lo := 1) (hi := 255) (by decide) dX12_is_61 hl (k := 1) rfl (by decide) (fun x38 ls e_x38 i_x38 hl => ?_)
              have hl : lv_has ls 4 [(3, .int x38), (2, .int 1), (0, .ref h0), (1, .ref (D.2 100 s1))] := hl
              refine lv_goto (tgt := 24) hx hb dX12_is_64 (by decide) ?_
              exact ih_24 _ _ hB 1 (q_1.wk (by decide)) x38 (i_x38.wk (by decide)) (iv_mup (c := 1) i_x24 (by decide) (by decide) (by omega) hn_24) (by first | exact Or.inl rfl | exact Or.inr (inv_24.resolve_left (by assumption))) _ (lv_sub hl [0, 1, 2, 3] rfl)
    exact L_24 _ _ _ hB 1 (q_1.wk (by decide)) 0 (q_0.wk (by decide)) (Nat.lt_succ_self _) (by first | exact Or.inl rfl | exact Or.inr (by have w1 : x3.toInt = x4.toInt := congrArg Int32.toInt (by assumption); have w2 : x1.toInt = (g_h0 16).toInt := congrArg Int32.toInt e_x1; have w3 : x2.toInt = (g_h0 18).toInt := congrArg Int32.toInt e_x2; omega)) _ (lv_sub hl [0, 1, 2, 3] rfl)
