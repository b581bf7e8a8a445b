theorem dX5_hasBell_0 : decode cX5_hasBell 0 = .ok (.iload_n 1, 1) := by decide +kernel
theorem dX5_hasBell_1 : decode cX5_hasBell 1 = .ok (.ifCond .lt 15, 3) := by decide +kernel
theorem dX5_hasBell_4 : decode cX5_hasBell 4 = .ok (.iload_n 1, 1) := by decide +kernel
theorem dX5_hasBell_5 : decode cX5_hasBell 5 = .ok (.aload_n 0, 1) := by decide +kernel
theorem dX5_hasBell_6 : decode cX5_hasBell 6 = .ok (.getfield 61, 3) := by decide +kernel
theorem dX5_hasBell_9 : decode cX5_hasBell 9 = .ok (.if_icmp .ge 7, 3) := by decide +kernel
theorem dX5_hasBell_12 : decode cX5_hasBell 12 = .ok (.iconst 1, 1) := by decide +kernel
theorem dX5_hasBell_13 : decode cX5_hasBell 13 = .ok (.goto 4, 3) := by decide +kernel
theorem dX5_hasBell_16 : decode cX5_hasBell 16 = .ok (.iconst 0, 1) := by decide +kernel
theorem dX5_hasBell_17 : decode cX5_hasBell 17 = .ok (.ireturn, 1) := by decide +kernel
set_option maxHeartbeats 4000000 in
set_option maxRecDepth 100000 in
theorem c_X5_hasBell (l : Launch) (D : va_G) (tys : List (ClassId × FieldType)) (base : Nat) (G : iv_G) (h0 : Nat) (g_h0 : Nat → Int32) (r_h0 : Nat → Nat) (a_h0 : G h0 = some (5, g_h0, r_h0)) (x_0 : Int32) (i_x_0 : iv_R (-2147483648) 2147483647 x_0) : Met l yX5_hasBell (Cond.code yX5_hasBell cX5_hasBell 2 (some .boolean) :: iv_W0) ({ frames := 0, cells := 0, slots := 0, locals := 0 }) (iv_Pc iv_sh D classes tys base G [.ref h0, .int x_0]) (iv_Qi iv_sh D classes tys base (fun v G' => G = G' ∧ iv_R 0 1 v ∧ (¬ v = 0 → iv_R 0 9 x_0))) 0 0 (iv_A base) := by
  refine iv_head (by decide) (Nat.le_of_ble_eq_true rfl) ?_
  intro p e s m args below meth c ls X hr hlocks hname hB hl
  have X := X
  have hx := X.1.1
  have hb := X.1.2.1
  have hl : lv_has ls 2 [(0, .ref h0), (1, .int x_0)] := hl
  refine lv_iload_n hx hb dX5_hasBell_0 rfl (lv_at hl 1 rfl) ?_
  refine lv_if_lt (tgt := 16) hx hb dX5_hasBell_1 (by decide) (fun c1 => ?_) (fun c1 => ?_)
  · skip
    have i1_x_0 : iv_R (-2147483648) (-1) x_0 := (i_x_0.cutHi (n := (-1)) (iv_lt_r c1 q_0 (by decide)))
    refine lv_iconst (v := 0) hx hb dX5_hasBell_16 (by decide) ?_
    exact iv_zret X hr hlocks hB (q_0.wk (by decide)) ⟨rfl, (q_0.wk (by decide)), fun h => absurd (iv_z q_0) h⟩ dX5_hasBell_17
  · skip
    have i2_x_0 : iv_R 0 2147483647 x_0 := (i_x_0.cutLo (n := 0) (iv_le_l (iv_nlt c1) q_0))
    refine lv_iload_n hx hb dX5_hasBell_4 rfl (lv_at hl 1 rfl) ?_
    refine lv_aload_n hx hb dX5_hasBell_5 rfl (lv_at hl 0 rfl) ?_
    refine iv_geti X ft_X5 hB a_h0 sh_5 1 (by decide) rfl k_fl_X5_61 dX5_hasBell_6 (fun x4 e_x4 i_x4 => ?_)
    refine lv_icmp_ge (tgt := 16) hx hb dX5_hasBell_9 (by decide) (fun c5 => ?_) (fun c5 => ?_)
    · skip
      refine lv_iconst (v := 0) hx hb dX5_hasBell_16 (by decide) ?_
      exact iv_zret X hr hlocks hB (q_0.wk (by decide)) ⟨rfl, (q_0.wk (by decide)), fun h => absurd (iv_z q_0) h⟩ dX5_hasBell_17
    · skip
      have i5_x_0 : iv_R 0 9 x_0 := (i2_x_0.cutHi (n := 9) (iv_lt_r (iv_nle c5) i_x4 (by decide)))
      have i6_x4 : iv_R 1 10 x4 := (i_x4.cutLo (n := 1) (iv_lt_l (iv_nle c5) i2_x_0 (by decide)))
      refine lv_iconst (v := 1) hx hb dX5_hasBell_12 (by decide) ?_
      refine lv_goto (tgt := 17) hx hb dX5_hasBell_13 (by decide) ?_
      exact iv_zret X hr hlocks hB (q_1.wk (by decide)) ⟨rfl, (q_1.wk (by decide)), fun _ => i5_x_0⟩ dX5_hasBell_17
theorem dX5_soundsIn_0 : decode cX5_soundsIn 0 = .ok (.aload_n 0, 1) := by decide +kernel
theorem dX5_soundsIn_1 : decode cX5_soundsIn 1 = .ok (.iload_n 1, 1) := by decide +kernel
theorem dX5_soundsIn_2 : decode cX5_soundsIn 2 = .ok (.invokevirtual 88, 3) := by decide +kernel
theorem dX5_soundsIn_5 : decode cX5_soundsIn 5 = .ok (.ifCond .eq 24, 3) := by decide +kernel
theorem dX5_soundsIn_8 : decode cX5_soundsIn 8 = .ok (.aload_n 0, 1) := by decide +kernel
theorem dX5_soundsIn_9 : decode cX5_soundsIn 9 = .ok (.getfield 11, 3) := by decide +kernel
theorem dX5_soundsIn_12 : decode cX5_soundsIn 12 = .ok (.iload_n 1, 1) := by decide +kernel
theorem dX5_soundsIn_13 : decode cX5_soundsIn 13 = .ok (.aaload, 1) := by decide +kernel
theorem dX5_soundsIn_14 : decode cX5_soundsIn 14 = .ok (.getfield 92, 3) := by decide +kernel
theorem dX5_soundsIn_17 : decode cX5_soundsIn 17 = .ok (.ifCond .ne 12, 3) := by decide +kernel
theorem dX5_soundsIn_20 : decode cX5_soundsIn 20 = .ok (.aload_n 0, 1) := by decide +kernel
theorem dX5_soundsIn_21 : decode cX5_soundsIn 21 = .ok (.getfield 40, 3) := by decide +kernel
theorem dX5_soundsIn_24 : decode cX5_soundsIn 24 = .ok (.iload_n 1, 1) := by decide +kernel
theorem dX5_soundsIn_25 : decode cX5_soundsIn 25 = .ok (.iaload, 1) := by decide +kernel
theorem dX5_soundsIn_26 : decode cX5_soundsIn 26 = .ok (.goto 4, 3) := by decide +kernel
theorem dX5_soundsIn_29 : decode cX5_soundsIn 29 = .ok (.iconst 0, 1) := by decide +kernel
theorem dX5_soundsIn_30 : decode cX5_soundsIn 30 = .ok (.ireturn, 1) := by decide +kernel
set_option maxHeartbeats 4000000 in
set_option maxRecDepth 100000 in
theorem c_X5_soundsIn (l : Launch) (D : va_G) (tys : List (ClassId × FieldType)) (base : Nat) (G : iv_G) (h0 : Nat) (g_h0 : Nat → Int32) (r_h0 : Nat → Nat) (a_h0 : G h0 = some (5, g_h0, r_h0)) (x_0 : Int32) (i_x_0 : iv_R 0 9 x_0) : Met l yX5_soundsIn (Cond.code yX5_soundsIn cX5_soundsIn 2 (some .int) :: iv_W0) ({ frames := 1, cells := 0, slots := 0, locals := 21 }) (iv_Pc iv_sh D classes tys base G [.ref h0, .int x_0]) (iv_Qi iv_sh D classes tys base (fun v G' => G = G' ∧ iv_R (-2147483648) 2147483647 v)) 0 0 (iv_A base) := by
  refine iv_head (by decide) (Nat.le_of_ble_eq_true rfl) ?_
  intro p e s m args below meth c ls X hr hlocks hname hB hl
  have X := X
  have hx := X.1.1
  have hb := X.1.2.1
  have hl : lv_has ls 2 [(0, .ref h0), (1, .int x_0)] := hl
  refine lv_aload_n hx hb dX5_soundsIn_0 rfl (lv_at hl 0 rfl) ?_
  refine lv_iload_n hx hb dX5_soundsIn_1 rfl (lv_at hl 1 rfl) ?_
  refine iv_cVi X k_good k_mf_X5_hasBell k_im_X5_hasBell k_sel_X5_hasBell k_ml_X5_88 ft_X5 hB a_h0 sh_5 (As := [.int x_0]) (c_X5_hasBell l D tys base G h0 g_h0 r_h0 a_h0 x_0 (i_x_0.wk (by decide))) ⟨rfl, rfl⟩ ⟨Nat.le_of_ble_eq_true rfl, Nat.le_of_ble_eq_true rfl⟩ ⟨Nat.le_of_ble_eq_true rfl, Nat.le_of_ble_eq_true rfl⟩ rfl rfl hl.1 (Nat.le_of_ble_eq_true rfl) dX5_soundsIn_2 (fun x1 G9 H locs hq hB => ?_)
  obtain ⟨rfl, i_x1, hp2⟩ := hq
  refine lv_if_eq (tgt := 29) hx hb dX5_soundsIn_5 (by decide) (fun c3 => ?_) (fun c3 => ?_)
  · skip
    have i3_x1 : iv_R 0 0 x1 := (i_x1.cutHi (n := 0) (iv_eq_r c3 q_0).2)
    refine lv_iconst (v := 0) hx hb dX5_soundsIn_29 (by decide) ?_
    exact iv_iret X hr hlocks hB ⟨rfl, (q_0.wk (by decide))⟩ dX5_soundsIn_30
  · skip
    have i4_x1 : iv_R 1 1 x1 := iv_ne_lo c3 i_x1 q_0 (by decide)
    refine lv_aload_n hx hb dX5_soundsIn_8 rfl (lv_at hl 0 rfl) ?_
    refine iv_getr X ft_X5 hB a_h0 sh_5 0 (by decide) rfl k_fl_X5_11 dX5_soundsIn_9 (fun b6 g_b6 r_b6 e_b6 a_b6 => ?_)
    refine lv_iload_n hx hb dX5_soundsIn_12 rfl (lv_at hl 1 rfl) ?_
    refine iv_aald X hB a_b6 sh_40 (iv_in i_x_0 (by decide)) dX5_soundsIn_13 (fun b7 g_b7 r_b7 e_b7 a_b7 => ?_)
    refine iv_geti X ft_X1 hB a_b7 sh_1 6 (by decide) rfl k_fl_X5_92 dX5_soundsIn_14 (fun x8 e_x8 i_x8 => ?_)
    refine lv_if_ne (tgt := 29) hx hb dX5_soundsIn_17 (by decide) (fun c9 => ?_) (fun c9 => ?_)
    · skip
      refine lv_iconst (v := 0) hx hb dX5_soundsIn_29 (by decide) ?_
      exact iv_iret X hr hlocks hB ⟨rfl, (q_0.wk (by decide))⟩ dX5_soundsIn_30
    · skip
      have i9_x8 : iv_R 0 0 x8 := ((i_x8.cutLo (n := 0) (iv_eq_r c9 q_0).1).cutHi (n := 0) (iv_eq_r c9 q_0).2)
      refine lv_aload_n hx hb dX5_soundsIn_20 rfl (lv_at hl 0 rfl) ?_
      refine iv_getr X ft_X5 hB a_h0 sh_5 11 (by decide) rfl k_fl_X5_40 dX5_soundsIn_21 (fun b11 g_b11 r_b11 e_b11 a_b11 => ?_)
      refine lv_iload_n hx hb dX5_soundsIn_24 rfl (lv_at hl 1 rfl) ?_
      refine iv_ald X hB a_b11 sh_21 (iv_in i_x_0 (by decide)) dX5_soundsIn_25 (fun x12 e_x12 i_x12 => ?_)
      refine lv_goto (tgt := 30) hx hb dX5_soundsIn_26 (by decide) ?_
      exact iv_iret X hr hlocks hB ⟨rfl, i_x12⟩ dX5_soundsIn_30
theorem dX5_soundsAt_0 : decode cX5_soundsAt 0 = .ok (.aload_n 0, 1) := by decide +kernel
theorem dX5_soundsAt_1 : decode cX5_soundsAt 1 = .ok (.iload_n 1, 1) := by decide +kernel
theorem dX5_soundsAt_2 : decode cX5_soundsAt 2 = .ok (.invokevirtual 95, 3) := by decide +kernel
theorem dX5_soundsAt_5 : decode cX5_soundsAt 5 = .ok (.iload_n 2, 1) := by decide +kernel
theorem dX5_soundsAt_6 : decode cX5_soundsAt 6 = .ok (.iushr, 1) := by decide +kernel
theorem dX5_soundsAt_7 : decode cX5_soundsAt 7 = .ok (.iconst 1, 1) := by decide +kernel
theorem dX5_soundsAt_8 : decode cX5_soundsAt 8 = .ok (.iand, 1) := by decide +kernel
theorem dX5_soundsAt_9 : decode cX5_soundsAt 9 = .ok (.iconst 1, 1) := by decide +kernel
theorem dX5_soundsAt_10 : decode cX5_soundsAt 10 = .ok (.if_icmp .ne 7, 3) := by decide +kernel
theorem dX5_soundsAt_13 : decode cX5_soundsAt 13 = .ok (.iconst 1, 1) := by decide +kernel
theorem dX5_soundsAt_14 : decode cX5_soundsAt 14 = .ok (.goto 4, 3) := by decide +kernel
theorem dX5_soundsAt_17 : decode cX5_soundsAt 17 = .ok (.iconst 0, 1) := by decide +kernel
theorem dX5_soundsAt_18 : decode cX5_soundsAt 18 = .ok (.ireturn, 1) := by decide +kernel
set_option maxHeartbeats 4000000 in
set_option maxRecDepth 100000 in
theorem c_X5_soundsAt (l : Launch) (D : va_G) (tys : List (ClassId × FieldType)) (base : Nat) (G : iv_G) (h0 : Nat) (g_h0 : Nat → Int32) (r_h0 : Nat → Nat) (a_h0 : G h0 = some (5, g_h0, r_h0)) (x_0 : Int32) (i_x_0 : iv_R 0 9 x_0) (x_1 : Int32) (i_x_1 : iv_R (-23) 23 x_1) : Met l yX5_soundsAt (Cond.code yX5_soundsAt cX5_soundsAt 3 (some .boolean) :: iv_W0) ({ frames := 2, cells := 0, slots := 0, locals := 42 }) (iv_Pc iv_sh D classes tys base G [.ref h0, .int x_0, .int x_1]) (iv_Qi iv_sh D classes tys base (fun v G' => G = G' ∧ iv_R 0 1 v)) 0 0 (iv_A base) := by
  refine iv_head (by decide) (Nat.le_of_ble_eq_true rfl) ?_
  intro p e s m args below meth c ls X hr hlocks hname hB hl
  have X := X
  have hx := X.1.1
  have hb := X.1.2.1
  have hl : lv_has ls 3 [(0, .ref h0), (1, .int x_0), (2, .int x_1)] := hl
  refine lv_aload_n hx hb dX5_soundsAt_0 rfl (lv_at hl 0 rfl) ?_
  refine lv_iload_n hx hb dX5_soundsAt_1 rfl (lv_at hl 1 rfl) ?_
  refine iv_cVi X k_good k_mf_X5_soundsIn k_im_X5_soundsIn k_sel_X5_soundsIn k_ml_X5_95 ft_X5 hB a_h0 sh_5 (As := [.int x_0]) (c_X5_soundsIn l D tys base G h0 g_h0 r_h0 a_h0 x_0 i_x_0) ⟨rfl, rfl⟩ ⟨Nat.le_of_ble_eq_true rfl, Nat.le_of_ble_eq_true rfl⟩ ⟨Nat.le_of_ble_eq_true rfl, Nat.le_of_ble_eq_true rfl⟩ rfl rfl hl.1 (Nat.le_of_ble_eq_true rfl) dX5_soundsAt_2 (fun x1 G9 H locs hq hB => ?_)
  obtain ⟨rfl, i_x1⟩ := hq
  refine lv_iload_n hx hb dX5_soundsAt_5 rfl (lv_at hl 2 rfl) ?_
  refine lv_iushr hx hb dX5_soundsAt_6 rfl ?_
  refine lv_topi (fun x2 e_x2 => ?_)
  have i_x2 := iv_R.all x2
  refine lv_iconst (v := 1) hx hb dX5_soundsAt_7 (by decide) ?_
  refine iv_iand_r hx hb q_1 (by decide) dX5_soundsAt_8 (fun x3 e_x3 i_x3 => ?_)
  refine lv_iconst (v := 1) hx hb dX5_soundsAt_9 (by decide) ?_
  refine lv_icmp_ne (tgt := 17) hx hb dX5_soundsAt_10 (by decide) (fun c4 => ?_) (fun c4 => ?_)
  · skip
    have i4_x3 : iv_R 0 0 x3 := iv_ne_hi c4 i_x3 q_1 (by decide)
    refine lv_iconst (v := 0) hx hb dX5_soundsAt_17 (by decide) ?_
    exact iv_zret X hr hlocks hB (q_0.wk (by decide)) ⟨rfl, (q_0.wk (by decide))⟩ dX5_soundsAt_18
  · skip
    have i5_x3 : iv_R 1 1 x3 := (i_x3.cutLo (n := 1) (iv_eq_r c4 q_1).1)
    refine lv_iconst (v := 1) hx hb dX5_soundsAt_13 (by decide) ?_
    refine lv_goto (tgt := 18) hx hb dX5_soundsAt_14 (by decide) ?_
    exact iv_zret X hr hlocks hB (q_1.wk (by decide)) ⟨rfl, (q_1.wk (by decide))⟩ dX5_soundsAt_18
theorem dX5_howManySound_0 : decode cX5_howManySound 0 = .ok (.iconst 0, 1) := by decide +kernel
theorem dX5_howManySound_1 : decode cX5_howManySound 1 = .ok (.istore_n 2, 1) := by decide +kernel
theorem dX5_howManySound_2 : decode cX5_howManySound 2 = .ok (.iconst 0, 1) := by decide +kernel
theorem dX5_howManySound_3 : decode cX5_howManySound 3 = .ok (.istore_n 3, 1) := by decide +kernel
theorem dX5_howManySound_4 : decode cX5_howManySound 4 = .ok (.iload_n 3, 1) := by decide +kernel
theorem dX5_howManySound_5 : decode cX5_howManySound 5 = .ok (.aload_n 0, 1) := by decide +kernel
theorem dX5_howManySound_6 : decode cX5_howManySound 6 = .ok (.getfield 61, 3) := by decide +kernel
theorem dX5_howManySound_9 : decode cX5_howManySound 9 = .ok (.if_icmp .ge 21, 3) := by decide +kernel
theorem dX5_howManySound_12 : decode cX5_howManySound 12 = .ok (.aload_n 0, 1) := by decide +kernel
theorem dX5_howManySound_13 : decode cX5_howManySound 13 = .ok (.iload_n 3, 1) := by decide +kernel
theorem dX5_howManySound_14 : decode cX5_howManySound 14 = .ok (.iload_n 1, 1) := by decide +kernel
theorem dX5_howManySound_15 : decode cX5_howManySound 15 = .ok (.invokevirtual 99, 3) := by decide +kernel
theorem dX5_howManySound_18 : decode cX5_howManySound 18 = .ok (.ifCond .eq 6, 3) := by decide +kernel
theorem dX5_howManySound_21 : decode cX5_howManySound 21 = .ok (.iinc 2 1, 3) := by decide +kernel
theorem dX5_howManySound_24 : decode cX5_howManySound 24 = .ok (.iinc 3 1, 3) := by decide +kernel
theorem dX5_howManySound_27 : decode cX5_howManySound 27 = .ok (.goto (-23), 3) := by decide +kernel
theorem dX5_howManySound_30 : decode cX5_howManySound 30 = .ok (.iload_n 2, 1) := by decide +kernel
theorem dX5_howManySound_31 : decode cX5_howManySound 31 = .ok (.ireturn, 1) := by decide +kernel
set_option maxHeartbeats 4000000 in
set_option maxRecDepth 100000 in
theorem c_X5_howManySound (l : Launch) (D : va_G) (tys : List (ClassId × FieldType)) (base : Nat) (G : iv_G) (h0 : Nat) (g_h0 : Nat → Int32) (r_h0 : Nat → Nat) (a_h0 : G h0 = some (5, g_h0, r_h0)) (x_0 : Int32) (i_x_0 : iv_R (-23) 23 x_0) : Met l yX5_howManySound (Cond.code yX5_howManySound cX5_howManySound 4 (some .int) :: iv_W0) ({ frames := 3, cells := 0, slots := 0, locals := 64 }) (iv_Pc iv_sh D classes tys base G [.ref h0, .int x_0]) (iv_Qi iv_sh D classes tys base (fun v G' => G = G' ∧ iv_R (-2147483648) 2147483647 v)) 0 0 (iv_A base) := by
  refine iv_head (by decide) (Nat.le_of_ble_eq_true rfl) ?_
  intro p e s m args below meth c ls X hr hlocks hname hB hl
  have X := X
  have hx := X.1.1
  have hb := X.1.2.1
  have hl : lv_has ls 4 [(0, .ref h0), (1, .int x_0)] := hl
  refine lv_iconst (v := 0) hx hb dX5_howManySound_0 (by decide) ?_
  refine lv_istore_n (lv' := [(2, .int 0), (0, .ref h0), (1, .int x_0)]) hx hb dX5_howManySound_1 rfl hl (by decide) rfl (fun ls hl => ?_)
  refine lv_iconst (v := 0) hx hb dX5_howManySound_2 (by decide) ?_
  refine lv_istore_n (lv' := [(3, .int 0), (2, .int 0), (0, .ref h0), (1, .int x_0)]) hx hb dX5_howManySound_3 rfl hl (by decide) rfl (fun ls hl => ?_)
  have L_4 : ∀ (n_4 : Nat) (H : Heap) (locs : List Loc) (hB : iv_B iv_sh D classes tys base G s.heap H locs) (x1 : Int32) (i_x1 : iv_R (-2147483648) 2147483647 x1) (x2 : Int32) (i_x2 : iv_R 0 10 x2) (hn : (11 - x2.toInt).toNat < n_4) (ls : Array Slot) (hl : lv_has ls 4 [(3, .int x2), (2, .int x1), (0, .ref h0), (1, .int x_0)]), W p l e ({ frames := 3, cells := 0, slots := 0, locals := 64 } : Room) s m args below meth c H locs 0 0 (MQ below (iv_Qi iv_sh D classes tys base (fun v G' => G = G' ∧ iv_R (-2147483648) 2147483647 v)) args s 0 0 (iv_A base)) (F0 m 4 ls []) := by
    intro n_4
    induction n_4 with
    | zero => intro H locs hB x1 i_x1 x2 i_x2 hn ls hl; exact absurd hn (Nat.not_lt_zero _)
    | succ n_4 ih_4 =>
      intro H locs hB x1 i_x1 x2 i_x2 hn ls hl
      refine lv_iload_n hx hb dX5_howManySound_4 rfl (lv_at hl 0 rfl) ?_
      refine lv_aload_n hx hb dX5_howManySound_5 rfl (lv_at hl 2 rfl) ?_
      refine iv_geti X ft_X5 hB a_h0 sh_5 1 (by decide) rfl k_fl_X5_61 dX5_howManySound_6 (fun x3 e_x3 i_x3 => ?_)
      refine lv_icmp_ge (tgt := 30) hx hb dX5_howManySound_9 (by decide) (fun c4 => ?_) (fun c4 => ?_)
      · skip
        refine lv_iload_n hx hb dX5_howManySound_30 rfl (lv_at hl 1 rfl) ?_
        exact iv_iret X hr hlocks hB ⟨rfl, i_x1⟩ dX5_howManySound_31
      · skip
        have i4_x2 : iv_R 0 9 x2 := (i_x2.cutHi (n := 9) (iv_lt_r (iv_nle c4) i_x3 (by decide)))
        have i5_x3 : iv_R 1 10 x3 := (i_x3.cutLo (n := 1) (iv_lt_l (iv_nle c4) i_x2 (by decide)))
        refine lv_aload_n hx hb dX5_howManySound_12 rfl (lv_at hl 2 rfl) ?_
        refine lv_iload_n hx hb dX5_howManySound_13 rfl (lv_at hl 0 rfl) ?_
        refine lv_iload_n hx hb dX5_howManySound_14 rfl (lv_at hl 3 rfl) ?_
        refine iv_cVi X k_good k_mf_X5_soundsAt k_im_X5_soundsAt k_sel_X5_soundsAt k_ml_X5_99 ft_X5 hB a_h0 sh_5 (As := [.int x2, .int x_0]) (c_X5_soundsAt l D tys base G h0 g_h0 r_h0 a_h0 x2 i4_x2 x_0 i_x_0) ⟨rfl, rfl⟩ ⟨Nat.le_of_ble_eq_true rfl, Nat.le_of_ble_eq_true rfl⟩ ⟨Nat.le_of_ble_eq_true rfl, Nat.le_of_ble_eq_true rfl⟩ rfl rfl hl.1 (Nat.le_of_ble_eq_true rfl) dX5_howManySound_15 (fun x7 G9 H locs hq hB => ?_)
        obtain ⟨rfl, i_x7⟩ := hq
        refine lv_if_eq (tgt := 24) hx hb dX5_howManySound_18 (by decide) (fun c8 => ?_) (fun c8 => ?_)
        · skip
          have i8_x7 : iv_R 0 0 x7 := (i_x7.cutHi (n := 0) (iv_eq_r c8 q_0).2)
          refine iv_iinc hx hb i4_x2 (lo := 1) (hi := 10) (by decide) dX5_howManySound_24 hl (k := 0) rfl (by decide) (fun x10 ls e_x10 i_x10 hl => ?_)
          have hl : lv_has ls 4 [(3, .int x10), (2, .int x1), (0, .ref h0), (1, .int x_0)] := hl
          refine lv_goto (tgt := 4) hx hb dX5_howManySound_27 (by decide) ?_
          exact ih_4 _ _ hB x1 i_x1 x10 (i_x10.wk (by decide)) (iv_mup (c := 1) i_x2 (by decide) (by decide) (by omega) hn) _ (lv_sub hl [0, 1, 2, 3] rfl)
        · skip
          have i10_x7 : iv_R 1 1 x7 := iv_ne_lo c8 i_x7 q_0 (by decide)
          obtain ⟨x12, e_x12⟩ : ∃ y : Int32, y = x1 + Int32.ofInt 1 := ⟨_, rfl⟩
          refine lv_iinc (v := x12) (lv' := [(2, .int x12), (3, .int x2), (0, .ref h0), (1, .int x_0)]) hx hb dX5_howManySound_21 hl (k := 1) rfl e_x12.symm (by decide) rfl (fun ls hl => ?_)
          have i_x12 := iv_R.all x12
          refine iv_iinc hx hb i4_x2 (lo := 1) (hi := 10) (by decide) dX5_howManySound_24 hl (k := 1) rfl (by decide) (fun x13 ls e_x13 i_x13 hl => ?_)
          have hl : lv_has ls 4 [(3, .int x13), (2, .int x12), (0, .ref h0), (1, .int x_0)] := hl
          refine lv_goto (tgt := 4) hx hb dX5_howManySound_27 (by decide) ?_
          exact ih_4 _ _ hB x12 i_x12 x13 (i_x13.wk (by decide)) (iv_mup (c := 1) i_x2 (by decide) (by decide) (by omega) hn) _ (lv_sub hl [0, 1, 2, 3] rfl)
  exact L_4 _ _ _ hB 0 (q_0.wk (by decide)) 0 (q_0.wk (by decide)) (Nat.lt_succ_self _) _ (lv_sub hl [0, 1, 2, 3] rfl)
theorem dX5_silentFrom_0 : decode cX5_silentFrom 0 = .ok (.iconst 0, 1) := by decide +kernel
theorem dX5_silentFrom_1 : decode cX5_silentFrom 1 = .ok (.istore_n 2, 1) := by decide +kernel
theorem dX5_silentFrom_2 : decode cX5_silentFrom 2 = .ok (.iload_n 2, 1) := by decide +kernel
theorem dX5_silentFrom_3 : decode cX5_silentFrom 3 = .ok (.bipush 24, 2) := by decide +kernel
theorem dX5_silentFrom_5 : decode cX5_silentFrom 5 = .ok (.if_icmp .ge 22, 3) := by decide +kernel
theorem dX5_silentFrom_8 : decode cX5_silentFrom 8 = .ok (.aload_n 0, 1) := by decide +kernel
theorem dX5_silentFrom_9 : decode cX5_silentFrom 9 = .ok (.iload_n 1, 1) := by decide +kernel
theorem dX5_silentFrom_10 : decode cX5_silentFrom 10 = .ok (.iload_n 2, 1) := by decide +kernel
theorem dX5_silentFrom_11 : decode cX5_silentFrom 11 = .ok (.iadd, 1) := by decide +kernel
theorem dX5_silentFrom_12 : decode cX5_silentFrom 12 = .ok (.bipush 24, 2) := by decide +kernel
theorem dX5_silentFrom_14 : decode cX5_silentFrom 14 = .ok (.irem, 1) := by decide +kernel
theorem dX5_silentFrom_15 : decode cX5_silentFrom 15 = .ok (.invokevirtual 103, 3) := by decide +kernel
theorem dX5_silentFrom_18 : decode cX5_silentFrom 18 = .ok (.ifCond .ne 9, 3) := by decide +kernel
theorem dX5_silentFrom_21 : decode cX5_silentFrom 21 = .ok (.iinc 2 1, 3) := by decide +kernel
theorem dX5_silentFrom_24 : decode cX5_silentFrom 24 = .ok (.goto (-22), 3) := by decide +kernel
theorem dX5_silentFrom_27 : decode cX5_silentFrom 27 = .ok (.iload_n 2, 1) := by decide +kernel
theorem dX5_silentFrom_28 : decode cX5_silentFrom 28 = .ok (.ireturn, 1) := by decide +kernel
set_option maxHeartbeats 4000000 in
set_option maxRecDepth 100000 in
theorem c_X5_silentFrom (l : Launch) (D : va_G) (tys : List (ClassId × FieldType)) (base : Nat) (G : iv_G) (h0 : Nat) (g_h0 : Nat → Int32) (r_h0 : Nat → Nat) (a_h0 : G h0 = some (5, g_h0, r_h0)) (x_0 : Int32) (i_x_0 : iv_R (-2147483648) 2147483647 x_0) : Met l yX5_silentFrom (Cond.code yX5_silentFrom cX5_silentFrom 3 (some .int) :: iv_W0) ({ frames := 4, cells := 0, slots := 0, locals := 87 }) (iv_Pc iv_sh D classes tys base G [.ref h0, .int x_0]) (iv_Qi iv_sh D classes tys base (fun v G' => G = G' ∧ iv_R 0 24 v)) 0 0 (iv_A base) := by
  refine iv_head (by decide) (Nat.le_of_ble_eq_true rfl) ?_
  intro p e s m args below meth c ls X hr hlocks hname hB hl
  have X := X
  have hx := X.1.1
  have hb := X.1.2.1
  have hl : lv_has ls 3 [(0, .ref h0), (1, .int x_0)] := hl
  refine lv_iconst (v := 0) hx hb dX5_silentFrom_0 (by decide) ?_
  refine lv_istore_n (lv' := [(2, .int 0), (0, .ref h0), (1, .int x_0)]) hx hb dX5_silentFrom_1 rfl hl (by decide) rfl (fun ls hl => ?_)
  have L_2 : ∀ (n_2 : Nat) (H : Heap) (locs : List Loc) (hB : iv_B iv_sh D classes tys base G s.heap H locs) (x1 : Int32) (i_x1 : iv_R 0 24 x1) (hn : (25 - x1.toInt).toNat < n_2) (ls : Array Slot) (hl : lv_has ls 3 [(2, .int x1), (0, .ref h0), (1, .int x_0)]), W p l e ({ frames := 4, cells := 0, slots := 0, locals := 87 } : Room) s m args below meth c H locs 0 0 (MQ below (iv_Qi iv_sh D classes tys base (fun v G' => G = G' ∧ iv_R 0 24 v)) args s 0 0 (iv_A base)) (F0 m 2 ls []) := by
    intro n_2
    induction n_2 with
    | zero => intro H locs hB x1 i_x1 hn ls hl; exact absurd hn (Nat.not_lt_zero _)
    | succ n_2 ih_2 =>
      intro H locs hB x1 i_x1 hn ls hl
      refine lv_iload_n hx hb dX5_silentFrom_2 rfl (lv_at hl 0 rfl) ?_
      refine lv_bipush (v := 24) hx hb dX5_silentFrom_3 (by decide) ?_
      refine lv_icmp_ge (tgt := 27) hx hb dX5_silentFrom_5 (by decide) (fun c2 => ?_) (fun c2 => ?_)
      · skip
        have i2_x1 : iv_R 24 24 x1 := (i_x1.cutLo (n := 24) (iv_le_l c2 q_24))
        refine lv_iload_n hx hb dX5_silentFrom_27 rfl (lv_at hl 0 rfl) ?_
        exact iv_iret X hr hlocks hB ⟨rfl, (i2_x1.wk (by decide))⟩ dX5_silentFrom_28
      · skip
        have i3_x1 : iv_R 0 23 x1 := (i_x1.cutHi (n := 23) (iv_lt_r (iv_nle c2) q_24 (by decide)))
        refine lv_aload_n hx hb dX5_silentFrom_8 rfl (lv_at hl 1 rfl) ?_
        refine lv_iload_n hx hb dX5_silentFrom_9 rfl (lv_at hl 2 rfl) ?_
        refine lv_iload_n hx hb dX5_silentFrom_10 rfl (lv_at hl 0 rfl) ?_
        refine lv_iadd hx hb dX5_silentFrom_11 ?_
        refine lv_topi (fun x5 e_x5 => ?_)
        have i_x5 := iv_R.all x5
        refine lv_bipush (v := 24) hx hb dX5_silentFrom_12 (by decide) ?_
        refine iv_irem hx hb i_x5 q_24 (lo := (-23)) (hi := 23) (by decide) dX5_silentFrom_14 (fun x6 e_x6 i_x6 => ?_)
        refine iv_cVi X k_good k_mf_X5_howManySound k_im_X5_howManySound k_sel_X5_howManySound k_ml_X5_103 ft_X5 hB a_h0 sh_5 (As := [.int x6]) (c_X5_howManySound l D tys base G h0 g_h0 r_h0 a_h0 x6 i_x6) ⟨rfl, rfl⟩ ⟨Nat.le_of_ble_eq_true rfl, Nat.le_of_ble_eq_true rfl⟩ ⟨Nat.le_of_ble_eq_true rfl, Nat.le_of_ble_eq_true rfl⟩ rfl rfl hl.1 (Nat.le_of_ble_eq_true rfl) dX5_silentFrom_15 (fun x7 G9 H locs hq hB => ?_)
        obtain ⟨rfl, i_x7⟩ := hq
        refine lv_if_ne (tgt := 27) hx hb dX5_silentFrom_18 (by decide) (fun c8 => ?_) (fun c8 => ?_)
        · skip
          refine lv_iload_n hx hb dX5_silentFrom_27 rfl (lv_at hl 0 rfl) ?_
          exact iv_iret X hr hlocks hB ⟨rfl, (i3_x1.wk (by decide))⟩ dX5_silentFrom_28
        · skip
          have i8_x7 : iv_R 0 0 x7 := ((i_x7.cutLo (n := 0) (iv_eq_r c8 q_0).1).cutHi (n := 0) (iv_eq_r c8 q_0).2)
          refine iv_iinc hx hb i3_x1 (lo := 1) (hi := 24) (by decide) dX5_silentFrom_21 hl (k := 0) rfl (by decide) (fun x10 ls e_x10 i_x10 hl => ?_)
          have hl : lv_has ls 3 [(2, .int x10), (0, .ref h0), (1, .int x_0)] := hl
          refine lv_goto (tgt := 2) hx hb dX5_silentFrom_24 (by decide) ?_
          exact ih_2 _ _ hB x10 (i_x10.wk (by decide)) (iv_mup (c := 1) i_x1 (by decide) (by decide) (by omega) hn) _ (lv_sub hl [0, 1, 2] rfl)
  exact L_2 _ _ _ hB 0 (q_0.wk (by decide)) (Nat.lt_succ_self _) _ (lv_sub hl [0, 1, 2] rfl)
theorem dX11_isTower_0 : decode cX11_isTower 0 = .ok (.iload_n 0, 1) := by decide +kernel
theorem dX11_isTower_1 : decode cX11_isTower 1 = .ok (.iconst 0, 1) := by decide +kernel
theorem dX11_isTower_2 : decode cX11_isTower 2 = .ok (.iconst 3, 1) := by decide +kernel
theorem dX11_isTower_3 : decode cX11_isTower 3 = .ok (.invokestatic 83, 3) := by decide +kernel
theorem dX11_isTower_6 : decode cX11_isTower 6 = .ok (.ireturn, 1) := by decide +kernel
set_option maxHeartbeats 4000000 in
set_option maxRecDepth 100000 in
theorem c_X11_isTower (l : Launch) (D : va_G) (tys : List (ClassId × FieldType)) (base : Nat) (G : iv_G) (x_0 : Int32) (i_x_0 : iv_R (-2147483648) 2147483647 x_0) : Met l yX11_isTower (Cond.code yX11_isTower cX11_isTower 1 (some .boolean) :: iv_W0) ({ frames := 1, cells := 0, slots := 0, locals := 22 }) (iv_Pc iv_sh D classes tys base G [.int x_0]) (iv_Qi iv_sh D classes tys base (fun v G' => G = G' ∧ iv_R 0 1 v ∧ (¬ v = 0 → iv_R 0 3 x_0))) 0 0 (iv_A base) := by
  refine iv_head (by decide) (Nat.le_of_ble_eq_true rfl) ?_
  intro p e s m args below meth c ls X hr hlocks hname hB hl
  have X := X
  have hx := X.1.1
  have hb := X.1.2.1
  have hl : lv_has ls 1 [(0, .int x_0)] := hl
  refine lv_iload_n hx hb dX11_isTower_0 rfl (lv_at hl 0 rfl) ?_
  refine lv_iconst (v := 0) hx hb dX11_isTower_1 (by decide) ?_
  refine lv_iconst (v := 3) hx hb dX11_isTower_2 (by decide) ?_
  refine iv_cSi X k_good k_mf_X11_isWithin k_st_X11_isWithin k_ml_X11_83 hB (As := [.int x_0, .int 0, .int 3]) (c_X11_isWithin l D tys base G x_0 i_x_0 0 (q_0.wk (by decide)) 3 (q_3.wk (by decide))) ⟨rfl, rfl⟩ ⟨Nat.le_of_ble_eq_true rfl, Nat.le_of_ble_eq_true rfl⟩ ⟨Nat.le_of_ble_eq_true rfl, Nat.le_of_ble_eq_true rfl⟩ rfl rfl hl.1 (Nat.le_of_ble_eq_true rfl) dX11_isTower_3 (fun x1 G9 H locs hq hB => ?_)
  obtain ⟨rfl, i_x1, hp2⟩ := hq
  have k3 : ¬ x1 = 0 → iv_R 0 3 x_0 := fun h => ⟨iv_max i_x_0.1 (Int.le_trans q_0.1 (hp2.1 h).1) (by decide), iv_min i_x_0.2 (Int.le_trans (hp2.1 h).2 q_3.2) (by decide)⟩
  exact iv_zret X hr hlocks hB i_x1 ⟨rfl, i_x1, fun h => (k3 h).wk (by decide)⟩ dX11_isTower_6
theorem dX11_isHour_0 : decode cX11_isHour 0 = .ok (.iload_n 0, 1) := by decide +kernel
theorem dX11_isHour_1 : decode cX11_isHour 1 = .ok (.iconst 0, 1) := by decide +kernel
theorem dX11_isHour_2 : decode cX11_isHour 2 = .ok (.bipush 23, 2) := by decide +kernel
theorem dX11_isHour_4 : decode cX11_isHour 4 = .ok (.invokestatic 83, 3) := by decide +kernel
theorem dX11_isHour_7 : decode cX11_isHour 7 = .ok (.ireturn, 1) := by decide +kernel
set_option maxHeartbeats 4000000 in
set_option maxRecDepth 100000 in
theorem c_X11_isHour (l : Launch) (D : va_G) (tys : List (ClassId × FieldType)) (base : Nat) (G : iv_G) (x_0 : Int32) (i_x_0 : iv_R (-2147483648) 2147483647 x_0) : Met l yX11_isHour (Cond.code yX11_isHour cX11_isHour 1 (some .boolean) :: iv_W0) ({ frames := 1, cells := 0, slots := 0, locals := 22 }) (iv_Pc iv_sh D classes tys base G [.int x_0]) (iv_Qi iv_sh D classes tys base (fun v G' => G = G' ∧ iv_R 0 1 v ∧ (¬ v = 0 → iv_R 0 23 x_0))) 0 0 (iv_A base) := by
  refine iv_head (by decide) (Nat.le_of_ble_eq_true rfl) ?_
  intro p e s m args below meth c ls X hr hlocks hname hB hl
  have X := X
  have hx := X.1.1
  have hb := X.1.2.1
  have hl : lv_has ls 1 [(0, .int x_0)] := hl
  refine lv_iload_n hx hb dX11_isHour_0 rfl (lv_at hl 0 rfl) ?_
  refine lv_iconst (v := 0) hx hb dX11_isHour_1 (by decide) ?_
  refine lv_bipush (v := 23) hx hb dX11_isHour_2 (by decide) ?_
  refine iv_cSi X k_good k_mf_X11_isWithin k_st_X11_isWithin k_ml_X11_83 hB (As := [.int x_0, .int 0, .int 23]) (c_X11_isWithin l D tys base G x_0 i_x_0 0 (q_0.wk (by decide)) 23 (q_23.wk (by decide))) ⟨rfl, rfl⟩ ⟨Nat.le_of_ble_eq_true rfl, Nat.le_of_ble_eq_true rfl⟩ ⟨Nat.le_of_ble_eq_true rfl, Nat.le_of_ble_eq_true rfl⟩ rfl rfl hl.1 (Nat.le_of_ble_eq_true rfl) dX11_isHour_4 (fun x1 G9 H locs hq hB => ?_)
  obtain ⟨rfl, i_x1, hp2⟩ := hq
  have k3 : ¬ x1 = 0 → iv_R 0 23 x_0 := fun h => ⟨iv_max i_x_0.1 (Int.le_trans q_0.1 (hp2.1 h).1) (by decide), iv_min i_x_0.2 (Int.le_trans (hp2.1 h).2 q_23.2) (by decide)⟩
  exact iv_zret X hr hlocks hB i_x1 ⟨rfl, i_x1, fun h => (k3 h).wk (by decide)⟩ dX11_isHour_7
