theorem dX12_unmelted_0 : decode cX12_unmelted 0 = .ok (.iconst 0, 1) := by decide +kernel
theorem dX12_unmelted_1 : decode cX12_unmelted 1 = .ok (.istore_n 1, 1) := by decide +kernel
theorem dX12_unmelted_2 : decode cX12_unmelted 2 = .ok (.iconst 0, 1) := by decide +kernel
theorem dX12_unmelted_3 : decode cX12_unmelted 3 = .ok (.istore_n 2, 1) := by decide +kernel
theorem dX12_unmelted_4 : decode cX12_unmelted 4 = .ok (.iload_n 2, 1) := by decide +kernel
theorem dX12_unmelted_5 : decode cX12_unmelted 5 = .ok (.aload_n 0, 1) := by decide +kernel
theorem dX12_unmelted_6 : decode cX12_unmelted 6 = .ok (.getfield 7, 3) := by decide +kernel
theorem dX12_unmelted_9 : decode cX12_unmelted 9 = .ok (.sipush 146, 3) := by decide +kernel
theorem dX12_unmelted_12 : decode cX12_unmelted 12 = .ok (.iaload, 1) := by decide +kernel
theorem dX12_unmelted_13 : decode cX12_unmelted 13 = .ok (.if_icmp .ge 30, 3) := by decide +kernel
theorem dX12_unmelted_16 : decode cX12_unmelted 16 = .ok (.iload_n 1, 1) := by decide +kernel
theorem dX12_unmelted_17 : decode cX12_unmelted 17 = .ok (.aload_n 0, 1) := by decide +kernel
theorem dX12_unmelted_18 : decode cX12_unmelted 18 = .ok (.iload_n 2, 1) := by decide +kernel
theorem dX12_unmelted_19 : decode cX12_unmelted 19 = .ok (.bipush 6, 2) := by decide +kernel
theorem dX12_unmelted_21 : decode cX12_unmelted 21 = .ok (.invokevirtual 282, 3) := by decide +kernel
theorem dX12_unmelted_24 : decode cX12_unmelted 24 = .ok (.iconst 2, 1) := by decide +kernel
theorem dX12_unmelted_25 : decode cX12_unmelted 25 = .ok (.if_icmp .eq 9, 3) := by decide +kernel
theorem dX12_unmelted_28 : decode cX12_unmelted 28 = .ok (.iconst 1, 1) := by decide +kernel
theorem dX12_unmelted_29 : decode cX12_unmelted 29 = .ok (.iload_n 2, 1) := by decide +kernel
theorem dX12_unmelted_30 : decode cX12_unmelted 30 = .ok (.ishl, 1) := by decide +kernel
theorem dX12_unmelted_31 : decode cX12_unmelted 31 = .ok (.goto 4, 3) := by decide +kernel
theorem dX12_unmelted_34 : decode cX12_unmelted 34 = .ok (.iconst 0, 1) := by decide +kernel
theorem dX12_unmelted_35 : decode cX12_unmelted 35 = .ok (.ior, 1) := by decide +kernel
theorem dX12_unmelted_36 : decode cX12_unmelted 36 = .ok (.istore_n 1, 1) := by decide +kernel
theorem dX12_unmelted_37 : decode cX12_unmelted 37 = .ok (.iinc 2 1, 3) := by decide +kernel
theorem dX12_unmelted_40 : decode cX12_unmelted 40 = .ok (.goto (-36), 3) := by decide +kernel
theorem dX12_unmelted_43 : decode cX12_unmelted 43 = .ok (.iload_n 1, 1) := by decide +kernel
theorem dX12_unmelted_44 : decode cX12_unmelted 44 = .ok (.ireturn, 1) := by decide +kernel
set_option maxHeartbeats 4000000 in
set_option maxRecDepth 100000 in
theorem c_X12_unmelted (l : Launch) (D : va_G) (tys : List (ClassId × FieldType)) (base : Nat) (G : iv_G) (h0 : Nat) (g_h0 : Nat → Int32) (r_h0 : Nat → Nat) (a_h0 : G h0 = some (12, g_h0, r_h0)) : Met l yX12_unmelted (Cond.code yX12_unmelted cX12_unmelted 3 (some .int) :: iv_W0) ({ frames := 1, cells := 0, slots := 0, locals := 22 }) (iv_Pc iv_sh D classes tys base G [.ref h0]) (iv_Qi iv_sh D classes tys base (fun v G' => G = G' ∧ iv_R 0 2047 v)) 0 0 (iv_A base) := by
  refine iv_head (by decide) (Nat.le_of_ble_eq_true rfl) ?_
  intro p e s m args below meth c ls X hr hlocks hname hB hl
  have X := X
  have hx := X.1.1
  have hb := X.1.2.1
  have hl : lv_has ls 3 [(0, .ref h0)] := hl
  refine lv_iconst (v := 0) hx hb dX12_unmelted_0 (by decide) ?_
  refine lv_istore_n (lv' := [(1, .int 0), (0, .ref h0)]) hx hb dX12_unmelted_1 rfl hl (by decide) rfl (fun ls hl => ?_)
  refine lv_iconst (v := 0) hx hb dX12_unmelted_2 (by decide) ?_
  refine lv_istore_n (lv' := [(2, .int 0), (1, .int 0), (0, .ref h0)]) hx hb dX12_unmelted_3 rfl hl (by decide) rfl (fun ls hl => ?_)
  have L_4 : ∀ (n_4 : Nat) (H : Heap) (locs : List Loc) (hB : iv_B iv_sh D classes tys base G s.heap H locs) (x1 : Int32) (i_x1 : iv_R 0 2047 x1) (x2 : Int32) (i_x2 : iv_R 0 10 x2) (hn_4 : (11 - x2.toInt).toNat < n_4) (ls : Array Slot) (hl : lv_has ls 3 [(2, .int x2), (1, .int x1), (0, .ref h0)]), W p l e ({ frames := 1, cells := 0, slots := 0, locals := 22 } : Room) s m args below meth c H locs 0 0 (MQ below (iv_Qi iv_sh D classes tys base (fun v G' => G = G' ∧ iv_R 0 2047 v)) args s 0 0 (iv_A base)) (F0 m 4 ls []) := by
    intro n_4
    induction n_4 with
    | zero => intro H locs hB x1 i_x1 x2 i_x2 hn_4 ls hl; exact absurd hn_4 (Nat.not_lt_zero _)
    | succ n_4 ih_4 =>
      intro H locs hB x1 i_x1 x2 i_x2 hn_4 ls hl
      refine lv_iload_n hx hb dX12_unmelted_4 rfl (lv_at hl 0 rfl) ?_
      refine lv_aload_n hx hb dX12_unmelted_5 rfl (lv_at hl 2 rfl) ?_
      refine iv_getr X ft_X12 hB a_h0 sh_12 0 (by decide) rfl k_fl_X12_7 dX12_unmelted_6 (fun b3 g_b3 r_b3 e_b3 a_b3 => ?_)
      refine lv_sipush (v := 146) hx hb dX12_unmelted_9 (by decide) ?_
      refine iv_wald_c X hB a_b3 q_146 (by decide) (lo := 0) (hi' := 10) (by decide) dX12_unmelted_12 (fun x4 e_x4 i_x4 => ?_)
      refine lv_icmp_ge (tgt := 43) hx hb dX12_unmelted_13 (by decide) (fun c5 => ?_) (fun c5 => ?_)
      · skip
        refine lv_iload_n hx hb dX12_unmelted_43 rfl (lv_at hl 1 rfl) ?_
        exact iv_iret X hr hlocks hB ⟨rfl, i_x1⟩ dX12_unmelted_44
      · skip
        have i5_x2 : iv_R 0 9 x2 := (i_x2.cutHi (n := 9) (iv_lt_r (iv_nle c5) i_x4 (by decide)))
        have i6_x4 : iv_R 1 10 x4 := (i_x4.cutLo (n := 1) (iv_lt_l (iv_nle c5) i_x2 (by decide)))
        refine lv_iload_n hx hb dX12_unmelted_16 rfl (lv_at hl 1 rfl) ?_
        refine lv_aload_n hx hb dX12_unmelted_17 rfl (lv_at hl 2 rfl) ?_
        refine lv_iload_n hx hb dX12_unmelted_18 rfl (lv_at hl 0 rfl) ?_
        refine lv_bipush (v := 6) hx hb dX12_unmelted_19 (by decide) ?_
        refine iv_cVi X k_good k_mf_X12_ofBell k_im_X12_ofBell k_sel_X12_ofBell k_ml_X12_282 ft_X12 hB a_h0 sh_12 (As := [.int x2, .int 6]) (c_X12_ofBell l D tys base G h0 g_h0 r_h0 a_h0 x2 i5_x2 6 (q_6.wk (by decide))) ⟨rfl, rfl⟩ ⟨Nat.le_of_ble_eq_true rfl, Nat.le_of_ble_eq_true rfl⟩ ⟨Nat.le_of_ble_eq_true rfl, Nat.le_of_ble_eq_true rfl⟩ rfl rfl hl.1 (Nat.le_of_ble_eq_true rfl) dX12_unmelted_21 (fun x8 G9 H locs hq hB => ?_)
        obtain ⟨rfl, i_x8, cp9, cp10⟩ := hq
        refine lv_iconst (v := 2) hx hb dX12_unmelted_24 (by decide) ?_
        refine lv_icmp_eq (tgt := 34) hx hb dX12_unmelted_25 (by decide) (fun c11 => ?_) (fun c11 => ?_)
        · skip
          have i11_x8 : iv_R 2 2 x8 := ((i_x8.cutLo (n := 2) (iv_eq_r c11 q_2).1).cutHi (n := 2) (iv_eq_r c11 q_2).2)
          refine lv_iconst (v := 0) hx hb dX12_unmelted_34 (by decide) ?_
          refine iv_ior hx hb i_x1 q_0 (k := 11) (hi := 2047) (by decide) dX12_unmelted_35 (fun x13 e_x13 i_x13 => ?_)
          refine lv_istore_n (lv' := [(1, .int x13), (2, .int x2), (0, .ref h0)]) hx hb dX12_unmelted_36 rfl hl (by decide) rfl (fun ls hl => ?_)
          refine iv_iinc hx hb i5_x2 (lo := 1) (hi := 10) (by decide) dX12_unmelted_37 hl (k := 1) rfl (by decide) (fun x14 ls e_x14 i_x14 hl => ?_)
          have hl : lv_has ls 3 [(2, .int x14), (1, .int x13), (0, .ref h0)] := hl
          refine lv_goto (tgt := 4) hx hb dX12_unmelted_40 (by decide) ?_
          exact ih_4 _ _ hB x13 i_x13 x14 (i_x14.wk (by decide)) (iv_mup (c := 1) i_x2 (by decide) (by decide) (by omega) hn_4) _ (lv_sub hl [0, 1, 2] rfl)
        · skip
          refine lv_iconst (v := 1) hx hb dX12_unmelted_28 (by decide) ?_
          refine lv_iload_n hx hb dX12_unmelted_29 rfl (lv_at hl 0 rfl) ?_
          refine iv_shl1 hx hb i5_x2 (lo := 1) (hi := 512) (by decide) dX12_unmelted_30 (fun x15 e_x15 i_x15 => ?_)
          refine lv_goto (tgt := 35) hx hb dX12_unmelted_31 (by decide) ?_
          refine iv_ior hx hb i_x1 i_x15 (k := 11) (hi := 2047) (by decide) dX12_unmelted_35 (fun x16 e_x16 i_x16 => ?_)
          refine lv_istore_n (lv' := [(1, .int x16), (2, .int x2), (0, .ref h0)]) hx hb dX12_unmelted_36 rfl hl (by decide) rfl (fun ls hl => ?_)
          refine iv_iinc hx hb i5_x2 (lo := 1) (hi := 10) (by decide) dX12_unmelted_37 hl (k := 1) rfl (by decide) (fun x17 ls e_x17 i_x17 hl => ?_)
          have hl : lv_has ls 3 [(2, .int x17), (1, .int x16), (0, .ref h0)] := hl
          refine lv_goto (tgt := 4) hx hb dX12_unmelted_40 (by decide) ?_
          exact ih_4 _ _ hB x16 i_x16 x17 (i_x17.wk (by decide)) (iv_mup (c := 1) i_x2 (by decide) (by decide) (by omega) hn_4) _ (lv_sub hl [0, 1, 2] rfl)
  exact L_4 _ _ _ hB 0 (q_0.wk (by decide)) 0 (q_0.wk (by decide)) (Nat.lt_succ_self _) _ (lv_sub hl [0, 1, 2] rfl)
theorem dX12_melts_0 : decode cX12_melts 0 = .ok (.iload_n 1, 1) := by decide +kernel
theorem dX12_melts_1 : decode cX12_melts 1 = .ok (.iconst 1, 1) := by decide +kernel
theorem dX12_melts_2 : decode cX12_melts 2 = .ok (.sipush 999, 3) := by decide +kernel
theorem dX12_melts_5 : decode cX12_melts 5 = .ok (.invokestatic 56, 3) := by decide +kernel
theorem dX12_melts_8 : decode cX12_melts 8 = .ok (.ifCond .eq 12, 3) := by decide +kernel
theorem dX12_melts_11 : decode cX12_melts 11 = .ok (.iload_n 2, 1) := by decide +kernel
theorem dX12_melts_12 : decode cX12_melts 12 = .ok (.iconst 0, 1) := by decide +kernel
theorem dX12_melts_13 : decode cX12_melts 13 = .ok (.iconst 1, 1) := by decide +kernel
theorem dX12_melts_14 : decode cX12_melts 14 = .ok (.invokestatic 56, 3) := by decide +kernel
theorem dX12_melts_17 : decode cX12_melts 17 = .ok (.ifCond .ne 5, 3) := by decide +kernel
theorem dX12_melts_20 : decode cX12_melts 20 = .ok (.iconst (-1), 1) := by decide +kernel
theorem dX12_melts_21 : decode cX12_melts 21 = .ok (.ireturn, 1) := by decide +kernel
theorem dX12_melts_22 : decode cX12_melts 22 = .ok (.aload_n 0, 1) := by decide +kernel
theorem dX12_melts_23 : decode cX12_melts 23 = .ok (.invokevirtual 408, 3) := by decide +kernel
theorem dX12_melts_26 : decode cX12_melts 26 = .ok (.istore_n 3, 1) := by decide +kernel
theorem dX12_melts_27 : decode cX12_melts 27 = .ok (.iconst (-1), 1) := by decide +kernel
theorem dX12_melts_28 : decode cX12_melts 28 = .ok (.istore 4, 2) := by decide +kernel
theorem dX12_melts_30 : decode cX12_melts 30 = .ok (.iconst 0, 1) := by decide +kernel
theorem dX12_melts_31 : decode cX12_melts 31 = .ok (.istore 5, 2) := by decide +kernel
theorem dX12_melts_33 : decode cX12_melts 33 = .ok (.iload 5, 2) := by decide +kernel
theorem dX12_melts_35 : decode cX12_melts 35 = .ok (.iload_n 3, 1) := by decide +kernel
theorem dX12_melts_36 : decode cX12_melts 36 = .ok (.if_icmp .gt 44, 3) := by decide +kernel
theorem dX12_melts_39 : decode cX12_melts 39 = .ok (.iload 5, 2) := by decide +kernel
theorem dX12_melts_41 : decode cX12_melts 41 = .ok (.iload_n 3, 1) := by decide +kernel
theorem dX12_melts_42 : decode cX12_melts 42 = .ok (.iconst (-1), 1) := by decide +kernel
theorem dX12_melts_43 : decode cX12_melts 43 = .ok (.ixor, 1) := by decide +kernel
theorem dX12_melts_44 : decode cX12_melts 44 = .ok (.iand, 1) := by decide +kernel
theorem dX12_melts_45 : decode cX12_melts 45 = .ok (.ifCond .ne 29, 3) := by decide +kernel
theorem dX12_melts_48 : decode cX12_melts 48 = .ok (.aload_n 0, 1) := by decide +kernel
theorem dX12_melts_49 : decode cX12_melts 49 = .ok (.iload 5, 2) := by decide +kernel
theorem dX12_melts_51 : decode cX12_melts 51 = .ok (.iconst 2, 1) := by decide +kernel
theorem dX12_melts_52 : decode cX12_melts 52 = .ok (.invokevirtual 405, 3) := by decide +kernel
theorem dX12_melts_55 : decode cX12_melts 55 = .ok (.iload_n 1, 1) := by decide +kernel
theorem dX12_melts_56 : decode cX12_melts 56 = .ok (.if_icmp .lt 18, 3) := by decide +kernel
theorem dX12_melts_59 : decode cX12_melts 59 = .ok (.aload_n 0, 1) := by decide +kernel
theorem dX12_melts_60 : decode cX12_melts 60 = .ok (.iload 5, 2) := by decide +kernel
theorem dX12_melts_62 : decode cX12_melts 62 = .ok (.iload 4, 2) := by decide +kernel
theorem dX12_melts_64 : decode cX12_melts 64 = .ok (.invokevirtual 411, 3) := by decide +kernel
theorem dX12_melts_67 : decode cX12_melts 67 = .ok (.ifCond .eq 7, 3) := by decide +kernel
theorem dX12_melts_70 : decode cX12_melts 70 = .ok (.iload 5, 2) := by decide +kernel
theorem dX12_melts_72 : decode cX12_melts 72 = .ok (.istore 4, 2) := by decide +kernel
theorem dX12_melts_74 : decode cX12_melts 74 = .ok (.iinc 5 1, 3) := by decide +kernel
theorem dX12_melts_77 : decode cX12_melts 77 = .ok (.goto (-44), 3) := by decide +kernel
theorem dX12_melts_80 : decode cX12_melts 80 = .ok (.iload 4, 2) := by decide +kernel
theorem dX12_melts_82 : decode cX12_melts 82 = .ok (.iconst (-1), 1) := by decide +kernel
theorem dX12_melts_83 : decode cX12_melts 83 = .ok (.if_icmp .eq 8, 3) := by decide +kernel
theorem dX12_melts_86 : decode cX12_melts 86 = .ok (.iload_n 2, 1) := by decide +kernel
theorem dX12_melts_87 : decode cX12_melts 87 = .ok (.iconst 1, 1) := by decide +kernel
theorem dX12_melts_88 : decode cX12_melts 88 = .ok (.if_icmp .ne 8, 3) := by decide +kernel
theorem dX12_melts_91 : decode cX12_melts 91 = .ok (.iload 4, 2) := by decide +kernel
theorem dX12_melts_93 : decode cX12_melts 93 = .ok (.goto 10, 3) := by decide +kernel
theorem dX12_melts_96 : decode cX12_melts 96 = .ok (.aload_n 0, 1) := by decide +kernel
theorem dX12_melts_97 : decode cX12_melts 97 = .ok (.iload 4, 2) := by decide +kernel
theorem dX12_melts_99 : decode cX12_melts 99 = .ok (.iconst 3, 1) := by decide +kernel
theorem dX12_melts_100 : decode cX12_melts 100 = .ok (.invokevirtual 405, 3) := by decide +kernel
theorem dX12_melts_103 : decode cX12_melts 103 = .ok (.ireturn, 1) := by decide +kernel
set_option maxHeartbeats 4000000 in
set_option maxRecDepth 100000 in
theorem c_X12_melts (l : Launch) (D : va_G) (tys : List (ClassId × FieldType)) (base : Nat) (G : iv_G) (h0 : Nat) (g_h0 : Nat → Int32) (r_h0 : Nat → Nat) (a_h0 : G h0 = some (12, g_h0, r_h0)) (x_0 : Int32) (i_x_0 : iv_R (-2147483648) 2147483647 x_0) (x_1 : Int32) (i_x_1 : iv_R (-2147483648) 2147483647 x_1) : Met l yX12_melts (Cond.code yX12_melts cX12_melts 6 (some .int) :: iv_W0) ({ frames := 3, cells := 0, slots := 0, locals := 70 }) (iv_Pc iv_sh D classes tys base G [.ref h0, .int x_0, .int x_1]) (iv_Qi iv_sh D classes tys base (fun v G' => G = G' ∧ iv_R (-2147483648) 2147483647 v)) 0 0 (iv_A base) := by
  refine iv_head (by decide) (Nat.le_of_ble_eq_true rfl) ?_
  intro p e s m args below meth c ls X hr hlocks hname hB hl
  have X := X
  have hx := X.1.1
  have hb := X.1.2.1
  have hl : lv_has ls 6 [(0, .ref h0), (1, .int x_0), (2, .int x_1)] := hl
  refine lv_iload_n hx hb dX12_melts_0 rfl (lv_at hl 1 rfl) ?_
  refine lv_iconst (v := 1) hx hb dX12_melts_1 (by decide) ?_
  refine lv_sipush (v := 999) hx hb dX12_melts_2 (by decide) ?_
  refine iv_cSi X k_good k_mf_X12_isIn k_st_X12_isIn k_ml_X12_56 hB (As := [.int x_0, .int 1, .int 999]) (c_X12_isIn l D tys base G x_0 i_x_0 1 (q_1.wk (by decide)) 999 (q_999.wk (by decide))) ⟨rfl, rfl⟩ ⟨Nat.le_of_ble_eq_true rfl, Nat.le_of_ble_eq_true rfl⟩ ⟨Nat.le_of_ble_eq_true rfl, Nat.le_of_ble_eq_true rfl⟩ rfl rfl hl.1 (Nat.le_of_ble_eq_true rfl) dX12_melts_5 (fun x1 G9 H locs hq hB => ?_)
  obtain ⟨rfl, i_x1, hp2⟩ := hq
  have k3 : ¬ x1 = 0 → iv_R 1 999 x_0 := fun h => ⟨iv_max i_x_0.1 (Int.le_trans q_1.1 (hp2.1 h).1) (by decide), iv_min i_x_0.2 (Int.le_trans (hp2.1 h).2 q_999.2) (by decide)⟩
  refine lv_if_eq (tgt := 20) hx hb dX12_melts_8 (by decide) (fun c4 => ?_) (fun c4 => ?_)
  · skip
    have i4_x1 : iv_R 0 0 x1 := (i_x1.cutHi (n := 0) (iv_eq_r c4 q_0).2)
    refine lv_iconst (v := (-1)) hx hb dX12_melts_20 (by decide) ?_
    exact iv_iret X hr hlocks hB ⟨rfl, (q_n1.wk (by decide))⟩ dX12_melts_21
  · skip
    have i5_x1 : iv_R 1 1 x1 := iv_ne_lo c4 i_x1 q_0 (by decide)
    have i6_x_0 : iv_R 1 999 x_0 := ((i_x_0.cutLo (n := 1) (k3 c4).1).cutHi (n := 999) (k3 c4).2)
    refine lv_iload_n hx hb dX12_melts_11 rfl (lv_at hl 2 rfl) ?_
    refine lv_iconst (v := 0) hx hb dX12_melts_12 (by decide) ?_
    refine lv_iconst (v := 1) hx hb dX12_melts_13 (by decide) ?_
    refine iv_cSi X k_good k_mf_X12_isIn k_st_X12_isIn k_ml_X12_56 hB (As := [.int x_1, .int 0, .int 1]) (c_X12_isIn l D tys base G x_1 i_x_1 0 (q_0.wk (by decide)) 1 (q_1.wk (by decide))) ⟨rfl, rfl⟩ ⟨Nat.le_of_ble_eq_true rfl, Nat.le_of_ble_eq_true rfl⟩ ⟨Nat.le_of_ble_eq_true rfl, Nat.le_of_ble_eq_true rfl⟩ rfl rfl hl.1 (Nat.le_of_ble_eq_true rfl) dX12_melts_14 (fun x8 G9 H locs hq hB => ?_)
    obtain ⟨rfl, i_x8, hp9⟩ := hq
    have k10 : ¬ x8 = 0 → iv_R 0 1 x_1 := fun h => ⟨iv_max i_x_1.1 (Int.le_trans q_0.1 (hp9.1 h).1) (by decide), iv_min i_x_1.2 (Int.le_trans (hp9.1 h).2 q_1.2) (by decide)⟩
    refine lv_if_ne (tgt := 22) hx hb dX12_melts_17 (by decide) (fun c11 => ?_) (fun c11 => ?_)
    · skip
      have i11_x8 : iv_R 1 1 x8 := iv_ne_lo c11 i_x8 q_0 (by decide)
      have i12_x_1 : iv_R 0 1 x_1 := ((i_x_1.cutLo (n := 0) (k10 c11).1).cutHi (n := 1) (k10 c11).2)
      refine lv_aload_n hx hb dX12_melts_22 rfl (lv_at hl 0 rfl) ?_
      refine iv_cVi X k_good k_mf_X12_unmelted k_im_X12_unmelted k_sel_X12_unmelted k_ml_X12_408 ft_X12 hB a_h0 sh_12 (As := []) (c_X12_unmelted l D tys base G h0 g_h0 r_h0 a_h0) ⟨rfl, rfl⟩ ⟨Nat.le_of_ble_eq_true rfl, Nat.le_of_ble_eq_true rfl⟩ ⟨Nat.le_of_ble_eq_true rfl, Nat.le_of_ble_eq_true rfl⟩ rfl rfl hl.1 (Nat.le_of_ble_eq_true rfl) dX12_melts_23 (fun x14 G9 H locs hq hB => ?_)
      obtain ⟨rfl, i_x14⟩ := hq
      refine lv_istore_n (lv' := [(3, .int x14), (0, .ref h0), (1, .int x_0), (2, .int x_1)]) hx hb dX12_melts_26 rfl hl (by decide) rfl (fun ls hl => ?_)
      refine lv_iconst (v := (-1)) hx hb dX12_melts_27 (by decide) ?_
      refine lv_istore (lv' := [(4, .int (-1)), (3, .int x14), (0, .ref h0), (1, .int x_0), (2, .int x_1)]) hx hb dX12_melts_28 hl (by decide) rfl (fun ls hl => ?_)
      refine lv_iconst (v := 0) hx hb dX12_melts_30 (by decide) ?_
      refine lv_istore (lv' := [(5, .int 0), (4, .int (-1)), (3, .int x14), (0, .ref h0), (1, .int x_0), (2, .int x_1)]) hx hb dX12_melts_31 hl (by decide) rfl (fun ls hl => ?_)
      have L_33 : ∀ (n_33 : Nat) (H : Heap) (locs : List Loc) (hB : iv_B iv_sh D classes tys base G s.heap H locs) (x15 : Int32) (i_x15 : iv_R (-1) 2047 x15) (x16 : Int32) (i_x16 : iv_R 0 2048 x16) (hn_33 : (2049 - x16.toInt).toNat < n_33) (ls : Array Slot) (hl : lv_has ls 6 [(5, .int x16), (4, .int x15), (3, .int x14), (0, .ref h0), (1, .int x_0), (2, .int x_1)]), W p l e ({ frames := 3, cells := 0, slots := 0, locals := 70 } : Room) s m args below meth c H locs 0 0 (MQ below (iv_Qi iv_sh D classes tys base (fun v G' => G = G' ∧ iv_R (-2147483648) 2147483647 v)) args s 0 0 (iv_A base)) (F0 m 33 ls []) := by
        intro n_33
        induction n_33 with
        | zero => intro H locs hB x15 i_x15 x16 i_x16 hn_33 ls hl; exact absurd hn_33 (Nat.not_lt_zero _)
        | succ n_33 ih_33 =>
          intro H locs hB x15 i_x15 x16 i_x16 hn_33 ls hl
          refine lv_iload hx hb dX12_melts_33 (lv_at hl 0 rfl) ?_
          refine lv_iload_n hx hb dX12_melts_35 rfl (lv_at hl 2 rfl) ?_
          refine lv_icmp_gt (tgt := 80) hx hb dX12_melts_36 (by decide) (fun c17 => ?_) (fun c17 => ?_)
          · skip
            have i17_x16 : iv_R 1 2048 x16 := (i_x16.cutLo (n := 1) (iv_lt_l c17 i_x14 (by decide)))
            refine lv_iload hx hb dX12_melts_80 (lv_at hl 1 rfl) ?_
            refine lv_iconst (v := (-1)) hx hb dX12_melts_82 (by decide) ?_
            refine lv_icmp_eq (tgt := 91) hx hb dX12_melts_83 (by decide) (fun c19 => ?_) (fun c19 => ?_)
            · skip
              have i19_x15 : iv_R (-1) (-1) x15 := (i_x15.cutHi (n := (-1)) (iv_eq_r c19 q_n1).2)
              refine lv_iload hx hb dX12_melts_91 (lv_at hl 1 rfl) ?_
              refine lv_goto (tgt := 103) hx hb dX12_melts_93 (by decide) ?_
              exact iv_iret X hr hlocks hB ⟨rfl, (i19_x15.wk (by decide))⟩ dX12_melts_103
            · skip
              have i20_x15 : iv_R 0 2047 x15 := iv_ne_lo c19 i_x15 q_n1 (by decide)
              refine lv_iload_n hx hb dX12_melts_86 rfl (lv_at hl 5 rfl) ?_
              refine lv_iconst (v := 1) hx hb dX12_melts_87 (by decide) ?_
              refine lv_icmp_ne (tgt := 96) hx hb dX12_melts_88 (by decide) (fun c22 => ?_) (fun c22 => ?_)
              · skip
                have i22_x_1 : iv_R 0 0 x_1 := iv_ne_hi c22 i12_x_1 q_1 (by decide)
                refine lv_aload_n hx hb dX12_melts_96 rfl (lv_at hl 3 rfl) ?_
                refine lv_iload hx hb dX12_melts_97 (lv_at hl 1 rfl) ?_
                refine lv_iconst (v := 3) hx hb dX12_melts_99 (by decide) ?_
                refine iv_cVi X k_good k_mf_X12_sumOf k_im_X12_sumOf k_sel_X12_sumOf k_ml_X12_405 ft_X12 hB a_h0 sh_12 (As := [.int x15, .int 3]) (c_X12_sumOf l D tys base G h0 g_h0 r_h0 a_h0 x15 i20_x15 3 (q_3.wk (by decide))) ⟨rfl, rfl⟩ ⟨Nat.le_of_ble_eq_true rfl, Nat.le_of_ble_eq_true rfl⟩ ⟨Nat.le_of_ble_eq_true rfl, Nat.le_of_ble_eq_true rfl⟩ rfl rfl hl.1 (Nat.le_of_ble_eq_true rfl) dX12_melts_100 (fun x24 G9 H locs hq hB => ?_)
                obtain ⟨rfl, i_x24⟩ := hq
                exact iv_iret X hr hlocks hB ⟨rfl, i_x24⟩ dX12_melts_103
              · skip
                have i24_x_1 : iv_R 1 1 x_1 := (i12_x_1.cutLo (n := 1) (iv_eq_r c22 q_1).1)
                refine lv_iload hx hb dX12_melts_91 (lv_at hl 1 rfl) ?_
                refine lv_goto (tgt := 103) hx hb dX12_melts_93 (by decide) ?_
                exact iv_iret X hr hlocks hB ⟨rfl, (i20_x15.wk (by decide))⟩ dX12_melts_103
          · skip
            have i25_x16 : iv_R 0 2047 x16 := (i_x16.cutHi (n := 2047) (iv_le_r (iv_nlt c17) i_x14))
            refine lv_iload hx hb dX12_melts_39 (lv_at hl 0 rfl) ?_
            refine lv_iload_n hx hb dX12_melts_41 rfl (lv_at hl 2 rfl) ?_
            refine lv_iconst (v := (-1)) hx hb dX12_melts_42 (by decide) ?_
            refine lv_ixor hx hb dX12_melts_43 ?_
            refine lv_topi (fun x27 e_x27 => ?_)
            have i_x27 := iv_R.all x27
            refine iv_iand_l hx hb i25_x16 (by decide) dX12_melts_44 (fun x28 e_x28 i_x28 => ?_)
            refine lv_if_ne (tgt := 74) hx hb dX12_melts_45 (by decide) (fun c29 => ?_) (fun c29 => ?_)
            · skip
              have i29_x28 : iv_R 1 2047 x28 := iv_ne_lo c29 i_x28 q_0 (by decide)
              refine iv_iinc hx hb i25_x16 (lo := 1) (hi := 2048) (by decide) dX12_melts_74 hl (k := 0) rfl (by decide) (fun x31 ls e_x31 i_x31 hl => ?_)
              have hl : lv_has ls 6 [(5, .int x31), (4, .int x15), (3, .int x14), (0, .ref h0), (1, .int x_0), (2, .int x_1)] := hl
              refine lv_goto (tgt := 33) hx hb dX12_melts_77 (by decide) ?_
              exact ih_33 _ _ hB x15 i_x15 x31 (i_x31.wk (by decide)) (iv_mup (c := 1) i_x16 (by decide) (by decide) (by omega) hn_33) _ (lv_sub hl [0, 1, 2, 3, 4, 5] rfl)
            · skip
              have i31_x28 : iv_R 0 0 x28 := (i_x28.cutHi (n := 0) (iv_eq_r c29 q_0).2)
              refine lv_aload_n hx hb dX12_melts_48 rfl (lv_at hl 3 rfl) ?_
              refine lv_iload hx hb dX12_melts_49 (lv_at hl 0 rfl) ?_
              refine lv_iconst (v := 2) hx hb dX12_melts_51 (by decide) ?_
              refine iv_cVi X k_good k_mf_X12_sumOf k_im_X12_sumOf k_sel_X12_sumOf k_ml_X12_405 ft_X12 hB a_h0 sh_12 (As := [.int x16, .int 2]) (c_X12_sumOf l D tys base G h0 g_h0 r_h0 a_h0 x16 i25_x16 2 (q_2.wk (by decide))) ⟨rfl, rfl⟩ ⟨Nat.le_of_ble_eq_true rfl, Nat.le_of_ble_eq_true rfl⟩ ⟨Nat.le_of_ble_eq_true rfl, Nat.le_of_ble_eq_true rfl⟩ rfl rfl hl.1 (Nat.le_of_ble_eq_true rfl) dX12_melts_52 (fun x33 G9 H locs hq hB => ?_)
              obtain ⟨rfl, i_x33⟩ := hq
              refine lv_iload_n hx hb dX12_melts_55 rfl (lv_at hl 4 rfl) ?_
              refine lv_icmp_lt (tgt := 74) hx hb dX12_melts_56 (by decide) (fun c34 => ?_) (fun c34 => ?_)
              · skip
                have i34_x33 : iv_R (-2147483648) 998 x33 := (i_x33.cutHi (n := 998) (iv_lt_r c34 i6_x_0 (by decide)))
                refine iv_iinc hx hb i25_x16 (lo := 1) (hi := 2048) (by decide) dX12_melts_74 hl (k := 0) rfl (by decide) (fun x36 ls e_x36 i_x36 hl => ?_)
                have hl : lv_has ls 6 [(5, .int x36), (4, .int x15), (3, .int x14), (0, .ref h0), (1, .int x_0), (2, .int x_1)] := hl
                refine lv_goto (tgt := 33) hx hb dX12_melts_77 (by decide) ?_
                exact ih_33 _ _ hB x15 i_x15 x36 (i_x36.wk (by decide)) (iv_mup (c := 1) i_x16 (by decide) (by decide) (by omega) hn_33) _ (lv_sub hl [0, 1, 2, 3, 4, 5] rfl)
              · skip
                have i36_x33 : iv_R 1 2147483647 x33 := (i_x33.cutLo (n := 1) (iv_le_l (iv_nlt c34) i6_x_0))
                refine lv_aload_n hx hb dX12_melts_59 rfl (lv_at hl 3 rfl) ?_
                refine lv_iload hx hb dX12_melts_60 (lv_at hl 0 rfl) ?_
                refine lv_iload hx hb dX12_melts_62 (lv_at hl 1 rfl) ?_
                refine iv_cVi X k_good k_mf_X12_isBetter k_im_X12_isBetter k_sel_X12_isBetter k_ml_X12_411 ft_X12 hB a_h0 sh_12 (As := [.int x16, .int x15]) (c_X12_isBetter l D tys base G h0 g_h0 r_h0 a_h0 x16 i25_x16 x15 i_x15) ⟨rfl, rfl⟩ ⟨Nat.le_of_ble_eq_true rfl, Nat.le_of_ble_eq_true rfl⟩ ⟨Nat.le_of_ble_eq_true rfl, Nat.le_of_ble_eq_true rfl⟩ rfl rfl hl.1 (Nat.le_of_ble_eq_true rfl) dX12_melts_64 (fun x38 G9 H locs hq hB => ?_)
                obtain ⟨rfl, i_x38, hp39⟩ := hq
                refine lv_if_eq (tgt := 74) hx hb dX12_melts_67 (by decide) (fun c40 => ?_) (fun c40 => ?_)
                · skip
                  have i40_x38 : iv_R 0 0 x38 := (i_x38.cutHi (n := 0) (iv_eq_r c40 q_0).2)
                  have i41_x15 : iv_R 0 2047 x15 := (i_x15.cutLo (n := 0) (hp39 c40).1)
                  refine iv_iinc hx hb i25_x16 (lo := 1) (hi := 2048) (by decide) dX12_melts_74 hl (k := 0) rfl (by decide) (fun x43 ls e_x43 i_x43 hl => ?_)
                  have hl : lv_has ls 6 [(5, .int x43), (4, .int x15), (3, .int x14), (0, .ref h0), (1, .int x_0), (2, .int x_1)] := hl
                  refine lv_goto (tgt := 33) hx hb dX12_melts_77 (by decide) ?_
                  exact ih_33 _ _ hB x15 (i41_x15.wk (by decide)) x43 (i_x43.wk (by decide)) (iv_mup (c := 1) i_x16 (by decide) (by decide) (by omega) hn_33) _ (lv_sub hl [0, 1, 2, 3, 4, 5] rfl)
                · skip
                  have i43_x38 : iv_R 1 1 x38 := iv_ne_lo c40 i_x38 q_0 (by decide)
                  refine lv_iload hx hb dX12_melts_70 (lv_at hl 0 rfl) ?_
                  refine lv_istore (lv' := [(4, .int x16), (5, .int x16), (3, .int x14), (0, .ref h0), (1, .int x_0), (2, .int x_1)]) hx hb dX12_melts_72 hl (by decide) rfl (fun ls hl => ?_)
                  refine iv_iinc hx hb i25_x16 (lo := 1) (hi := 2048) (by decide) dX12_melts_74 hl (k := 1) rfl (by decide) (fun x45 ls e_x45 i_x45 hl => ?_)
                  have hl : lv_has ls 6 [(5, .int x45), (4, .int x16), (3, .int x14), (0, .ref h0), (1, .int x_0), (2, .int x_1)] := hl
                  refine lv_goto (tgt := 33) hx hb dX12_melts_77 (by decide) ?_
                  exact ih_33 _ _ hB x16 (i25_x16.wk (by decide)) x45 (i_x45.wk (by decide)) (iv_mup (c := 1) i_x16 (by decide) (by decide) (by omega) hn_33) _ (lv_sub hl [0, 1, 2, 3, 4, 5] rfl)
      exact L_33 _ _ _ hB (-1) (q_n1.wk (by decide)) 0 (q_0.wk (by decide)) (Nat.lt_succ_self _) _ (lv_sub hl [0, 1, 2, 3, 4, 5] rfl)
    · skip
      have i45_x8 : iv_R 0 0 x8 := (i_x8.cutHi (n := 0) (iv_eq_r c11 q_0).2)
      refine lv_iconst (v := (-1)) hx hb dX12_melts_20 (by decide) ?_
      exact iv_iret X hr hlocks hB ⟨rfl, (q_n1.wk (by decide))⟩ dX12_melts_21
theorem dX12_see_0 : decode cX12_see 0 = .ok (.iload_n 1, 1) := by decide +kernel
theorem dX12_see_1 : decode cX12_see 1 = .ok (.aload_n 0, 1) := by decide +kernel
theorem dX12_see_2 : decode cX12_see 2 = .ok (.getfield 82, 3) := by decide +kernel
theorem dX12_see_5 : decode cX12_see 5 = .ok (.if_icmp .ge 12, 3) := by decide +kernel
theorem dX12_see_8 : decode cX12_see 8 = .ok (.aload_n 0, 1) := by decide +kernel
theorem dX12_see_9 : decode cX12_see 9 = .ok (.getfield 28, 3) := by decide +kernel
theorem dX12_see_12 : decode cX12_see 12 = .ok (.iload_n 1, 1) := by decide +kernel
theorem dX12_see_13 : decode cX12_see 13 = .ok (.iaload, 1) := by decide +kernel
theorem dX12_see_14 : decode cX12_see 14 = .ok (.goto 4, 3) := by decide +kernel
theorem dX12_see_17 : decode cX12_see 17 = .ok (.iconst (-1), 1) := by decide +kernel
theorem dX12_see_18 : decode cX12_see 18 = .ok (.ireturn, 1) := by decide +kernel
set_option maxHeartbeats 4000000 in
set_option maxRecDepth 100000 in
theorem c_X12_see (l : Launch) (D : va_G) (tys : List (ClassId × FieldType)) (base : Nat) (G : iv_G) (h0 : Nat) (g_h0 : Nat → Int32) (r_h0 : Nat → Nat) (a_h0 : G h0 = some (12, g_h0, r_h0)) (x_0 : Int32) (i_x_0 : iv_R 0 400 x_0) : Met l yX12_see (Cond.code yX12_see cX12_see 2 (some .int) :: iv_W0) ({ frames := 0, cells := 0, slots := 0, locals := 0 }) (iv_Pc iv_sh D classes tys base G [.ref h0, .int x_0]) (iv_Qi iv_sh D classes tys base (fun v G' => G = G' ∧ iv_R (-1) 255 v ∧ (0 ≤ v.toInt → iv_R 0 399 x_0))) 0 0 (iv_A base) := by
  refine iv_head (by decide) (Nat.le_of_ble_eq_true rfl) ?_
  intro p e s m args below meth c ls X hr hlocks hname hB hl
  have X := X
  have hx := X.1.1
  have hb := X.1.2.1
  have hl : lv_has ls 2 [(0, .ref h0), (1, .int x_0)] := hl
  refine lv_iload_n hx hb dX12_see_0 rfl (lv_at hl 1 rfl) ?_
  refine lv_aload_n hx hb dX12_see_1 rfl (lv_at hl 0 rfl) ?_
  refine iv_geti X ft_X12 hB a_h0 sh_12 15 (by decide) rfl k_fl_X12_82 dX12_see_2 (fun x1 e_x1 i_x1 => ?_)
  refine lv_icmp_ge (tgt := 17) hx hb dX12_see_5 (by decide) (fun c2 => ?_) (fun c2 => ?_)
  · skip
    refine lv_iconst (v := (-1)) hx hb dX12_see_17 (by decide) ?_
    exact iv_iret X hr hlocks hB ⟨rfl, (q_n1.wk (by decide)), fun h => absurd (Int.le_trans h q_n1.2) (by decide)⟩ dX12_see_18
  · skip
    have i2_x_0 : iv_R 0 399 x_0 := (i_x_0.cutHi (n := 399) (iv_lt_r (iv_nle c2) i_x1 (by decide)))
    have i3_x1 : iv_R 1 400 x1 := (i_x1.cutLo (n := 1) (iv_lt_l (iv_nle c2) i_x_0 (by decide)))
    refine lv_aload_n hx hb dX12_see_8 rfl (lv_at hl 0 rfl) ?_
    refine iv_getr X ft_X12 hB a_h0 sh_12 8 (by decide) rfl k_fl_X12_28 dX12_see_9 (fun b5 g_b5 r_b5 e_b5 a_b5 => ?_)
    refine lv_iload_n hx hb dX12_see_12 rfl (lv_at hl 1 rfl) ?_
    refine iv_ald X hB a_b5 sh_66 (iv_in i2_x_0 (by decide)) dX12_see_13 (fun x6 e_x6 i_x6 => ?_)
    refine lv_goto (tgt := 18) hx hb dX12_see_14 (by decide) ?_
    exact iv_iret X hr hlocks hB ⟨rfl, (i_x6.wk (by decide)), fun _ => i2_x_0⟩ dX12_see_18
theorem dX12_ringWord_0 : decode cX12_ringWord 0 = .ok (.aload_n 0, 1) := by decide +kernel
theorem dX12_ringWord_1 : decode cX12_ringWord 1 = .ok (.ldc 101, 2) := by decide +kernel
theorem dX12_ringWord_3 : decode cX12_ringWord 3 = .ok (.invokevirtual 103, 3) := by decide +kernel
theorem dX12_ringWord_6 : decode cX12_ringWord 6 = .ok (.ifCond .eq 6, 3) := by decide +kernel
theorem dX12_ringWord_9 : decode cX12_ringWord 9 = .ok (.bipush 7, 2) := by decide +kernel
theorem dX12_ringWord_11 : decode cX12_ringWord 11 = .ok (.ireturn, 1) := by decide +kernel
theorem dX12_ringWord_12 : decode cX12_ringWord 12 = .ok (.aload_n 0, 1) := by decide +kernel
theorem dX12_ringWord_13 : decode cX12_ringWord 13 = .ok (.ldc 107, 2) := by decide +kernel
theorem dX12_ringWord_15 : decode cX12_ringWord 15 = .ok (.invokevirtual 103, 3) := by decide +kernel
theorem dX12_ringWord_18 : decode cX12_ringWord 18 = .ok (.ifCond .eq 6, 3) := by decide +kernel
theorem dX12_ringWord_21 : decode cX12_ringWord 21 = .ok (.bipush 8, 2) := by decide +kernel
theorem dX12_ringWord_23 : decode cX12_ringWord 23 = .ok (.ireturn, 1) := by decide +kernel
theorem dX12_ringWord_24 : decode cX12_ringWord 24 = .ok (.aload_n 0, 1) := by decide +kernel
theorem dX12_ringWord_25 : decode cX12_ringWord 25 = .ok (.ldc 108, 2) := by decide +kernel
theorem dX12_ringWord_27 : decode cX12_ringWord 27 = .ok (.invokevirtual 103, 3) := by decide +kernel
theorem dX12_ringWord_30 : decode cX12_ringWord 30 = .ok (.ifCond .eq 8, 3) := by decide +kernel
theorem dX12_ringWord_33 : decode cX12_ringWord 33 = .ok (.bipush 9, 2) := by decide +kernel
theorem dX12_ringWord_35 : decode cX12_ringWord 35 = .ok (.goto 4, 3) := by decide +kernel
theorem dX12_ringWord_38 : decode cX12_ringWord 38 = .ok (.iconst 1, 1) := by decide +kernel
theorem dX12_ringWord_39 : decode cX12_ringWord 39 = .ok (.ireturn, 1) := by decide +kernel
set_option maxHeartbeats 4000000 in
set_option maxRecDepth 100000 in
theorem c_X12_ringWord (l : Launch) (D : va_G) (tys : List (ClassId × FieldType)) (base : Nat) (G : iv_G) (h0 : Nat) (g_h0 : Nat → Int32) (r_h0 : Nat → Nat) (a_h0 : G h0 = some (12, g_h0, r_h0)) : Met l yX12_ringWord (Cond.code yX12_ringWord cX12_ringWord 1 (some .int) :: iv_W0) ({ frames := 5, cells := 0, slots := 0, locals := 108 }) (iv_Pc iv_sh D classes tys base G [.ref h0]) (iv_Qi iv_sh D classes tys base (fun v G' => G = G' ∧ iv_R 1 9 v)) 0 0 (iv_A base) := by
  refine iv_head (by decide) (Nat.le_of_ble_eq_true rfl) ?_
  intro p e s m args below meth c ls X hr hlocks hname hB hl
  have X := X
  have hx := X.1.1
  have hb := X.1.2.1
  have hl : lv_has ls 1 [(0, .ref h0)] := hl
  refine lv_aload_n hx hb dX12_ringWord_0 rfl (lv_at hl 0 rfl) ?_
  refine iv_sldc X (i := 2) rfl dX12_ringWord_1 ?_
  refine iv_cVi X k_good k_mf_X12_is k_im_X12_is k_sel_X12_is k_ml_X12_103 ft_X12 hB a_h0 sh_12 (As := [.ref (D.2 100 2)]) (c_X12_is l D tys base G h0 g_h0 r_h0 a_h0 2 (by decide)) ⟨rfl, rfl⟩ ⟨Nat.le_of_ble_eq_true rfl, Nat.le_of_ble_eq_true rfl⟩ ⟨Nat.le_of_ble_eq_true rfl, Nat.le_of_ble_eq_true rfl⟩ rfl rfl hl.1 (Nat.le_of_ble_eq_true rfl) dX12_ringWord_3 (fun x1 G9 H locs hq hB => ?_)
  obtain ⟨rfl, i_x1⟩ := hq
  refine lv_if_eq (tgt := 12) hx hb dX12_ringWord_6 (by decide) (fun c2 => ?_) (fun c2 => ?_)
  · skip
    have i2_x1 : iv_R 0 0 x1 := (i_x1.cutHi (n := 0) (iv_eq_r c2 q_0).2)
    refine lv_aload_n hx hb dX12_ringWord_12 rfl (lv_at hl 0 rfl) ?_
    refine iv_sldc X (i := 3) rfl dX12_ringWord_13 ?_
    refine iv_cVi X k_good k_mf_X12_is k_im_X12_is k_sel_X12_is k_ml_X12_103 ft_X12 hB a_h0 sh_12 (As := [.ref (D.2 100 3)]) (c_X12_is l D tys base G h0 g_h0 r_h0 a_h0 3 (by decide)) ⟨rfl, rfl⟩ ⟨Nat.le_of_ble_eq_true rfl, Nat.le_of_ble_eq_true rfl⟩ ⟨Nat.le_of_ble_eq_true rfl, Nat.le_of_ble_eq_true rfl⟩ rfl rfl hl.1 (Nat.le_of_ble_eq_true rfl) dX12_ringWord_15 (fun x4 G9 H locs hq hB => ?_)
    obtain ⟨rfl, i_x4⟩ := hq
    refine lv_if_eq (tgt := 24) hx hb dX12_ringWord_18 (by decide) (fun c5 => ?_) (fun c5 => ?_)
    · skip
      have i5_x4 : iv_R 0 0 x4 := (i_x4.cutHi (n := 0) (iv_eq_r c5 q_0).2)
      refine lv_aload_n hx hb dX12_ringWord_24 rfl (lv_at hl 0 rfl) ?_
      refine iv_sldc X (i := 4) rfl dX12_ringWord_25 ?_
      refine iv_cVi X k_good k_mf_X12_is k_im_X12_is k_sel_X12_is k_ml_X12_103 ft_X12 hB a_h0 sh_12 (As := [.ref (D.2 100 4)]) (c_X12_is l D tys base G h0 g_h0 r_h0 a_h0 4 (by decide)) ⟨rfl, rfl⟩ ⟨Nat.le_of_ble_eq_true rfl, Nat.le_of_ble_eq_true rfl⟩ ⟨Nat.le_of_ble_eq_true rfl, Nat.le_of_ble_eq_true rfl⟩ rfl rfl hl.1 (Nat.le_of_ble_eq_true rfl) dX12_ringWord_27 (fun x7 G9 H locs hq hB => ?_)
      obtain ⟨rfl, i_x7⟩ := hq
      refine lv_if_eq (tgt := 38) hx hb dX12_ringWord_30 (by decide) (fun c8 => ?_) (fun c8 => ?_)
      · skip
        have i8_x7 : iv_R 0 0 x7 := (i_x7.cutHi (n := 0) (iv_eq_r c8 q_0).2)
        refine lv_iconst (v := 1) hx hb dX12_ringWord_38 (by decide) ?_
        exact iv_iret X hr hlocks hB ⟨rfl, (q_1.wk (by decide))⟩ dX12_ringWord_39
      · skip
        have i9_x7 : iv_R 1 1 x7 := iv_ne_lo c8 i_x7 q_0 (by decide)
        refine lv_bipush (v := 9) hx hb dX12_ringWord_33 (by decide) ?_
        refine lv_goto (tgt := 39) hx hb dX12_ringWord_35 (by decide) ?_
        exact iv_iret X hr hlocks hB ⟨rfl, (q_9.wk (by decide))⟩ dX12_ringWord_39
    · skip
      have i10_x4 : iv_R 1 1 x4 := iv_ne_lo c5 i_x4 q_0 (by decide)
      refine lv_bipush (v := 8) hx hb dX12_ringWord_21 (by decide) ?_
      exact iv_iret X hr hlocks hB ⟨rfl, (q_8.wk (by decide))⟩ dX12_ringWord_23
  · skip
    have i11_x1 : iv_R 1 1 x1 := iv_ne_lo c2 i_x1 q_0 (by decide)
    refine lv_bipush (v := 7) hx hb dX12_ringWord_9 (by decide) ?_
    exact iv_iret X hr hlocks hB ⟨rfl, (q_7.wk (by decide))⟩ dX12_ringWord_11
theorem dX12_soundWord_0 : decode cX12_soundWord 0 = .ok (.aload_n 0, 1) := by decide +kernel
theorem dX12_soundWord_1 : decode cX12_soundWord 1 = .ok (.ldc 120, 2) := by decide +kernel
theorem dX12_soundWord_3 : decode cX12_soundWord 3 = .ok (.invokevirtual 103, 3) := by decide +kernel
theorem dX12_soundWord_6 : decode cX12_soundWord 6 = .ok (.ifCond .eq 6, 3) := by decide +kernel
theorem dX12_soundWord_9 : decode cX12_soundWord 9 = .ok (.bipush 20, 2) := by decide +kernel
theorem dX12_soundWord_11 : decode cX12_soundWord 11 = .ok (.ireturn, 1) := by decide +kernel
theorem dX12_soundWord_12 : decode cX12_soundWord 12 = .ok (.aload_n 0, 1) := by decide +kernel
theorem dX12_soundWord_13 : decode cX12_soundWord 13 = .ok (.ldc 122, 2) := by decide +kernel
theorem dX12_soundWord_15 : decode cX12_soundWord 15 = .ok (.invokevirtual 103, 3) := by decide +kernel
theorem dX12_soundWord_18 : decode cX12_soundWord 18 = .ok (.ifCond .eq 6, 3) := by decide +kernel
theorem dX12_soundWord_21 : decode cX12_soundWord 21 = .ok (.bipush 46, 2) := by decide +kernel
theorem dX12_soundWord_23 : decode cX12_soundWord 23 = .ok (.ireturn, 1) := by decide +kernel
theorem dX12_soundWord_24 : decode cX12_soundWord 24 = .ok (.aload_n 0, 1) := by decide +kernel
theorem dX12_soundWord_25 : decode cX12_soundWord 25 = .ok (.ldc 124, 2) := by decide +kernel
theorem dX12_soundWord_27 : decode cX12_soundWord 27 = .ok (.invokevirtual 103, 3) := by decide +kernel
theorem dX12_soundWord_30 : decode cX12_soundWord 30 = .ok (.ifCond .eq 6, 3) := by decide +kernel
theorem dX12_soundWord_33 : decode cX12_soundWord 33 = .ok (.bipush 47, 2) := by decide +kernel
theorem dX12_soundWord_35 : decode cX12_soundWord 35 = .ok (.ireturn, 1) := by decide +kernel
theorem dX12_soundWord_36 : decode cX12_soundWord 36 = .ok (.aload_n 0, 1) := by decide +kernel
theorem dX12_soundWord_37 : decode cX12_soundWord 37 = .ok (.ldc 126, 2) := by decide +kernel
theorem dX12_soundWord_39 : decode cX12_soundWord 39 = .ok (.invokevirtual 103, 3) := by decide +kernel
theorem dX12_soundWord_42 : decode cX12_soundWord 42 = .ok (.ifCond .eq 8, 3) := by decide +kernel
theorem dX12_soundWord_45 : decode cX12_soundWord 45 = .ok (.bipush 48, 2) := by decide +kernel
theorem dX12_soundWord_47 : decode cX12_soundWord 47 = .ok (.goto 7, 3) := by decide +kernel
theorem dX12_soundWord_50 : decode cX12_soundWord 50 = .ok (.aload_n 0, 1) := by decide +kernel
theorem dX12_soundWord_51 : decode cX12_soundWord 51 = .ok (.invokevirtual 128, 3) := by decide +kernel
theorem dX12_soundWord_54 : decode cX12_soundWord 54 = .ok (.ireturn, 1) := by decide +kernel
set_option maxHeartbeats 4000000 in
set_option maxRecDepth 100000 in
theorem c_X12_soundWord (l : Launch) (D : va_G) (tys : List (ClassId × FieldType)) (base : Nat) (G : iv_G) (h0 : Nat) (g_h0 : Nat → Int32) (r_h0 : Nat → Nat) (a_h0 : G h0 = some (12, g_h0, r_h0)) : Met l yX12_soundWord (Cond.code yX12_soundWord cX12_soundWord 1 (some .int) :: iv_W0) ({ frames := 6, cells := 0, slots := 0, locals := 128 }) (iv_Pc iv_sh D classes tys base G [.ref h0]) (iv_Qi iv_sh D classes tys base (fun v G' => G = G' ∧ iv_R 1 48 v)) 0 0 (iv_A base) := by
  refine iv_head (by decide) (Nat.le_of_ble_eq_true rfl) ?_
  intro p e s m args below meth c ls X hr hlocks hname hB hl
  have X := X
  have hx := X.1.1
  have hb := X.1.2.1
  have hl : lv_has ls 1 [(0, .ref h0)] := hl
  refine lv_aload_n hx hb dX12_soundWord_0 rfl (lv_at hl 0 rfl) ?_
  refine iv_sldc X (i := 9) rfl dX12_soundWord_1 ?_
  refine iv_cVi X k_good k_mf_X12_is k_im_X12_is k_sel_X12_is k_ml_X12_103 ft_X12 hB a_h0 sh_12 (As := [.ref (D.2 100 9)]) (c_X12_is l D tys base G h0 g_h0 r_h0 a_h0 9 (by decide)) ⟨rfl, rfl⟩ ⟨Nat.le_of_ble_eq_true rfl, Nat.le_of_ble_eq_true rfl⟩ ⟨Nat.le_of_ble_eq_true rfl, Nat.le_of_ble_eq_true rfl⟩ rfl rfl hl.1 (Nat.le_of_ble_eq_true rfl) dX12_soundWord_3 (fun x1 G9 H locs hq hB => ?_)
  obtain ⟨rfl, i_x1⟩ := hq
  refine lv_if_eq (tgt := 12) hx hb dX12_soundWord_6 (by decide) (fun c2 => ?_) (fun c2 => ?_)
  · skip
    have i2_x1 : iv_R 0 0 x1 := (i_x1.cutHi (n := 0) (iv_eq_r c2 q_0).2)
    refine lv_aload_n hx hb dX12_soundWord_12 rfl (lv_at hl 0 rfl) ?_
    refine iv_sldc X (i := 10) rfl dX12_soundWord_13 ?_
    refine iv_cVi X k_good k_mf_X12_is k_im_X12_is k_sel_X12_is k_ml_X12_103 ft_X12 hB a_h0 sh_12 (As := [.ref (D.2 100 10)]) (c_X12_is l D tys base G h0 g_h0 r_h0 a_h0 10 (by decide)) ⟨rfl, rfl⟩ ⟨Nat.le_of_ble_eq_true rfl, Nat.le_of_ble_eq_true rfl⟩ ⟨Nat.le_of_ble_eq_true rfl, Nat.le_of_ble_eq_true rfl⟩ rfl rfl hl.1 (Nat.le_of_ble_eq_true rfl) dX12_soundWord_15 (fun x4 G9 H locs hq hB => ?_)
    obtain ⟨rfl, i_x4⟩ := hq
    refine lv_if_eq (tgt := 24) hx hb dX12_soundWord_18 (by decide) (fun c5 => ?_) (fun c5 => ?_)
    · skip
      have i5_x4 : iv_R 0 0 x4 := (i_x4.cutHi (n := 0) (iv_eq_r c5 q_0).2)
      refine lv_aload_n hx hb dX12_soundWord_24 rfl (lv_at hl 0 rfl) ?_
      refine iv_sldc X (i := 11) rfl dX12_soundWord_25 ?_
      refine iv_cVi X k_good k_mf_X12_is k_im_X12_is k_sel_X12_is k_ml_X12_103 ft_X12 hB a_h0 sh_12 (As := [.ref (D.2 100 11)]) (c_X12_is l D tys base G h0 g_h0 r_h0 a_h0 11 (by decide)) ⟨rfl, rfl⟩ ⟨Nat.le_of_ble_eq_true rfl, Nat.le_of_ble_eq_true rfl⟩ ⟨Nat.le_of_ble_eq_true rfl, Nat.le_of_ble_eq_true rfl⟩ rfl rfl hl.1 (Nat.le_of_ble_eq_true rfl) dX12_soundWord_27 (fun x7 G9 H locs hq hB => ?_)
      obtain ⟨rfl, i_x7⟩ := hq
      refine lv_if_eq (tgt := 36) hx hb dX12_soundWord_30 (by decide) (fun c8 => ?_) (fun c8 => ?_)
      · skip
        have i8_x7 : iv_R 0 0 x7 := (i_x7.cutHi (n := 0) (iv_eq_r c8 q_0).2)
        refine lv_aload_n hx hb dX12_soundWord_36 rfl (lv_at hl 0 rfl) ?_
        refine iv_sldc X (i := 12) rfl dX12_soundWord_37 ?_
        refine iv_cVi X k_good k_mf_X12_is k_im_X12_is k_sel_X12_is k_ml_X12_103 ft_X12 hB a_h0 sh_12 (As := [.ref (D.2 100 12)]) (c_X12_is l D tys base G h0 g_h0 r_h0 a_h0 12 (by decide)) ⟨rfl, rfl⟩ ⟨Nat.le_of_ble_eq_true rfl, Nat.le_of_ble_eq_true rfl⟩ ⟨Nat.le_of_ble_eq_true rfl, Nat.le_of_ble_eq_true rfl⟩ rfl rfl hl.1 (Nat.le_of_ble_eq_true rfl) dX12_soundWord_39 (fun x10 G9 H locs hq hB => ?_)
        obtain ⟨rfl, i_x10⟩ := hq
        refine lv_if_eq (tgt := 50) hx hb dX12_soundWord_42 (by decide) (fun c11 => ?_) (fun c11 => ?_)
        · skip
          have i11_x10 : iv_R 0 0 x10 := (i_x10.cutHi (n := 0) (iv_eq_r c11 q_0).2)
          refine lv_aload_n hx hb dX12_soundWord_50 rfl (lv_at hl 0 rfl) ?_
          refine iv_cVi X k_good k_mf_X12_asked k_im_X12_asked k_sel_X12_asked k_ml_X12_128 ft_X12 hB a_h0 sh_12 (As := []) (c_X12_asked l D tys base G h0 g_h0 r_h0 a_h0) ⟨rfl, rfl⟩ ⟨Nat.le_of_ble_eq_true rfl, Nat.le_of_ble_eq_true rfl⟩ ⟨Nat.le_of_ble_eq_true rfl, Nat.le_of_ble_eq_true rfl⟩ rfl rfl hl.1 (Nat.le_of_ble_eq_true rfl) dX12_soundWord_51 (fun x13 G9 H locs hq hB => ?_)
          obtain ⟨rfl, i_x13⟩ := hq
          exact iv_iret X hr hlocks hB ⟨rfl, (i_x13.wk (by decide))⟩ dX12_soundWord_54
        · skip
          have i13_x10 : iv_R 1 1 x10 := iv_ne_lo c11 i_x10 q_0 (by decide)
          refine lv_bipush (v := 48) hx hb dX12_soundWord_45 (by decide) ?_
          refine lv_goto (tgt := 54) hx hb dX12_soundWord_47 (by decide) ?_
          exact iv_iret X hr hlocks hB ⟨rfl, (q_48.wk (by decide))⟩ dX12_soundWord_54
      · skip
        have i14_x7 : iv_R 1 1 x7 := iv_ne_lo c8 i_x7 q_0 (by decide)
        refine lv_bipush (v := 47) hx hb dX12_soundWord_33 (by decide) ?_
        exact iv_iret X hr hlocks hB ⟨rfl, (q_47.wk (by decide))⟩ dX12_soundWord_35
    · skip
      have i15_x4 : iv_R 1 1 x4 := iv_ne_lo c5 i_x4 q_0 (by decide)
      refine lv_bipush (v := 46) hx hb dX12_soundWord_21 (by decide) ?_
      exact iv_iret X hr hlocks hB ⟨rfl, (q_46.wk (by decide))⟩ dX12_soundWord_23
  · skip
    have i16_x1 : iv_R 1 1 x1 := iv_ne_lo c2 i_x1 q_0 (by decide)
    refine lv_bipush (v := 20) hx hb dX12_soundWord_9 (by decide) ?_
    exact iv_iret X hr hlocks hB ⟨rfl, (q_20.wk (by decide))⟩ dX12_soundWord_11
theorem dX12_word_0 : decode cX12_word 0 = .ok (.aload_n 0, 1) := by decide +kernel
theorem dX12_word_1 : decode cX12_word 1 = .ok (.getfield 141, 3) := by decide +kernel
theorem dX12_word_4 : decode cX12_word 4 = .ok (.ifCond .ne 8, 3) := by decide +kernel
theorem dX12_word_7 : decode cX12_word 7 = .ok (.aload_n 0, 1) := by decide +kernel
theorem dX12_word_8 : decode cX12_word 8 = .ok (.invokevirtual 144, 3) := by decide +kernel
theorem dX12_word_11 : decode cX12_word 11 = .ok (.ireturn, 1) := by decide +kernel
theorem dX12_word_12 : decode cX12_word 12 = .ok (.aload_n 0, 1) := by decide +kernel
theorem dX12_word_13 : decode cX12_word 13 = .ok (.ldc 147, 2) := by decide +kernel
theorem dX12_word_15 : decode cX12_word 15 = .ok (.invokevirtual 103, 3) := by decide +kernel
theorem dX12_word_18 : decode cX12_word 18 = .ok (.ifCond .eq 5, 3) := by decide +kernel
theorem dX12_word_21 : decode cX12_word 21 = .ok (.iconst 3, 1) := by decide +kernel
theorem dX12_word_22 : decode cX12_word 22 = .ok (.ireturn, 1) := by decide +kernel
theorem dX12_word_23 : decode cX12_word 23 = .ok (.aload_n 0, 1) := by decide +kernel
theorem dX12_word_24 : decode cX12_word 24 = .ok (.ldc 149, 2) := by decide +kernel
theorem dX12_word_26 : decode cX12_word 26 = .ok (.invokevirtual 103, 3) := by decide +kernel
theorem dX12_word_29 : decode cX12_word 29 = .ok (.ifCond .eq 5, 3) := by decide +kernel
theorem dX12_word_32 : decode cX12_word 32 = .ok (.iconst 4, 1) := by decide +kernel
theorem dX12_word_33 : decode cX12_word 33 = .ok (.ireturn, 1) := by decide +kernel
theorem dX12_word_34 : decode cX12_word 34 = .ok (.aload_n 0, 1) := by decide +kernel
theorem dX12_word_35 : decode cX12_word 35 = .ok (.ldc 151, 2) := by decide +kernel
theorem dX12_word_37 : decode cX12_word 37 = .ok (.invokevirtual 103, 3) := by decide +kernel
theorem dX12_word_40 : decode cX12_word 40 = .ok (.ifCond .eq 5, 3) := by decide +kernel
theorem dX12_word_43 : decode cX12_word 43 = .ok (.iconst 5, 1) := by decide +kernel
theorem dX12_word_44 : decode cX12_word 44 = .ok (.ireturn, 1) := by decide +kernel
theorem dX12_word_45 : decode cX12_word 45 = .ok (.aload_n 0, 1) := by decide +kernel
theorem dX12_word_46 : decode cX12_word 46 = .ok (.ldc 153, 2) := by decide +kernel
theorem dX12_word_48 : decode cX12_word 48 = .ok (.invokevirtual 103, 3) := by decide +kernel
theorem dX12_word_51 : decode cX12_word 51 = .ok (.ifCond .eq 6, 3) := by decide +kernel
theorem dX12_word_54 : decode cX12_word 54 = .ok (.bipush 6, 2) := by decide +kernel
theorem dX12_word_56 : decode cX12_word 56 = .ok (.ireturn, 1) := by decide +kernel
theorem dX12_word_57 : decode cX12_word 57 = .ok (.aload_n 0, 1) := by decide +kernel
theorem dX12_word_58 : decode cX12_word 58 = .ok (.getfield 141, 3) := by decide +kernel
theorem dX12_word_61 : decode cX12_word 61 = .ok (.iconst 1, 1) := by decide +kernel
theorem dX12_word_62 : decode cX12_word 62 = .ok (.if_icmp .ne 10, 3) := by decide +kernel
theorem dX12_word_65 : decode cX12_word 65 = .ok (.aload_n 0, 1) := by decide +kernel
theorem dX12_word_66 : decode cX12_word 66 = .ok (.invokevirtual 155, 3) := by decide +kernel
theorem dX12_word_69 : decode cX12_word 69 = .ok (.goto 7, 3) := by decide +kernel
theorem dX12_word_72 : decode cX12_word 72 = .ok (.aload_n 0, 1) := by decide +kernel
theorem dX12_word_73 : decode cX12_word 73 = .ok (.invokevirtual 158, 3) := by decide +kernel
theorem dX12_word_76 : decode cX12_word 76 = .ok (.ireturn, 1) := by decide +kernel
set_option maxHeartbeats 4000000 in
set_option maxRecDepth 100000 in
theorem c_X12_word (l : Launch) (D : va_G) (tys : List (ClassId × FieldType)) (base : Nat) (G : iv_G) (h0 : Nat) (g_h0 : Nat → Int32) (r_h0 : Nat → Nat) (a_h0 : G h0 = some (12, g_h0, r_h0)) : Met l yX12_word (Cond.code yX12_word cX12_word 1 (some .int) :: iv_W0) ({ frames := 7, cells := 0, slots := 0, locals := 148 }) (iv_Pc iv_sh D classes tys base G [.ref h0]) (iv_Qi iv_sh D classes tys base (fun v G' => G = G' ∧ iv_R 1 51 v)) 0 0 (iv_A base) := by
  refine iv_head (by decide) (Nat.le_of_ble_eq_true rfl) ?_
  intro p e s m args below meth c ls X hr hlocks hname hB hl
  have X := X
  have hx := X.1.1
  have hb := X.1.2.1
  have hl : lv_has ls 1 [(0, .ref h0)] := hl
  refine lv_aload_n hx hb dX12_word_0 rfl (lv_at hl 0 rfl) ?_
  refine iv_geti X ft_X12 hB a_h0 sh_12 11 (by decide) rfl k_fl_X12_141 dX12_word_1 (fun x1 e_x1 i_x1 => ?_)
  refine lv_if_ne (tgt := 12) hx hb dX12_word_4 (by decide) (fun c2 => ?_) (fun c2 => ?_)
  · skip
    refine lv_aload_n hx hb dX12_word_12 rfl (lv_at hl 0 rfl) ?_
    refine iv_sldc X (i := 5) rfl dX12_word_13 ?_
    refine iv_cVi X k_good k_mf_X12_is k_im_X12_is k_sel_X12_is k_ml_X12_103 ft_X12 hB a_h0 sh_12 (As := [.ref (D.2 100 5)]) (c_X12_is l D tys base G h0 g_h0 r_h0 a_h0 5 (by decide)) ⟨rfl, rfl⟩ ⟨Nat.le_of_ble_eq_true rfl, Nat.le_of_ble_eq_true rfl⟩ ⟨Nat.le_of_ble_eq_true rfl, Nat.le_of_ble_eq_true rfl⟩ rfl rfl hl.1 (Nat.le_of_ble_eq_true rfl) dX12_word_15 (fun x3 G9 H locs hq hB => ?_)
    obtain ⟨rfl, i_x3⟩ := hq
    refine lv_if_eq (tgt := 23) hx hb dX12_word_18 (by decide) (fun c4 => ?_) (fun c4 => ?_)
    · skip
      have i4_x3 : iv_R 0 0 x3 := (i_x3.cutHi (n := 0) (iv_eq_r c4 q_0).2)
      refine lv_aload_n hx hb dX12_word_23 rfl (lv_at hl 0 rfl) ?_
      refine iv_sldc X (i := 6) rfl dX12_word_24 ?_
      refine iv_cVi X k_good k_mf_X12_is k_im_X12_is k_sel_X12_is k_ml_X12_103 ft_X12 hB a_h0 sh_12 (As := [.ref (D.2 100 6)]) (c_X12_is l D tys base G h0 g_h0 r_h0 a_h0 6 (by decide)) ⟨rfl, rfl⟩ ⟨Nat.le_of_ble_eq_true rfl, Nat.le_of_ble_eq_true rfl⟩ ⟨Nat.le_of_ble_eq_true rfl, Nat.le_of_ble_eq_true rfl⟩ rfl rfl hl.1 (Nat.le_of_ble_eq_true rfl) dX12_word_26 (fun x6 G9 H locs hq hB => ?_)
      obtain ⟨rfl, i_x6⟩ := hq
      refine lv_if_eq (tgt := 34) hx hb dX12_word_29 (by decide) (fun c7 => ?_) (fun c7 => ?_)
      · skip
        have i7_x6 : iv_R 0 0 x6 := (i_x6.cutHi (n := 0) (iv_eq_r c7 q_0).2)
        refine lv_aload_n hx hb dX12_word_34 rfl (lv_at hl 0 rfl) ?_
        refine iv_sldc X (i := 7) rfl dX12_word_35 ?_
        refine iv_cVi X k_good k_mf_X12_is k_im_X12_is k_sel_X12_is k_ml_X12_103 ft_X12 hB a_h0 sh_12 (As := [.ref (D.2 100 7)]) (c_X12_is l D tys base G h0 g_h0 r_h0 a_h0 7 (by decide)) ⟨rfl, rfl⟩ ⟨Nat.le_of_ble_eq_true rfl, Nat.le_of_ble_eq_true rfl⟩ ⟨Nat.le_of_ble_eq_true rfl, Nat.le_of_ble_eq_true rfl⟩ rfl rfl hl.1 (Nat.le_of_ble_eq_true rfl) dX12_word_37 (fun x9 G9 H locs hq hB => ?_)
        obtain ⟨rfl, i_x9⟩ := hq
        refine lv_if_eq (tgt := 45) hx hb dX12_word_40 (by decide) (fun c10 => ?_) (fun c10 => ?_)
        · skip
          have i10_x9 : iv_R 0 0 x9 := (i_x9.cutHi (n := 0) (iv_eq_r c10 q_0).2)
          refine lv_aload_n hx hb dX12_word_45 rfl (lv_at hl 0 rfl) ?_
          refine iv_sldc X (i := 8) rfl dX12_word_46 ?_
          refine iv_cVi X k_good k_mf_X12_is k_im_X12_is k_sel_X12_is k_ml_X12_103 ft_X12 hB a_h0 sh_12 (As := [.ref (D.2 100 8)]) (c_X12_is l D tys base G h0 g_h0 r_h0 a_h0 8 (by decide)) ⟨rfl, rfl⟩ ⟨Nat.le_of_ble_eq_true rfl, Nat.le_of_ble_eq_true rfl⟩ ⟨Nat.le_of_ble_eq_true rfl, Nat.le_of_ble_eq_true rfl⟩ rfl rfl hl.1 (Nat.le_of_ble_eq_true rfl) dX12_word_48 (fun x12 G9 H locs hq hB => ?_)
          obtain ⟨rfl, i_x12⟩ := hq
          refine lv_if_eq (tgt := 57) hx hb dX12_word_51 (by decide) (fun c13 => ?_) (fun c13 => ?_)
          · skip
            have i13_x12 : iv_R 0 0 x12 := (i_x12.cutHi (n := 0) (iv_eq_r c13 q_0).2)
            refine lv_aload_n hx hb dX12_word_57 rfl (lv_at hl 0 rfl) ?_
            refine iv_geti0 X ft_X12 hB a_h0 sh_12 11 (by decide) rfl k_fl_X12_141 dX12_word_58 e_x1 ?_
            refine lv_iconst (v := 1) hx hb dX12_word_61 (by decide) ?_
            refine lv_icmp_ne (tgt := 72) hx hb dX12_word_62 (by decide) (fun c15 => ?_) (fun c15 => ?_)
            · skip
              refine lv_aload_n hx hb dX12_word_72 rfl (lv_at hl 0 rfl) ?_
              refine iv_cVi X k_good k_mf_X12_comingWord k_im_X12_comingWord k_sel_X12_comingWord k_ml_X12_158 ft_X12 hB a_h0 sh_12 (As := []) (c_X12_comingWord l D tys base G h0 g_h0 r_h0 a_h0) ⟨rfl, rfl⟩ ⟨Nat.le_of_ble_eq_true rfl, Nat.le_of_ble_eq_true rfl⟩ ⟨Nat.le_of_ble_eq_true rfl, Nat.le_of_ble_eq_true rfl⟩ rfl rfl hl.1 (Nat.le_of_ble_eq_true rfl) dX12_word_73 (fun x16 G9 H locs hq hB => ?_)
              obtain ⟨rfl, i_x16⟩ := hq
              exact iv_iret X hr hlocks hB ⟨rfl, i_x16⟩ dX12_word_76
            · skip
              have i16_x1 : iv_R 1 1 x1 := ((i_x1.cutLo (n := 1) (iv_eq_r c15 q_1).1).cutHi (n := 1) (iv_eq_r c15 q_1).2)
              refine lv_aload_n hx hb dX12_word_65 rfl (lv_at hl 0 rfl) ?_
              refine iv_cVi X k_good k_mf_X12_soundWord k_im_X12_soundWord k_sel_X12_soundWord k_ml_X12_155 ft_X12 hB a_h0 sh_12 (As := []) (c_X12_soundWord l D tys base G h0 g_h0 r_h0 a_h0) ⟨rfl, rfl⟩ ⟨Nat.le_of_ble_eq_true rfl, Nat.le_of_ble_eq_true rfl⟩ ⟨Nat.le_of_ble_eq_true rfl, Nat.le_of_ble_eq_true rfl⟩ rfl rfl hl.1 (Nat.le_of_ble_eq_true rfl) dX12_word_66 (fun x18 G9 H locs hq hB => ?_)
              obtain ⟨rfl, i_x18⟩ := hq
              refine lv_goto (tgt := 76) hx hb dX12_word_69 (by decide) ?_
              exact iv_iret X hr hlocks hB ⟨rfl, (i_x18.wk (by decide))⟩ dX12_word_76
          · skip
            have i18_x12 : iv_R 1 1 x12 := iv_ne_lo c13 i_x12 q_0 (by decide)
            refine lv_bipush (v := 6) hx hb dX12_word_54 (by decide) ?_
            exact iv_iret X hr hlocks hB ⟨rfl, (q_6.wk (by decide))⟩ dX12_word_56
        · skip
          have i19_x9 : iv_R 1 1 x9 := iv_ne_lo c10 i_x9 q_0 (by decide)
          refine lv_iconst (v := 5) hx hb dX12_word_43 (by decide) ?_
          exact iv_iret X hr hlocks hB ⟨rfl, (q_5.wk (by decide))⟩ dX12_word_44
      · skip
        have i20_x6 : iv_R 1 1 x6 := iv_ne_lo c7 i_x6 q_0 (by decide)
        refine lv_iconst (v := 4) hx hb dX12_word_32 (by decide) ?_
        exact iv_iret X hr hlocks hB ⟨rfl, (q_4.wk (by decide))⟩ dX12_word_33
    · skip
      have i21_x3 : iv_R 1 1 x3 := iv_ne_lo c4 i_x3 q_0 (by decide)
      refine lv_iconst (v := 3) hx hb dX12_word_21 (by decide) ?_
      exact iv_iret X hr hlocks hB ⟨rfl, (q_3.wk (by decide))⟩ dX12_word_22
  · skip
    have i22_x1 : iv_R 0 0 x1 := ((i_x1.cutLo (n := 0) (iv_eq_r c2 q_0).1).cutHi (n := 0) (iv_eq_r c2 q_0).2)
    refine lv_aload_n hx hb dX12_word_7 rfl (lv_at hl 0 rfl) ?_
    refine iv_cVi X k_good k_mf_X12_ringWord k_im_X12_ringWord k_sel_X12_ringWord k_ml_X12_144 ft_X12 hB a_h0 sh_12 (As := []) (c_X12_ringWord l D tys base G h0 g_h0 r_h0 a_h0) ⟨rfl, rfl⟩ ⟨Nat.le_of_ble_eq_true rfl, Nat.le_of_ble_eq_true rfl⟩ ⟨Nat.le_of_ble_eq_true rfl, Nat.le_of_ble_eq_true rfl⟩ rfl rfl hl.1 (Nat.le_of_ble_eq_true rfl) dX12_word_8 (fun x24 G9 H locs hq hB => ?_)
    obtain ⟨rfl, i_x24⟩ := hq
    exact iv_iret X hr hlocks hB ⟨rfl, (i_x24.wk (by decide))⟩ dX12_word_11
theorem dX12_next0_0 : decode cX12_next0 0 = .ok (.aload_n 0, 1) := by decide +kernel
theorem dX12_next0_1 : decode cX12_next0 1 = .ok (.aload_n 0, 1) := by decide +kernel
theorem dX12_next0_2 : decode cX12_next0 2 = .ok (.getfield 85, 3) := by decide +kernel
theorem dX12_next0_5 : decode cX12_next0 5 = .ok (.invokevirtual 161, 3) := by decide +kernel
theorem dX12_next0_8 : decode cX12_next0 8 = .ok (.bipush 32, 2) := by decide +kernel
theorem dX12_next0_10 : decode cX12_next0 10 = .ok (.if_icmp .eq 16, 3) := by decide +kernel
theorem dX12_next0_13 : decode cX12_next0 13 = .ok (.aload_n 0, 1) := by decide +kernel
theorem dX12_next0_14 : decode cX12_next0 14 = .ok (.aload_n 0, 1) := by decide +kernel
theorem dX12_next0_15 : decode cX12_next0 15 = .ok (.getfield 85, 3) := by decide +kernel
theorem dX12_next0_18 : decode cX12_next0 18 = .ok (.invokevirtual 161, 3) := by decide +kernel
theorem dX12_next0_21 : decode cX12_next0 21 = .ok (.bipush 10, 2) := by decide +kernel
theorem dX12_next0_23 : decode cX12_next0 23 = .ok (.if_icmp .ne 16, 3) := by decide +kernel
theorem dX12_next0_26 : decode cX12_next0 26 = .ok (.aload_n 0, 1) := by decide +kernel
theorem dX12_next0_27 : decode cX12_next0 27 = .ok (.dup, 1) := by decide +kernel
theorem dX12_next0_28 : decode cX12_next0 28 = .ok (.getfield 85, 3) := by decide +kernel
theorem dX12_next0_31 : decode cX12_next0 31 = .ok (.iconst 1, 1) := by decide +kernel
theorem dX12_next0_32 : decode cX12_next0 32 = .ok (.iadd, 1) := by decide +kernel
theorem dX12_next0_33 : decode cX12_next0 33 = .ok (.putfield 85, 3) := by decide +kernel
theorem dX12_next0_36 : decode cX12_next0 36 = .ok (.goto (-36), 3) := by decide +kernel
theorem dX12_next0_39 : decode cX12_next0 39 = .ok (.aload_n 0, 1) := by decide +kernel
theorem dX12_next0_40 : decode cX12_next0 40 = .ok (.aload_n 0, 1) := by decide +kernel
theorem dX12_next0_41 : decode cX12_next0 41 = .ok (.getfield 85, 3) := by decide +kernel
theorem dX12_next0_44 : decode cX12_next0 44 = .ok (.putfield 88, 3) := by decide +kernel
theorem dX12_next0_47 : decode cX12_next0 47 = .ok (.aload_n 0, 1) := by decide +kernel
theorem dX12_next0_48 : decode cX12_next0 48 = .ok (.aload_n 0, 1) := by decide +kernel
theorem dX12_next0_49 : decode cX12_next0 49 = .ok (.getfield 85, 3) := by decide +kernel
theorem dX12_next0_52 : decode cX12_next0 52 = .ok (.invokevirtual 161, 3) := by decide +kernel
theorem dX12_next0_55 : decode cX12_next0 55 = .ok (.istore_n 1, 1) := by decide +kernel
theorem dX12_next0_56 : decode cX12_next0 56 = .ok (.iload_n 1, 1) := by decide +kernel
theorem dX12_next0_57 : decode cX12_next0 57 = .ok (.iconst (-1), 1) := by decide +kernel
theorem dX12_next0_58 : decode cX12_next0 58 = .ok (.if_icmp .ne 11, 3) := by decide +kernel
theorem dX12_next0_61 : decode cX12_next0 61 = .ok (.aload_n 0, 1) := by decide +kernel
theorem dX12_next0_62 : decode cX12_next0 62 = .ok (.iconst 0, 1) := by decide +kernel
theorem dX12_next0_63 : decode cX12_next0 63 = .ok (.putfield 165, 3) := by decide +kernel
theorem dX12_next0_66 : decode cX12_next0 66 = .ok (.goto 240, 3) := by decide +kernel
theorem dX12_next0_69 : decode cX12_next0 69 = .ok (.iload_n 1, 1) := by decide +kernel
theorem dX12_next0_70 : decode cX12_next0 70 = .ok (.invokestatic 168, 3) := by decide +kernel
theorem dX12_next0_73 : decode cX12_next0 73 = .ok (.ifCond .eq 41, 3) := by decide +kernel
theorem dX12_next0_76 : decode cX12_next0 76 = .ok (.aload_n 0, 1) := by decide +kernel
theorem dX12_next0_77 : decode cX12_next0 77 = .ok (.aload_n 0, 1) := by decide +kernel
theorem dX12_next0_78 : decode cX12_next0 78 = .ok (.getfield 85, 3) := by decide +kernel
theorem dX12_next0_81 : decode cX12_next0 81 = .ok (.invokevirtual 161, 3) := by decide +kernel
theorem dX12_next0_84 : decode cX12_next0 84 = .ok (.invokestatic 168, 3) := by decide +kernel
theorem dX12_next0_87 : decode cX12_next0 87 = .ok (.ifCond .eq 16, 3) := by decide +kernel
theorem dX12_next0_90 : decode cX12_next0 90 = .ok (.aload_n 0, 1) := by decide +kernel
theorem dX12_next0_91 : decode cX12_next0 91 = .ok (.dup, 1) := by decide +kernel
theorem dX12_next0_92 : decode cX12_next0 92 = .ok (.getfield 85, 3) := by decide +kernel
theorem dX12_next0_95 : decode cX12_next0 95 = .ok (.iconst 1, 1) := by decide +kernel
theorem dX12_next0_96 : decode cX12_next0 96 = .ok (.iadd, 1) := by decide +kernel
theorem dX12_next0_97 : decode cX12_next0 97 = .ok (.putfield 85, 3) := by decide +kernel
theorem dX12_next0_100 : decode cX12_next0 100 = .ok (.goto (-24), 3) := by decide +kernel
theorem dX12_next0_103 : decode cX12_next0 103 = .ok (.aload_n 0, 1) := by decide +kernel
theorem dX12_next0_104 : decode cX12_next0 104 = .ok (.aload_n 0, 1) := by decide +kernel
theorem dX12_next0_105 : decode cX12_next0 105 = .ok (.invokevirtual 171, 3) := by decide +kernel
theorem dX12_next0_108 : decode cX12_next0 108 = .ok (.putfield 165, 3) := by decide +kernel
theorem dX12_next0_111 : decode cX12_next0 111 = .ok (.goto 195, 3) := by decide +kernel
theorem dX12_next0_114 : decode cX12_next0 114 = .ok (.iload_n 1, 1) := by decide +kernel
theorem dX12_next0_115 : decode cX12_next0 115 = .ok (.invokestatic 174, 3) := by decide +kernel
theorem dX12_next0_118 : decode cX12_next0 118 = .ok (.ifCond .eq 96, 3) := by decide +kernel
theorem dX12_next0_121 : decode cX12_next0 121 = .ok (.aload_n 0, 1) := by decide +kernel
theorem dX12_next0_122 : decode cX12_next0 122 = .ok (.iconst 0, 1) := by decide +kernel
theorem dX12_next0_123 : decode cX12_next0 123 = .ok (.putfield 177, 3) := by decide +kernel
theorem dX12_next0_126 : decode cX12_next0 126 = .ok (.aload_n 0, 1) := by decide +kernel
theorem dX12_next0_127 : decode cX12_next0 127 = .ok (.aload_n 0, 1) := by decide +kernel
theorem dX12_next0_128 : decode cX12_next0 128 = .ok (.getfield 85, 3) := by decide +kernel
theorem dX12_next0_131 : decode cX12_next0 131 = .ok (.invokevirtual 161, 3) := by decide +kernel
theorem dX12_next0_134 : decode cX12_next0 134 = .ok (.invokestatic 174, 3) := by decide +kernel
theorem dX12_next0_137 : decode cX12_next0 137 = .ok (.ifCond .eq 52, 3) := by decide +kernel
theorem dX12_next0_140 : decode cX12_next0 140 = .ok (.aload_n 0, 1) := by decide +kernel
theorem dX12_next0_141 : decode cX12_next0 141 = .ok (.getfield 85, 3) := by decide +kernel
theorem dX12_next0_144 : decode cX12_next0 144 = .ok (.aload_n 0, 1) := by decide +kernel
theorem dX12_next0_145 : decode cX12_next0 145 = .ok (.getfield 88, 3) := by decide +kernel
theorem dX12_next0_148 : decode cX12_next0 148 = .ok (.iconst 4, 1) := by decide +kernel
theorem dX12_next0_149 : decode cX12_next0 149 = .ok (.iadd, 1) := by decide +kernel
theorem dX12_next0_150 : decode cX12_next0 150 = .ok (.if_icmp .ge 26, 3) := by decide +kernel
theorem dX12_next0_153 : decode cX12_next0 153 = .ok (.aload_n 0, 1) := by decide +kernel
theorem dX12_next0_154 : decode cX12_next0 154 = .ok (.bipush 10, 2) := by decide +kernel
theorem dX12_next0_156 : decode cX12_next0 156 = .ok (.aload_n 0, 1) := by decide +kernel
theorem dX12_next0_157 : decode cX12_next0 157 = .ok (.getfield 177, 3) := by decide +kernel
theorem dX12_next0_160 : decode cX12_next0 160 = .ok (.imul, 1) := by decide +kernel
theorem dX12_next0_161 : decode cX12_next0 161 = .ok (.aload_n 0, 1) := by decide +kernel
theorem dX12_next0_162 : decode cX12_next0 162 = .ok (.aload_n 0, 1) := by decide +kernel
theorem dX12_next0_163 : decode cX12_next0 163 = .ok (.getfield 85, 3) := by decide +kernel
theorem dX12_next0_166 : decode cX12_next0 166 = .ok (.invokevirtual 161, 3) := by decide +kernel
theorem dX12_next0_169 : decode cX12_next0 169 = .ok (.iadd, 1) := by decide +kernel
theorem dX12_next0_170 : decode cX12_next0 170 = .ok (.bipush 48, 2) := by decide +kernel
theorem dX12_next0_172 : decode cX12_next0 172 = .ok (.isub, 1) := by decide +kernel
theorem dX12_next0_173 : decode cX12_next0 173 = .ok (.putfield 177, 3) := by decide +kernel
theorem dX12_next0_176 : decode cX12_next0 176 = .ok (.aload_n 0, 1) := by decide +kernel
theorem dX12_next0_177 : decode cX12_next0 177 = .ok (.dup, 1) := by decide +kernel
theorem dX12_next0_178 : decode cX12_next0 178 = .ok (.getfield 85, 3) := by decide +kernel
theorem dX12_next0_181 : decode cX12_next0 181 = .ok (.iconst 1, 1) := by decide +kernel
theorem dX12_next0_182 : decode cX12_next0 182 = .ok (.iadd, 1) := by decide +kernel
theorem dX12_next0_183 : decode cX12_next0 183 = .ok (.putfield 85, 3) := by decide +kernel
theorem dX12_next0_186 : decode cX12_next0 186 = .ok (.goto (-60), 3) := by decide +kernel
theorem dX12_next0_189 : decode cX12_next0 189 = .ok (.aload_n 0, 1) := by decide +kernel
theorem dX12_next0_190 : decode cX12_next0 190 = .ok (.aload_n 0, 1) := by decide +kernel
theorem dX12_next0_191 : decode cX12_next0 191 = .ok (.getfield 85, 3) := by decide +kernel
theorem dX12_next0_194 : decode cX12_next0 194 = .ok (.aload_n 0, 1) := by decide +kernel
theorem dX12_next0_195 : decode cX12_next0 195 = .ok (.getfield 88, 3) := by decide +kernel
theorem dX12_next0_198 : decode cX12_next0 198 = .ok (.isub, 1) := by decide +kernel
theorem dX12_next0_199 : decode cX12_next0 199 = .ok (.iconst 5, 1) := by decide +kernel
theorem dX12_next0_200 : decode cX12_next0 200 = .ok (.if_icmp .ge 7, 3) := by decide +kernel
theorem dX12_next0_203 : decode cX12_next0 203 = .ok (.iconst 2, 1) := by decide +kernel
theorem dX12_next0_204 : decode cX12_next0 204 = .ok (.goto 4, 3) := by decide +kernel
theorem dX12_next0_207 : decode cX12_next0 207 = .ok (.iconst 1, 1) := by decide +kernel
theorem dX12_next0_208 : decode cX12_next0 208 = .ok (.putfield 165, 3) := by decide +kernel
theorem dX12_next0_211 : decode cX12_next0 211 = .ok (.goto 95, 3) := by decide +kernel
theorem dX12_next0_214 : decode cX12_next0 214 = .ok (.aload_n 0, 1) := by decide +kernel
theorem dX12_next0_215 : decode cX12_next0 215 = .ok (.dup, 1) := by decide +kernel
theorem dX12_next0_216 : decode cX12_next0 216 = .ok (.getfield 85, 3) := by decide +kernel
theorem dX12_next0_219 : decode cX12_next0 219 = .ok (.iconst 1, 1) := by decide +kernel
theorem dX12_next0_220 : decode cX12_next0 220 = .ok (.iadd, 1) := by decide +kernel
theorem dX12_next0_221 : decode cX12_next0 221 = .ok (.putfield 85, 3) := by decide +kernel
theorem dX12_next0_224 : decode cX12_next0 224 = .ok (.iload_n 1, 1) := by decide +kernel
theorem dX12_next0_225 : decode cX12_next0 225 = .ok (.bipush 59, 2) := by decide +kernel
theorem dX12_next0_227 : decode cX12_next0 227 = .ok (.if_icmp .eq 57, 3) := by decide +kernel
theorem dX12_next0_230 : decode cX12_next0 230 = .ok (.iload_n 1, 1) := by decide +kernel
theorem dX12_next0_231 : decode cX12_next0 231 = .ok (.bipush 43, 2) := by decide +kernel
theorem dX12_next0_233 : decode cX12_next0 233 = .ok (.if_icmp .eq 51, 3) := by decide +kernel
theorem dX12_next0_236 : decode cX12_next0 236 = .ok (.iload_n 1, 1) := by decide +kernel
theorem dX12_next0_237 : decode cX12_next0 237 = .ok (.bipush 45, 2) := by decide +kernel
theorem dX12_next0_239 : decode cX12_next0 239 = .ok (.if_icmp .eq 45, 3) := by decide +kernel
theorem dX12_next0_242 : decode cX12_next0 242 = .ok (.iload_n 1, 1) := by decide +kernel
theorem dX12_next0_243 : decode cX12_next0 243 = .ok (.bipush 42, 2) := by decide +kernel
theorem dX12_next0_245 : decode cX12_next0 245 = .ok (.if_icmp .eq 39, 3) := by decide +kernel
theorem dX12_next0_248 : decode cX12_next0 248 = .ok (.iload_n 1, 1) := by decide +kernel
theorem dX12_next0_249 : decode cX12_next0 249 = .ok (.bipush 47, 2) := by decide +kernel
theorem dX12_next0_251 : decode cX12_next0 251 = .ok (.if_icmp .eq 33, 3) := by decide +kernel
theorem dX12_next0_254 : decode cX12_next0 254 = .ok (.iload_n 1, 1) := by decide +kernel
theorem dX12_next0_255 : decode cX12_next0 255 = .ok (.bipush 40, 2) := by decide +kernel
theorem dX12_next0_257 : decode cX12_next0 257 = .ok (.if_icmp .eq 27, 3) := by decide +kernel
theorem dX12_next0_260 : decode cX12_next0 260 = .ok (.iload_n 1, 1) := by decide +kernel
theorem dX12_next0_261 : decode cX12_next0 261 = .ok (.bipush 41, 2) := by decide +kernel
theorem dX12_next0_263 : decode cX12_next0 263 = .ok (.if_icmp .eq 21, 3) := by decide +kernel
theorem dX12_next0_266 : decode cX12_next0 266 = .ok (.iload_n 1, 1) := by decide +kernel
theorem dX12_next0_267 : decode cX12_next0 267 = .ok (.bipush 60, 2) := by decide +kernel
theorem dX12_next0_269 : decode cX12_next0 269 = .ok (.if_icmp .eq 15, 3) := by decide +kernel
theorem dX12_next0_272 : decode cX12_next0 272 = .ok (.iload_n 1, 1) := by decide +kernel
theorem dX12_next0_273 : decode cX12_next0 273 = .ok (.bipush 61, 2) := by decide +kernel
theorem dX12_next0_275 : decode cX12_next0 275 = .ok (.if_icmp .eq 9, 3) := by decide +kernel
theorem dX12_next0_278 : decode cX12_next0 278 = .ok (.iload_n 1, 1) := by decide +kernel
theorem dX12_next0_279 : decode cX12_next0 279 = .ok (.bipush 62, 2) := by decide +kernel
theorem dX12_next0_281 : decode cX12_next0 281 = .ok (.if_icmp .ne 7, 3) := by decide +kernel
theorem dX12_next0_284 : decode cX12_next0 284 = .ok (.iconst 1, 1) := by decide +kernel
theorem dX12_next0_285 : decode cX12_next0 285 = .ok (.goto 4, 3) := by decide +kernel
theorem dX12_next0_288 : decode cX12_next0 288 = .ok (.iconst 0, 1) := by decide +kernel
theorem dX12_next0_289 : decode cX12_next0 289 = .ok (.istore_n 2, 1) := by decide +kernel
theorem dX12_next0_290 : decode cX12_next0 290 = .ok (.aload_n 0, 1) := by decide +kernel
theorem dX12_next0_291 : decode cX12_next0 291 = .ok (.iload_n 2, 1) := by decide +kernel
theorem dX12_next0_292 : decode cX12_next0 292 = .ok (.ifCond .eq 10, 3) := by decide +kernel
theorem dX12_next0_295 : decode cX12_next0 295 = .ok (.bipush 100, 2) := by decide +kernel
theorem dX12_next0_297 : decode cX12_next0 297 = .ok (.iload_n 1, 1) := by decide +kernel
theorem dX12_next0_298 : decode cX12_next0 298 = .ok (.iadd, 1) := by decide +kernel
theorem dX12_next0_299 : decode cX12_next0 299 = .ok (.goto 4, 3) := by decide +kernel
theorem dX12_next0_302 : decode cX12_next0 302 = .ok (.iconst 1, 1) := by decide +kernel
theorem dX12_next0_303 : decode cX12_next0 303 = .ok (.putfield 165, 3) := by decide +kernel
theorem dX12_next0_306 : decode cX12_next0 306 = .ok (.return_, 1) := by decide +kernel
set_option maxHeartbeats 4000000 in
set_option maxRecDepth 100000 in
theorem c_X12_next0 (l : Launch) (D : va_G) (tys : List (ClassId × FieldType)) (base : Nat) (G : iv_G) (h0 : Nat) (g_h0 : Nat → Int32) (r_h0 : Nat → Nat) (a_h0 : G h0 = some (12, g_h0, r_h0)) : Met l yX12_next0 (Cond.code yX12_next0 cX12_next0 3 none :: iv_W0) ({ frames := 8, cells := 0, slots := 0, locals := 168 }) (iv_Pc iv_sh D classes tys base G [.ref h0]) (iv_Qv iv_sh D classes tys base (fun G' => iv_Md [12] G G')) 0 0 (iv_A base) := by
  refine iv_head (by decide) (Nat.le_of_ble_eq_true rfl) ?_
  intro p e s m args below meth c ls X hr hlocks hname hB hl
  have X := X
  have hx := X.1.1
  have hb := X.1.2.1
  have hM : iv_Md [12] G G := iv_Md.rf
  have hl : lv_has ls 3 [(0, .ref h0)] := hl
  have L_0 : ∀ (n_0 : Nat) (G3 : iv_G) (hM : iv_Md [12] G G3) (H : Heap) (locs : List Loc) (hB : iv_B iv_sh D classes tys base G3 s.heap H locs) (g1 : Nat → Int32) (r2 : Nat → Nat) (a_h0 : G3 h0 = some (12, g1, r2)) (hn_0 : (401 - (g1 16).toInt).toNat < n_0) (ls : Array Slot) (hl : lv_has ls 3 [(0, .ref h0)]), W p l e ({ frames := 8, cells := 0, slots := 0, locals := 168 } : Room) s m args below meth c H locs 0 0 (MQ below (iv_Qv iv_sh D classes tys base (fun G' => iv_Md [12] G G')) args s 0 0 (iv_A base)) (F0 m 0 ls []) := by
    intro n_0
    induction n_0 with
    | zero => intro G3 hM H locs hB g1 r2 a_h0 hn_0 ls hl; exact absurd hn_0 (Nat.not_lt_zero _)
    | succ n_0 ih_0 =>
      intro G3 hM H locs hB g1 r2 a_h0 hn_0 ls hl
      refine lv_aload_n hx hb dX12_next0_0 rfl (lv_at hl 0 rfl) ?_
      refine lv_aload_n hx hb dX12_next0_1 rfl (lv_at hl 0 rfl) ?_
      refine iv_geti X ft_X12 hB a_h0 sh_12 16 (by decide) rfl k_fl_X12_85 dX12_next0_2 (fun x4 e_x4 i_x4 => ?_)
      refine iv_cVi X k_good k_mf_X12_see k_im_X12_see k_sel_X12_see k_ml_X12_161 ft_X12 hB a_h0 sh_12 (As := [.int x4]) (c_X12_see l D tys base G3 h0 g1 r2 a_h0 x4 i_x4) ⟨rfl, rfl⟩ ⟨Nat.le_of_ble_eq_true rfl, Nat.le_of_ble_eq_true rfl⟩ ⟨Nat.le_of_ble_eq_true rfl, Nat.le_of_ble_eq_true rfl⟩ rfl rfl hl.1 (Nat.le_of_ble_eq_true rfl) dX12_next0_5 (fun x5 G9 H locs hq hB => ?_)
      obtain ⟨rfl, i_x5, np6⟩ := hq
      refine lv_bipush (v := 32) hx hb dX12_next0_8 (by decide) ?_
      refine lv_icmp_eq (tgt := 26) hx hb dX12_next0_10 (by decide) (fun c7 => ?_) (fun c7 => ?_)
      · skip
        have i7_x5 : iv_R 32 32 x5 := ((i_x5.cutLo (n := 32) (iv_eq_r c7 q_32).1).cutHi (n := 32) (iv_eq_r c7 q_32).2)
        have i8_x4 : iv_R 0 399 x4 := (i_x4.cutHi (n := 399) (np6 (Int.le_trans (by decide) i7_x5.1)).2)
        refine lv_aload_n hx hb dX12_next0_26 rfl (lv_at hl 0 rfl) ?_
        refine lv_dup hx hb dX12_next0_27 rfl ?_
        refine iv_geti0 X ft_X12 hB a_h0 sh_12 16 (by decide) rfl k_fl_X12_85 dX12_next0_28 e_x4 ?_
        refine lv_iconst (v := 1) hx hb dX12_next0_31 (by decide) ?_
        refine iv_iadd hx hb i8_x4 q_1 (lo := 1) (hi := 400) (by decide) dX12_next0_32 (fun x10 e_x10 i_x10 => ?_)
        refine iv_puti X ft_X12 hB a_h0 sh_12 16 (by decide) rfl rfl k_fl_X12_85 rfl (i_x10.wk (by decide)) rfl rfl dX12_next0_33 (fun H locs hB => ?_)
        have hm := iv_Md.put (x := x10) a_h0 (j := 16) (by decide) (by decide)
        have h9 := iv_up_eq (G := G3) (a := h0) (k := (12, upd g1 16 x10, r2))
        generalize iv_up G3 h0 _ = G11 at hB hm h9
        have hM := hM.stp hm (by decide)
        generalize hgn_g12 : upd g1 _ _ = g12 at h9
        have a_h0 := h9
        have e9_g12 : x10 = g12 16 := by rw [← hgn_g12]; simp [upd]
        refine lv_goto (tgt := 0) hx hb dX12_next0_36 (by decide) ?_
        exact ih_0 G11 hM _ _ hB g12 r2 a_h0 (by have w1 := congrArg Int32.toInt e9_g12; have w2 := congrArg Int32.toInt e_x4; have w3 := i8_x4.2; have w4 : x10.toInt = x4.toInt + 1 := e_x10; omega) _ (lv_sub hl [0] rfl)
      · skip
        refine lv_aload_n hx hb dX12_next0_13 rfl (lv_at hl 0 rfl) ?_
        refine lv_aload_n hx hb dX12_next0_14 rfl (lv_at hl 0 rfl) ?_
        refine iv_geti0 X ft_X12 hB a_h0 sh_12 16 (by decide) rfl k_fl_X12_85 dX12_next0_15 e_x4 ?_
        refine iv_cVi X k_good k_mf_X12_see k_im_X12_see k_sel_X12_see k_ml_X12_161 ft_X12 hB a_h0 sh_12 (As := [.int x4]) (c_X12_see l D tys base G3 h0 g1 r2 a_h0 x4 i_x4) ⟨rfl, rfl⟩ ⟨Nat.le_of_ble_eq_true rfl, Nat.le_of_ble_eq_true rfl⟩ ⟨Nat.le_of_ble_eq_true rfl, Nat.le_of_ble_eq_true rfl⟩ rfl rfl hl.1 (Nat.le_of_ble_eq_true rfl) dX12_next0_18 (fun x13 G9 H locs hq hB => ?_)
        obtain ⟨rfl, i_x13, np14⟩ := hq
        refine lv_bipush (v := 10) hx hb dX12_next0_21 (by decide) ?_
        refine lv_icmp_ne (tgt := 39) hx hb dX12_next0_23 (by decide) (fun c15 => ?_) (fun c15 => ?_)
        · skip
          refine lv_aload_n hx hb dX12_next0_39 rfl (lv_at hl 0 rfl) ?_
          refine lv_aload_n hx hb dX12_next0_40 rfl (lv_at hl 0 rfl) ?_
          refine iv_geti0 X ft_X12 hB a_h0 sh_12 16 (by decide) rfl k_fl_X12_85 dX12_next0_41 e_x4 ?_
          refine iv_puti X ft_X12 hB a_h0 sh_12 18 (by decide) rfl rfl k_fl_X12_88 rfl i_x4 rfl rfl dX12_next0_44 (fun H locs hB => ?_)
          have hm := iv_Md.put (x := x4) a_h0 (j := 18) (by decide) (by decide)
          have h9 := iv_up_eq (G := G3) (a := h0) (k := (12, upd g1 18 x4, r2))
          generalize iv_up G3 h0 _ = G16 at hB hm h9
          have hM := hM.stp hm (by decide)
          generalize hgn_g17 : upd g1 _ _ = g17 at h9
          have a_h0 := h9
          have e18 : x4 = g17 16 := by rw [← hgn_g17]; exact e_x4
          have e9_g17 : x4 = g17 18 := by rw [← hgn_g17]; simp [upd]
          refine lv_aload_n hx hb dX12_next0_47 rfl (lv_at hl 0 rfl) ?_
          refine lv_aload_n hx hb dX12_next0_48 rfl (lv_at hl 0 rfl) ?_
          refine iv_geti0 X ft_X12 hB a_h0 sh_12 16 (by decide) rfl k_fl_X12_85 dX12_next0_49 e18 ?_
          refine iv_cVi X k_good k_mf_X12_see k_im_X12_see k_sel_X12_see k_ml_X12_161 ft_X12 hB a_h0 sh_12 (As := [.int x4]) (c_X12_see l D tys base G16 h0 g17 r2 a_h0 x4 i_x4) ⟨rfl, rfl⟩ ⟨Nat.le_of_ble_eq_true rfl, Nat.le_of_ble_eq_true rfl⟩ ⟨Nat.le_of_ble_eq_true rfl, Nat.le_of_ble_eq_true rfl⟩ rfl rfl hl.1 (Nat.le_of_ble_eq_true rfl) dX12_next0_52 (fun x19 G9 H locs hq hB => ?_)
          obtain ⟨rfl, i_x19, np20⟩ := hq
          refine lv_istore_n (lv' := [(1, .int x19), (0, .ref h0)]) hx hb dX12_next0_55 rfl hl (by decide) rfl (fun ls hl => ?_)
          refine lv_iload_n hx hb dX12_next0_56 rfl (lv_at hl 0 rfl) ?_
          refine lv_iconst (v := (-1)) hx hb dX12_next0_57 (by decide) ?_
          refine lv_icmp_ne (tgt := 69) hx hb dX12_next0_58 (by decide) (fun c21 => ?_) (fun c21 => ?_)
          · skip
            have i21_x19 : iv_R 0 255 x19 := iv_ne_lo c21 i_x19 q_n1 (by decide)
            have i22_x4 : iv_R 0 399 x4 := (i_x4.cutHi (n := 399) (np20 (Int.le_trans (by decide) i21_x19.1)).2)
            refine lv_iload_n hx hb dX12_next0_69 rfl (lv_at hl 0 rfl) ?_
            refine iv_cSi X k_good k_mf_X12_isLetter k_st_X12_isLetter k_ml_X12_168 hB (As := [.int x19]) (c_X12_isLetter l D tys base G16 x19 (i21_x19.wk (by decide))) ⟨rfl, rfl⟩ ⟨Nat.le_of_ble_eq_true rfl, Nat.le_of_ble_eq_true rfl⟩ ⟨Nat.le_of_ble_eq_true rfl, Nat.le_of_ble_eq_true rfl⟩ rfl rfl hl.1 (Nat.le_of_ble_eq_true rfl) dX12_next0_70 (fun x24 G9 H locs hq hB => ?_)
            obtain ⟨rfl, i_x24, hp25⟩ := hq
            refine lv_if_eq (tgt := 114) hx hb dX12_next0_73 (by decide) (fun c26 => ?_) (fun c26 => ?_)
            · skip
              have i26_x24 : iv_R 0 0 x24 := (i_x24.cutHi (n := 0) (iv_eq_r c26 q_0).2)
              refine lv_iload_n hx hb dX12_next0_114 rfl (lv_at hl 0 rfl) ?_
              refine iv_cSi X k_good k_mf_X12_isDigit k_st_X12_isDigit k_ml_X12_174 hB (As := [.int x19]) (c_X12_isDigit l D tys base G16 x19 (i21_x19.wk (by decide))) ⟨rfl, rfl⟩ ⟨Nat.le_of_ble_eq_true rfl, Nat.le_of_ble_eq_true rfl⟩ ⟨Nat.le_of_ble_eq_true rfl, Nat.le_of_ble_eq_true rfl⟩ rfl rfl hl.1 (Nat.le_of_ble_eq_true rfl) dX12_next0_115 (fun x28 G9 H locs hq hB => ?_)
              obtain ⟨rfl, i_x28, hp29⟩ := hq
              refine lv_if_eq (tgt := 214) hx hb dX12_next0_118 (by decide) (fun c30 => ?_) (fun c30 => ?_)
              · skip
                have i30_x28 : iv_R 0 0 x28 := (i_x28.cutHi (n := 0) (iv_eq_r c30 q_0).2)
                refine lv_aload_n hx hb dX12_next0_214 rfl (lv_at hl 1 rfl) ?_
                refine lv_dup hx hb dX12_next0_215 rfl ?_
                refine iv_geti0 X ft_X12 hB a_h0 sh_12 16 (by decide) rfl k_fl_X12_85 dX12_next0_216 e18 ?_
                refine lv_iconst (v := 1) hx hb dX12_next0_219 (by decide) ?_
                refine iv_iadd hx hb i22_x4 q_1 (lo := 1) (hi := 400) (by decide) dX12_next0_220 (fun x32 e_x32 i_x32 => ?_)
                refine iv_puti X ft_X12 hB a_h0 sh_12 16 (by decide) rfl rfl k_fl_X12_85 rfl (i_x32.wk (by decide)) rfl rfl dX12_next0_221 (fun H locs hB => ?_)
                have hm := iv_Md.put (x := x32) a_h0 (j := 16) (by decide) (by decide)
                have h9 := iv_up_eq (G := G16) (a := h0) (k := (12, upd g17 16 x32, r2))
                generalize iv_up G16 h0 _ = G33 at hB hm h9
                have hM := hM.stp hm (by decide)
                generalize hgn_g34 : upd g17 _ _ = g34 at h9
                have a_h0 := h9
                have e35 : x4 = g34 18 := by rw [← hgn_g34]; exact e9_g17
                have e9_g34 : x32 = g34 16 := by rw [← hgn_g34]; simp [upd]
                refine lv_iload_n hx hb dX12_next0_224 rfl (lv_at hl 0 rfl) ?_
                refine lv_bipush (v := 59) hx hb dX12_next0_225 (by decide) ?_
                refine lv_icmp_eq (tgt := 284) hx hb dX12_next0_227 (by decide) (fun c36 => ?_) (fun c36 => ?_)
                · skip
                  have i36_x19 : iv_R 59 59 x19 := ((i21_x19.cutLo (n := 59) (iv_eq_r c36 q_59).1).cutHi (n := 59) (iv_eq_r c36 q_59).2)
                  refine lv_iconst (v := 1) hx hb dX12_next0_284 (by decide) ?_
                  refine lv_goto (tgt := 289) hx hb dX12_next0_285 (by decide) ?_
                  refine lv_istore_n (lv' := [(2, .int 1), (1, .int x19), (0, .ref h0)]) hx hb dX12_next0_289 rfl hl (by decide) rfl (fun ls hl => ?_)
                  refine lv_aload_n hx hb dX12_next0_290 rfl (lv_at hl 2 rfl) ?_
                  refine lv_iload_n hx hb dX12_next0_291 rfl (lv_at hl 0 rfl) ?_
                  refine lv_if_eq (tgt := 302) hx hb dX12_next0_292 (by decide) (fun c38 => ?_) (fun c38 => ?_)
                  · skip
                    exact (q_1.cutHi (n := 0) (iv_eq_r c38 q_0).2).no (by decide)
                  · skip
                    refine lv_bipush (v := 100) hx hb dX12_next0_295 (by decide) ?_
                    refine lv_iload_n hx hb dX12_next0_297 rfl (lv_at hl 1 rfl) ?_
                    refine iv_iadd hx hb q_100 i36_x19 (lo := 159) (hi := 159) (by decide) dX12_next0_298 (fun x39 e_x39 i_x39 => ?_)
                    refine lv_goto (tgt := 303) hx hb dX12_next0_299 (by decide) ?_
                    refine iv_puti X ft_X12 hB a_h0 sh_12 17 (by decide) rfl rfl k_fl_X12_165 rfl (i_x39.wk (by decide)) rfl rfl dX12_next0_303 (fun H locs hB => ?_)
                    have hm := iv_Md.put (x := x39) a_h0 (j := 17) (by decide) (by decide)
                    have h9 := iv_up_eq (G := G33) (a := h0) (k := (12, upd g34 17 x39, r2))
                    generalize iv_up G33 h0 _ = G40 at hB hm h9
                    have hM := hM.stp hm (by decide)
                    generalize hgn_g41 : upd g34 _ _ = g41 at h9
                    have a_h0 := h9
                    have e42 : x4 = g41 18 := by rw [← hgn_g41]; exact e35
                    have e43 : x32 = g41 16 := by rw [← hgn_g41]; exact e9_g34
                    have e9_g41 : x39 = g41 17 := by rw [← hgn_g41]; simp [upd]
                    exact iv_vret X hr hlocks hB hM dX12_next0_306
                · skip
                  refine lv_iload_n hx hb dX12_next0_230 rfl (lv_at hl 0 rfl) ?_
                  refine lv_bipush (v := 43) hx hb dX12_next0_231 (by decide) ?_
                  refine lv_icmp_eq (tgt := 284) hx hb dX12_next0_233 (by decide) (fun c44 => ?_) (fun c44 => ?_)
                  · skip
                    have i44_x19 : iv_R 43 43 x19 := ((i21_x19.cutLo (n := 43) (iv_eq_r c44 q_43).1).cutHi (n := 43) (iv_eq_r c44 q_43).2)
                    refine lv_iconst (v := 1) hx hb dX12_next0_284 (by decide) ?_
                    refine lv_goto (tgt := 289) hx hb dX12_next0_285 (by decide) ?_
                    refine lv_istore_n (lv' := [(2, .int 1), (1, .int x19), (0, .ref h0)]) hx hb dX12_next0_289 rfl hl (by decide) rfl (fun ls hl => ?_)
                    refine lv_aload_n hx hb dX12_next0_290 rfl (lv_at hl 2 rfl) ?_
                    refine lv_iload_n hx hb dX12_next0_291 rfl (lv_at hl 0 rfl) ?_
                    refine lv_if_eq (tgt := 302) hx hb dX12_next0_292 (by decide) (fun c46 => ?_) (fun c46 => ?_)
                    · skip
                      exact (q_1.cutHi (n := 0) (iv_eq_r c46 q_0).2).no (by decide)
                    · skip
                      refine lv_bipush (v := 100) hx hb dX12_next0_295 (by decide) ?_
                      refine lv_iload_n hx hb dX12_next0_297 rfl (lv_at hl 1 rfl) ?_
                      refine iv_iadd hx hb q_100 i44_x19 (lo := 143) (hi := 143) (by decide) dX12_next0_298 (fun x47 e_x47 i_x47 => ?_)
                      refine lv_goto (tgt := 303) hx hb dX12_next0_299 (by decide) ?_
                      refine iv_puti X ft_X12 hB a_h0 sh_12 17 (by decide) rfl rfl k_fl_X12_165 rfl (i_x47.wk (by decide)) rfl rfl dX12_next0_303 (fun H locs hB => ?_)
                      have hm := iv_Md.put (x := x47) a_h0 (j := 17) (by decide) (by decide)
                      have h9 := iv_up_eq (G := G33) (a := h0) (k := (12, upd g34 17 x47, r2))
                      generalize iv_up G33 h0 _ = G48 at hB hm h9
                      have hM := hM.stp hm (by decide)
                      generalize hgn_g49 : upd g34 _ _ = g49 at h9
                      have a_h0 := h9
                      have e50 : x4 = g49 18 := by rw [← hgn_g49]; exact e35
                      have e51 : x32 = g49 16 := by rw [← hgn_g49]; exact e9_g34
                      have e9_g49 : x47 = g49 17 := by rw [← hgn_g49]; simp [upd]
                      exact iv_vret X hr hlocks hB hM dX12_next0_306
                  · skip
                    refine lv_iload_n hx hb dX12_next0_236 rfl (lv_at hl 0 rfl) ?_
                    refine lv_bipush (v := 45) hx hb dX12_next0_237 (by decide) ?_
                    refine lv_icmp_eq (tgt := 284) hx hb dX12_next0_239 (by decide) (fun c52 => ?_) (fun c52 => ?_)
                    · skip
                      have i52_x19 : iv_R 45 45 x19 := ((i21_x19.cutLo (n := 45) (iv_eq_r c52 q_45).1).cutHi (n := 45) (iv_eq_r c52 q_45).2)
                      refine lv_iconst (v := 1) hx hb dX12_next0_284 (by decide) ?_
                      refine lv_goto (tgt := 289) hx hb dX12_next0_285 (by decide) ?_
                      refine lv_istore_n (lv' := [(2, .int 1), (1, .int x19), (0, .ref h0)]) hx hb dX12_next0_289 rfl hl (by decide) rfl (fun ls hl => ?_)
                      refine lv_aload_n hx hb dX12_next0_290 rfl (lv_at hl 2 rfl) ?_
                      refine lv_iload_n hx hb dX12_next0_291 rfl (lv_at hl 0 rfl) ?_
                      refine lv_if_eq (tgt := 302) hx hb dX12_next0_292 (by decide) (fun c54 => ?_) (fun c54 => ?_)
                      · skip
                        exact (q_1.cutHi (n := 0) (iv_eq_r c54 q_0).2).no (by decide)
                      · skip
                        refine lv_bipush (v := 100) hx hb dX12_next0_295 (by decide) ?_
                        refine lv_iload_n hx hb dX12_next0_297 rfl (lv_at hl 1 rfl) ?_
                        refine iv_iadd hx hb q_100 i52_x19 (lo := 145) (hi := 145) (by decide) dX12_next0_298 (fun x55 e_x55 i_x55 => ?_)
                        refine lv_goto (tgt := 303) hx hb dX12_next0_299 (by decide) ?_
                        refine iv_puti X ft_X12 hB a_h0 sh_12 17 (by decide) rfl rfl k_fl_X12_165 rfl (i_x55.wk (by decide)) rfl rfl dX12_next0_303 (fun H locs hB => ?_)
                        have hm := iv_Md.put (x := x55) a_h0 (j := 17) (by decide) (by decide)
                        have h9 := iv_up_eq (G := G33) (a := h0) (k := (12, upd g34 17 x55, r2))
                        generalize iv_up G33 h0 _ = G56 at hB hm h9
                        have hM := hM.stp hm (by decide)
                        generalize hgn_g57 : upd g34 _ _ = g57 at h9
                        have a_h0 := h9
                        have e58 : x4 = g57 18 := by rw [← hgn_g57]; exact e35
                        have e59 : x32 = g57 16 := by rw [← hgn_g57]; exact e9_g34
                        have e9_g57 : x55 = g57 17 := by rw [← hgn_g57]; simp [upd]
                        exact iv_vret X hr hlocks hB hM dX12_next0_306
                    · skip
                      refine lv_iload_n hx hb dX12_next0_242 rfl (lv_at hl 0 rfl) ?_
                      refine lv_bipush (v := 42) hx hb dX12_next0_243 (by decide) ?_
                      refine lv_icmp_eq (tgt := 284) hx hb dX12_next0_245 (by decide) (fun c60 => ?_) (fun c60 => ?_)
                      · skip
                        have i60_x19 : iv_R 42 42 x19 := ((i21_x19.cutLo (n := 42) (iv_eq_r c60 q_42).1).cutHi (n := 42) (iv_eq_r c60 q_42).2)
                        refine lv_iconst (v := 1) hx hb dX12_next0_284 (by decide) ?_
                        refine lv_goto (tgt := 289) hx hb dX12_next0_285 (by decide) ?_
                        refine lv_istore_n (lv' := [(2, .int 1), (1, .int x19), (0, .ref h0)]) hx hb dX12_next0_289 rfl hl (by decide) rfl (fun ls hl => ?_)
                        refine lv_aload_n hx hb dX12_next0_290 rfl (lv_at hl 2 rfl) ?_
                        refine lv_iload_n hx hb dX12_next0_291 rfl (lv_at hl 0 rfl) ?_
                        refine lv_if_eq (tgt := 302) hx hb dX12_next0_292 (by decide) (fun c62 => ?_) (fun c62 => ?_)
                        · skip
                          exact (q_1.cutHi (n := 0) (iv_eq_r c62 q_0).2).no (by decide)
                        · skip
                          refine lv_bipush (v := 100) hx hb dX12_next0_295 (by decide) ?_
                          refine lv_iload_n hx hb dX12_next0_297 rfl (lv_at hl 1 rfl) ?_
                          refine iv_iadd hx hb q_100 i60_x19 (lo := 142) (hi := 142) (by decide) dX12_next0_298 (fun x63 e_x63 i_x63 => ?_)
                          refine lv_goto (tgt := 303) hx hb dX12_next0_299 (by decide) ?_
                          refine iv_puti X ft_X12 hB a_h0 sh_12 17 (by decide) rfl rfl k_fl_X12_165 rfl (i_x63.wk (by decide)) rfl rfl dX12_next0_303 (fun H locs hB => ?_)
                          have hm := iv_Md.put (x := x63) a_h0 (j := 17) (by decide) (by decide)
                          have h9 := iv_up_eq (G := G33) (a := h0) (k := (12, upd g34 17 x63, r2))
                          generalize iv_up G33 h0 _ = G64 at hB hm h9
                          have hM := hM.stp hm (by decide)
                          generalize hgn_g65 : upd g34 _ _ = g65 at h9
                          have a_h0 := h9
                          have e66 : x4 = g65 18 := by rw [← hgn_g65]; exact e35
                          have e67 : x32 = g65 16 := by rw [← hgn_g65]; exact e9_g34
                          have e9_g65 : x63 = g65 17 := by rw [← hgn_g65]; simp [upd]
                          exact iv_vret X hr hlocks hB hM dX12_next0_306
                      · skip
                        refine lv_iload_n hx hb dX12_next0_248 rfl (lv_at hl 0 rfl) ?_
                        refine lv_bipush (v := 47) hx hb dX12_next0_249 (by decide) ?_
                        refine lv_icmp_eq (tgt := 284) hx hb dX12_next0_251 (by decide) (fun c68 => ?_) (fun c68 => ?_)
                        · skip
                          have i68_x19 : iv_R 47 47 x19 := ((i21_x19.cutLo (n := 47) (iv_eq_r c68 q_47).1).cutHi (n := 47) (iv_eq_r c68 q_47).2)
                          refine lv_iconst (v := 1) hx hb dX12_next0_284 (by decide) ?_
                          refine lv_goto (tgt := 289) hx hb dX12_next0_285 (by decide) ?_
                          refine lv_istore_n (lv' := [(2, .int 1), (1, .int x19), (0, .ref h0)]) hx hb dX12_next0_289 rfl hl (by decide) rfl (fun ls hl => ?_)
                          refine lv_aload_n hx hb dX12_next0_290 rfl (lv_at hl 2 rfl) ?_
                          refine lv_iload_n hx hb dX12_next0_291 rfl (lv_at hl 0 rfl) ?_
                          refine lv_if_eq (tgt := 302) hx hb dX12_next0_292 (by decide) (fun c70 => ?_) (fun c70 => ?_)
                          · skip
                            exact (q_1.cutHi (n := 0) (iv_eq_r c70 q_0).2).no (by decide)
                          · skip
                            refine lv_bipush (v := 100) hx hb dX12_next0_295 (by decide) ?_
                            refine lv_iload_n hx hb dX12_next0_297 rfl (lv_at hl 1 rfl) ?_
                            refine iv_iadd hx hb q_100 i68_x19 (lo := 147) (hi := 147) (by decide) dX12_next0_298 (fun x71 e_x71 i_x71 => ?_)
                            refine lv_goto (tgt := 303) hx hb dX12_next0_299 (by decide) ?_
                            refine iv_puti X ft_X12 hB a_h0 sh_12 17 (by decide) rfl rfl k_fl_X12_165 rfl (i_x71.wk (by decide)) rfl rfl dX12_next0_303 (fun H locs hB => ?_)
                            have hm := iv_Md.put (x := x71) a_h0 (j := 17) (by decide) (by decide)
                            have h9 := iv_up_eq (G := G33) (a := h0) (k := (12, upd g34 17 x71, r2))
                            generalize iv_up G33 h0 _ = G72 at hB hm h9
                            have hM := hM.stp hm (by decide)
                            generalize hgn_g73 : upd g34 _ _ = g73 at h9
                            have a_h0 := h9
                            have e74 : x4 = g73 18 := by rw [← hgn_g73]; exact e35
                            have e75 : x32 = g73 16 := by rw [← hgn_g73]; exact e9_g34
                            have e9_g73 : x71 = g73 17 := by rw [← hgn_g73]; simp [upd]
                            exact iv_vret X hr hlocks hB hM dX12_next0_306
                        · skip
                          refine lv_iload_n hx hb dX12_next0_254 rfl (lv_at hl 0 rfl) ?_
                          refine lv_bipush (v := 40) hx hb dX12_next0_255 (by decide) ?_
                          refine lv_icmp_eq (tgt := 284) hx hb dX12_next0_257 (by decide) (fun c76 => ?_) (fun c76 => ?_)
                          · skip
                            have i76_x19 : iv_R 40 40 x19 := ((i21_x19.cutLo (n := 40) (iv_eq_r c76 q_40).1).cutHi (n := 40) (iv_eq_r c76 q_40).2)
                            refine lv_iconst (v := 1) hx hb dX12_next0_284 (by decide) ?_
                            refine lv_goto (tgt := 289) hx hb dX12_next0_285 (by decide) ?_
                            refine lv_istore_n (lv' := [(2, .int 1), (1, .int x19), (0, .ref h0)]) hx hb dX12_next0_289 rfl hl (by decide) rfl (fun ls hl => ?_)
                            refine lv_aload_n hx hb dX12_next0_290 rfl (lv_at hl 2 rfl) ?_
                            refine lv_iload_n hx hb dX12_next0_291 rfl (lv_at hl 0 rfl) ?_
                            refine lv_if_eq (tgt := 302) hx hb dX12_next0_292 (by decide) (fun c78 => ?_) (fun c78 => ?_)
                            · skip
                              exact (q_1.cutHi (n := 0) (iv_eq_r c78 q_0).2).no (by decide)
                            · skip
                              refine lv_bipush (v := 100) hx hb dX12_next0_295 (by decide) ?_
                              refine lv_iload_n hx hb dX12_next0_297 rfl (lv_at hl 1 rfl) ?_
                              refine iv_iadd hx hb q_100 i76_x19 (lo := 140) (hi := 140) (by decide) dX12_next0_298 (fun x79 e_x79 i_x79 => ?_)
                              refine lv_goto (tgt := 303) hx hb dX12_next0_299 (by decide) ?_
                              refine iv_puti X ft_X12 hB a_h0 sh_12 17 (by decide) rfl rfl k_fl_X12_165 rfl (i_x79.wk (by decide)) rfl rfl dX12_next0_303 (fun H locs hB => ?_)
                              have hm := iv_Md.put (x := x79) a_h0 (j := 17) (by decide) (by decide)
                              have h9 := iv_up_eq (G := G33) (a := h0) (k := (12, upd g34 17 x79, r2))
                              generalize iv_up G33 h0 _ = G80 at hB hm h9
                              have hM := hM.stp hm (by decide)
                              generalize hgn_g81 : upd g34 _ _ = g81 at h9
                              have a_h0 := h9
                              have e82 : x4 = g81 18 := by rw [← hgn_g81]; exact e35
                              have e83 : x32 = g81 16 := by rw [← hgn_g81]; exact e9_g34
                              have e9_g81 : x79 = g81 17 := by rw [← hgn_g81]; simp [upd]
                              exact iv_vret X hr hlocks hB hM dX12_next0_306
                          · skip
                            refine lv_iload_n hx hb dX12_next0_260 rfl (lv_at hl 0 rfl) ?_
                            refine lv_bipush (v := 41) hx hb dX12_next0_261 (by decide) ?_
                            refine lv_icmp_eq (tgt := 284) hx hb dX12_next0_263 (by decide) (fun c84 => ?_) (fun c84 => ?_)
                            · skip
                              have i84_x19 : iv_R 41 41 x19 := ((i21_x19.cutLo (n := 41) (iv_eq_r c84 q_41).1).cutHi (n := 41) (iv_eq_r c84 q_41).2)
                              refine lv_iconst (v := 1) hx hb dX12_next0_284 (by decide) ?_
                              refine lv_goto (tgt := 289) hx hb dX12_next0_285 (by decide) ?_
                              refine lv_istore_n (lv' := [(2, .int 1), (1, .int x19), (0, .ref h0)]) hx hb dX12_next0_289 rfl hl (by decide) rfl (fun ls hl => ?_)
                              refine lv_aload_n hx hb dX12_next0_290 rfl (lv_at hl 2 rfl) ?_
                              refine lv_iload_n hx hb dX12_next0_291 rfl (lv_at hl 0 rfl) ?_
                              refine lv_if_eq (tgt := 302) hx hb dX12_next0_292 (by decide) (fun c86 => ?_) (fun c86 => ?_)
                              · skip
                                exact (q_1.cutHi (n := 0) (iv_eq_r c86 q_0).2).no (by decide)
                              · skip
                                refine lv_bipush (v := 100) hx hb dX12_next0_295 (by decide) ?_
                                refine lv_iload_n hx hb dX12_next0_297 rfl (lv_at hl 1 rfl) ?_
                                refine iv_iadd hx hb q_100 i84_x19 (lo := 141) (hi := 141) (by decide) dX12_next0_298 (fun x87 e_x87 i_x87 => ?_)
                                refine lv_goto (tgt := 303) hx hb dX12_next0_299 (by decide) ?_
                                refine iv_puti X ft_X12 hB a_h0 sh_12 17 (by decide) rfl rfl k_fl_X12_165 rfl (i_x87.wk (by decide)) rfl rfl dX12_next0_303 (fun H locs hB => ?_)
                                have hm := iv_Md.put (x := x87) a_h0 (j := 17) (by decide) (by decide)
                                have h9 := iv_up_eq (G := G33) (a := h0) (k := (12, upd g34 17 x87, r2))
                                generalize iv_up G33 h0 _ = G88 at hB hm h9
                                have hM := hM.stp hm (by decide)
                                generalize hgn_g89 : upd g34 _ _ = g89 at h9
                                have a_h0 := h9
                                have e90 : x4 = g89 18 := by rw [← hgn_g89]; exact e35
                                have e91 : x32 = g89 16 := by rw [← hgn_g89]; exact e9_g34
                                have e9_g89 : x87 = g89 17 := by rw [← hgn_g89]; simp [upd]
                                exact iv_vret X hr hlocks hB hM dX12_next0_306
                            · skip
                              refine lv_iload_n hx hb dX12_next0_266 rfl (lv_at hl 0 rfl) ?_
                              refine lv_bipush (v := 60) hx hb dX12_next0_267 (by decide) ?_
                              refine lv_icmp_eq (tgt := 284) hx hb dX12_next0_269 (by decide) (fun c92 => ?_) (fun c92 => ?_)
                              · skip
                                have i92_x19 : iv_R 60 60 x19 := ((i21_x19.cutLo (n := 60) (iv_eq_r c92 q_60).1).cutHi (n := 60) (iv_eq_r c92 q_60).2)
                                refine lv_iconst (v := 1) hx hb dX12_next0_284 (by decide) ?_
                                refine lv_goto (tgt := 289) hx hb dX12_next0_285 (by decide) ?_
                                refine lv_istore_n (lv' := [(2, .int 1), (1, .int x19), (0, .ref h0)]) hx hb dX12_next0_289 rfl hl (by decide) rfl (fun ls hl => ?_)
                                refine lv_aload_n hx hb dX12_next0_290 rfl (lv_at hl 2 rfl) ?_
                                refine lv_iload_n hx hb dX12_next0_291 rfl (lv_at hl 0 rfl) ?_
                                refine lv_if_eq (tgt := 302) hx hb dX12_next0_292 (by decide) (fun c94 => ?_) (fun c94 => ?_)
                                · skip
                                  exact (q_1.cutHi (n := 0) (iv_eq_r c94 q_0).2).no (by decide)
                                · skip
                                  refine lv_bipush (v := 100) hx hb dX12_next0_295 (by decide) ?_
                                  refine lv_iload_n hx hb dX12_next0_297 rfl (lv_at hl 1 rfl) ?_
                                  refine iv_iadd hx hb q_100 i92_x19 (lo := 160) (hi := 160) (by decide) dX12_next0_298 (fun x95 e_x95 i_x95 => ?_)
                                  refine lv_goto (tgt := 303) hx hb dX12_next0_299 (by decide) ?_
                                  refine iv_puti X ft_X12 hB a_h0 sh_12 17 (by decide) rfl rfl k_fl_X12_165 rfl (i_x95.wk (by decide)) rfl rfl dX12_next0_303 (fun H locs hB => ?_)
                                  have hm := iv_Md.put (x := x95) a_h0 (j := 17) (by decide) (by decide)
                                  have h9 := iv_up_eq (G := G33) (a := h0) (k := (12, upd g34 17 x95, r2))
                                  generalize iv_up G33 h0 _ = G96 at hB hm h9
                                  have hM := hM.stp hm (by decide)
                                  generalize hgn_g97 : upd g34 _ _ = g97 at h9
                                  have a_h0 := h9
                                  have e98 : x4 = g97 18 := by rw [← hgn_g97]; exact e35
                                  have e99 : x32 = g97 16 := by rw [← hgn_g97]; exact e9_g34
                                  have e9_g97 : x95 = g97 17 := by rw [← hgn_g97]; simp [upd]
                                  exact iv_vret X hr hlocks hB hM dX12_next0_306
                              · skip
                                refine lv_iload_n hx hb dX12_next0_272 rfl (lv_at hl 0 rfl) ?_
                                refine lv_bipush (v := 61) hx hb dX12_next0_273 (by decide) ?_
                                refine lv_icmp_eq (tgt := 284) hx hb dX12_next0_275 (by decide) (fun c100 => ?_) (fun c100 => ?_)
                                · skip
                                  have i100_x19 : iv_R 61 61 x19 := ((i21_x19.cutLo (n := 61) (iv_eq_r c100 q_61).1).cutHi (n := 61) (iv_eq_r c100 q_61).2)
                                  refine lv_iconst (v := 1) hx hb dX12_next0_284 (by decide) ?_
                                  refine lv_goto (tgt := 289) hx hb dX12_next0_285 (by decide) ?_
                                  refine lv_istore_n (lv' := [(2, .int 1), (1, .int x19), (0, .ref h0)]) hx hb dX12_next0_289 rfl hl (by decide) rfl (fun ls hl => ?_)
                                  refine lv_aload_n hx hb dX12_next0_290 rfl (lv_at hl 2 rfl) ?_
                                  refine lv_iload_n hx hb dX12_next0_291 rfl (lv_at hl 0 rfl) ?_
                                  refine lv_if_eq (tgt := 302) hx hb dX12_next0_292 (by decide) (fun c102 => ?_) (fun c102 => ?_)
                                  · skip
                                    exact (q_1.cutHi (n := 0) (iv_eq_r c102 q_0).2).no (by decide)
                                  · skip
                                    refine lv_bipush (v := 100) hx hb dX12_next0_295 (by decide) ?_
                                    refine lv_iload_n hx hb dX12_next0_297 rfl (lv_at hl 1 rfl) ?_
                                    refine iv_iadd hx hb q_100 i100_x19 (lo := 161) (hi := 161) (by decide) dX12_next0_298 (fun x103 e_x103 i_x103 => ?_)
                                    refine lv_goto (tgt := 303) hx hb dX12_next0_299 (by decide) ?_
                                    refine iv_puti X ft_X12 hB a_h0 sh_12 17 (by decide) rfl rfl k_fl_X12_165 rfl (i_x103.wk (by decide)) rfl rfl dX12_next0_303 (fun H locs hB => ?_)
                                    have hm := iv_Md.put (x := x103) a_h0 (j := 17) (by decide) (by decide)
                                    have h9 := iv_up_eq (G := G33) (a := h0) (k := (12, upd g34 17 x103, r2))
                                    generalize iv_up G33 h0 _ = G104 at hB hm h9
                                    have hM := hM.stp hm (by decide)
                                    generalize hgn_g105 : upd g34 _ _ = g105 at h9
                                    have a_h0 := h9
                                    have e106 : x4 = g105 18 := by rw [← hgn_g105]; exact e35
                                    have e107 : x32 = g105 16 := by rw [← hgn_g105]; exact e9_g34
                                    have e9_g105 : x103 = g105 17 := by rw [← hgn_g105]; simp [upd]
                                    exact iv_vret X hr hlocks hB hM dX12_next0_306
                                · skip
                                  refine lv_iload_n hx hb dX12_next0_278 rfl (lv_at hl 0 rfl) ?_
                                  refine lv_bipush (v := 62) hx hb dX12_next0_279 (by decide) ?_
                                  refine lv_icmp_ne (tgt := 288) hx hb dX12_next0_281 (by decide) (fun c108 => ?_) (fun c108 => ?_)
                                  · skip
                                    refine lv_iconst (v := 0) hx hb dX12_next0_288 (by decide) ?_
                                    refine lv_istore_n (lv' := [(2, .int 0), (1, .int x19), (0, .ref h0)]) hx hb dX12_next0_289 rfl hl (by decide) rfl (fun ls hl => ?_)
                                    refine lv_aload_n hx hb dX12_next0_290 rfl (lv_at hl 2 rfl) ?_
                                    refine lv_iload_n hx hb dX12_next0_291 rfl (lv_at hl 0 rfl) ?_
                                    refine lv_if_eq (tgt := 302) hx hb dX12_next0_292 (by decide) (fun c109 => ?_) (fun c109 => ?_)
                                    · skip
                                      refine lv_iconst (v := 1) hx hb dX12_next0_302 (by decide) ?_
                                      refine iv_puti X ft_X12 hB a_h0 sh_12 17 (by decide) rfl rfl k_fl_X12_165 rfl (q_1.wk (by decide)) rfl rfl dX12_next0_303 (fun H locs hB => ?_)
                                      have hm := iv_Md.put (x := 1) a_h0 (j := 17) (by decide) (by decide)
                                      have h9 := iv_up_eq (G := G33) (a := h0) (k := (12, upd g34 17 1, r2))
                                      generalize iv_up G33 h0 _ = G110 at hB hm h9
                                      have hM := hM.stp hm (by decide)
                                      generalize hgn_g111 : upd g34 _ _ = g111 at h9
                                      have a_h0 := h9
                                      have e112 : x4 = g111 18 := by rw [← hgn_g111]; exact e35
                                      have e113 : x32 = g111 16 := by rw [← hgn_g111]; exact e9_g34
                                      have e9_g111 : 1 = g111 17 := by rw [← hgn_g111]; simp [upd]
                                      exact iv_vret X hr hlocks hB hM dX12_next0_306
                                    · skip
                                      exact absurd rfl c109
                                  · skip
                                    have i113_x19 : iv_R 62 62 x19 := ((i21_x19.cutLo (n := 62) (iv_eq_r c108 q_62).1).cutHi (n := 62) (iv_eq_r c108 q_62).2)
                                    refine lv_iconst (v := 1) hx hb dX12_next0_284 (by decide) ?_
                                    refine lv_goto (tgt := 289) hx hb dX12_next0_285 (by decide) ?_
                                    refine lv_istore_n (lv' := [(2, .int 1), (1, .int x19), (0, .ref h0)]) hx hb dX12_next0_289 rfl hl (by decide) rfl (fun ls hl => ?_)
                                    refine lv_aload_n hx hb dX12_next0_290 rfl (lv_at hl 2 rfl) ?_
                                    refine lv_iload_n hx hb dX12_next0_291 rfl (lv_at hl 0 rfl) ?_
                                    refine lv_if_eq (tgt := 302) hx hb dX12_next0_292 (by decide) (fun c115 => ?_) (fun c115 => ?_)
                                    · skip
                                      exact (q_1.cutHi (n := 0) (iv_eq_r c115 q_0).2).no (by decide)
                                    · skip
                                      refine lv_bipush (v := 100) hx hb dX12_next0_295 (by decide) ?_
                                      refine lv_iload_n hx hb dX12_next0_297 rfl (lv_at hl 1 rfl) ?_
                                      refine iv_iadd hx hb q_100 i113_x19 (lo := 162) (hi := 162) (by decide) dX12_next0_298 (fun x116 e_x116 i_x116 => ?_)
                                      refine lv_goto (tgt := 303) hx hb dX12_next0_299 (by decide) ?_
                                      refine iv_puti X ft_X12 hB a_h0 sh_12 17 (by decide) rfl rfl k_fl_X12_165 rfl (i_x116.wk (by decide)) rfl rfl dX12_next0_303 (fun H locs hB => ?_)
                                      have hm := iv_Md.put (x := x116) a_h0 (j := 17) (by decide) (by decide)
                                      have h9 := iv_up_eq (G := G33) (a := h0) (k := (12, upd g34 17 x116, r2))
                                      generalize iv_up G33 h0 _ = G117 at hB hm h9
                                      have hM := hM.stp hm (by decide)
                                      generalize hgn_g118 : upd g34 _ _ = g118 at h9
                                      have a_h0 := h9
                                      have e119 : x4 = g118 18 := by rw [← hgn_g118]; exact e35
                                      have e120 : x32 = g118 16 := by rw [← hgn_g118]; exact e9_g34
                                      have e9_g118 : x116 = g118 17 := by rw [← hgn_g118]; simp [upd]
                                      exact iv_vret X hr hlocks hB hM dX12_next0_306
              · skip
                have i120_x28 : iv_R 1 1 x28 := iv_ne_lo c30 i_x28 q_0 (by decide)
                have i121_x19 : iv_R 48 57 x19 := ((i21_x19.cutLo (n := 48) (hp29 c30).1).cutHi (n := 57) (hp29 c30).2)
                refine lv_aload_n hx hb dX12_next0_121 rfl (lv_at hl 1 rfl) ?_
                refine lv_iconst (v := 0) hx hb dX12_next0_122 (by decide) ?_
                refine iv_puti X ft_X12 hB a_h0 sh_12 19 (by decide) rfl rfl k_fl_X12_177 rfl (q_0.wk (by decide)) rfl rfl dX12_next0_123 (fun H locs hB => ?_)
                have hm := iv_Md.put (x := 0) a_h0 (j := 19) (by decide) (by decide)
                have h9 := iv_up_eq (G := G16) (a := h0) (k := (12, upd g17 19 0, r2))
                generalize iv_up G16 h0 _ = G123 at hB hm h9
                have hM := hM.stp hm (by decide)
                generalize hgn_g124 : upd g17 _ _ = g124 at h9
                have a_h0 := h9
                have e125 : x4 = g124 16 := by rw [← hgn_g124]; exact e18
                have e126 : x4 = g124 18 := by rw [← hgn_g124]; exact e9_g17
                have e9_g124 : 0 = g124 19 := by rw [← hgn_g124]; simp [upd]
                have L_126 : ∀ (n_126 : Nat) (G129 : iv_G) (hM : iv_Md [12] G G129) (H : Heap) (locs : List Loc) (hB : iv_B iv_sh D classes tys base G129 s.heap H locs) (g127 : Nat → Int32) (r128 : Nat → Nat) (a_h0 : G129 h0 = some (12, g127, r128)) (hn_126 : (401 - (g127 16).toInt).toNat < n_126) (ls : Array Slot) (hl : lv_has ls 3 [(0, .ref h0)]), W p l e ({ frames := 8, cells := 0, slots := 0, locals := 168 } : Room) s m args below meth c H locs 0 0 (MQ below (iv_Qv iv_sh D classes tys base (fun G' => iv_Md [12] G G')) args s 0 0 (iv_A base)) (F0 m 126 ls []) := by
                  intro n_126
                  induction n_126 with
                  | zero => intro G129 hM H locs hB g127 r128 a_h0 hn_126 ls hl; exact absurd hn_126 (Nat.not_lt_zero _)
                  | succ n_126 ih_126 =>
                    intro G129 hM H locs hB g127 r128 a_h0 hn_126 ls hl
                    refine lv_aload_n hx hb dX12_next0_126 rfl (lv_at hl 0 rfl) ?_
                    refine lv_aload_n hx hb dX12_next0_127 rfl (lv_at hl 0 rfl) ?_
                    refine iv_geti X ft_X12 hB a_h0 sh_12 16 (by decide) rfl k_fl_X12_85 dX12_next0_128 (fun x130 e_x130 i_x130 => ?_)
                    refine iv_cVi X k_good k_mf_X12_see k_im_X12_see k_sel_X12_see k_ml_X12_161 ft_X12 hB a_h0 sh_12 (As := [.int x130]) (c_X12_see l D tys base G129 h0 g127 r128 a_h0 x130 i_x130) ⟨rfl, rfl⟩ ⟨Nat.le_of_ble_eq_true rfl, Nat.le_of_ble_eq_true rfl⟩ ⟨Nat.le_of_ble_eq_true rfl, Nat.le_of_ble_eq_true rfl⟩ rfl rfl hl.1 (Nat.le_of_ble_eq_true rfl) dX12_next0_131 (fun x131 G9 H locs hq hB => ?_)
                    obtain ⟨rfl, i_x131, np132⟩ := hq
                    refine iv_cSi X k_good k_mf_X12_isDigit k_st_X12_isDigit k_ml_X12_174 hB (As := [.int x131]) (c_X12_isDigit l D tys base G129 x131 i_x131) ⟨rfl, rfl⟩ ⟨Nat.le_of_ble_eq_true rfl, Nat.le_of_ble_eq_true rfl⟩ ⟨Nat.le_of_ble_eq_true rfl, Nat.le_of_ble_eq_true rfl⟩ rfl rfl hl.1 (Nat.le_of_ble_eq_true rfl) dX12_next0_134 (fun x133 G9 H locs hq hB => ?_)
                    obtain ⟨rfl, i_x133, hp134⟩ := hq
                    refine lv_if_eq (tgt := 189) hx hb dX12_next0_137 (by decide) (fun c135 => ?_) (fun c135 => ?_)
                    · skip
                      have i135_x133 : iv_R 0 0 x133 := (i_x133.cutHi (n := 0) (iv_eq_r c135 q_0).2)
                      refine lv_aload_n hx hb dX12_next0_189 rfl (lv_at hl 0 rfl) ?_
                      refine lv_aload_n hx hb dX12_next0_190 rfl (lv_at hl 0 rfl) ?_
                      refine iv_geti0 X ft_X12 hB a_h0 sh_12 16 (by decide) rfl k_fl_X12_85 dX12_next0_191 e_x130 ?_
                      refine lv_aload_n hx hb dX12_next0_194 rfl (lv_at hl 0 rfl) ?_
                      refine iv_geti X ft_X12 hB a_h0 sh_12 18 (by decide) rfl k_fl_X12_88 dX12_next0_195 (fun x137 e_x137 i_x137 => ?_)
                      refine iv_isub hx hb i_x130 i_x137 (lo := (-400)) (hi := 400) (by decide) dX12_next0_198 (fun x138 e_x138 i_x138 => ?_)
                      refine lv_iconst (v := 5) hx hb dX12_next0_199 (by decide) ?_
                      refine lv_icmp_ge (tgt := 207) hx hb dX12_next0_200 (by decide) (fun c139 => ?_) (fun c139 => ?_)
                      · skip
                        have i139_x138 : iv_R 5 400 x138 := (i_x138.cutLo (n := 5) (iv_le_l c139 q_5))
                        refine lv_iconst (v := 1) hx hb dX12_next0_207 (by decide) ?_
                        refine iv_puti X ft_X12 hB a_h0 sh_12 17 (by decide) rfl rfl k_fl_X12_165 rfl (q_1.wk (by decide)) rfl rfl dX12_next0_208 (fun H locs hB => ?_)
                        have hm := iv_Md.put (x := 1) a_h0 (j := 17) (by decide) (by decide)
                        have h9 := iv_up_eq (G := G129) (a := h0) (k := (12, upd g127 17 1, r128))
                        generalize iv_up G129 h0 _ = G141 at hB hm h9
                        have hM := hM.stp hm (by decide)
                        generalize hgn_g142 : upd g127 _ _ = g142 at h9
                        have a_h0 := h9
                        have e143 : x130 = g142 16 := by rw [← hgn_g142]; exact e_x130
                        have e144 : x137 = g142 18 := by rw [← hgn_g142]; exact e_x137
                        have e9_g142 : 1 = g142 17 := by rw [← hgn_g142]; simp [upd]
                        refine lv_goto (tgt := 306) hx hb dX12_next0_211 (by decide) ?_
                        exact iv_vret X hr hlocks hB hM dX12_next0_306
                      · skip
                        have i144_x138 : iv_R (-400) 4 x138 := (i_x138.cutHi (n := 4) (iv_lt_r (iv_nle c139) q_5 (by decide)))
                        refine lv_iconst (v := 2) hx hb dX12_next0_203 (by decide) ?_
                        refine lv_goto (tgt := 208) hx hb dX12_next0_204 (by decide) ?_
                        refine iv_puti X ft_X12 hB a_h0 sh_12 17 (by decide) rfl rfl k_fl_X12_165 rfl (q_2.wk (by decide)) rfl rfl dX12_next0_208 (fun H locs hB => ?_)
                        have hm := iv_Md.put (x := 2) a_h0 (j := 17) (by decide) (by decide)
                        have h9 := iv_up_eq (G := G129) (a := h0) (k := (12, upd g127 17 2, r128))
                        generalize iv_up G129 h0 _ = G146 at hB hm h9
                        have hM := hM.stp hm (by decide)
                        generalize hgn_g147 : upd g127 _ _ = g147 at h9
                        have a_h0 := h9
                        have e148 : x130 = g147 16 := by rw [← hgn_g147]; exact e_x130
                        have e149 : x137 = g147 18 := by rw [← hgn_g147]; exact e_x137
                        have e9_g147 : 2 = g147 17 := by rw [← hgn_g147]; simp [upd]
                        refine lv_goto (tgt := 306) hx hb dX12_next0_211 (by decide) ?_
                        exact iv_vret X hr hlocks hB hM dX12_next0_306
                    · skip
                      have i149_x133 : iv_R 1 1 x133 := iv_ne_lo c135 i_x133 q_0 (by decide)
                      have i150_x131 : iv_R 48 57 x131 := ((i_x131.cutLo (n := 48) (hp134 c135).1).cutHi (n := 57) (hp134 c135).2)
                      have i151_x130 : iv_R 0 399 x130 := (i_x130.cutHi (n := 399) (np132 (Int.le_trans (by decide) i150_x131.1)).2)
                      refine lv_aload_n hx hb dX12_next0_140 rfl (lv_at hl 0 rfl) ?_
                      refine iv_geti0 X ft_X12 hB a_h0 sh_12 16 (by decide) rfl k_fl_X12_85 dX12_next0_141 e_x130 ?_
                      refine lv_aload_n hx hb dX12_next0_144 rfl (lv_at hl 0 rfl) ?_
                      refine iv_geti X ft_X12 hB a_h0 sh_12 18 (by decide) rfl k_fl_X12_88 dX12_next0_145 (fun x153 e_x153 i_x153 => ?_)
                      refine lv_iconst (v := 4) hx hb dX12_next0_148 (by decide) ?_
                      refine iv_iadd hx hb i_x153 q_4 (lo := 4) (hi := 404) (by decide) dX12_next0_149 (fun x154 e_x154 i_x154 => ?_)
                      refine lv_icmp_ge (tgt := 176) hx hb dX12_next0_150 (by decide) (fun c155 => ?_) (fun c155 => ?_)
                      · skip
                        have i155_x154 : iv_R 4 399 x154 := (i_x154.cutHi (n := 399) (iv_le_r c155 i151_x130))
                        have i156_x130 : iv_R 4 399 x130 := (i151_x130.cutLo (n := 4) (iv_le_l c155 i_x154))
                        refine lv_aload_n hx hb dX12_next0_176 rfl (lv_at hl 0 rfl) ?_
                        refine lv_dup hx hb dX12_next0_177 rfl ?_
                        refine iv_geti0 X ft_X12 hB a_h0 sh_12 16 (by decide) rfl k_fl_X12_85 dX12_next0_178 e_x130 ?_
                        refine lv_iconst (v := 1) hx hb dX12_next0_181 (by decide) ?_
                        refine iv_iadd hx hb i156_x130 q_1 (lo := 5) (hi := 400) (by decide) dX12_next0_182 (fun x158 e_x158 i_x158 => ?_)
                        refine iv_puti X ft_X12 hB a_h0 sh_12 16 (by decide) rfl rfl k_fl_X12_85 rfl (i_x158.wk (by decide)) rfl rfl dX12_next0_183 (fun H locs hB => ?_)
                        have hm := iv_Md.put (x := x158) a_h0 (j := 16) (by decide) (by decide)
                        have h9 := iv_up_eq (G := G129) (a := h0) (k := (12, upd g127 16 x158, r128))
                        generalize iv_up G129 h0 _ = G159 at hB hm h9
                        have hM := hM.stp hm (by decide)
                        generalize hgn_g160 : upd g127 _ _ = g160 at h9
                        have a_h0 := h9
                        have e161 : x153 = g160 18 := by rw [← hgn_g160]; exact e_x153
                        have e9_g160 : x158 = g160 16 := by rw [← hgn_g160]; simp [upd]
                        refine lv_goto (tgt := 126) hx hb dX12_next0_186 (by decide) ?_
                        exact ih_126 G159 hM _ _ hB g160 r128 a_h0 (by have w1 := congrArg Int32.toInt e9_g160; have w2 := congrArg Int32.toInt e_x130; have w3 := i156_x130.2; have w4 : x158.toInt = x130.toInt + 1 := e_x158; omega) _ (lv_sub hl [0] rfl)
                      · skip
                        refine lv_aload_n hx hb dX12_next0_153 rfl (lv_at hl 0 rfl) ?_
                        refine lv_bipush (v := 10) hx hb dX12_next0_154 (by decide) ?_
                        refine lv_aload_n hx hb dX12_next0_156 rfl (lv_at hl 0 rfl) ?_
                        refine iv_geti X ft_X12 hB a_h0 sh_12 19 (by decide) rfl k_fl_X12_177 dX12_next0_157 (fun x162 e_x162 i_x162 => ?_)
                        refine lv_imul hx hb dX12_next0_160 ?_
                        refine lv_topi (fun x163 e_x163 => ?_)
                        have i_x163 := iv_R.all x163
                        refine lv_aload_n hx hb dX12_next0_161 rfl (lv_at hl 0 rfl) ?_
                        refine lv_aload_n hx hb dX12_next0_162 rfl (lv_at hl 0 rfl) ?_
                        refine iv_geti0 X ft_X12 hB a_h0 sh_12 16 (by decide) rfl k_fl_X12_85 dX12_next0_163 e_x130 ?_
                        refine iv_cVi X k_good k_mf_X12_see k_im_X12_see k_sel_X12_see k_ml_X12_161 ft_X12 hB a_h0 sh_12 (As := [.int x130]) (c_X12_see l D tys base G129 h0 g127 r128 a_h0 x130 (i151_x130.wk (by decide))) ⟨rfl, rfl⟩ ⟨Nat.le_of_ble_eq_true rfl, Nat.le_of_ble_eq_true rfl⟩ ⟨Nat.le_of_ble_eq_true rfl, Nat.le_of_ble_eq_true rfl⟩ rfl rfl hl.1 (Nat.le_of_ble_eq_true rfl) dX12_next0_166 (fun x164 G9 H locs hq hB => ?_)
                        obtain ⟨rfl, i_x164, np165⟩ := hq
                        refine lv_iadd hx hb dX12_next0_169 ?_
                        refine lv_topi (fun x166 e_x166 => ?_)
                        have i_x166 := iv_R.all x166
                        refine lv_bipush (v := 48) hx hb dX12_next0_170 (by decide) ?_
                        refine lv_isub hx hb dX12_next0_172 ?_
                        refine lv_topi (fun x167 e_x167 => ?_)
                        have i_x167 := iv_R.all x167
                        refine iv_puti X ft_X12 hB a_h0 sh_12 19 (by decide) rfl rfl k_fl_X12_177 rfl i_x167 rfl rfl dX12_next0_173 (fun H locs hB => ?_)
                        have hm := iv_Md.put (x := x167) a_h0 (j := 19) (by decide) (by decide)
                        have h9 := iv_up_eq (G := G129) (a := h0) (k := (12, upd g127 19 x167, r128))
                        generalize iv_up G129 h0 _ = G168 at hB hm h9
                        have hM := hM.stp hm (by decide)
                        generalize hgn_g169 : upd g127 _ _ = g169 at h9
                        have a_h0 := h9
                        have e170 : x130 = g169 16 := by rw [← hgn_g169]; exact e_x130
                        have e171 : x153 = g169 18 := by rw [← hgn_g169]; exact e_x153
                        have e9_g169 : x167 = g169 19 := by rw [← hgn_g169]; simp [upd]
                        refine lv_aload_n hx hb dX12_next0_176 rfl (lv_at hl 0 rfl) ?_
                        refine lv_dup hx hb dX12_next0_177 rfl ?_
                        refine iv_geti0 X ft_X12 hB a_h0 sh_12 16 (by decide) rfl k_fl_X12_85 dX12_next0_178 e170 ?_
                        refine lv_iconst (v := 1) hx hb dX12_next0_181 (by decide) ?_
                        refine iv_iadd hx hb i151_x130 q_1 (lo := 1) (hi := 400) (by decide) dX12_next0_182 (fun x172 e_x172 i_x172 => ?_)
                        refine iv_puti X ft_X12 hB a_h0 sh_12 16 (by decide) rfl rfl k_fl_X12_85 rfl (i_x172.wk (by decide)) rfl rfl dX12_next0_183 (fun H locs hB => ?_)
                        have hm := iv_Md.put (x := x172) a_h0 (j := 16) (by decide) (by decide)
                        have h9 := iv_up_eq (G := G168) (a := h0) (k := (12, upd g169 16 x172, r128))
                        generalize iv_up G168 h0 _ = G173 at hB hm h9
                        have hM := hM.stp hm (by decide)
                        generalize hgn_g174 : upd g169 _ _ = g174 at h9
                        have a_h0 := h9
                        have e175 : x153 = g174 18 := by rw [← hgn_g174]; exact e171
                        have e176 : x167 = g174 19 := by rw [← hgn_g174]; exact e9_g169
                        have e9_g174 : x172 = g174 16 := by rw [← hgn_g174]; simp [upd]
                        refine lv_goto (tgt := 126) hx hb dX12_next0_186 (by decide) ?_
                        exact ih_126 G173 hM _ _ hB g174 r128 a_h0 (by have w1 := congrArg Int32.toInt e9_g174; have w2 := congrArg Int32.toInt e_x130; have w3 := i151_x130.2; have w4 : x172.toInt = x130.toInt + 1 := e_x172; omega) _ (lv_sub hl [0] rfl)
                exact L_126 _ G123 hM _ _ hB g124 r2 a_h0 (Nat.lt_succ_self _) _ (lv_sub hl [1] rfl)
            · skip
              have i176_x24 : iv_R 1 1 x24 := iv_ne_lo c26 i_x24 q_0 (by decide)
              have i177_x19 : iv_R 65 122 x19 := ((i21_x19.cutLo (n := 65) (hp25 c26).1).cutHi (n := 122) (hp25 c26).2)
              have L_76 : ∀ (n_76 : Nat) (G181 : iv_G) (hM : iv_Md [12] G G181) (H : Heap) (locs : List Loc) (hB : iv_B iv_sh D classes tys base G181 s.heap H locs) (g179 : Nat → Int32) (r180 : Nat → Nat) (a_h0 : G181 h0 = some (12, g179, r180)) (hn_76 : (401 - (g179 16).toInt).toNat < n_76) (ls : Array Slot) (hl : lv_has ls 3 [(0, .ref h0)]), W p l e ({ frames := 8, cells := 0, slots := 0, locals := 168 } : Room) s m args below meth c H locs 0 0 (MQ below (iv_Qv iv_sh D classes tys base (fun G' => iv_Md [12] G G')) args s 0 0 (iv_A base)) (F0 m 76 ls []) := by
                intro n_76
                induction n_76 with
                | zero => intro G181 hM H locs hB g179 r180 a_h0 hn_76 ls hl; exact absurd hn_76 (Nat.not_lt_zero _)
                | succ n_76 ih_76 =>
                  intro G181 hM H locs hB g179 r180 a_h0 hn_76 ls hl
                  refine lv_aload_n hx hb dX12_next0_76 rfl (lv_at hl 0 rfl) ?_
                  refine lv_aload_n hx hb dX12_next0_77 rfl (lv_at hl 0 rfl) ?_
                  refine iv_geti X ft_X12 hB a_h0 sh_12 16 (by decide) rfl k_fl_X12_85 dX12_next0_78 (fun x182 e_x182 i_x182 => ?_)
                  refine iv_cVi X k_good k_mf_X12_see k_im_X12_see k_sel_X12_see k_ml_X12_161 ft_X12 hB a_h0 sh_12 (As := [.int x182]) (c_X12_see l D tys base G181 h0 g179 r180 a_h0 x182 i_x182) ⟨rfl, rfl⟩ ⟨Nat.le_of_ble_eq_true rfl, Nat.le_of_ble_eq_true rfl⟩ ⟨Nat.le_of_ble_eq_true rfl, Nat.le_of_ble_eq_true rfl⟩ rfl rfl hl.1 (Nat.le_of_ble_eq_true rfl) dX12_next0_81 (fun x183 G9 H locs hq hB => ?_)
                  obtain ⟨rfl, i_x183, np184⟩ := hq
                  refine iv_cSi X k_good k_mf_X12_isLetter k_st_X12_isLetter k_ml_X12_168 hB (As := [.int x183]) (c_X12_isLetter l D tys base G181 x183 i_x183) ⟨rfl, rfl⟩ ⟨Nat.le_of_ble_eq_true rfl, Nat.le_of_ble_eq_true rfl⟩ ⟨Nat.le_of_ble_eq_true rfl, Nat.le_of_ble_eq_true rfl⟩ rfl rfl hl.1 (Nat.le_of_ble_eq_true rfl) dX12_next0_84 (fun x185 G9 H locs hq hB => ?_)
                  obtain ⟨rfl, i_x185, hp186⟩ := hq
                  refine lv_if_eq (tgt := 103) hx hb dX12_next0_87 (by decide) (fun c187 => ?_) (fun c187 => ?_)
                  · skip
                    have i187_x185 : iv_R 0 0 x185 := (i_x185.cutHi (n := 0) (iv_eq_r c187 q_0).2)
                    refine lv_aload_n hx hb dX12_next0_103 rfl (lv_at hl 0 rfl) ?_
                    refine lv_aload_n hx hb dX12_next0_104 rfl (lv_at hl 0 rfl) ?_
                    refine iv_cVi X k_good k_mf_X12_word k_im_X12_word k_sel_X12_word k_ml_X12_171 ft_X12 hB a_h0 sh_12 (As := []) (c_X12_word l D tys base G181 h0 g179 r180 a_h0) ⟨rfl, rfl⟩ ⟨Nat.le_of_ble_eq_true rfl, Nat.le_of_ble_eq_true rfl⟩ ⟨Nat.le_of_ble_eq_true rfl, Nat.le_of_ble_eq_true rfl⟩ rfl rfl hl.1 (Nat.le_of_ble_eq_true rfl) dX12_next0_105 (fun x189 G9 H locs hq hB => ?_)
                    obtain ⟨rfl, i_x189⟩ := hq
                    refine iv_puti X ft_X12 hB a_h0 sh_12 17 (by decide) rfl rfl k_fl_X12_165 rfl (i_x189.wk (by decide)) rfl rfl dX12_next0_108 (fun H locs hB => ?_)
                    have hm := iv_Md.put (x := x189) a_h0 (j := 17) (by decide) (by decide)
                    have h9 := iv_up_eq (G := G181) (a := h0) (k := (12, upd g179 17 x189, r180))
                    generalize iv_up G181 h0 _ = G190 at hB hm h9
                    have hM := hM.stp hm (by decide)
                    generalize hgn_g191 : upd g179 _ _ = g191 at h9
                    have a_h0 := h9
                    have e192 : x182 = g191 16 := by rw [← hgn_g191]; exact e_x182
                    have e9_g191 : x189 = g191 17 := by rw [← hgn_g191]; simp [upd]
                    refine lv_goto (tgt := 306) hx hb dX12_next0_111 (by decide) ?_
                    exact iv_vret X hr hlocks hB hM dX12_next0_306
                  · skip
                    have i192_x185 : iv_R 1 1 x185 := iv_ne_lo c187 i_x185 q_0 (by decide)
                    have i193_x183 : iv_R 65 122 x183 := ((i_x183.cutLo (n := 65) (hp186 c187).1).cutHi (n := 122) (hp186 c187).2)
                    have i194_x182 : iv_R 0 399 x182 := (i_x182.cutHi (n := 399) (np184 (Int.le_trans (by decide) i193_x183.1)).2)
                    refine lv_aload_n hx hb dX12_next0_90 rfl (lv_at hl 0 rfl) ?_
                    refine lv_dup hx hb dX12_next0_91 rfl ?_
                    refine iv_geti0 X ft_X12 hB a_h0 sh_12 16 (by decide) rfl k_fl_X12_85 dX12_next0_92 e_x182 ?_
                    refine lv_iconst (v := 1) hx hb dX12_next0_95 (by decide) ?_
                    refine iv_iadd hx hb i194_x182 q_1 (lo := 1) (hi := 400) (by decide) dX12_next0_96 (fun x196 e_x196 i_x196 => ?_)
                    refine iv_puti X ft_X12 hB a_h0 sh_12 16 (by decide) rfl rfl k_fl_X12_85 rfl (i_x196.wk (by decide)) rfl rfl dX12_next0_97 (fun H locs hB => ?_)
                    have hm := iv_Md.put (x := x196) a_h0 (j := 16) (by decide) (by decide)
                    have h9 := iv_up_eq (G := G181) (a := h0) (k := (12, upd g179 16 x196, r180))
                    generalize iv_up G181 h0 _ = G197 at hB hm h9
                    have hM := hM.stp hm (by decide)
                    generalize hgn_g198 : upd g179 _ _ = g198 at h9
                    have a_h0 := h9
                    have e9_g198 : x196 = g198 16 := by rw [← hgn_g198]; simp [upd]
                    refine lv_goto (tgt := 76) hx hb dX12_next0_100 (by decide) ?_
                    exact ih_76 G197 hM _ _ hB g198 r180 a_h0 (by have w1 := congrArg Int32.toInt e9_g198; have w2 := congrArg Int32.toInt e_x182; have w3 := i194_x182.2; have w4 : x196.toInt = x182.toInt + 1 := e_x196; omega) _ (lv_sub hl [0] rfl)
              exact L_76 _ G16 hM _ _ hB g17 r2 a_h0 (Nat.lt_succ_self _) _ (lv_sub hl [1] rfl)
          · skip
            have i198_x19 : iv_R (-1) (-1) x19 := (i_x19.cutHi (n := (-1)) (iv_eq_r c21 q_n1).2)
            refine lv_aload_n hx hb dX12_next0_61 rfl (lv_at hl 1 rfl) ?_
            refine lv_iconst (v := 0) hx hb dX12_next0_62 (by decide) ?_
            refine iv_puti X ft_X12 hB a_h0 sh_12 17 (by decide) rfl rfl k_fl_X12_165 rfl (q_0.wk (by decide)) rfl rfl dX12_next0_63 (fun H locs hB => ?_)
            have hm := iv_Md.put (x := 0) a_h0 (j := 17) (by decide) (by decide)
            have h9 := iv_up_eq (G := G16) (a := h0) (k := (12, upd g17 17 0, r2))
            generalize iv_up G16 h0 _ = G200 at hB hm h9
            have hM := hM.stp hm (by decide)
            generalize hgn_g201 : upd g17 _ _ = g201 at h9
            have a_h0 := h9
            have e202 : x4 = g201 16 := by rw [← hgn_g201]; exact e18
            have e203 : x4 = g201 18 := by rw [← hgn_g201]; exact e9_g17
            have e9_g201 : 0 = g201 17 := by rw [← hgn_g201]; simp [upd]
            refine lv_goto (tgt := 306) hx hb dX12_next0_66 (by decide) ?_
            exact iv_vret X hr hlocks hB hM dX12_next0_306
        · skip
          have i203_x13 : iv_R 10 10 x13 := ((i_x13.cutLo (n := 10) (iv_eq_r c15 q_10).1).cutHi (n := 10) (iv_eq_r c15 q_10).2)
          have i204_x4 : iv_R 0 399 x4 := (i_x4.cutHi (n := 399) (np14 (Int.le_trans (by decide) i203_x13.1)).2)
          refine lv_aload_n hx hb dX12_next0_26 rfl (lv_at hl 0 rfl) ?_
          refine lv_dup hx hb dX12_next0_27 rfl ?_
          refine iv_geti0 X ft_X12 hB a_h0 sh_12 16 (by decide) rfl k_fl_X12_85 dX12_next0_28 e_x4 ?_
          refine lv_iconst (v := 1) hx hb dX12_next0_31 (by decide) ?_
          refine iv_iadd hx hb i204_x4 q_1 (lo := 1) (hi := 400) (by decide) dX12_next0_32 (fun x206 e_x206 i_x206 => ?_)
          refine iv_puti X ft_X12 hB a_h0 sh_12 16 (by decide) rfl rfl k_fl_X12_85 rfl (i_x206.wk (by decide)) rfl rfl dX12_next0_33 (fun H locs hB => ?_)
          have hm := iv_Md.put (x := x206) a_h0 (j := 16) (by decide) (by decide)
          have h9 := iv_up_eq (G := G3) (a := h0) (k := (12, upd g1 16 x206, r2))
          generalize iv_up G3 h0 _ = G207 at hB hm h9
          have hM := hM.stp hm (by decide)
          generalize hgn_g208 : upd g1 _ _ = g208 at h9
          have a_h0 := h9
          have e9_g208 : x206 = g208 16 := by rw [← hgn_g208]; simp [upd]
          refine lv_goto (tgt := 0) hx hb dX12_next0_36 (by decide) ?_
          exact ih_0 G207 hM _ _ hB g208 r2 a_h0 (by have w1 := congrArg Int32.toInt e9_g208; have w2 := congrArg Int32.toInt e_x4; have w3 := i204_x4.2; have w4 : x206.toInt = x4.toInt + 1 := e_x206; omega) _ (lv_sub hl [0] rfl)
  exact L_0 _ G hM _ _ hB g_h0 r_h0 a_h0 (Nat.lt_succ_self _) _ (lv_sub hl [0] rfl)
theorem dX12_noneYet_0 : decode cX12_noneYet 0 = .ok (.iload_n 1, 1) := by decide +kernel
theorem dX12_noneYet_1 : decode cX12_noneYet 1 = .ok (.iconst 0, 1) := by decide +kernel
theorem dX12_noneYet_2 : decode cX12_noneYet 2 = .ok (.bipush 99, 2) := by decide +kernel
theorem dX12_noneYet_4 : decode cX12_noneYet 4 = .ok (.invokestatic 56, 3) := by decide +kernel
theorem dX12_noneYet_7 : decode cX12_noneYet 7 = .ok (.ifCond .ne 5, 3) := by decide +kernel
theorem dX12_noneYet_10 : decode cX12_noneYet 10 = .ok (.iconst (-1), 1) := by decide +kernel
theorem dX12_noneYet_11 : decode cX12_noneYet 11 = .ok (.ireturn, 1) := by decide +kernel
theorem dX12_noneYet_12 : decode cX12_noneYet 12 = .ok (.iconst 0, 1) := by decide +kernel
theorem dX12_noneYet_13 : decode cX12_noneYet 13 = .ok (.istore_n 2, 1) := by decide +kernel
theorem dX12_noneYet_14 : decode cX12_noneYet 14 = .ok (.iload_n 2, 1) := by decide +kernel
theorem dX12_noneYet_15 : decode cX12_noneYet 15 = .ok (.aload_n 0, 1) := by decide +kernel
theorem dX12_noneYet_16 : decode cX12_noneYet 16 = .ok (.getfield 7, 3) := by decide +kernel
theorem dX12_noneYet_19 : decode cX12_noneYet 19 = .ok (.sipush 146, 3) := by decide +kernel
theorem dX12_noneYet_22 : decode cX12_noneYet 22 = .ok (.iaload, 1) := by decide +kernel
theorem dX12_noneYet_23 : decode cX12_noneYet 23 = .ok (.if_icmp .ge 32, 3) := by decide +kernel
theorem dX12_noneYet_26 : decode cX12_noneYet 26 = .ok (.aload_n 0, 1) := by decide +kernel
theorem dX12_noneYet_27 : decode cX12_noneYet 27 = .ok (.getfield 41, 3) := by decide +kernel
theorem dX12_noneYet_30 : decode cX12_noneYet 30 = .ok (.iload_n 2, 1) := by decide +kernel
theorem dX12_noneYet_31 : decode cX12_noneYet 31 = .ok (.aload_n 0, 1) := by decide +kernel
theorem dX12_noneYet_32 : decode cX12_noneYet 32 = .ok (.iload_n 2, 1) := by decide +kernel
theorem dX12_noneYet_33 : decode cX12_noneYet 33 = .ok (.invokevirtual 353, 3) := by decide +kernel
theorem dX12_noneYet_36 : decode cX12_noneYet 36 = .ok (.ifCond .eq 11, 3) := by decide +kernel
theorem dX12_noneYet_39 : decode cX12_noneYet 39 = .ok (.aload_n 0, 1) := by decide +kernel
theorem dX12_noneYet_40 : decode cX12_noneYet 40 = .ok (.iload_n 2, 1) := by decide +kernel
theorem dX12_noneYet_41 : decode cX12_noneYet 41 = .ok (.invokevirtual 344, 3) := by decide +kernel
theorem dX12_noneYet_44 : decode cX12_noneYet 44 = .ok (.goto 4, 3) := by decide +kernel
theorem dX12_noneYet_47 : decode cX12_noneYet 47 = .ok (.iconst (-1), 1) := by decide +kernel
theorem dX12_noneYet_48 : decode cX12_noneYet 48 = .ok (.iastore, 1) := by decide +kernel
theorem dX12_noneYet_49 : decode cX12_noneYet 49 = .ok (.iinc 2 1, 3) := by decide +kernel
theorem dX12_noneYet_52 : decode cX12_noneYet 52 = .ok (.goto (-38), 3) := by decide +kernel
theorem dX12_noneYet_55 : decode cX12_noneYet 55 = .ok (.ldc_w 395, 3) := by decide +kernel
theorem dX12_noneYet_58 : decode cX12_noneYet 58 = .ok (.istore_n 2, 1) := by decide +kernel
theorem dX12_noneYet_59 : decode cX12_noneYet 59 = .ok (.iconst 0, 1) := by decide +kernel
theorem dX12_noneYet_60 : decode cX12_noneYet 60 = .ok (.istore_n 3, 1) := by decide +kernel
theorem dX12_noneYet_61 : decode cX12_noneYet 61 = .ok (.iload_n 3, 1) := by decide +kernel
theorem dX12_noneYet_62 : decode cX12_noneYet 62 = .ok (.iload_n 1, 1) := by decide +kernel
theorem dX12_noneYet_63 : decode cX12_noneYet 63 = .ok (.if_icmp .ge 64, 3) := by decide +kernel
theorem dX12_noneYet_66 : decode cX12_noneYet 66 = .ok (.iconst 0, 1) := by decide +kernel
theorem dX12_noneYet_67 : decode cX12_noneYet 67 = .ok (.istore 4, 2) := by decide +kernel
theorem dX12_noneYet_69 : decode cX12_noneYet 69 = .ok (.iload 4, 2) := by decide +kernel
theorem dX12_noneYet_71 : decode cX12_noneYet 71 = .ok (.aload_n 0, 1) := by decide +kernel
theorem dX12_noneYet_72 : decode cX12_noneYet 72 = .ok (.getfield 7, 3) := by decide +kernel
theorem dX12_noneYet_75 : decode cX12_noneYet 75 = .ok (.sipush 146, 3) := by decide +kernel
theorem dX12_noneYet_78 : decode cX12_noneYet 78 = .ok (.iaload, 1) := by decide +kernel
theorem dX12_noneYet_79 : decode cX12_noneYet 79 = .ok (.if_icmp .ge 42, 3) := by decide +kernel
theorem dX12_noneYet_82 : decode cX12_noneYet 82 = .ok (.aload_n 0, 1) := by decide +kernel
theorem dX12_noneYet_83 : decode cX12_noneYet 83 = .ok (.getfield 41, 3) := by decide +kernel
theorem dX12_noneYet_86 : decode cX12_noneYet 86 = .ok (.iload 4, 2) := by decide +kernel
theorem dX12_noneYet_88 : decode cX12_noneYet 88 = .ok (.iaload, 1) := by decide +kernel
theorem dX12_noneYet_89 : decode cX12_noneYet 89 = .ok (.iconst (-1), 1) := by decide +kernel
theorem dX12_noneYet_90 : decode cX12_noneYet 90 = .ok (.if_icmp .ne 7, 3) := by decide +kernel
theorem dX12_noneYet_93 : decode cX12_noneYet 93 = .ok (.iload_n 2, 1) := by decide +kernel
theorem dX12_noneYet_94 : decode cX12_noneYet 94 = .ok (.goto 20, 3) := by decide +kernel
theorem dX12_noneYet_97 : decode cX12_noneYet 97 = .ok (.iload_n 2, 1) := by decide +kernel
theorem dX12_noneYet_98 : decode cX12_noneYet 98 = .ok (.sipush 1000, 3) := by decide +kernel
theorem dX12_noneYet_101 : decode cX12_noneYet 101 = .ok (.aload_n 0, 1) := by decide +kernel
theorem dX12_noneYet_102 : decode cX12_noneYet 102 = .ok (.getfield 41, 3) := by decide +kernel
theorem dX12_noneYet_105 : decode cX12_noneYet 105 = .ok (.iload 4, 2) := by decide +kernel
theorem dX12_noneYet_107 : decode cX12_noneYet 107 = .ok (.iaload, 1) := by decide +kernel
theorem dX12_noneYet_108 : decode cX12_noneYet 108 = .ok (.isub, 1) := by decide +kernel
theorem dX12_noneYet_109 : decode cX12_noneYet 109 = .ok (.imul, 1) := by decide +kernel
theorem dX12_noneYet_110 : decode cX12_noneYet 110 = .ok (.sipush 1000, 3) := by decide +kernel
theorem dX12_noneYet_113 : decode cX12_noneYet 113 = .ok (.idiv, 1) := by decide +kernel
theorem dX12_noneYet_114 : decode cX12_noneYet 114 = .ok (.istore_n 2, 1) := by decide +kernel
theorem dX12_noneYet_115 : decode cX12_noneYet 115 = .ok (.iinc 4 1, 3) := by decide +kernel
theorem dX12_noneYet_118 : decode cX12_noneYet 118 = .ok (.goto (-49), 3) := by decide +kernel
theorem dX12_noneYet_121 : decode cX12_noneYet 121 = .ok (.iinc 3 1, 3) := by decide +kernel
theorem dX12_noneYet_124 : decode cX12_noneYet 124 = .ok (.goto (-63), 3) := by decide +kernel
theorem dX12_noneYet_127 : decode cX12_noneYet 127 = .ok (.iload_n 2, 1) := by decide +kernel
theorem dX12_noneYet_128 : decode cX12_noneYet 128 = .ok (.ireturn, 1) := by decide +kernel
set_option maxHeartbeats 4000000 in
set_option maxRecDepth 100000 in
theorem c_X12_noneYet (l : Launch) (D : va_G) (tys : List (ClassId × FieldType)) (base : Nat) (G : iv_G) (h0 : Nat) (g_h0 : Nat → Int32) (r_h0 : Nat → Nat) (a_h0 : G h0 = some (12, g_h0, r_h0)) (x_0 : Int32) (i_x_0 : iv_R (-2147483648) 2147483647 x_0) : Met l yX12_noneYet (Cond.code yX12_noneYet cX12_noneYet 5 (some .int) :: iv_W0) ({ frames := 10, cells := 0, slots := 0, locals := 232 }) (iv_Pc iv_sh D classes tys base G [.ref h0, .int x_0]) (iv_Qi iv_sh D classes tys base (fun v G' => iv_Md [67, 68, 69] G G' ∧ iv_R (-2147483648) 2147483647 v)) 0 0 (iv_A base) := by
  refine iv_head (by decide) (Nat.le_of_ble_eq_true rfl) ?_
  intro p e s m args below meth c ls X hr hlocks hname hB hl
  have X := X
  have hx := X.1.1
  have hb := X.1.2.1
  have hM : iv_Md [67, 68, 69] G G := iv_Md.rf
  have hl : lv_has ls 5 [(0, .ref h0), (1, .int x_0)] := hl
  refine lv_iload_n hx hb dX12_noneYet_0 rfl (lv_at hl 1 rfl) ?_
  refine lv_iconst (v := 0) hx hb dX12_noneYet_1 (by decide) ?_
  refine lv_bipush (v := 99) hx hb dX12_noneYet_2 (by decide) ?_
  refine iv_cSi X k_good k_mf_X12_isIn k_st_X12_isIn k_ml_X12_56 hB (As := [.int x_0, .int 0, .int 99]) (c_X12_isIn l D tys base G x_0 i_x_0 0 (q_0.wk (by decide)) 99 (q_99.wk (by decide))) ⟨rfl, rfl⟩ ⟨Nat.le_of_ble_eq_true rfl, Nat.le_of_ble_eq_true rfl⟩ ⟨Nat.le_of_ble_eq_true rfl, Nat.le_of_ble_eq_true rfl⟩ rfl rfl hl.1 (Nat.le_of_ble_eq_true rfl) dX12_noneYet_4 (fun x1 G9 H locs hq hB => ?_)
  obtain ⟨rfl, i_x1, hp2⟩ := hq
  have k3 : ¬ x1 = 0 → iv_R 0 99 x_0 := fun h => ⟨iv_max i_x_0.1 (Int.le_trans q_0.1 (hp2.1 h).1) (by decide), iv_min i_x_0.2 (Int.le_trans (hp2.1 h).2 q_99.2) (by decide)⟩
  refine lv_if_ne (tgt := 12) hx hb dX12_noneYet_7 (by decide) (fun c4 => ?_) (fun c4 => ?_)
  · skip
    have i4_x1 : iv_R 1 1 x1 := iv_ne_lo c4 i_x1 q_0 (by decide)
    have i5_x_0 : iv_R 0 99 x_0 := ((i_x_0.cutLo (n := 0) (k3 c4).1).cutHi (n := 99) (k3 c4).2)
    refine lv_iconst (v := 0) hx hb dX12_noneYet_12 (by decide) ?_
    refine lv_istore_n (lv' := [(2, .int 0), (0, .ref h0), (1, .int x_0)]) hx hb dX12_noneYet_13 rfl hl (by decide) rfl (fun ls hl => ?_)
    have L_14 : ∀ (n_14 : Nat) (G8 : iv_G) (hM : iv_Md [67, 68, 69] G G8) (H : Heap) (locs : List Loc) (hB : iv_B iv_sh D classes tys base G8 s.heap H locs) (a_h0 : G8 h0 = some (12, g_h0, r_h0)) (x7 : Int32) (i_x7 : iv_R 0 10 x7) (hn_14 : (11 - x7.toInt).toNat < n_14) (ls : Array Slot) (hl : lv_has ls 5 [(2, .int x7), (0, .ref h0), (1, .int x_0)]), W p l e ({ frames := 10, cells := 0, slots := 0, locals := 232 } : Room) s m args below meth c H locs 0 0 (MQ below (iv_Qi iv_sh D classes tys base (fun v G' => iv_Md [67, 68, 69] G G' ∧ iv_R (-2147483648) 2147483647 v)) args s 0 0 (iv_A base)) (F0 m 14 ls []) := by
      intro n_14
      induction n_14 with
      | zero => intro G8 hM H locs hB a_h0 x7 i_x7 hn_14 ls hl; exact absurd hn_14 (Nat.not_lt_zero _)
      | succ n_14 ih_14 =>
        intro G8 hM H locs hB a_h0 x7 i_x7 hn_14 ls hl
        refine lv_iload_n hx hb dX12_noneYet_14 rfl (lv_at hl 0 rfl) ?_
        refine lv_aload_n hx hb dX12_noneYet_15 rfl (lv_at hl 1 rfl) ?_
        refine iv_getr X ft_X12 hB a_h0 sh_12 0 (by decide) rfl k_fl_X12_7 dX12_noneYet_16 (fun b9 g_b9 r_b9 e_b9 a_b9 => ?_)
        refine lv_sipush (v := 146) hx hb dX12_noneYet_19 (by decide) ?_
        refine iv_wald_c X hB a_b9 q_146 (by decide) (lo := 0) (hi' := 10) (by decide) dX12_noneYet_22 (fun x10 e_x10 i_x10 => ?_)
        refine lv_icmp_ge (tgt := 55) hx hb dX12_noneYet_23 (by decide) (fun c11 => ?_) (fun c11 => ?_)
        · skip
          refine lv_ldcw (v := 1000000) hx hb X.1.2.2.2.1 (X.1.2.2.2.2 _ k_ct_X12_395) dX12_noneYet_55 ?_
          refine lv_istore_n (lv' := [(2, .int 1000000), (0, .ref h0), (1, .int x_0)]) hx hb dX12_noneYet_58 rfl hl (by decide) rfl (fun ls hl => ?_)
          refine lv_iconst (v := 0) hx hb dX12_noneYet_59 (by decide) ?_
          refine lv_istore_n (lv' := [(3, .int 0), (2, .int 1000000), (0, .ref h0), (1, .int x_0)]) hx hb dX12_noneYet_60 rfl hl (by decide) rfl (fun ls hl => ?_)
          have L_61 : ∀ (n_61 : Nat) (G14 : iv_G) (hM : iv_Md [67, 68, 69] G G14) (H : Heap) (locs : List Loc) (hB : iv_B iv_sh D classes tys base G14 s.heap H locs) (a_h0 : G14 h0 = some (12, g_h0, r_h0)) (a_b9 : G14 b9 = some (60, g_b9, r_b9)) (x12 : Int32) (i_x12 : iv_R (-2147483648) 2147483647 x12) (x13 : Int32) (i_x13 : iv_R 0 99 x13) (hn_61 : (100 - x13.toInt).toNat < n_61) (ls : Array Slot) (hl : lv_has ls 5 [(3, .int x13), (2, .int x12), (0, .ref h0), (1, .int x_0)]), W p l e ({ frames := 10, cells := 0, slots := 0, locals := 232 } : Room) s m args below meth c H locs 0 0 (MQ below (iv_Qi iv_sh D classes tys base (fun v G' => iv_Md [67, 68, 69] G G' ∧ iv_R (-2147483648) 2147483647 v)) args s 0 0 (iv_A base)) (F0 m 61 ls []) := by
            intro n_61
            induction n_61 with
            | zero => intro G14 hM H locs hB a_h0 a_b9 x12 i_x12 x13 i_x13 hn_61 ls hl; exact absurd hn_61 (Nat.not_lt_zero _)
            | succ n_61 ih_61 =>
              intro G14 hM H locs hB a_h0 a_b9 x12 i_x12 x13 i_x13 hn_61 ls hl
              refine lv_iload_n hx hb dX12_noneYet_61 rfl (lv_at hl 0 rfl) ?_
              refine lv_iload_n hx hb dX12_noneYet_62 rfl (lv_at hl 3 rfl) ?_
              refine lv_icmp_ge (tgt := 127) hx hb dX12_noneYet_63 (by decide) (fun c15 => ?_) (fun c15 => ?_)
              · skip
                refine lv_iload_n hx hb dX12_noneYet_127 rfl (lv_at hl 1 rfl) ?_
                exact iv_iret X hr hlocks hB ⟨hM, i_x12⟩ dX12_noneYet_128
              · skip
                have i15_x13 : iv_R 0 98 x13 := (i_x13.cutHi (n := 98) (iv_lt_r (iv_nle c15) i5_x_0 (by decide)))
                have i16_x_0 : iv_R 1 99 x_0 := (i5_x_0.cutLo (n := 1) (iv_lt_l (iv_nle c15) i_x13 (by decide)))
                refine lv_iconst (v := 0) hx hb dX12_noneYet_66 (by decide) ?_
                refine lv_istore (lv' := [(4, .int 0), (3, .int x13), (2, .int x12), (0, .ref h0), (1, .int x_0)]) hx hb dX12_noneYet_67 hl (by decide) rfl (fun ls hl => ?_)
                have L_69 : ∀ (n_69 : Nat) (G20 : iv_G) (hM : iv_Md [67, 68, 69] G G20) (H : Heap) (locs : List Loc) (hB : iv_B iv_sh D classes tys base G20 s.heap H locs) (a_h0 : G20 h0 = some (12, g_h0, r_h0)) (a_b9 : G20 b9 = some (60, g_b9, r_b9)) (x18 : Int32) (i_x18 : iv_R (-2147483648) 2147483647 x18) (x19 : Int32) (i_x19 : iv_R 0 10 x19) (hn_69 : (11 - x19.toInt).toNat < n_69) (ls : Array Slot) (hl : lv_has ls 5 [(4, .int x19), (3, .int x13), (2, .int x18), (0, .ref h0), (1, .int x_0)]), W p l e ({ frames := 10, cells := 0, slots := 0, locals := 232 } : Room) s m args below meth c H locs 0 0 (MQ below (iv_Qi iv_sh D classes tys base (fun v G' => iv_Md [67, 68, 69] G G' ∧ iv_R (-2147483648) 2147483647 v)) args s 0 0 (iv_A base)) (F0 m 69 ls []) := by
                  intro n_69
                  induction n_69 with
                  | zero => intro G20 hM H locs hB a_h0 a_b9 x18 i_x18 x19 i_x19 hn_69 ls hl; exact absurd hn_69 (Nat.not_lt_zero _)
                  | succ n_69 ih_69 =>
                    intro G20 hM H locs hB a_h0 a_b9 x18 i_x18 x19 i_x19 hn_69 ls hl
                    refine lv_iload hx hb dX12_noneYet_69 (lv_at hl 0 rfl) ?_
                    refine lv_aload_n hx hb dX12_noneYet_71 rfl (lv_at hl 3 rfl) ?_
                    refine iv_getr0 X ft_X12 hB a_h0 sh_12 0 (by decide) rfl k_fl_X12_7 dX12_noneYet_72 e_b9 ?_
                    refine lv_sipush (v := 146) hx hb dX12_noneYet_75 (by decide) ?_
                    refine iv_wald_c X hB a_b9 q_146 (by decide) (lo := 0) (hi' := 10) (by decide) dX12_noneYet_78 (fun x21 e_x21 k_x21 => ?_)
                    obtain rfl : x10 = x21 := e_x10.trans e_x21.symm
                    refine lv_icmp_ge (tgt := 121) hx hb dX12_noneYet_79 (by decide) (fun c22 => ?_) (fun c22 => ?_)
                    · skip
                      refine iv_iinc hx hb i15_x13 (lo := 1) (hi := 99) (by decide) dX12_noneYet_121 hl (k := 1) rfl (by decide) (fun x23 ls e_x23 i_x23 hl => ?_)
                      have hl : lv_has ls 5 [(3, .int x23), (4, .int x19), (2, .int x18), (0, .ref h0), (1, .int x_0)] := hl
                      refine lv_goto (tgt := 61) hx hb dX12_noneYet_124 (by decide) ?_
                      exact ih_61 G20 hM _ _ hB a_h0 a_b9 x18 i_x18 x23 (i_x23.wk (by decide)) (iv_mup (c := 1) i_x13 (by decide) (by decide) (by omega) hn_61) _ (lv_sub hl [0, 2, 3, 4] rfl)
                    · skip
                      have i23_x19 : iv_R 0 9 x19 := (i_x19.cutHi (n := 9) (iv_lt_r (iv_nle c22) i_x10 (by decide)))
                      have i24_x10 : iv_R 1 10 x10 := (i_x10.cutLo (n := 1) (iv_lt_l (iv_nle c22) i_x19 (by decide)))
                      refine lv_aload_n hx hb dX12_noneYet_82 rfl (lv_at hl 3 rfl) ?_
                      refine iv_getr X ft_X12 hB a_h0 sh_12 26 (by decide) rfl k_fl_X12_41 dX12_noneYet_83 (fun b26 g_b26 r_b26 e_b26 a_b26 => ?_)
                      refine lv_iload hx hb dX12_noneYet_86 (lv_at hl 0 rfl) ?_
                      refine iv_ald X hB a_b26 sh_69 (iv_in i23_x19 (by decide)) dX12_noneYet_88 (fun x27 e_x27 i_x27 => ?_)
                      refine lv_iconst (v := (-1)) hx hb dX12_noneYet_89 (by decide) ?_
                      refine lv_icmp_ne (tgt := 97) hx hb dX12_noneYet_90 (by decide) (fun c28 => ?_) (fun c28 => ?_)
                      · skip
                        refine lv_iload_n hx hb dX12_noneYet_97 rfl (lv_at hl 2 rfl) ?_
                        refine lv_sipush (v := 1000) hx hb dX12_noneYet_98 (by decide) ?_
                        refine lv_aload_n hx hb dX12_noneYet_101 rfl (lv_at hl 3 rfl) ?_
                        refine iv_getr0 X ft_X12 hB a_h0 sh_12 26 (by decide) rfl k_fl_X12_41 dX12_noneYet_102 e_b26 ?_
                        refine lv_iload hx hb dX12_noneYet_105 (lv_at hl 0 rfl) ?_
                        refine iv_ald X hB a_b26 sh_69 (iv_in i23_x19 (by decide)) dX12_noneYet_107 (fun x29 e_x29 i_x29 => ?_)
                        refine lv_isub hx hb dX12_noneYet_108 ?_
                        refine lv_topi (fun x30 e_x30 => ?_)
                        have i_x30 := iv_R.all x30
                        refine lv_imul hx hb dX12_noneYet_109 ?_
                        refine lv_topi (fun x31 e_x31 => ?_)
                        have i_x31 := iv_R.all x31
                        refine lv_sipush (v := 1000) hx hb dX12_noneYet_110 (by decide) ?_
                        refine lv_idiv hx hb dX12_noneYet_113 (iv_nz q_1000 (by decide)) ?_
                        refine lv_topi (fun x32 e_x32 => ?_)
                        have i_x32 := iv_R.all x32
                        refine lv_istore_n (lv' := [(2, .int x32), (4, .int x19), (3, .int x13), (0, .ref h0), (1, .int x_0)]) hx hb dX12_noneYet_114 rfl hl (by decide) rfl (fun ls hl => ?_)
                        refine iv_iinc hx hb i23_x19 (lo := 1) (hi := 10) (by decide) dX12_noneYet_115 hl (k := 1) rfl (by decide) (fun x33 ls e_x33 i_x33 hl => ?_)
                        have hl : lv_has ls 5 [(4, .int x33), (2, .int x32), (3, .int x13), (0, .ref h0), (1, .int x_0)] := hl
                        refine lv_goto (tgt := 69) hx hb dX12_noneYet_118 (by decide) ?_
                        exact ih_69 G20 hM _ _ hB a_h0 a_b9 x32 i_x32 x33 (i_x33.wk (by decide)) (iv_mup (c := 1) i_x19 (by decide) (by decide) (by omega) hn_69) _ (lv_sub hl [0, 2, 1, 3, 4] rfl)
                      · skip
                        have i33_x27 : iv_R (-1) (-1) x27 := ((i_x27.cutLo (n := (-1)) (iv_eq_r c28 q_n1).1).cutHi (n := (-1)) (iv_eq_r c28 q_n1).2)
                        refine lv_iload_n hx hb dX12_noneYet_93 rfl (lv_at hl 2 rfl) ?_
                        refine lv_goto (tgt := 114) hx hb dX12_noneYet_94 (by decide) ?_
                        refine lv_istore_n (lv' := [(2, .int x18), (4, .int x19), (3, .int x13), (0, .ref h0), (1, .int x_0)]) hx hb dX12_noneYet_114 rfl hl (by decide) rfl (fun ls hl => ?_)
                        refine iv_iinc hx hb i23_x19 (lo := 1) (hi := 10) (by decide) dX12_noneYet_115 hl (k := 1) rfl (by decide) (fun x35 ls e_x35 i_x35 hl => ?_)
                        have hl : lv_has ls 5 [(4, .int x35), (2, .int x18), (3, .int x13), (0, .ref h0), (1, .int x_0)] := hl
                        refine lv_goto (tgt := 69) hx hb dX12_noneYet_118 (by decide) ?_
                        exact ih_69 G20 hM _ _ hB a_h0 a_b9 x18 i_x18 x35 (i_x35.wk (by decide)) (iv_mup (c := 1) i_x19 (by decide) (by decide) (by omega) hn_69) _ (lv_sub hl [0, 2, 1, 3, 4] rfl)
                exact L_69 _ G14 hM _ _ hB a_h0 a_b9 x12 i_x12 0 (q_0.wk (by decide)) (Nat.lt_succ_self _) _ (lv_sub hl [0, 1, 2, 3, 4] rfl)
          exact L_61 _ G8 hM _ _ hB a_h0 a_b9 1000000 (q_1000000.wk (by decide)) 0 (q_0.wk (by decide)) (Nat.lt_succ_self _) _ (lv_sub hl [0, 1, 2, 3] rfl)
        · skip
          have i35_x7 : iv_R 0 9 x7 := (i_x7.cutHi (n := 9) (iv_lt_r (iv_nle c11) i_x10 (by decide)))
          have i36_x10 : iv_R 1 10 x10 := (i_x10.cutLo (n := 1) (iv_lt_l (iv_nle c11) i_x7 (by decide)))
          refine lv_aload_n hx hb dX12_noneYet_26 rfl (lv_at hl 1 rfl) ?_
          refine iv_getr X ft_X12 hB a_h0 sh_12 26 (by decide) rfl k_fl_X12_41 dX12_noneYet_27 (fun b38 g_b38 r_b38 e_b38 a_b38 => ?_)
          refine lv_iload_n hx hb dX12_noneYet_30 rfl (lv_at hl 0 rfl) ?_
          refine lv_aload_n hx hb dX12_noneYet_31 rfl (lv_at hl 1 rfl) ?_
          refine lv_iload_n hx hb dX12_noneYet_32 rfl (lv_at hl 0 rfl) ?_
          refine iv_cVi X k_good k_mf_X12_soundingOf k_im_X12_soundingOf k_sel_X12_soundingOf k_ml_X12_353 ft_X12 hB a_h0 sh_12 (As := [.int x7]) (c_X12_soundingOf l D tys base G8 h0 g_h0 r_h0 a_h0 x7 i35_x7) ⟨rfl, rfl⟩ ⟨Nat.le_of_ble_eq_true rfl, Nat.le_of_ble_eq_true rfl⟩ ⟨Nat.le_of_ble_eq_true rfl, Nat.le_of_ble_eq_true rfl⟩ rfl rfl hl.1 (Nat.le_of_ble_eq_true rfl) dX12_noneYet_33 (fun x39 G9 H locs hq hB => ?_)
          obtain ⟨rfl, i_x39⟩ := hq
          refine lv_if_eq (tgt := 47) hx hb dX12_noneYet_36 (by decide) (fun c40 => ?_) (fun c40 => ?_)
          · skip
            have i40_x39 : iv_R 0 0 x39 := (i_x39.cutHi (n := 0) (iv_eq_r c40 q_0).2)
            refine lv_iconst (v := (-1)) hx hb dX12_noneYet_47 (by decide) ?_
            refine iv_ast X hB a_b38 sh_69 (iv_in i35_x7 (by decide)) (q_n1.wk (by decide)) dX12_noneYet_48 (fun H locs hB => ?_)
            have hm := iv_Md.ast (j := x7.toNatClampNeg) (x := (-1)) a_b38 rfl (by decide)
            have h9 := iv_up_eq (G := G8) (a := b38) (k := (69, upd g_b38 x7.toNatClampNeg (-1), r_b38))
            generalize iv_up G8 b38 _ = G42 at hB hm h9
            have hM := hM.stp hm (by decide)
            have a_h0 := hm.at a_h0 (by decide)
            have a_b9 := hm.at a_b9 (by decide)
            refine iv_iinc hx hb i35_x7 (lo := 1) (hi := 10) (by decide) dX12_noneYet_49 hl (k := 0) rfl (by decide) (fun x44 ls e_x44 i_x44 hl => ?_)
            have hl : lv_has ls 5 [(2, .int x44), (0, .ref h0), (1, .int x_0)] := hl
            refine lv_goto (tgt := 14) hx hb dX12_noneYet_52 (by decide) ?_
            exact ih_14 G42 hM _ _ hB a_h0 x44 (i_x44.wk (by decide)) (iv_mup (c := 1) i_x7 (by decide) (by decide) (by omega) hn_14) _ (lv_sub hl [0, 1, 2] rfl)
          · skip
            have i44_x39 : iv_R 1 2147483647 x39 := iv_ne_lo c40 i_x39 q_0 (by decide)
            refine lv_aload_n hx hb dX12_noneYet_39 rfl (lv_at hl 1 rfl) ?_
            refine lv_iload_n hx hb dX12_noneYet_40 rfl (lv_at hl 0 rfl) ?_
            refine iv_cVi X k_good k_mf_X12_comeOf k_im_X12_comeOf k_sel_X12_comeOf k_ml_X12_344 ft_X12 hB a_h0 sh_12 (As := [.int x7]) (c_X12_comeOf l D tys base G8 h0 g_h0 r_h0 a_h0 x7 i35_x7) ⟨rfl, rfl⟩ ⟨Nat.le_of_ble_eq_true rfl, Nat.le_of_ble_eq_true rfl⟩ ⟨Nat.le_of_ble_eq_true rfl, Nat.le_of_ble_eq_true rfl⟩ rfl rfl hl.1 (Nat.le_of_ble_eq_true rfl) dX12_noneYet_41 (fun x46 G9 H locs hq hB => ?_)
            obtain ⟨hm, i_x46⟩ := hq
            obtain ⟨G47, hG9⟩ : ∃ g, g = G9 := ⟨_, rfl⟩
            rw [← hG9] at hm hB
            have hM := hM.stp hm (by decide)
            have a_h0 := hm.at a_h0 (by decide)
            have a_b9 := hm.at a_b9 (by decide)
            have a_b38 := hm.at a_b38 (by decide)
            refine lv_goto (tgt := 48) hx hb dX12_noneYet_44 (by decide) ?_
            refine iv_ast X hB a_b38 sh_69 (iv_in i35_x7 (by decide)) i_x46 dX12_noneYet_48 (fun H locs hB => ?_)
            have hm := iv_Md.ast (j := x7.toNatClampNeg) (x := x46) a_b38 rfl (by decide)
            have h9 := iv_up_eq (G := G47) (a := b38) (k := (69, upd g_b38 x7.toNatClampNeg x46, r_b38))
            generalize iv_up G47 b38 _ = G48 at hB hm h9
            have hM := hM.stp hm (by decide)
            have a_h0 := hm.at a_h0 (by decide)
            have a_b9 := hm.at a_b9 (by decide)
            refine iv_iinc hx hb i35_x7 (lo := 1) (hi := 10) (by decide) dX12_noneYet_49 hl (k := 0) rfl (by decide) (fun x50 ls e_x50 i_x50 hl => ?_)
            have hl : lv_has ls 5 [(2, .int x50), (0, .ref h0), (1, .int x_0)] := hl
            refine lv_goto (tgt := 14) hx hb dX12_noneYet_52 (by decide) ?_
            exact ih_14 G48 hM _ _ hB a_h0 x50 (i_x50.wk (by decide)) (iv_mup (c := 1) i_x7 (by decide) (by decide) (by omega) hn_14) _ (lv_sub hl [0, 1, 2] rfl)
    exact L_14 _ G hM _ _ hB a_h0 0 (q_0.wk (by decide)) (Nat.lt_succ_self _) _ (lv_sub hl [0, 1, 2] rfl)
  · skip
    have i50_x1 : iv_R 0 0 x1 := (i_x1.cutHi (n := 0) (iv_eq_r c4 q_0).2)
    refine lv_iconst (v := (-1)) hx hb dX12_noneYet_10 (by decide) ?_
    exact iv_iret X hr hlocks hB ⟨hM, (q_n1.wk (by decide))⟩ dX12_noneYet_11
theorem dX12_octaves_0 : decode cX12_octaves 0 = .ok (.aload_n 0, 1) := by decide +kernel
theorem dX12_octaves_1 : decode cX12_octaves 1 = .ok (.iload_n 1, 1) := by decide +kernel
theorem dX12_octaves_2 : decode cX12_octaves 2 = .ok (.invokevirtual 76, 3) := by decide +kernel
theorem dX12_octaves_5 : decode cX12_octaves 5 = .ok (.ifCond .ne 5, 3) := by decide +kernel
theorem dX12_octaves_8 : decode cX12_octaves 8 = .ok (.iconst (-1), 1) := by decide +kernel
theorem dX12_octaves_9 : decode cX12_octaves 9 = .ok (.ireturn, 1) := by decide +kernel
theorem dX12_octaves_10 : decode cX12_octaves 10 = .ok (.iconst 0, 1) := by decide +kernel
theorem dX12_octaves_11 : decode cX12_octaves 11 = .ok (.istore_n 2, 1) := by decide +kernel
theorem dX12_octaves_12 : decode cX12_octaves 12 = .ok (.iconst 0, 1) := by decide +kernel
theorem dX12_octaves_13 : decode cX12_octaves 13 = .ok (.istore_n 3, 1) := by decide +kernel
theorem dX12_octaves_14 : decode cX12_octaves 14 = .ok (.iload_n 3, 1) := by decide +kernel
theorem dX12_octaves_15 : decode cX12_octaves 15 = .ok (.aload_n 0, 1) := by decide +kernel
theorem dX12_octaves_16 : decode cX12_octaves 16 = .ok (.getfield 7, 3) := by decide +kernel
theorem dX12_octaves_19 : decode cX12_octaves 19 = .ok (.sipush 146, 3) := by decide +kernel
theorem dX12_octaves_22 : decode cX12_octaves 22 = .ok (.iaload, 1) := by decide +kernel
theorem dX12_octaves_23 : decode cX12_octaves 23 = .ok (.if_icmp .ge 44, 3) := by decide +kernel
theorem dX12_octaves_26 : decode cX12_octaves 26 = .ok (.iload_n 2, 1) := by decide +kernel
theorem dX12_octaves_27 : decode cX12_octaves 27 = .ok (.iload_n 3, 1) := by decide +kernel
theorem dX12_octaves_28 : decode cX12_octaves 28 = .ok (.iload_n 1, 1) := by decide +kernel
theorem dX12_octaves_29 : decode cX12_octaves 29 = .ok (.if_icmp .eq 29, 3) := by decide +kernel
theorem dX12_octaves_32 : decode cX12_octaves 32 = .ok (.aload_n 0, 1) := by decide +kernel
theorem dX12_octaves_33 : decode cX12_octaves 33 = .ok (.iload_n 3, 1) := by decide +kernel
theorem dX12_octaves_34 : decode cX12_octaves 34 = .ok (.bipush 6, 2) := by decide +kernel
theorem dX12_octaves_36 : decode cX12_octaves 36 = .ok (.invokevirtual 282, 3) := by decide +kernel
theorem dX12_octaves_39 : decode cX12_octaves 39 = .ok (.iconst 2, 1) := by decide +kernel
theorem dX12_octaves_40 : decode cX12_octaves 40 = .ok (.if_icmp .eq 18, 3) := by decide +kernel
theorem dX12_octaves_43 : decode cX12_octaves 43 = .ok (.aload_n 0, 1) := by decide +kernel
theorem dX12_octaves_44 : decode cX12_octaves 44 = .ok (.iload_n 3, 1) := by decide +kernel
theorem dX12_octaves_45 : decode cX12_octaves 45 = .ok (.iload_n 1, 1) := by decide +kernel
theorem dX12_octaves_46 : decode cX12_octaves 46 = .ok (.invokevirtual 326, 3) := by decide +kernel
theorem dX12_octaves_49 : decode cX12_octaves 49 = .ok (.ifCond .eq 9, 3) := by decide +kernel
theorem dX12_octaves_52 : decode cX12_octaves 52 = .ok (.iconst 1, 1) := by decide +kernel
theorem dX12_octaves_53 : decode cX12_octaves 53 = .ok (.iload_n 3, 1) := by decide +kernel
theorem dX12_octaves_54 : decode cX12_octaves 54 = .ok (.ishl, 1) := by decide +kernel
theorem dX12_octaves_55 : decode cX12_octaves 55 = .ok (.goto 4, 3) := by decide +kernel
theorem dX12_octaves_58 : decode cX12_octaves 58 = .ok (.iconst 0, 1) := by decide +kernel
theorem dX12_octaves_59 : decode cX12_octaves 59 = .ok (.ior, 1) := by decide +kernel
theorem dX12_octaves_60 : decode cX12_octaves 60 = .ok (.istore_n 2, 1) := by decide +kernel
theorem dX12_octaves_61 : decode cX12_octaves 61 = .ok (.iinc 3 1, 3) := by decide +kernel
theorem dX12_octaves_64 : decode cX12_octaves 64 = .ok (.goto (-50), 3) := by decide +kernel
theorem dX12_octaves_67 : decode cX12_octaves 67 = .ok (.iload_n 2, 1) := by decide +kernel
theorem dX12_octaves_68 : decode cX12_octaves 68 = .ok (.ireturn, 1) := by decide +kernel
set_option maxHeartbeats 4000000 in
set_option maxRecDepth 100000 in
theorem c_X12_octaves (l : Launch) (D : va_G) (tys : List (ClassId × FieldType)) (base : Nat) (G : iv_G) (h0 : Nat) (g_h0 : Nat → Int32) (r_h0 : Nat → Nat) (a_h0 : G h0 = some (12, g_h0, r_h0)) (x_0 : Int32) (i_x_0 : iv_R (-2147483648) 2147483647 x_0) : Met l yX12_octaves (Cond.code yX12_octaves cX12_octaves 4 (some .int) :: iv_W0) ({ frames := 2, cells := 0, slots := 0, locals := 44 }) (iv_Pc iv_sh D classes tys base G [.ref h0, .int x_0]) (iv_Qi iv_sh D classes tys base (fun v G' => G = G' ∧ iv_R (-1) 2047 v)) 0 0 (iv_A base) := by
  refine iv_head (by decide) (Nat.le_of_ble_eq_true rfl) ?_
  intro p e s m args below meth c ls X hr hlocks hname hB hl
  have X := X
  have hx := X.1.1
  have hb := X.1.2.1
  have hl : lv_has ls 4 [(0, .ref h0), (1, .int x_0)] := hl
  refine lv_aload_n hx hb dX12_octaves_0 rfl (lv_at hl 0 rfl) ?_
  refine lv_iload_n hx hb dX12_octaves_1 rfl (lv_at hl 1 rfl) ?_
  refine iv_cVi X k_good k_mf_X12_isBell k_im_X12_isBell k_sel_X12_isBell k_ml_X12_76 ft_X12 hB a_h0 sh_12 (As := [.int x_0]) (c_X12_isBell l D tys base G h0 g_h0 r_h0 a_h0 x_0 i_x_0) ⟨rfl, rfl⟩ ⟨Nat.le_of_ble_eq_true rfl, Nat.le_of_ble_eq_true rfl⟩ ⟨Nat.le_of_ble_eq_true rfl, Nat.le_of_ble_eq_true rfl⟩ rfl rfl hl.1 (Nat.le_of_ble_eq_true rfl) dX12_octaves_2 (fun x1 G9 H locs hq hB => ?_)
  obtain ⟨rfl, i_x1, hp2⟩ := hq
  refine lv_if_ne (tgt := 10) hx hb dX12_octaves_5 (by decide) (fun c3 => ?_) (fun c3 => ?_)
  · skip
    have i3_x1 : iv_R 1 1 x1 := iv_ne_lo c3 i_x1 q_0 (by decide)
    have i4_x_0 : iv_R 0 9 x_0 := ((i_x_0.cutLo (n := 0) (hp2 c3).1).cutHi (n := 9) (hp2 c3).2)
    refine lv_iconst (v := 0) hx hb dX12_octaves_10 (by decide) ?_
    refine lv_istore_n (lv' := [(2, .int 0), (0, .ref h0), (1, .int x_0)]) hx hb dX12_octaves_11 rfl hl (by decide) rfl (fun ls hl => ?_)
    refine lv_iconst (v := 0) hx hb dX12_octaves_12 (by decide) ?_
    refine lv_istore_n (lv' := [(3, .int 0), (2, .int 0), (0, .ref h0), (1, .int x_0)]) hx hb dX12_octaves_13 rfl hl (by decide) rfl (fun ls hl => ?_)
    have L_14 : ∀ (n_14 : Nat) (H : Heap) (locs : List Loc) (hB : iv_B iv_sh D classes tys base G s.heap H locs) (x6 : Int32) (i_x6 : iv_R 0 2047 x6) (x7 : Int32) (i_x7 : iv_R 0 10 x7) (hn_14 : (11 - x7.toInt).toNat < n_14) (ls : Array Slot) (hl : lv_has ls 4 [(3, .int x7), (2, .int x6), (0, .ref h0), (1, .int x_0)]), W p l e ({ frames := 2, cells := 0, slots := 0, locals := 44 } : Room) s m args below meth c H locs 0 0 (MQ below (iv_Qi iv_sh D classes tys base (fun v G' => G = G' ∧ iv_R (-1) 2047 v)) args s 0 0 (iv_A base)) (F0 m 14 ls []) := by
      intro n_14
      induction n_14 with
      | zero => intro H locs hB x6 i_x6 x7 i_x7 hn_14 ls hl; exact absurd hn_14 (Nat.not_lt_zero _)
      | succ n_14 ih_14 =>
        intro H locs hB x6 i_x6 x7 i_x7 hn_14 ls hl
        refine lv_iload_n hx hb dX12_octaves_14 rfl (lv_at hl 0 rfl) ?_
        refine lv_aload_n hx hb dX12_octaves_15 rfl (lv_at hl 2 rfl) ?_
        refine iv_getr X ft_X12 hB a_h0 sh_12 0 (by decide) rfl k_fl_X12_7 dX12_octaves_16 (fun b8 g_b8 r_b8 e_b8 a_b8 => ?_)
        refine lv_sipush (v := 146) hx hb dX12_octaves_19 (by decide) ?_
        refine iv_wald_c X hB a_b8 q_146 (by decide) (lo := 0) (hi' := 10) (by decide) dX12_octaves_22 (fun x9 e_x9 i_x9 => ?_)
        refine lv_icmp_ge (tgt := 67) hx hb dX12_octaves_23 (by decide) (fun c10 => ?_) (fun c10 => ?_)
        · skip
          refine lv_iload_n hx hb dX12_octaves_67 rfl (lv_at hl 1 rfl) ?_
          exact iv_iret X hr hlocks hB ⟨rfl, (i_x6.wk (by decide))⟩ dX12_octaves_68
        · skip
          have i10_x7 : iv_R 0 9 x7 := (i_x7.cutHi (n := 9) (iv_lt_r (iv_nle c10) i_x9 (by decide)))
          have i11_x9 : iv_R 1 10 x9 := (i_x9.cutLo (n := 1) (iv_lt_l (iv_nle c10) i_x7 (by decide)))
          refine lv_iload_n hx hb dX12_octaves_26 rfl (lv_at hl 1 rfl) ?_
          refine lv_iload_n hx hb dX12_octaves_27 rfl (lv_at hl 0 rfl) ?_
          refine lv_iload_n hx hb dX12_octaves_28 rfl (lv_at hl 3 rfl) ?_
          refine lv_icmp_eq (tgt := 58) hx hb dX12_octaves_29 (by decide) (fun c13 => ?_) (fun c13 => ?_)
          · skip
            refine lv_iconst (v := 0) hx hb dX12_octaves_58 (by decide) ?_
            refine iv_ior hx hb i_x6 q_0 (k := 11) (hi := 2047) (by decide) dX12_octaves_59 (fun x14 e_x14 i_x14 => ?_)
            refine lv_istore_n (lv' := [(2, .int x14), (3, .int x7), (0, .ref h0), (1, .int x_0)]) hx hb dX12_octaves_60 rfl hl (by decide) rfl (fun ls hl => ?_)
            refine iv_iinc hx hb i10_x7 (lo := 1) (hi := 10) (by decide) dX12_octaves_61 hl (k := 1) rfl (by decide) (fun x15 ls e_x15 i_x15 hl => ?_)
            have hl : lv_has ls 4 [(3, .int x15), (2, .int x14), (0, .ref h0), (1, .int x_0)] := hl
            refine lv_goto (tgt := 14) hx hb dX12_octaves_64 (by decide) ?_
            exact ih_14 _ _ hB x14 i_x14 x15 (i_x15.wk (by decide)) (iv_mup (c := 1) i_x7 (by decide) (by decide) (by omega) hn_14) _ (lv_sub hl [0, 1, 2, 3] rfl)
          · skip
            refine lv_aload_n hx hb dX12_octaves_32 rfl (lv_at hl 2 rfl) ?_
            refine lv_iload_n hx hb dX12_octaves_33 rfl (lv_at hl 0 rfl) ?_
            refine lv_bipush (v := 6) hx hb dX12_octaves_34 (by decide) ?_
            refine iv_cVi X k_good k_mf_X12_ofBell k_im_X12_ofBell k_sel_X12_ofBell k_ml_X12_282 ft_X12 hB a_h0 sh_12 (As := [.int x7, .int 6]) (c_X12_ofBell l D tys base G h0 g_h0 r_h0 a_h0 x7 i10_x7 6 (q_6.wk (by decide))) ⟨rfl, rfl⟩ ⟨Nat.le_of_ble_eq_true rfl, Nat.le_of_ble_eq_true rfl⟩ ⟨Nat.le_of_ble_eq_true rfl, Nat.le_of_ble_eq_true rfl⟩ rfl rfl hl.1 (Nat.le_of_ble_eq_true rfl) dX12_octaves_36 (fun x16 G9 H locs hq hB => ?_)
            obtain ⟨rfl, i_x16, cp17, cp18⟩ := hq
            refine lv_iconst (v := 2) hx hb dX12_octaves_39 (by decide) ?_
            refine lv_icmp_eq (tgt := 58) hx hb dX12_octaves_40 (by decide) (fun c19 => ?_) (fun c19 => ?_)
            · skip
              have i19_x16 : iv_R 2 2 x16 := ((i_x16.cutLo (n := 2) (iv_eq_r c19 q_2).1).cutHi (n := 2) (iv_eq_r c19 q_2).2)
              refine lv_iconst (v := 0) hx hb dX12_octaves_58 (by decide) ?_
              refine iv_ior hx hb i_x6 q_0 (k := 11) (hi := 2047) (by decide) dX12_octaves_59 (fun x21 e_x21 i_x21 => ?_)
              refine lv_istore_n (lv' := [(2, .int x21), (3, .int x7), (0, .ref h0), (1, .int x_0)]) hx hb dX12_octaves_60 rfl hl (by decide) rfl (fun ls hl => ?_)
              refine iv_iinc hx hb i10_x7 (lo := 1) (hi := 10) (by decide) dX12_octaves_61 hl (k := 1) rfl (by decide) (fun x22 ls e_x22 i_x22 hl => ?_)
              have hl : lv_has ls 4 [(3, .int x22), (2, .int x21), (0, .ref h0), (1, .int x_0)] := hl
              refine lv_goto (tgt := 14) hx hb dX12_octaves_64 (by decide) ?_
              exact ih_14 _ _ hB x21 i_x21 x22 (i_x22.wk (by decide)) (iv_mup (c := 1) i_x7 (by decide) (by decide) (by omega) hn_14) _ (lv_sub hl [0, 1, 2, 3] rfl)
            · skip
              refine lv_aload_n hx hb dX12_octaves_43 rfl (lv_at hl 2 rfl) ?_
              refine lv_iload_n hx hb dX12_octaves_44 rfl (lv_at hl 0 rfl) ?_
              refine lv_iload_n hx hb dX12_octaves_45 rfl (lv_at hl 3 rfl) ?_
              refine iv_cVi X k_good k_mf_X12_isOctave k_im_X12_isOctave k_sel_X12_isOctave k_ml_X12_326 ft_X12 hB a_h0 sh_12 (As := [.int x7, .int x_0]) (c_X12_isOctave l D tys base G h0 g_h0 r_h0 a_h0 x7 i10_x7 x_0 i4_x_0) ⟨rfl, rfl⟩ ⟨Nat.le_of_ble_eq_true rfl, Nat.le_of_ble_eq_true rfl⟩ ⟨Nat.le_of_ble_eq_true rfl, Nat.le_of_ble_eq_true rfl⟩ rfl rfl hl.1 (Nat.le_of_ble_eq_true rfl) dX12_octaves_46 (fun x23 G9 H locs hq hB => ?_)
              obtain ⟨rfl, i_x23⟩ := hq
              refine lv_if_eq (tgt := 58) hx hb dX12_octaves_49 (by decide) (fun c24 => ?_) (fun c24 => ?_)
              · skip
                have i24_x23 : iv_R 0 0 x23 := (i_x23.cutHi (n := 0) (iv_eq_r c24 q_0).2)
                refine lv_iconst (v := 0) hx hb dX12_octaves_58 (by decide) ?_
                refine iv_ior hx hb i_x6 q_0 (k := 11) (hi := 2047) (by decide) dX12_octaves_59 (fun x26 e_x26 i_x26 => ?_)
                refine lv_istore_n (lv' := [(2, .int x26), (3, .int x7), (0, .ref h0), (1, .int x_0)]) hx hb dX12_octaves_60 rfl hl (by decide) rfl (fun ls hl => ?_)
                refine iv_iinc hx hb i10_x7 (lo := 1) (hi := 10) (by decide) dX12_octaves_61 hl (k := 1) rfl (by decide) (fun x27 ls e_x27 i_x27 hl => ?_)
                have hl : lv_has ls 4 [(3, .int x27), (2, .int x26), (0, .ref h0), (1, .int x_0)] := hl
                refine lv_goto (tgt := 14) hx hb dX12_octaves_64 (by decide) ?_
                exact ih_14 _ _ hB x26 i_x26 x27 (i_x27.wk (by decide)) (iv_mup (c := 1) i_x7 (by decide) (by decide) (by omega) hn_14) _ (lv_sub hl [0, 1, 2, 3] rfl)
              · skip
                have i27_x23 : iv_R 1 1 x23 := iv_ne_lo c24 i_x23 q_0 (by decide)
                refine lv_iconst (v := 1) hx hb dX12_octaves_52 (by decide) ?_
                refine lv_iload_n hx hb dX12_octaves_53 rfl (lv_at hl 0 rfl) ?_
                refine iv_shl1 hx hb i10_x7 (lo := 1) (hi := 512) (by decide) dX12_octaves_54 (fun x29 e_x29 i_x29 => ?_)
                refine lv_goto (tgt := 59) hx hb dX12_octaves_55 (by decide) ?_
                refine iv_ior hx hb i_x6 i_x29 (k := 11) (hi := 2047) (by decide) dX12_octaves_59 (fun x30 e_x30 i_x30 => ?_)
                refine lv_istore_n (lv' := [(2, .int x30), (3, .int x7), (0, .ref h0), (1, .int x_0)]) hx hb dX12_octaves_60 rfl hl (by decide) rfl (fun ls hl => ?_)
                refine iv_iinc hx hb i10_x7 (lo := 1) (hi := 10) (by decide) dX12_octaves_61 hl (k := 1) rfl (by decide) (fun x31 ls e_x31 i_x31 hl => ?_)
                have hl : lv_has ls 4 [(3, .int x31), (2, .int x30), (0, .ref h0), (1, .int x_0)] := hl
                refine lv_goto (tgt := 14) hx hb dX12_octaves_64 (by decide) ?_
                exact ih_14 _ _ hB x30 i_x30 x31 (i_x31.wk (by decide)) (iv_mup (c := 1) i_x7 (by decide) (by decide) (by omega) hn_14) _ (lv_sub hl [0, 1, 2, 3] rfl)
    exact L_14 _ _ _ hB 0 (q_0.wk (by decide)) 0 (q_0.wk (by decide)) (Nat.lt_succ_self _) _ (lv_sub hl [0, 1, 2, 3] rfl)
  · skip
    have i31_x1 : iv_R 0 0 x1 := (i_x1.cutHi (n := 0) (iv_eq_r c3 q_0).2)
    refine lv_iconst (v := (-1)) hx hb dX12_octaves_8 (by decide) ?_
    exact iv_iret X hr hlocks hB ⟨rfl, (q_n1.wk (by decide))⟩ dX12_octaves_9
theorem dX12_of_0 : decode cX12_of 0 = .ok (.aload_n 0, 1) := by decide +kernel
theorem dX12_of_1 : decode cX12_of 1 = .ok (.iload_n 1, 1) := by decide +kernel
theorem dX12_of_2 : decode cX12_of 2 = .ok (.invokevirtual 76, 3) := by decide +kernel
theorem dX12_of_5 : decode cX12_of 5 = .ok (.ifCond .ne 6, 3) := by decide +kernel
theorem dX12_of_8 : decode cX12_of 8 = .ok (.bipush (-2), 2) := by decide +kernel
theorem dX12_of_10 : decode cX12_of 10 = .ok (.ireturn, 1) := by decide +kernel
theorem dX12_of_11 : decode cX12_of 11 = .ok (.iload_n 2, 1) := by decide +kernel
theorem dX12_of_12 : decode cX12_of 12 = .ok (.tableswitch 56 8 11 #[32, 38, 44, 50], 32) := by decide +kernel
theorem dX12_of_44 : decode cX12_of 44 = .ok (.aload_n 0, 1) := by decide +kernel
theorem dX12_of_45 : decode cX12_of 45 = .ok (.iload_n 1, 1) := by decide +kernel
theorem dX12_of_46 : decode cX12_of 46 = .ok (.invokevirtual 353, 3) := by decide +kernel
theorem dX12_of_49 : decode cX12_of 49 = .ok (.ireturn, 1) := by decide +kernel
theorem dX12_of_50 : decode cX12_of 50 = .ok (.aload_n 0, 1) := by decide +kernel
theorem dX12_of_51 : decode cX12_of 51 = .ok (.iload_n 1, 1) := by decide +kernel
theorem dX12_of_52 : decode cX12_of 52 = .ok (.invokevirtual 317, 3) := by decide +kernel
theorem dX12_of_55 : decode cX12_of 55 = .ok (.ireturn, 1) := by decide +kernel
theorem dX12_of_56 : decode cX12_of 56 = .ok (.aload_n 0, 1) := by decide +kernel
theorem dX12_of_57 : decode cX12_of 57 = .ok (.iload_n 1, 1) := by decide +kernel
theorem dX12_of_58 : decode cX12_of 58 = .ok (.invokevirtual 344, 3) := by decide +kernel
theorem dX12_of_61 : decode cX12_of 61 = .ok (.ireturn, 1) := by decide +kernel
theorem dX12_of_62 : decode cX12_of 62 = .ok (.aload_n 0, 1) := by decide +kernel
theorem dX12_of_63 : decode cX12_of 63 = .ok (.iload_n 1, 1) := by decide +kernel
theorem dX12_of_64 : decode cX12_of 64 = .ok (.invokevirtual 347, 3) := by decide +kernel
theorem dX12_of_67 : decode cX12_of 67 = .ok (.ireturn, 1) := by decide +kernel
theorem dX12_of_68 : decode cX12_of 68 = .ok (.iload_n 2, 1) := by decide +kernel
theorem dX12_of_69 : decode cX12_of 69 = .ok (.iconst 0, 1) := by decide +kernel
theorem dX12_of_70 : decode cX12_of 70 = .ok (.bipush 7, 2) := by decide +kernel
theorem dX12_of_72 : decode cX12_of 72 = .ok (.invokestatic 56, 3) := by decide +kernel
theorem dX12_of_75 : decode cX12_of 75 = .ok (.ifCond .eq 12, 3) := by decide +kernel
theorem dX12_of_78 : decode cX12_of 78 = .ok (.aload_n 0, 1) := by decide +kernel
theorem dX12_of_79 : decode cX12_of 79 = .ok (.iload_n 1, 1) := by decide +kernel
theorem dX12_of_80 : decode cX12_of 80 = .ok (.iload_n 2, 1) := by decide +kernel
theorem dX12_of_81 : decode cX12_of 81 = .ok (.invokevirtual 282, 3) := by decide +kernel
theorem dX12_of_84 : decode cX12_of 84 = .ok (.goto 5, 3) := by decide +kernel
theorem dX12_of_87 : decode cX12_of 87 = .ok (.bipush (-2), 2) := by decide +kernel
theorem dX12_of_89 : decode cX12_of 89 = .ok (.ireturn, 1) := by decide +kernel
set_option maxHeartbeats 4000000 in
set_option maxRecDepth 100000 in
theorem c_X12_of (l : Launch) (D : va_G) (tys : List (ClassId × FieldType)) (base : Nat) (G : iv_G) (h0 : Nat) (g_h0 : Nat → Int32) (r_h0 : Nat → Nat) (a_h0 : G h0 = some (12, g_h0, r_h0)) (x_0 : Int32) (i_x_0 : iv_R (-2147483648) 2147483647 x_0) (x_1 : Int32) (i_x_1 : iv_R (-2147483648) 2147483647 x_1) : Met l yX12_of (Cond.code yX12_of cX12_of 3 (some .int) :: iv_W0) ({ frames := 10, cells := 0, slots := 0, locals := 232 }) (iv_Pc iv_sh D classes tys base G [.ref h0, .int x_0, .int x_1]) (iv_Qi iv_sh D classes tys base (fun v G' => iv_Md [67, 68] G G' ∧ iv_R (-2147483648) 2147483647 v)) 0 0 (iv_A base) := by
  refine iv_head (by decide) (Nat.le_of_ble_eq_true rfl) ?_
  intro p e s m args below meth c ls X hr hlocks hname hB hl
  have X := X
  have hx := X.1.1
  have hb := X.1.2.1
  have hM : iv_Md [67, 68] G G := iv_Md.rf
  have hl : lv_has ls 3 [(0, .ref h0), (1, .int x_0), (2, .int x_1)] := hl
  refine lv_aload_n hx hb dX12_of_0 rfl (lv_at hl 0 rfl) ?_
  refine lv_iload_n hx hb dX12_of_1 rfl (lv_at hl 1 rfl) ?_
  refine iv_cVi X k_good k_mf_X12_isBell k_im_X12_isBell k_sel_X12_isBell k_ml_X12_76 ft_X12 hB a_h0 sh_12 (As := [.int x_0]) (c_X12_isBell l D tys base G h0 g_h0 r_h0 a_h0 x_0 i_x_0) ⟨rfl, rfl⟩ ⟨Nat.le_of_ble_eq_true rfl, Nat.le_of_ble_eq_true rfl⟩ ⟨Nat.le_of_ble_eq_true rfl, Nat.le_of_ble_eq_true rfl⟩ rfl rfl hl.1 (Nat.le_of_ble_eq_true rfl) dX12_of_2 (fun x1 G9 H locs hq hB => ?_)
  obtain ⟨rfl, i_x1, hp2⟩ := hq
  refine lv_if_ne (tgt := 11) hx hb dX12_of_5 (by decide) (fun c3 => ?_) (fun c3 => ?_)
  · skip
    have i3_x1 : iv_R 1 1 x1 := iv_ne_lo c3 i_x1 q_0 (by decide)
    have i4_x_0 : iv_R 0 9 x_0 := ((i_x_0.cutLo (n := 0) (hp2 c3).1).cutHi (n := 9) (hp2 c3).2)
    refine lv_iload_n hx hb dX12_of_11 rfl (lv_at hl 2 rfl) ?_
    by_cases w6 : x_1.toInt = 8
    · skip
      refine lv_tableIn (tgt := 44) hx hb dX12_of_12 (by omega) (by omega) (by rw [w6]; rfl) (by decide) ?_
      have w6i : iv_R 8 8 x_1 := iv_lit w6
      refine lv_aload_n hx hb dX12_of_44 rfl (lv_at hl 0 rfl) ?_
      refine lv_iload_n hx hb dX12_of_45 rfl (lv_at hl 1 rfl) ?_
      refine iv_cVi X k_good k_mf_X12_soundingOf k_im_X12_soundingOf k_sel_X12_soundingOf k_ml_X12_353 ft_X12 hB a_h0 sh_12 (As := [.int x_0]) (c_X12_soundingOf l D tys base G h0 g_h0 r_h0 a_h0 x_0 i4_x_0) ⟨rfl, rfl⟩ ⟨Nat.le_of_ble_eq_true rfl, Nat.le_of_ble_eq_true rfl⟩ ⟨Nat.le_of_ble_eq_true rfl, Nat.le_of_ble_eq_true rfl⟩ rfl rfl hl.1 (Nat.le_of_ble_eq_true rfl) dX12_of_46 (fun x7 G9 H locs hq hB => ?_)
      obtain ⟨rfl, i_x7⟩ := hq
      exact iv_iret X hr hlocks hB ⟨hM, (i_x7.wk (by decide))⟩ dX12_of_49
    skip
    by_cases w8 : x_1.toInt = 9
    · skip
      refine lv_tableIn (tgt := 50) hx hb dX12_of_12 (by omega) (by omega) (by rw [w8]; rfl) (by decide) ?_
      have w8i : iv_R 9 9 x_1 := iv_lit w8
      refine lv_aload_n hx hb dX12_of_50 rfl (lv_at hl 0 rfl) ?_
      refine lv_iload_n hx hb dX12_of_51 rfl (lv_at hl 1 rfl) ?_
      refine iv_cVi X k_good k_mf_X12_clearOf k_im_X12_clearOf k_sel_X12_clearOf k_ml_X12_317 ft_X12 hB a_h0 sh_12 (As := [.int x_0]) (c_X12_clearOf l D tys base G h0 g_h0 r_h0 a_h0 x_0 i4_x_0) ⟨rfl, rfl⟩ ⟨Nat.le_of_ble_eq_true rfl, Nat.le_of_ble_eq_true rfl⟩ ⟨Nat.le_of_ble_eq_true rfl, Nat.le_of_ble_eq_true rfl⟩ rfl rfl hl.1 (Nat.le_of_ble_eq_true rfl) dX12_of_52 (fun x9 G9 H locs hq hB => ?_)
      obtain ⟨hm, i_x9⟩ := hq
      obtain ⟨G10, hG9⟩ : ∃ g, g = G9 := ⟨_, rfl⟩
      rw [← hG9] at hm hB
      have hM := hM.stp hm (by decide)
      have a_h0 := hm.at a_h0 (by decide)
      exact iv_iret X hr hlocks hB ⟨hM, (i_x9.wk (by decide))⟩ dX12_of_55
    skip
    by_cases w11 : x_1.toInt = 10
    · skip
      refine lv_tableIn (tgt := 56) hx hb dX12_of_12 (by omega) (by omega) (by rw [w11]; rfl) (by decide) ?_
      have w11i : iv_R 10 10 x_1 := iv_lit w11
      refine lv_aload_n hx hb dX12_of_56 rfl (lv_at hl 0 rfl) ?_
      refine lv_iload_n hx hb dX12_of_57 rfl (lv_at hl 1 rfl) ?_
      refine iv_cVi X k_good k_mf_X12_comeOf k_im_X12_comeOf k_sel_X12_comeOf k_ml_X12_344 ft_X12 hB a_h0 sh_12 (As := [.int x_0]) (c_X12_comeOf l D tys base G h0 g_h0 r_h0 a_h0 x_0 i4_x_0) ⟨rfl, rfl⟩ ⟨Nat.le_of_ble_eq_true rfl, Nat.le_of_ble_eq_true rfl⟩ ⟨Nat.le_of_ble_eq_true rfl, Nat.le_of_ble_eq_true rfl⟩ rfl rfl hl.1 (Nat.le_of_ble_eq_true rfl) dX12_of_58 (fun x12 G9 H locs hq hB => ?_)
      obtain ⟨hm, i_x12⟩ := hq
      obtain ⟨G13, hG9⟩ : ∃ g, g = G9 := ⟨_, rfl⟩
      rw [← hG9] at hm hB
      have hM := hM.stp hm (by decide)
      have a_h0 := hm.at a_h0 (by decide)
      exact iv_iret X hr hlocks hB ⟨hM, i_x12⟩ dX12_of_61
    skip
    by_cases w14 : x_1.toInt = 11
    · skip
      refine lv_tableIn (tgt := 62) hx hb dX12_of_12 (by omega) (by omega) (by rw [w14]; rfl) (by decide) ?_
      have w14i : iv_R 11 11 x_1 := iv_lit w14
      refine lv_aload_n hx hb dX12_of_62 rfl (lv_at hl 0 rfl) ?_
      refine lv_iload_n hx hb dX12_of_63 rfl (lv_at hl 1 rfl) ?_
      refine iv_cVi X k_good k_mf_X12_slackOf k_im_X12_slackOf k_sel_X12_slackOf k_ml_X12_347 ft_X12 hB a_h0 sh_12 (As := [.int x_0]) (c_X12_slackOf l D tys base G h0 g_h0 r_h0 a_h0 x_0 i4_x_0) ⟨rfl, rfl⟩ ⟨Nat.le_of_ble_eq_true rfl, Nat.le_of_ble_eq_true rfl⟩ ⟨Nat.le_of_ble_eq_true rfl, Nat.le_of_ble_eq_true rfl⟩ rfl rfl hl.1 (Nat.le_of_ble_eq_true rfl) dX12_of_64 (fun x15 G9 H locs hq hB => ?_)
      obtain ⟨hm, i_x15⟩ := hq
      obtain ⟨G16, hG9⟩ : ∃ g, g = G9 := ⟨_, rfl⟩
      rw [← hG9] at hm hB
      have hM := hM.stp hm (by decide)
      have a_h0 := hm.at a_h0 (by decide)
      exact iv_iret X hr hlocks hB ⟨hM, i_x15⟩ dX12_of_67
    skip
    refine lv_tableOut (tgt := 68) hx hb dX12_of_12 (by have := i_x_1.1; have := i_x_1.2; omega) (by decide) ?_
    refine lv_iload_n hx hb dX12_of_68 rfl (lv_at hl 2 rfl) ?_
    refine lv_iconst (v := 0) hx hb dX12_of_69 (by decide) ?_
    refine lv_bipush (v := 7) hx hb dX12_of_70 (by decide) ?_
    refine iv_cSi X k_good k_mf_X12_isIn k_st_X12_isIn k_ml_X12_56 hB (As := [.int x_1, .int 0, .int 7]) (c_X12_isIn l D tys base G x_1 i_x_1 0 (q_0.wk (by decide)) 7 (q_7.wk (by decide))) ⟨rfl, rfl⟩ ⟨Nat.le_of_ble_eq_true rfl, Nat.le_of_ble_eq_true rfl⟩ ⟨Nat.le_of_ble_eq_true rfl, Nat.le_of_ble_eq_true rfl⟩ rfl rfl hl.1 (Nat.le_of_ble_eq_true rfl) dX12_of_72 (fun x17 G9 H locs hq hB => ?_)
    obtain ⟨rfl, i_x17, hp18⟩ := hq
    have k19 : ¬ x17 = 0 → iv_R 0 7 x_1 := fun h => ⟨iv_max i_x_1.1 (Int.le_trans q_0.1 (hp18.1 h).1) (by decide), iv_min i_x_1.2 (Int.le_trans (hp18.1 h).2 q_7.2) (by decide)⟩
    refine lv_if_eq (tgt := 87) hx hb dX12_of_75 (by decide) (fun c20 => ?_) (fun c20 => ?_)
    · skip
      have i20_x17 : iv_R 0 0 x17 := (i_x17.cutHi (n := 0) (iv_eq_r c20 q_0).2)
      refine lv_bipush (v := (-2)) hx hb dX12_of_87 (by decide) ?_
      exact iv_iret X hr hlocks hB ⟨hM, (q_n2.wk (by decide))⟩ dX12_of_89
    · skip
      have i21_x17 : iv_R 1 1 x17 := iv_ne_lo c20 i_x17 q_0 (by decide)
      have i22_x_1 : iv_R 0 7 x_1 := ((i_x_1.cutLo (n := 0) (k19 c20).1).cutHi (n := 7) (k19 c20).2)
      refine lv_aload_n hx hb dX12_of_78 rfl (lv_at hl 0 rfl) ?_
      refine lv_iload_n hx hb dX12_of_79 rfl (lv_at hl 1 rfl) ?_
      refine lv_iload_n hx hb dX12_of_80 rfl (lv_at hl 2 rfl) ?_
      refine iv_cVi X k_good k_mf_X12_ofBell k_im_X12_ofBell k_sel_X12_ofBell k_ml_X12_282 ft_X12 hB a_h0 sh_12 (As := [.int x_0, .int x_1]) (c_X12_ofBell l D tys base G h0 g_h0 r_h0 a_h0 x_0 i4_x_0 x_1 i22_x_1) ⟨rfl, rfl⟩ ⟨Nat.le_of_ble_eq_true rfl, Nat.le_of_ble_eq_true rfl⟩ ⟨Nat.le_of_ble_eq_true rfl, Nat.le_of_ble_eq_true rfl⟩ rfl rfl hl.1 (Nat.le_of_ble_eq_true rfl) dX12_of_81 (fun x24 G9 H locs hq hB => ?_)
      obtain ⟨rfl, i_x24, cp25, cp26⟩ := hq
      refine lv_goto (tgt := 89) hx hb dX12_of_84 (by decide) ?_
      exact iv_iret X hr hlocks hB ⟨hM, i_x24⟩ dX12_of_89
  · skip
    have i26_x1 : iv_R 0 0 x1 := (i_x1.cutHi (n := 0) (iv_eq_r c3 q_0).2)
    refine lv_bipush (v := (-2)) hx hb dX12_of_8 (by decide) ?_
    exact iv_iret X hr hlocks hB ⟨hM, (q_n2.wk (by decide))⟩ dX12_of_10
theorem dX12_placed_0 : decode cX12_placed 0 = .ok (.aload_n 0, 1) := by decide +kernel
theorem dX12_placed_1 : decode cX12_placed 1 = .ok (.iload_n 1, 1) := by decide +kernel
theorem dX12_placed_2 : decode cX12_placed 2 = .ok (.invokevirtual 386, 3) := by decide +kernel
theorem dX12_placed_5 : decode cX12_placed 5 = .ok (.ifCond .ne 5, 3) := by decide +kernel
theorem dX12_placed_8 : decode cX12_placed 8 = .ok (.iconst (-1), 1) := by decide +kernel
theorem dX12_placed_9 : decode cX12_placed 9 = .ok (.ireturn, 1) := by decide +kernel
theorem dX12_placed_10 : decode cX12_placed 10 = .ok (.aload_n 0, 1) := by decide +kernel
theorem dX12_placed_11 : decode cX12_placed 11 = .ok (.iload_n 1, 1) := by decide +kernel
theorem dX12_placed_12 : decode cX12_placed 12 = .ok (.iconst 0, 1) := by decide +kernel
theorem dX12_placed_13 : decode cX12_placed 13 = .ok (.invokevirtual 282, 3) := by decide +kernel
theorem dX12_placed_16 : decode cX12_placed 16 = .ok (.istore_n 2, 1) := by decide +kernel
theorem dX12_placed_17 : decode cX12_placed 17 = .ok (.iconst (-1), 1) := by decide +kernel
theorem dX12_placed_18 : decode cX12_placed 18 = .ok (.istore_n 3, 1) := by decide +kernel
theorem dX12_placed_19 : decode cX12_placed 19 = .ok (.iconst (-1), 1) := by decide +kernel
theorem dX12_placed_20 : decode cX12_placed 20 = .ok (.istore 4, 2) := by decide +kernel
theorem dX12_placed_22 : decode cX12_placed 22 = .ok (.iconst 0, 1) := by decide +kernel
theorem dX12_placed_23 : decode cX12_placed 23 = .ok (.istore 5, 2) := by decide +kernel
theorem dX12_placed_25 : decode cX12_placed 25 = .ok (.iload 5, 2) := by decide +kernel
theorem dX12_placed_27 : decode cX12_placed 27 = .ok (.iconst 4, 1) := by decide +kernel
theorem dX12_placed_28 : decode cX12_placed 28 = .ok (.if_icmp .ge 44, 3) := by decide +kernel
theorem dX12_placed_31 : decode cX12_placed 31 = .ok (.aload_n 0, 1) := by decide +kernel
theorem dX12_placed_32 : decode cX12_placed 32 = .ok (.iload_n 1, 1) := by decide +kernel
theorem dX12_placed_33 : decode cX12_placed 33 = .ok (.iconst 0, 1) := by decide +kernel
theorem dX12_placed_34 : decode cX12_placed 34 = .ok (.iload 5, 2) := by decide +kernel
theorem dX12_placed_36 : decode cX12_placed 36 = .ok (.invokevirtual 72, 3) := by decide +kernel
theorem dX12_placed_39 : decode cX12_placed 39 = .ok (.aload_n 0, 1) := by decide +kernel
theorem dX12_placed_40 : decode cX12_placed 40 = .ok (.iload_n 1, 1) := by decide +kernel
theorem dX12_placed_41 : decode cX12_placed 41 = .ok (.invokevirtual 317, 3) := by decide +kernel
theorem dX12_placed_44 : decode cX12_placed 44 = .ok (.invokestatic 320, 3) := by decide +kernel
theorem dX12_placed_47 : decode cX12_placed 47 = .ok (.istore 6, 2) := by decide +kernel
theorem dX12_placed_49 : decode cX12_placed 49 = .ok (.iload 6, 2) := by decide +kernel
theorem dX12_placed_51 : decode cX12_placed 51 = .ok (.iload 4, 2) := by decide +kernel
theorem dX12_placed_53 : decode cX12_placed 53 = .ok (.if_icmp .gt 6, 3) := by decide +kernel
theorem dX12_placed_56 : decode cX12_placed 56 = .ok (.goto 10, 3) := by decide +kernel
theorem dX12_placed_59 : decode cX12_placed 59 = .ok (.iload 6, 2) := by decide +kernel
theorem dX12_placed_61 : decode cX12_placed 61 = .ok (.istore 4, 2) := by decide +kernel
theorem dX12_placed_63 : decode cX12_placed 63 = .ok (.iload 5, 2) := by decide +kernel
theorem dX12_placed_65 : decode cX12_placed 65 = .ok (.istore_n 3, 1) := by decide +kernel
theorem dX12_placed_66 : decode cX12_placed 66 = .ok (.iinc 5 1, 3) := by decide +kernel
theorem dX12_placed_69 : decode cX12_placed 69 = .ok (.goto (-44), 3) := by decide +kernel
theorem dX12_placed_72 : decode cX12_placed 72 = .ok (.aload_n 0, 1) := by decide +kernel
theorem dX12_placed_73 : decode cX12_placed 73 = .ok (.iload_n 1, 1) := by decide +kernel
theorem dX12_placed_74 : decode cX12_placed 74 = .ok (.iconst 0, 1) := by decide +kernel
theorem dX12_placed_75 : decode cX12_placed 75 = .ok (.iload_n 2, 1) := by decide +kernel
theorem dX12_placed_76 : decode cX12_placed 76 = .ok (.invokevirtual 72, 3) := by decide +kernel
theorem dX12_placed_79 : decode cX12_placed 79 = .ok (.iload_n 3, 1) := by decide +kernel
theorem dX12_placed_80 : decode cX12_placed 80 = .ok (.ireturn, 1) := by decide +kernel
set_option maxHeartbeats 4000000 in
set_option maxRecDepth 100000 in
theorem c_X12_placed (l : Launch) (D : va_G) (tys : List (ClassId × FieldType)) (base : Nat) (G : iv_G) (h0 : Nat) (g_h0 : Nat → Int32) (r_h0 : Nat → Nat) (a_h0 : G h0 = some (12, g_h0, r_h0)) (x_0 : Int32) (i_x_0 : iv_R (-2147483648) 2147483647 x_0) : Met l yX12_placed (Cond.code yX12_placed cX12_placed 7 (some .int) :: iv_W0) ({ frames := 8, cells := 0, slots := 0, locals := 188 }) (iv_Pc iv_sh D classes tys base G [.ref h0, .int x_0]) (iv_Qi iv_sh D classes tys base (fun v G' => iv_Md [60, 67, 68] G G' ∧ iv_R (-1) 3 v)) 0 0 (iv_A base) := by
  refine iv_head (by decide) (Nat.le_of_ble_eq_true rfl) ?_
  intro p e s m args below meth c ls X hr hlocks hname hB hl
  have X := X
  have hx := X.1.1
  have hb := X.1.2.1
  have hM : iv_Md [60, 67, 68] G G := iv_Md.rf
  have hl : lv_has ls 7 [(0, .ref h0), (1, .int x_0)] := hl
  refine lv_aload_n hx hb dX12_placed_0 rfl (lv_at hl 0 rfl) ?_
  refine lv_iload_n hx hb dX12_placed_1 rfl (lv_at hl 1 rfl) ?_
  refine iv_cVi X k_good k_mf_X12_isRungBell k_im_X12_isRungBell k_sel_X12_isRungBell k_ml_X12_386 ft_X12 hB a_h0 sh_12 (As := [.int x_0]) (c_X12_isRungBell l D tys base G h0 g_h0 r_h0 a_h0 x_0 i_x_0) ⟨rfl, rfl⟩ ⟨Nat.le_of_ble_eq_true rfl, Nat.le_of_ble_eq_true rfl⟩ ⟨Nat.le_of_ble_eq_true rfl, Nat.le_of_ble_eq_true rfl⟩ rfl rfl hl.1 (Nat.le_of_ble_eq_true rfl) dX12_placed_2 (fun x1 G9 H locs hq hB => ?_)
  obtain ⟨rfl, i_x1, hp2⟩ := hq
  refine lv_if_ne (tgt := 10) hx hb dX12_placed_5 (by decide) (fun c3 => ?_) (fun c3 => ?_)
  · skip
    have i3_x1 : iv_R 1 1 x1 := iv_ne_lo c3 i_x1 q_0 (by decide)
    have i4_x_0 : iv_R 0 9 x_0 := ((i_x_0.cutLo (n := 0) (hp2 c3).1).cutHi (n := 9) (hp2 c3).2)
    refine lv_aload_n hx hb dX12_placed_10 rfl (lv_at hl 0 rfl) ?_
    refine lv_iload_n hx hb dX12_placed_11 rfl (lv_at hl 1 rfl) ?_
    refine lv_iconst (v := 0) hx hb dX12_placed_12 (by decide) ?_
    refine iv_cVi X k_good k_mf_X12_ofBell k_im_X12_ofBell k_sel_X12_ofBell k_ml_X12_282 ft_X12 hB a_h0 sh_12 (As := [.int x_0, .int 0]) (c_X12_ofBell l D tys base G h0 g_h0 r_h0 a_h0 x_0 i4_x_0 0 (q_0.wk (by decide))) ⟨rfl, rfl⟩ ⟨Nat.le_of_ble_eq_true rfl, Nat.le_of_ble_eq_true rfl⟩ ⟨Nat.le_of_ble_eq_true rfl, Nat.le_of_ble_eq_true rfl⟩ rfl rfl hl.1 (Nat.le_of_ble_eq_true rfl) dX12_placed_13 (fun x6 G9 H locs hq hB => ?_)
    obtain ⟨rfl, i_x6, cp7, cp8⟩ := hq
    have i8_x6 : iv_R 0 3 x6 := cp7 rfl
    refine lv_istore_n (lv' := [(2, .int x6), (0, .ref h0), (1, .int x_0)]) hx hb dX12_placed_16 rfl hl (by decide) rfl (fun ls hl => ?_)
    refine lv_iconst (v := (-1)) hx hb dX12_placed_17 (by decide) ?_
    refine lv_istore_n (lv' := [(3, .int (-1)), (2, .int x6), (0, .ref h0), (1, .int x_0)]) hx hb dX12_placed_18 rfl hl (by decide) rfl (fun ls hl => ?_)
    refine lv_iconst (v := (-1)) hx hb dX12_placed_19 (by decide) ?_
    refine lv_istore (lv' := [(4, .int (-1)), (3, .int (-1)), (2, .int x6), (0, .ref h0), (1, .int x_0)]) hx hb dX12_placed_20 hl (by decide) rfl (fun ls hl => ?_)
    refine lv_iconst (v := 0) hx hb dX12_placed_22 (by decide) ?_
    refine lv_istore (lv' := [(5, .int 0), (4, .int (-1)), (3, .int (-1)), (2, .int x6), (0, .ref h0), (1, .int x_0)]) hx hb dX12_placed_23 hl (by decide) rfl (fun ls hl => ?_)
    have L_25 : ∀ (n_25 : Nat) (G13 : iv_G) (hM : iv_Md [60, 67, 68] G G13) (H : Heap) (locs : List Loc) (hB : iv_B iv_sh D classes tys base G13 s.heap H locs) (a_h0 : G13 h0 = some (12, g_h0, r_h0)) (x10 : Int32) (i_x10 : iv_R (-1) 3 x10) (x11 : Int32) (i_x11 : iv_R (-1) 2147483647 x11) (x12 : Int32) (i_x12 : iv_R 0 4 x12) (hn_25 : (5 - x12.toInt).toNat < n_25) (ls : Array Slot) (hl : lv_has ls 7 [(5, .int x12), (4, .int x11), (3, .int x10), (2, .int x6), (0, .ref h0), (1, .int x_0)]), W p l e ({ frames := 8, cells := 0, slots := 0, locals := 188 } : Room) s m args below meth c H locs 0 0 (MQ below (iv_Qi iv_sh D classes tys base (fun v G' => iv_Md [60, 67, 68] G G' ∧ iv_R (-1) 3 v)) args s 0 0 (iv_A base)) (F0 m 25 ls []) := by
      intro n_25
      induction n_25 with
      | zero => intro G13 hM H locs hB a_h0 x10 i_x10 x11 i_x11 x12 i_x12 hn_25 ls hl; exact absurd hn_25 (Nat.not_lt_zero _)
      | succ n_25 ih_25 =>
        intro G13 hM H locs hB a_h0 x10 i_x10 x11 i_x11 x12 i_x12 hn_25 ls hl
        refine lv_iload hx hb dX12_placed_25 (lv_at hl 0 rfl) ?_
        refine lv_iconst (v := 4) hx hb dX12_placed_27 (by decide) ?_
        refine lv_icmp_ge (tgt := 72) hx hb dX12_placed_28 (by decide) (fun c14 => ?_) (fun c14 => ?_)
        · skip
          have i14_x12 : iv_R 4 4 x12 := (i_x12.cutLo (n := 4) (iv_le_l c14 q_4))
          refine lv_aload_n hx hb dX12_placed_72 rfl (lv_at hl 4 rfl) ?_
          refine lv_iload_n hx hb dX12_placed_73 rfl (lv_at hl 5 rfl) ?_
          refine lv_iconst (v := 0) hx hb dX12_placed_74 (by decide) ?_
          refine lv_iload_n hx hb dX12_placed_75 rfl (lv_at hl 3 rfl) ?_
          refine iv_cVv X k_good k_mf_X12_bells k_im_X12_bells k_sel_X12_bells k_ml_X12_72 ft_X12 hB a_h0 sh_12 (As := [.int x_0, .int 0, .int x6]) (c_X12_bells l D tys base G13 h0 g_h0 r_h0 a_h0 x_0 i4_x_0 0 (q_0.wk (by decide)) x6 (i8_x6.wk (by decide)) (fun _ => i8_x6) (fun h => absurd h (by decide))) ⟨rfl, rfl⟩ ⟨Nat.le_of_ble_eq_true rfl, Nat.le_of_ble_eq_true rfl⟩ ⟨Nat.le_of_ble_eq_true rfl, Nat.le_of_ble_eq_true rfl⟩ rfl rfl hl.1 (Nat.le_of_ble_eq_true rfl) dX12_placed_76 (fun G9 H locs hq hB => ?_)
          have hm := hq
          obtain ⟨G16, hG9⟩ : ∃ g, g = G9 := ⟨_, rfl⟩
          rw [← hG9] at hm hB
          have hM := hM.stp hm (by decide)
          have a_h0 := hm.at a_h0 (by decide)
          refine lv_iload_n hx hb dX12_placed_79 rfl (lv_at hl 2 rfl) ?_
          exact iv_iret X hr hlocks hB ⟨hM, i_x10⟩ dX12_placed_80
        · skip
          have i16_x12 : iv_R 0 3 x12 := (i_x12.cutHi (n := 3) (iv_lt_r (iv_nle c14) q_4 (by decide)))
          refine lv_aload_n hx hb dX12_placed_31 rfl (lv_at hl 4 rfl) ?_
          refine lv_iload_n hx hb dX12_placed_32 rfl (lv_at hl 5 rfl) ?_
          refine lv_iconst (v := 0) hx hb dX12_placed_33 (by decide) ?_
          refine lv_iload hx hb dX12_placed_34 (lv_at hl 0 rfl) ?_
          refine iv_cVv X k_good k_mf_X12_bells k_im_X12_bells k_sel_X12_bells k_ml_X12_72 ft_X12 hB a_h0 sh_12 (As := [.int x_0, .int 0, .int x12]) (c_X12_bells l D tys base G13 h0 g_h0 r_h0 a_h0 x_0 i4_x_0 0 (q_0.wk (by decide)) x12 (i16_x12.wk (by decide)) (fun _ => i16_x12) (fun h => absurd h (by decide))) ⟨rfl, rfl⟩ ⟨Nat.le_of_ble_eq_true rfl, Nat.le_of_ble_eq_true rfl⟩ ⟨Nat.le_of_ble_eq_true rfl, Nat.le_of_ble_eq_true rfl⟩ rfl rfl hl.1 (Nat.le_of_ble_eq_true rfl) dX12_placed_36 (fun G9 H locs hq hB => ?_)
          have hm := hq
          obtain ⟨G18, hG9⟩ : ∃ g, g = G9 := ⟨_, rfl⟩
          rw [← hG9] at hm hB
          have hM := hM.stp hm (by decide)
          have a_h0 := hm.at a_h0 (by decide)
          refine lv_aload_n hx hb dX12_placed_39 rfl (lv_at hl 4 rfl) ?_
          refine lv_iload_n hx hb dX12_placed_40 rfl (lv_at hl 5 rfl) ?_
          refine iv_cVi X k_good k_mf_X12_clearOf k_im_X12_clearOf k_sel_X12_clearOf k_ml_X12_317 ft_X12 hB a_h0 sh_12 (As := [.int x_0]) (c_X12_clearOf l D tys base G18 h0 g_h0 r_h0 a_h0 x_0 i4_x_0) ⟨rfl, rfl⟩ ⟨Nat.le_of_ble_eq_true rfl, Nat.le_of_ble_eq_true rfl⟩ ⟨Nat.le_of_ble_eq_true rfl, Nat.le_of_ble_eq_true rfl⟩ rfl rfl hl.1 (Nat.le_of_ble_eq_true rfl) dX12_placed_41 (fun x19 G9 H locs hq hB => ?_)
          obtain ⟨hm, i_x19⟩ := hq
          obtain ⟨G20, hG9⟩ : ∃ g, g = G9 := ⟨_, rfl⟩
          rw [← hG9] at hm hB
          have hM := hM.stp hm (by decide)
          have a_h0 := hm.at a_h0 (by decide)
          refine iv_cSi X k_good k_mf_X12_count k_st_X12_count k_ml_X12_320 hB (As := [.int x19]) (c_X12_count l D tys base G20 x19 (i_x19.wk (by decide))) ⟨rfl, rfl⟩ ⟨Nat.le_of_ble_eq_true rfl, Nat.le_of_ble_eq_true rfl⟩ ⟨Nat.le_of_ble_eq_true rfl, Nat.le_of_ble_eq_true rfl⟩ rfl rfl hl.1 (Nat.le_of_ble_eq_true rfl) dX12_placed_44 (fun x21 G9 H locs hq hB => ?_)
          obtain ⟨rfl, i_x21⟩ := hq
          refine lv_istore (lv' := [(6, .int x21), (5, .int x12), (4, .int x11), (3, .int x10), (2, .int x6), (0, .ref h0), (1, .int x_0)]) hx hb dX12_placed_47 hl (by decide) rfl (fun ls hl => ?_)
          refine lv_iload hx hb dX12_placed_49 (lv_at hl 0 rfl) ?_
          refine lv_iload hx hb dX12_placed_51 (lv_at hl 2 rfl) ?_
          refine lv_icmp_gt (tgt := 59) hx hb dX12_placed_53 (by decide) (fun c22 => ?_) (fun c22 => ?_)
          · skip
            have i22_x11 : iv_R (-1) 2147483646 x11 := (i_x11.cutHi (n := 2147483646) (iv_lt_r c22 i_x21 (by decide)))
            have i23_x21 : iv_R 0 2147483647 x21 := (i_x21.cutLo (n := 0) (iv_lt_l c22 i_x11 (by decide)))
            refine lv_iload hx hb dX12_placed_59 (lv_at hl 0 rfl) ?_
            refine lv_istore (lv' := [(4, .int x21), (6, .int x21), (5, .int x12), (3, .int x10), (2, .int x6), (0, .ref h0), (1, .int x_0)]) hx hb dX12_placed_61 hl (by decide) rfl (fun ls hl => ?_)
            refine lv_iload hx hb dX12_placed_63 (lv_at hl 2 rfl) ?_
            refine lv_istore_n (lv' := [(3, .int x12), (4, .int x21), (6, .int x21), (5, .int x12), (2, .int x6), (0, .ref h0), (1, .int x_0)]) hx hb dX12_placed_65 rfl hl (by decide) rfl (fun ls hl => ?_)
            refine iv_iinc hx hb i16_x12 (lo := 1) (hi := 4) (by decide) dX12_placed_66 hl (k := 3) rfl (by decide) (fun x25 ls e_x25 i_x25 hl => ?_)
            have hl : lv_has ls 7 [(5, .int x25), (3, .int x12), (4, .int x21), (6, .int x21), (2, .int x6), (0, .ref h0), (1, .int x_0)] := hl
            refine lv_goto (tgt := 25) hx hb dX12_placed_69 (by decide) ?_
            exact ih_25 G20 hM _ _ hB a_h0 x12 (i16_x12.wk (by decide)) x21 (i23_x21.wk (by decide)) x25 (i_x25.wk (by decide)) (iv_mup (c := 1) i_x12 (by decide) (by decide) (by omega) hn_25) _ (lv_sub hl [0, 2, 1, 4, 5, 6] rfl)
          · skip
            refine lv_goto (tgt := 66) hx hb dX12_placed_56 (by decide) ?_
            refine iv_iinc hx hb i16_x12 (lo := 1) (hi := 4) (by decide) dX12_placed_66 hl (k := 1) rfl (by decide) (fun x26 ls e_x26 i_x26 hl => ?_)
            have hl : lv_has ls 7 [(5, .int x26), (6, .int x21), (4, .int x11), (3, .int x10), (2, .int x6), (0, .ref h0), (1, .int x_0)] := hl
            refine lv_goto (tgt := 25) hx hb dX12_placed_69 (by decide) ?_
            exact ih_25 G20 hM _ _ hB a_h0 x10 i_x10 x11 i_x11 x26 (i_x26.wk (by decide)) (iv_mup (c := 1) i_x12 (by decide) (by decide) (by omega) hn_25) _ (lv_sub hl [0, 2, 3, 4, 5, 6] rfl)
    exact L_25 _ G hM _ _ hB a_h0 (-1) (q_n1.wk (by decide)) (-1) (q_n1.wk (by decide)) 0 (q_0.wk (by decide)) (Nat.lt_succ_self _) _ (lv_sub hl [0, 1, 2, 3, 4, 5] rfl)
  · skip
    have i26_x1 : iv_R 0 0 x1 := (i_x1.cutHi (n := 0) (iv_eq_r c3 q_0).2)
    refine lv_iconst (v := (-1)) hx hb dX12_placed_8 (by decide) ?_
    exact iv_iret X hr hlocks hB ⟨hM, (q_n1.wk (by decide))⟩ dX12_placed_9
theorem dX12_quarrels_0 : decode cX12_quarrels 0 = .ok (.iload_n 1, 1) := by decide +kernel
theorem dX12_quarrels_1 : decode cX12_quarrels 1 = .ok (.iconst 0, 1) := by decide +kernel
theorem dX12_quarrels_2 : decode cX12_quarrels 2 = .ok (.iconst 2, 1) := by decide +kernel
theorem dX12_quarrels_3 : decode cX12_quarrels 3 = .ok (.invokestatic 56, 3) := by decide +kernel
theorem dX12_quarrels_6 : decode cX12_quarrels 6 = .ok (.ifCond .ne 5, 3) := by decide +kernel
theorem dX12_quarrels_9 : decode cX12_quarrels 9 = .ok (.iconst (-1), 1) := by decide +kernel
theorem dX12_quarrels_10 : decode cX12_quarrels 10 = .ok (.ireturn, 1) := by decide +kernel
theorem dX12_quarrels_11 : decode cX12_quarrels 11 = .ok (.iconst 0, 1) := by decide +kernel
theorem dX12_quarrels_12 : decode cX12_quarrels 12 = .ok (.istore_n 2, 1) := by decide +kernel
theorem dX12_quarrels_13 : decode cX12_quarrels 13 = .ok (.iconst (-1), 1) := by decide +kernel
theorem dX12_quarrels_14 : decode cX12_quarrels 14 = .ok (.istore_n 3, 1) := by decide +kernel
theorem dX12_quarrels_15 : decode cX12_quarrels 15 = .ok (.iconst (-1), 1) := by decide +kernel
theorem dX12_quarrels_16 : decode cX12_quarrels 16 = .ok (.istore 4, 2) := by decide +kernel
theorem dX12_quarrels_18 : decode cX12_quarrels 18 = .ok (.iconst 0, 1) := by decide +kernel
theorem dX12_quarrels_19 : decode cX12_quarrels 19 = .ok (.istore 5, 2) := by decide +kernel
theorem dX12_quarrels_21 : decode cX12_quarrels 21 = .ok (.iload 5, 2) := by decide +kernel
theorem dX12_quarrels_23 : decode cX12_quarrels 23 = .ok (.aload_n 0, 1) := by decide +kernel
theorem dX12_quarrels_24 : decode cX12_quarrels 24 = .ok (.getfield 7, 3) := by decide +kernel
theorem dX12_quarrels_27 : decode cX12_quarrels 27 = .ok (.sipush 146, 3) := by decide +kernel
theorem dX12_quarrels_30 : decode cX12_quarrels 30 = .ok (.iaload, 1) := by decide +kernel
theorem dX12_quarrels_31 : decode cX12_quarrels 31 = .ok (.if_icmp .ge 75, 3) := by decide +kernel
theorem dX12_quarrels_34 : decode cX12_quarrels 34 = .ok (.iload 5, 2) := by decide +kernel
theorem dX12_quarrels_36 : decode cX12_quarrels 36 = .ok (.iconst 1, 1) := by decide +kernel
theorem dX12_quarrels_37 : decode cX12_quarrels 37 = .ok (.iadd, 1) := by decide +kernel
theorem dX12_quarrels_38 : decode cX12_quarrels 38 = .ok (.istore 6, 2) := by decide +kernel
theorem dX12_quarrels_40 : decode cX12_quarrels 40 = .ok (.iload 6, 2) := by decide +kernel
theorem dX12_quarrels_42 : decode cX12_quarrels 42 = .ok (.aload_n 0, 1) := by decide +kernel
theorem dX12_quarrels_43 : decode cX12_quarrels 43 = .ok (.getfield 7, 3) := by decide +kernel
theorem dX12_quarrels_46 : decode cX12_quarrels 46 = .ok (.sipush 146, 3) := by decide +kernel
theorem dX12_quarrels_49 : decode cX12_quarrels 49 = .ok (.iaload, 1) := by decide +kernel
theorem dX12_quarrels_50 : decode cX12_quarrels 50 = .ok (.if_icmp .ge 50, 3) := by decide +kernel
theorem dX12_quarrels_53 : decode cX12_quarrels 53 = .ok (.aload_n 0, 1) := by decide +kernel
theorem dX12_quarrels_54 : decode cX12_quarrels 54 = .ok (.iload 5, 2) := by decide +kernel
theorem dX12_quarrels_56 : decode cX12_quarrels 56 = .ok (.iload 6, 2) := by decide +kernel
theorem dX12_quarrels_58 : decode cX12_quarrels 58 = .ok (.invokevirtual 392, 3) := by decide +kernel
theorem dX12_quarrels_61 : decode cX12_quarrels 61 = .ok (.ifCond .ne 6, 3) := by decide +kernel
theorem dX12_quarrels_64 : decode cX12_quarrels 64 = .ok (.goto 30, 3) := by decide +kernel
theorem dX12_quarrels_67 : decode cX12_quarrels 67 = .ok (.iload_n 2, 1) := by decide +kernel
theorem dX12_quarrels_68 : decode cX12_quarrels 68 = .ok (.ifCond .ne 8, 3) := by decide +kernel
theorem dX12_quarrels_71 : decode cX12_quarrels 71 = .ok (.iload 5, 2) := by decide +kernel
theorem dX12_quarrels_73 : decode cX12_quarrels 73 = .ok (.goto 4, 3) := by decide +kernel
theorem dX12_quarrels_76 : decode cX12_quarrels 76 = .ok (.iload_n 3, 1) := by decide +kernel
theorem dX12_quarrels_77 : decode cX12_quarrels 77 = .ok (.istore_n 3, 1) := by decide +kernel
theorem dX12_quarrels_78 : decode cX12_quarrels 78 = .ok (.iload_n 2, 1) := by decide +kernel
theorem dX12_quarrels_79 : decode cX12_quarrels 79 = .ok (.ifCond .ne 8, 3) := by decide +kernel
theorem dX12_quarrels_82 : decode cX12_quarrels 82 = .ok (.iload 6, 2) := by decide +kernel
theorem dX12_quarrels_84 : decode cX12_quarrels 84 = .ok (.goto 5, 3) := by decide +kernel
theorem dX12_quarrels_87 : decode cX12_quarrels 87 = .ok (.iload 4, 2) := by decide +kernel
theorem dX12_quarrels_89 : decode cX12_quarrels 89 = .ok (.istore 4, 2) := by decide +kernel
theorem dX12_quarrels_91 : decode cX12_quarrels 91 = .ok (.iinc 2 1, 3) := by decide +kernel
theorem dX12_quarrels_94 : decode cX12_quarrels 94 = .ok (.iinc 6 1, 3) := by decide +kernel
theorem dX12_quarrels_97 : decode cX12_quarrels 97 = .ok (.goto (-57), 3) := by decide +kernel
theorem dX12_quarrels_100 : decode cX12_quarrels 100 = .ok (.iinc 5 1, 3) := by decide +kernel
theorem dX12_quarrels_103 : decode cX12_quarrels 103 = .ok (.goto (-82), 3) := by decide +kernel
theorem dX12_quarrels_106 : decode cX12_quarrels 106 = .ok (.iload_n 1, 1) := by decide +kernel
theorem dX12_quarrels_107 : decode cX12_quarrels 107 = .ok (.ifCond .ne 7, 3) := by decide +kernel
theorem dX12_quarrels_110 : decode cX12_quarrels 110 = .ok (.iload_n 2, 1) := by decide +kernel
theorem dX12_quarrels_111 : decode cX12_quarrels 111 = .ok (.goto 14, 3) := by decide +kernel
theorem dX12_quarrels_114 : decode cX12_quarrels 114 = .ok (.iload_n 1, 1) := by decide +kernel
theorem dX12_quarrels_115 : decode cX12_quarrels 115 = .ok (.iconst 1, 1) := by decide +kernel
theorem dX12_quarrels_116 : decode cX12_quarrels 116 = .ok (.if_icmp .ne 7, 3) := by decide +kernel
theorem dX12_quarrels_119 : decode cX12_quarrels 119 = .ok (.iload_n 3, 1) := by decide +kernel
theorem dX12_quarrels_120 : decode cX12_quarrels 120 = .ok (.goto 5, 3) := by decide +kernel
theorem dX12_quarrels_123 : decode cX12_quarrels 123 = .ok (.iload 4, 2) := by decide +kernel
theorem dX12_quarrels_125 : decode cX12_quarrels 125 = .ok (.ireturn, 1) := by decide +kernel
set_option maxHeartbeats 4000000 in
set_option maxRecDepth 100000 in
theorem c_X12_quarrels (l : Launch) (D : va_G) (tys : List (ClassId × FieldType)) (base : Nat) (G : iv_G) (h0 : Nat) (g_h0 : Nat → Int32) (r_h0 : Nat → Nat) (a_h0 : G h0 = some (12, g_h0, r_h0)) (x_0 : Int32) (i_x_0 : iv_R (-2147483648) 2147483647 x_0) : Met l yX12_quarrels (Cond.code yX12_quarrels cX12_quarrels 7 (some .int) :: iv_W0) ({ frames := 7, cells := 0, slots := 0, locals := 165 }) (iv_Pc iv_sh D classes tys base G [.ref h0, .int x_0]) (iv_Qi iv_sh D classes tys base (fun v G' => iv_Md [67, 68] G G' ∧ iv_R (-2147483648) 2147483647 v)) 0 0 (iv_A base) := by
  refine iv_head (by decide) (Nat.le_of_ble_eq_true rfl) ?_
  intro p e s m args below meth c ls X hr hlocks hname hB hl
  have X := X
  have hx := X.1.1
  have hb := X.1.2.1
  have hM : iv_Md [67, 68] G G := iv_Md.rf
  have hl : lv_has ls 7 [(0, .ref h0), (1, .int x_0)] := hl
  refine lv_iload_n hx hb dX12_quarrels_0 rfl (lv_at hl 1 rfl) ?_
  refine lv_iconst (v := 0) hx hb dX12_quarrels_1 (by decide) ?_
  refine lv_iconst (v := 2) hx hb dX12_quarrels_2 (by decide) ?_
  refine iv_cSi X k_good k_mf_X12_isIn k_st_X12_isIn k_ml_X12_56 hB (As := [.int x_0, .int 0, .int 2]) (c_X12_isIn l D tys base G x_0 i_x_0 0 (q_0.wk (by decide)) 2 (q_2.wk (by decide))) ⟨rfl, rfl⟩ ⟨Nat.le_of_ble_eq_true rfl, Nat.le_of_ble_eq_true rfl⟩ ⟨Nat.le_of_ble_eq_true rfl, Nat.le_of_ble_eq_true rfl⟩ rfl rfl hl.1 (Nat.le_of_ble_eq_true rfl) dX12_quarrels_3 (fun x1 G9 H locs hq hB => ?_)
  obtain ⟨rfl, i_x1, hp2⟩ := hq
  have k3 : ¬ x1 = 0 → iv_R 0 2 x_0 := fun h => ⟨iv_max i_x_0.1 (Int.le_trans q_0.1 (hp2.1 h).1) (by decide), iv_min i_x_0.2 (Int.le_trans (hp2.1 h).2 q_2.2) (by decide)⟩
  refine lv_if_ne (tgt := 11) hx hb dX12_quarrels_6 (by decide) (fun c4 => ?_) (fun c4 => ?_)
  · skip
    have i4_x1 : iv_R 1 1 x1 := iv_ne_lo c4 i_x1 q_0 (by decide)
    have i5_x_0 : iv_R 0 2 x_0 := ((i_x_0.cutLo (n := 0) (k3 c4).1).cutHi (n := 2) (k3 c4).2)
    refine lv_iconst (v := 0) hx hb dX12_quarrels_11 (by decide) ?_
    refine lv_istore_n (lv' := [(2, .int 0), (0, .ref h0), (1, .int x_0)]) hx hb dX12_quarrels_12 rfl hl (by decide) rfl (fun ls hl => ?_)
    refine lv_iconst (v := (-1)) hx hb dX12_quarrels_13 (by decide) ?_
    refine lv_istore_n (lv' := [(3, .int (-1)), (2, .int 0), (0, .ref h0), (1, .int x_0)]) hx hb dX12_quarrels_14 rfl hl (by decide) rfl (fun ls hl => ?_)
    refine lv_iconst (v := (-1)) hx hb dX12_quarrels_15 (by decide) ?_
    refine lv_istore (lv' := [(4, .int (-1)), (3, .int (-1)), (2, .int 0), (0, .ref h0), (1, .int x_0)]) hx hb dX12_quarrels_16 hl (by decide) rfl (fun ls hl => ?_)
    refine lv_iconst (v := 0) hx hb dX12_quarrels_18 (by decide) ?_
    refine lv_istore (lv' := [(5, .int 0), (4, .int (-1)), (3, .int (-1)), (2, .int 0), (0, .ref h0), (1, .int x_0)]) hx hb dX12_quarrels_19 hl (by decide) rfl (fun ls hl => ?_)
    have L_21 : ∀ (n_21 : Nat) (G11 : iv_G) (hM : iv_Md [67, 68] G G11) (H : Heap) (locs : List Loc) (hB : iv_B iv_sh D classes tys base G11 s.heap H locs) (a_h0 : G11 h0 = some (12, g_h0, r_h0)) (x7 : Int32) (i_x7 : iv_R (-2147483648) 2147483647 x7) (x8 : Int32) (i_x8 : iv_R (-1) 9 x8) (x9 : Int32) (i_x9 : iv_R (-1) 9 x9) (x10 : Int32) (i_x10 : iv_R 0 10 x10) (hn_21 : (11 - x10.toInt).toNat < n_21) (ls : Array Slot) (hl : lv_has ls 7 [(5, .int x10), (4, .int x9), (3, .int x8), (2, .int x7), (0, .ref h0), (1, .int x_0)]), W p l e ({ frames := 7, cells := 0, slots := 0, locals := 165 } : Room) s m args below meth c H locs 0 0 (MQ below (iv_Qi iv_sh D classes tys base (fun v G' => iv_Md [67, 68] G G' ∧ iv_R (-2147483648) 2147483647 v)) args s 0 0 (iv_A base)) (F0 m 21 ls []) := by
      intro n_21
      induction n_21 with
      | zero => intro G11 hM H locs hB a_h0 x7 i_x7 x8 i_x8 x9 i_x9 x10 i_x10 hn_21 ls hl; exact absurd hn_21 (Nat.not_lt_zero _)
      | succ n_21 ih_21 =>
        intro G11 hM H locs hB a_h0 x7 i_x7 x8 i_x8 x9 i_x9 x10 i_x10 hn_21 ls hl
        refine lv_iload hx hb dX12_quarrels_21 (lv_at hl 0 rfl) ?_
        refine lv_aload_n hx hb dX12_quarrels_23 rfl (lv_at hl 4 rfl) ?_
        refine iv_getr X ft_X12 hB a_h0 sh_12 0 (by decide) rfl k_fl_X12_7 dX12_quarrels_24 (fun b12 g_b12 r_b12 e_b12 a_b12 => ?_)
        refine lv_sipush (v := 146) hx hb dX12_quarrels_27 (by decide) ?_
        refine iv_wald_c X hB a_b12 q_146 (by decide) (lo := 0) (hi' := 10) (by decide) dX12_quarrels_30 (fun x13 e_x13 i_x13 => ?_)
        refine lv_icmp_ge (tgt := 106) hx hb dX12_quarrels_31 (by decide) (fun c14 => ?_) (fun c14 => ?_)
        · skip
          refine lv_iload_n hx hb dX12_quarrels_106 rfl (lv_at hl 5 rfl) ?_
          refine lv_if_ne (tgt := 114) hx hb dX12_quarrels_107 (by decide) (fun c15 => ?_) (fun c15 => ?_)
          · skip
            have i15_x_0 : iv_R 1 2 x_0 := iv_ne_lo c15 i5_x_0 q_0 (by decide)
            refine lv_iload_n hx hb dX12_quarrels_114 rfl (lv_at hl 5 rfl) ?_
            refine lv_iconst (v := 1) hx hb dX12_quarrels_115 (by decide) ?_
            refine lv_icmp_ne (tgt := 123) hx hb dX12_quarrels_116 (by decide) (fun c17 => ?_) (fun c17 => ?_)
            · skip
              have i17_x_0 : iv_R 2 2 x_0 := iv_ne_lo c17 i15_x_0 q_1 (by decide)
              refine lv_iload hx hb dX12_quarrels_123 (lv_at hl 1 rfl) ?_
              exact iv_iret X hr hlocks hB ⟨hM, (i_x9.wk (by decide))⟩ dX12_quarrels_125
            · skip
              have i18_x_0 : iv_R 1 1 x_0 := (i15_x_0.cutHi (n := 1) (iv_eq_r c17 q_1).2)
              refine lv_iload_n hx hb dX12_quarrels_119 rfl (lv_at hl 2 rfl) ?_
              refine lv_goto (tgt := 125) hx hb dX12_quarrels_120 (by decide) ?_
              exact iv_iret X hr hlocks hB ⟨hM, (i_x8.wk (by decide))⟩ dX12_quarrels_125
          · skip
            have i19_x_0 : iv_R 0 0 x_0 := (i5_x_0.cutHi (n := 0) (iv_eq_r c15 q_0).2)
            refine lv_iload_n hx hb dX12_quarrels_110 rfl (lv_at hl 3 rfl) ?_
            refine lv_goto (tgt := 125) hx hb dX12_quarrels_111 (by decide) ?_
            exact iv_iret X hr hlocks hB ⟨hM, i_x7⟩ dX12_quarrels_125
        · skip
          have i20_x10 : iv_R 0 9 x10 := (i_x10.cutHi (n := 9) (iv_lt_r (iv_nle c14) i_x13 (by decide)))
          have i21_x13 : iv_R 1 10 x13 := (i_x13.cutLo (n := 1) (iv_lt_l (iv_nle c14) i_x10 (by decide)))
          refine lv_iload hx hb dX12_quarrels_34 (lv_at hl 0 rfl) ?_
          refine lv_iconst (v := 1) hx hb dX12_quarrels_36 (by decide) ?_
          refine iv_iadd hx hb i20_x10 q_1 (lo := 1) (hi := 10) (by decide) dX12_quarrels_37 (fun x23 e_x23 i_x23 => ?_)
          refine lv_istore (lv' := [(6, .int x23), (5, .int x10), (4, .int x9), (3, .int x8), (2, .int x7), (0, .ref h0), (1, .int x_0)]) hx hb dX12_quarrels_38 hl (by decide) rfl (fun ls hl => ?_)
          have L_40 : ∀ (n_40 : Nat) (G28 : iv_G) (hM : iv_Md [67, 68] G G28) (H : Heap) (locs : List Loc) (hB : iv_B iv_sh D classes tys base G28 s.heap H locs) (a_h0 : G28 h0 = some (12, g_h0, r_h0)) (a_b12 : G28 b12 = some (60, g_b12, r_b12)) (x24 : Int32) (i_x24 : iv_R (-2147483648) 2147483647 x24) (x25 : Int32) (i_x25 : iv_R (-1) 9 x25) (x26 : Int32) (i_x26 : iv_R (-1) 9 x26) (x27 : Int32) (i_x27 : iv_R 1 10 x27) (hn_40 : (11 - x27.toInt).toNat < n_40) (ls : Array Slot) (hl : lv_has ls 7 [(6, .int x27), (5, .int x10), (4, .int x26), (3, .int x25), (2, .int x24), (0, .ref h0), (1, .int x_0)]), W p l e ({ frames := 7, cells := 0, slots := 0, locals := 165 } : Room) s m args below meth c H locs 0 0 (MQ below (iv_Qi iv_sh D classes tys base (fun v G' => iv_Md [67, 68] G G' ∧ iv_R (-2147483648) 2147483647 v)) args s 0 0 (iv_A base)) (F0 m 40 ls []) := by
            intro n_40
            induction n_40 with
            | zero => intro G28 hM H locs hB a_h0 a_b12 x24 i_x24 x25 i_x25 x26 i_x26 x27 i_x27 hn_40 ls hl; exact absurd hn_40 (Nat.not_lt_zero _)
            | succ n_40 ih_40 =>
              intro G28 hM H locs hB a_h0 a_b12 x24 i_x24 x25 i_x25 x26 i_x26 x27 i_x27 hn_40 ls hl
              refine lv_iload hx hb dX12_quarrels_40 (lv_at hl 0 rfl) ?_
              refine lv_aload_n hx hb dX12_quarrels_42 rfl (lv_at hl 5 rfl) ?_
              refine iv_getr0 X ft_X12 hB a_h0 sh_12 0 (by decide) rfl k_fl_X12_7 dX12_quarrels_43 e_b12 ?_
              refine lv_sipush (v := 146) hx hb dX12_quarrels_46 (by decide) ?_
              refine iv_wald_c X hB a_b12 q_146 (by decide) (lo := 0) (hi' := 10) (by decide) dX12_quarrels_49 (fun x29 e_x29 k_x29 => ?_)
              obtain rfl : x13 = x29 := e_x13.trans e_x29.symm
              refine lv_icmp_ge (tgt := 100) hx hb dX12_quarrels_50 (by decide) (fun c30 => ?_) (fun c30 => ?_)
              · skip
                refine iv_iinc hx hb i20_x10 (lo := 1) (hi := 10) (by decide) dX12_quarrels_100 hl (k := 1) rfl (by decide) (fun x31 ls e_x31 i_x31 hl => ?_)
                have hl : lv_has ls 7 [(5, .int x31), (6, .int x27), (4, .int x26), (3, .int x25), (2, .int x24), (0, .ref h0), (1, .int x_0)] := hl
                refine lv_goto (tgt := 21) hx hb dX12_quarrels_103 (by decide) ?_
                exact ih_21 G28 hM _ _ hB a_h0 x24 i_x24 x25 i_x25 x26 i_x26 x31 (i_x31.wk (by decide)) (iv_mup (c := 1) i_x10 (by decide) (by decide) (by omega) hn_21) _ (lv_sub hl [0, 2, 3, 4, 5, 6] rfl)
              · skip
                have i31_x27 : iv_R 1 9 x27 := (i_x27.cutHi (n := 9) (iv_lt_r (iv_nle c30) i21_x13 (by decide)))
                have i32_x13 : iv_R 2 10 x13 := (i21_x13.cutLo (n := 2) (iv_lt_l (iv_nle c30) i_x27 (by decide)))
                refine lv_aload_n hx hb dX12_quarrels_53 rfl (lv_at hl 5 rfl) ?_
                refine lv_iload hx hb dX12_quarrels_54 (lv_at hl 1 rfl) ?_
                refine lv_iload hx hb dX12_quarrels_56 (lv_at hl 0 rfl) ?_
                refine iv_cVi X k_good k_mf_X12_doQuarrel k_im_X12_doQuarrel k_sel_X12_doQuarrel k_ml_X12_392 ft_X12 hB a_h0 sh_12 (As := [.int x10, .int x27]) (c_X12_doQuarrel l D tys base G28 h0 g_h0 r_h0 a_h0 x10 i20_x10 x27 i31_x27) ⟨rfl, rfl⟩ ⟨Nat.le_of_ble_eq_true rfl, Nat.le_of_ble_eq_true rfl⟩ ⟨Nat.le_of_ble_eq_true rfl, Nat.le_of_ble_eq_true rfl⟩ rfl rfl hl.1 (Nat.le_of_ble_eq_true rfl) dX12_quarrels_58 (fun x34 G9 H locs hq hB => ?_)
                obtain ⟨hm, i_x34⟩ := hq
                obtain ⟨G35, hG9⟩ : ∃ g, g = G9 := ⟨_, rfl⟩
                rw [← hG9] at hm hB
                have hM := hM.stp hm (by decide)
                have a_h0 := hm.at a_h0 (by decide)
                have a_b12 := hm.at a_b12 (by decide)
                refine lv_if_ne (tgt := 67) hx hb dX12_quarrels_61 (by decide) (fun c36 => ?_) (fun c36 => ?_)
                · skip
                  have i36_x34 : iv_R 1 1 x34 := iv_ne_lo c36 i_x34 q_0 (by decide)
                  refine lv_iload_n hx hb dX12_quarrels_67 rfl (lv_at hl 4 rfl) ?_
                  refine lv_if_ne (tgt := 76) hx hb dX12_quarrels_68 (by decide) (fun c38 => ?_) (fun c38 => ?_)
                  · skip
                    refine lv_iload_n hx hb dX12_quarrels_76 rfl (lv_at hl 3 rfl) ?_
                    refine lv_istore_n (lv' := [(3, .int x25), (6, .int x27), (5, .int x10), (4, .int x26), (2, .int x24), (0, .ref h0), (1, .int x_0)]) hx hb dX12_quarrels_77 rfl hl (by decide) rfl (fun ls hl => ?_)
                    refine lv_iload_n hx hb dX12_quarrels_78 rfl (lv_at hl 4 rfl) ?_
                    refine lv_if_ne (tgt := 87) hx hb dX12_quarrels_79 (by decide) (fun c39 => ?_) (fun c39 => ?_)
                    · skip
                      refine lv_iload hx hb dX12_quarrels_87 (lv_at hl 3 rfl) ?_
                      refine lv_istore (lv' := [(4, .int x26), (3, .int x25), (6, .int x27), (5, .int x10), (2, .int x24), (0, .ref h0), (1, .int x_0)]) hx hb dX12_quarrels_89 hl (by decide) rfl (fun ls hl => ?_)
                      obtain ⟨x40, e_x40⟩ : ∃ y : Int32, y = x24 + Int32.ofInt 1 := ⟨_, rfl⟩
                      refine lv_iinc (v := x40) (lv' := [(2, .int x40), (4, .int x26), (3, .int x25), (6, .int x27), (5, .int x10), (0, .ref h0), (1, .int x_0)]) hx hb dX12_quarrels_91 hl (k := 4) rfl e_x40.symm (by decide) rfl (fun ls hl => ?_)
                      have i_x40 := iv_R.all x40
                      refine iv_iinc hx hb i31_x27 (lo := 2) (hi := 10) (by decide) dX12_quarrels_94 hl (k := 3) rfl (by decide) (fun x41 ls e_x41 i_x41 hl => ?_)
                      have hl : lv_has ls 7 [(6, .int x41), (2, .int x40), (4, .int x26), (3, .int x25), (5, .int x10), (0, .ref h0), (1, .int x_0)] := hl
                      refine lv_goto (tgt := 40) hx hb dX12_quarrels_97 (by decide) ?_
                      exact ih_40 G35 hM _ _ hB a_h0 a_b12 x40 i_x40 x25 i_x25 x26 i_x26 x41 (i_x41.wk (by decide)) (iv_mup (c := 1) i_x27 (by decide) (by decide) (by omega) hn_40) _ (lv_sub hl [0, 4, 2, 3, 1, 5, 6] rfl)
                    · skip
                      have i41_x24 : iv_R 0 0 x24 := ((i_x24.cutLo (n := 0) (iv_eq_r c39 q_0).1).cutHi (n := 0) (iv_eq_r c39 q_0).2)
                      refine lv_iload hx hb dX12_quarrels_82 (lv_at hl 1 rfl) ?_
                      refine lv_goto (tgt := 89) hx hb dX12_quarrels_84 (by decide) ?_
                      refine lv_istore (lv' := [(4, .int x27), (3, .int x25), (6, .int x27), (5, .int x10), (2, .int x24), (0, .ref h0), (1, .int x_0)]) hx hb dX12_quarrels_89 hl (by decide) rfl (fun ls hl => ?_)
                      refine iv_iinc hx hb i41_x24 (lo := 1) (hi := 1) (by decide) dX12_quarrels_91 hl (k := 4) rfl (by decide) (fun x43 ls e_x43 i_x43 hl => ?_)
                      have hl : lv_has ls 7 [(2, .int x43), (4, .int x27), (3, .int x25), (6, .int x27), (5, .int x10), (0, .ref h0), (1, .int x_0)] := hl
                      refine iv_iinc hx hb i31_x27 (lo := 2) (hi := 10) (by decide) dX12_quarrels_94 hl (k := 3) rfl (by decide) (fun x44 ls e_x44 i_x44 hl => ?_)
                      have hl : lv_has ls 7 [(6, .int x44), (2, .int x43), (4, .int x27), (3, .int x25), (5, .int x10), (0, .ref h0), (1, .int x_0)] := hl
                      refine lv_goto (tgt := 40) hx hb dX12_quarrels_97 (by decide) ?_
                      exact ih_40 G35 hM _ _ hB a_h0 a_b12 x43 (i_x43.wk (by decide)) x25 i_x25 x27 (i31_x27.wk (by decide)) x44 (i_x44.wk (by decide)) (iv_mup (c := 1) i_x27 (by decide) (by decide) (by omega) hn_40) _ (lv_sub hl [0, 4, 2, 3, 1, 5, 6] rfl)
                  · skip
                    have i44_x24 : iv_R 0 0 x24 := ((i_x24.cutLo (n := 0) (iv_eq_r c38 q_0).1).cutHi (n := 0) (iv_eq_r c38 q_0).2)
                    refine lv_iload hx hb dX12_quarrels_71 (lv_at hl 1 rfl) ?_
                    refine lv_goto (tgt := 77) hx hb dX12_quarrels_73 (by decide) ?_
                    refine lv_istore_n (lv' := [(3, .int x10), (6, .int x27), (5, .int x10), (4, .int x26), (2, .int x24), (0, .ref h0), (1, .int x_0)]) hx hb dX12_quarrels_77 rfl hl (by decide) rfl (fun ls hl => ?_)
                    refine lv_iload_n hx hb dX12_quarrels_78 rfl (lv_at hl 4 rfl) ?_
                    refine lv_if_ne (tgt := 87) hx hb dX12_quarrels_79 (by decide) (fun c46 => ?_) (fun c46 => ?_)
                    · skip
                      exact (iv_ne_lo c46 i44_x24 q_0 (a' := 1) (by decide)).no (by decide)
                    · skip
                      refine lv_iload hx hb dX12_quarrels_82 (lv_at hl 1 rfl) ?_
                      refine lv_goto (tgt := 89) hx hb dX12_quarrels_84 (by decide) ?_
                      refine lv_istore (lv' := [(4, .int x27), (3, .int x10), (6, .int x27), (5, .int x10), (2, .int x24), (0, .ref h0), (1, .int x_0)]) hx hb dX12_quarrels_89 hl (by decide) rfl (fun ls hl => ?_)
                      refine iv_iinc hx hb i44_x24 (lo := 1) (hi := 1) (by decide) dX12_quarrels_91 hl (k := 4) rfl (by decide) (fun x47 ls e_x47 i_x47 hl => ?_)
                      have hl : lv_has ls 7 [(2, .int x47), (4, .int x27), (3, .int x10), (6, .int x27), (5, .int x10), (0, .ref h0), (1, .int x_0)] := hl
                      refine iv_iinc hx hb i31_x27 (lo := 2) (hi := 10) (by decide) dX12_quarrels_94 hl (k := 3) rfl (by decide) (fun x48 ls e_x48 i_x48 hl => ?_)
                      have hl : lv_has ls 7 [(6, .int x48), (2, .int x47), (4, .int x27), (3, .int x10), (5, .int x10), (0, .ref h0), (1, .int x_0)] := hl
                      refine lv_goto (tgt := 40) hx hb dX12_quarrels_97 (by decide) ?_
                      exact ih_40 G35 hM _ _ hB a_h0 a_b12 x47 (i_x47.wk (by decide)) x10 (i20_x10.wk (by decide)) x27 (i31_x27.wk (by decide)) x48 (i_x48.wk (by decide)) (iv_mup (c := 1) i_x27 (by decide) (by decide) (by omega) hn_40) _ (lv_sub hl [0, 4, 2, 3, 1, 5, 6] rfl)
                · skip
                  have i48_x34 : iv_R 0 0 x34 := (i_x34.cutHi (n := 0) (iv_eq_r c36 q_0).2)
                  refine lv_goto (tgt := 94) hx hb dX12_quarrels_64 (by decide) ?_
                  refine iv_iinc hx hb i31_x27 (lo := 2) (hi := 10) (by decide) dX12_quarrels_94 hl (k := 0) rfl (by decide) (fun x50 ls e_x50 i_x50 hl => ?_)
                  have hl : lv_has ls 7 [(6, .int x50), (5, .int x10), (4, .int x26), (3, .int x25), (2, .int x24), (0, .ref h0), (1, .int x_0)] := hl
                  refine lv_goto (tgt := 40) hx hb dX12_quarrels_97 (by decide) ?_
                  exact ih_40 G35 hM _ _ hB a_h0 a_b12 x24 i_x24 x25 i_x25 x26 i_x26 x50 (i_x50.wk (by decide)) (iv_mup (c := 1) i_x27 (by decide) (by decide) (by omega) hn_40) _ (lv_sub hl [0, 1, 2, 3, 4, 5, 6] rfl)
          exact L_40 _ G11 hM _ _ hB a_h0 a_b12 x7 i_x7 x8 i_x8 x9 i_x9 x23 i_x23 (Nat.lt_succ_self _) _ (lv_sub hl [0, 1, 2, 3, 4, 5, 6] rfl)
    exact L_21 _ G hM _ _ hB a_h0 0 (q_0.wk (by decide)) (-1) (q_n1.wk (by decide)) (-1) (q_n1.wk (by decide)) 0 (q_0.wk (by decide)) (Nat.lt_succ_self _) _ (lv_sub hl [0, 1, 2, 3, 4, 5] rfl)
  · skip
    have i50_x1 : iv_R 0 0 x1 := (i_x1.cutHi (n := 0) (iv_eq_r c4 q_0).2)
    refine lv_iconst (v := (-1)) hx hb dX12_quarrels_9 (by decide) ?_
    exact iv_iret X hr hlocks hB ⟨hM, (q_n1.wk (by decide))⟩ dX12_quarrels_10
