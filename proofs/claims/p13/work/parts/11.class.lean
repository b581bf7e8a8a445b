theorem dX4_countPeals_0 : decode cX4_countPeals 0 = .ok (.aload_n 0, 1) := by decide +kernel
theorem dX4_countPeals_1 : decode cX4_countPeals 1 = .ok (.iload_n 1, 1) := by decide +kernel
theorem dX4_countPeals_2 : decode cX4_countPeals 2 = .ok (.invokevirtual 57, 3) := by decide +kernel
theorem dX4_countPeals_5 : decode cX4_countPeals 5 = .ok (.iconst 1, 1) := by decide +kernel
theorem dX4_countPeals_6 : decode cX4_countPeals 6 = .ok (.aload_n 0, 1) := by decide +kernel
theorem dX4_countPeals_7 : decode cX4_countPeals 7 = .ok (.getfield 61, 3) := by decide +kernel
theorem dX4_countPeals_10 : decode cX4_countPeals 10 = .ok (.ishl, 1) := by decide +kernel
theorem dX4_countPeals_11 : decode cX4_countPeals 11 = .ok (.iconst 1, 1) := by decide +kernel
theorem dX4_countPeals_12 : decode cX4_countPeals 12 = .ok (.isub, 1) := by decide +kernel
theorem dX4_countPeals_13 : decode cX4_countPeals 13 = .ok (.istore_n 2, 1) := by decide +kernel
theorem dX4_countPeals_14 : decode cX4_countPeals 14 = .ok (.iconst 0, 1) := by decide +kernel
theorem dX4_countPeals_15 : decode cX4_countPeals 15 = .ok (.istore_n 3, 1) := by decide +kernel
theorem dX4_countPeals_16 : decode cX4_countPeals 16 = .ok (.iload_n 3, 1) := by decide +kernel
theorem dX4_countPeals_17 : decode cX4_countPeals 17 = .ok (.iload_n 2, 1) := by decide +kernel
theorem dX4_countPeals_18 : decode cX4_countPeals 18 = .ok (.if_icmp .gt 46, 3) := by decide +kernel
theorem dX4_countPeals_21 : decode cX4_countPeals 21 = .ok (.iconst 0, 1) := by decide +kernel
theorem dX4_countPeals_22 : decode cX4_countPeals 22 = .ok (.istore 4, 2) := by decide +kernel
theorem dX4_countPeals_24 : decode cX4_countPeals 24 = .ok (.iload 4, 2) := by decide +kernel
theorem dX4_countPeals_26 : decode cX4_countPeals 26 = .ok (.aload_n 0, 1) := by decide +kernel
theorem dX4_countPeals_27 : decode cX4_countPeals 27 = .ok (.getfield 61, 3) := by decide +kernel
theorem dX4_countPeals_30 : decode cX4_countPeals 30 = .ok (.if_icmp .ge 28, 3) := by decide +kernel
theorem dX4_countPeals_33 : decode cX4_countPeals 33 = .ok (.aload_n 0, 1) := by decide +kernel
theorem dX4_countPeals_34 : decode cX4_countPeals 34 = .ok (.getfield 18, 3) := by decide +kernel
theorem dX4_countPeals_37 : decode cX4_countPeals 37 = .ok (.iload_n 3, 1) := by decide +kernel
theorem dX4_countPeals_38 : decode cX4_countPeals 38 = .ok (.bipush 8, 2) := by decide +kernel
theorem dX4_countPeals_40 : decode cX4_countPeals 40 = .ok (.imul, 1) := by decide +kernel
theorem dX4_countPeals_41 : decode cX4_countPeals 41 = .ok (.iload 4, 2) := by decide +kernel
theorem dX4_countPeals_43 : decode cX4_countPeals 43 = .ok (.iadd, 1) := by decide +kernel
theorem dX4_countPeals_44 : decode cX4_countPeals 44 = .ok (.aload_n 0, 1) := by decide +kernel
theorem dX4_countPeals_45 : decode cX4_countPeals 45 = .ok (.iload_n 3, 1) := by decide +kernel
theorem dX4_countPeals_46 : decode cX4_countPeals 46 = .ok (.iload 4, 2) := by decide +kernel
theorem dX4_countPeals_48 : decode cX4_countPeals 48 = .ok (.invokevirtual 64, 3) := by decide +kernel
theorem dX4_countPeals_51 : decode cX4_countPeals 51 = .ok (.iastore, 1) := by decide +kernel
theorem dX4_countPeals_52 : decode cX4_countPeals 52 = .ok (.iinc 4 1, 3) := by decide +kernel
theorem dX4_countPeals_55 : decode cX4_countPeals 55 = .ok (.goto (-31), 3) := by decide +kernel
theorem dX4_countPeals_58 : decode cX4_countPeals 58 = .ok (.iinc 3 1, 3) := by decide +kernel
theorem dX4_countPeals_61 : decode cX4_countPeals 61 = .ok (.goto (-45), 3) := by decide +kernel
theorem dX4_countPeals_64 : decode cX4_countPeals 64 = .ok (.aload_n 0, 1) := by decide +kernel
theorem dX4_countPeals_65 : decode cX4_countPeals 65 = .ok (.iload_n 2, 1) := by decide +kernel
theorem dX4_countPeals_66 : decode cX4_countPeals 66 = .ok (.iconst (-1), 1) := by decide +kernel
theorem dX4_countPeals_67 : decode cX4_countPeals 67 = .ok (.invokevirtual 64, 3) := by decide +kernel
theorem dX4_countPeals_70 : decode cX4_countPeals 70 = .ok (.ireturn, 1) := by decide +kernel
set_option maxHeartbeats 4000000 in
set_option maxRecDepth 100000 in
theorem c_X4_countPeals (l : Launch) (D : va_G) (tys : List (ClassId × FieldType)) (base : Nat) (G : iv_G) (h0 : Nat) (g_h0 : Nat → Int32) (r_h0 : Nat → Nat) (a_h0 : G h0 = some (4, g_h0, r_h0)) (x_0 : Int32) (i_x_0 : iv_R (-2147483648) 2147483647 x_0) : Met l yX4_countPeals (Cond.code yX4_countPeals cX4_countPeals 5 (some .int) :: iv_W0) ({ frames := 4, cells := 0, slots := 0, locals := 82 }) (iv_Pc iv_sh D classes tys base G [.ref h0, .int x_0]) (iv_Qi iv_sh D classes tys base (fun v G' => iv_Md [4, 32, 33] G G' ∧ iv_R (-2147483648) 2147483647 v)) 0 0 (iv_A base) := by
  refine iv_head (by decide) (Nat.le_of_ble_eq_true rfl) ?_
  intro p e s m args below meth c ls X hr hlocks hname hB hl
  have X := X
  have hx := X.1.1
  have hb := X.1.2.1
  have hM : iv_Md [4, 32, 33] G G := iv_Md.rf
  have hl : lv_has ls 5 [(0, .ref h0), (1, .int x_0)] := hl
  refine lv_aload_n hx hb dX4_countPeals_0 rfl (lv_at hl 0 rfl) ?_
  refine lv_iload_n hx hb dX4_countPeals_1 rfl (lv_at hl 1 rfl) ?_
  refine iv_cVv X k_good k_mf_X4_gather k_im_X4_gather k_sel_X4_gather k_ml_X4_57 ft_X4 hB a_h0 sh_4 (As := [.int x_0]) (c_X4_gather l D tys base G h0 g_h0 r_h0 a_h0 x_0 i_x_0) ⟨rfl, rfl⟩ ⟨Nat.le_of_ble_eq_true rfl, Nat.le_of_ble_eq_true rfl⟩ ⟨Nat.le_of_ble_eq_true rfl, Nat.le_of_ble_eq_true rfl⟩ rfl rfl hl.1 (Nat.le_of_ble_eq_true rfl) dX4_countPeals_2 (fun G9 H locs hq hB => ?_)
  have hm := hq
  obtain ⟨G1, hG9⟩ : ∃ g, g = G9 := ⟨_, rfl⟩
  rw [← hG9] at hm hB
  have hM := hM.stp hm (by decide)
  obtain ⟨g2, r3, a_h0, f_g2⟩ := hm.ex a_h0
  refine lv_iconst (v := 1) hx hb dX4_countPeals_5 (by decide) ?_
  refine lv_aload_n hx hb dX4_countPeals_6 rfl (lv_at hl 0 rfl) ?_
  refine iv_geti X ft_X4 hB a_h0 sh_4 3 (by decide) rfl k_fl_X4_61 dX4_countPeals_7 (fun x4 e_x4 i_x4 => ?_)
  refine iv_shl1 hx hb i_x4 (lo := 1) (hi := 256) (by decide) dX4_countPeals_10 (fun x5 e_x5 i_x5 => ?_)
  refine lv_iconst (v := 1) hx hb dX4_countPeals_11 (by decide) ?_
  refine iv_isub hx hb i_x5 q_1 (lo := 0) (hi := 255) (by decide) dX4_countPeals_12 (fun x6 e_x6 i_x6 => ?_)
  refine lv_istore_n (lv' := [(2, .int x6), (0, .ref h0), (1, .int x_0)]) hx hb dX4_countPeals_13 rfl hl (by decide) rfl (fun ls hl => ?_)
  refine lv_iconst (v := 0) hx hb dX4_countPeals_14 (by decide) ?_
  refine lv_istore_n (lv' := [(3, .int 0), (2, .int x6), (0, .ref h0), (1, .int x_0)]) hx hb dX4_countPeals_15 rfl hl (by decide) rfl (fun ls hl => ?_)
  have L_16 : ∀ (n_16 : Nat) (G10 : iv_G) (hM : iv_Md [4, 32, 33] G G10) (H : Heap) (locs : List Loc) (hB : iv_B iv_sh D classes tys base G10 s.heap H locs) (g8 : Nat → Int32) (r9 : Nat → Nat) (a_h0 : G10 h0 = some (4, g8, r9)) (x7 : Int32) (i_x7 : iv_R 0 256 x7) (hn_16 : (257 - x7.toInt).toNat < n_16) (ls : Array Slot) (hl : lv_has ls 5 [(3, .int x7), (2, .int x6), (0, .ref h0)]), W p l e ({ frames := 4, cells := 0, slots := 0, locals := 82 } : Room) s m args below meth c H locs 0 0 (MQ below (iv_Qi iv_sh D classes tys base (fun v G' => iv_Md [4, 32, 33] G G' ∧ iv_R (-2147483648) 2147483647 v)) args s 0 0 (iv_A base)) (F0 m 16 ls []) := by
    intro n_16
    induction n_16 with
    | zero => intro G10 hM H locs hB g8 r9 a_h0 x7 i_x7 hn_16 ls hl; exact absurd hn_16 (Nat.not_lt_zero _)
    | succ n_16 ih_16 =>
      intro G10 hM H locs hB g8 r9 a_h0 x7 i_x7 hn_16 ls hl
      refine lv_iload_n hx hb dX4_countPeals_16 rfl (lv_at hl 0 rfl) ?_
      refine lv_iload_n hx hb dX4_countPeals_17 rfl (lv_at hl 1 rfl) ?_
      refine lv_icmp_gt (tgt := 64) hx hb dX4_countPeals_18 (by decide) (fun c11 => ?_) (fun c11 => ?_)
      · skip
        have i11_x7 : iv_R 1 256 x7 := (i_x7.cutLo (n := 1) (iv_lt_l c11 i_x6 (by decide)))
        refine lv_aload_n hx hb dX4_countPeals_64 rfl (lv_at hl 2 rfl) ?_
        refine lv_iload_n hx hb dX4_countPeals_65 rfl (lv_at hl 1 rfl) ?_
        refine lv_iconst (v := (-1)) hx hb dX4_countPeals_66 (by decide) ?_
        refine iv_cVi X k_good k_mf_X4_waysAfter k_im_X4_waysAfter k_sel_X4_waysAfter k_ml_X4_64 ft_X4 hB a_h0 sh_4 (As := [.int x6, .int (-1)]) (c_X4_waysAfter l D tys base G10 h0 g8 r9 a_h0 x6 i_x6 (-1) (q_n1.wk (by decide))) ⟨rfl, rfl⟩ ⟨Nat.le_of_ble_eq_true rfl, Nat.le_of_ble_eq_true rfl⟩ ⟨Nat.le_of_ble_eq_true rfl, Nat.le_of_ble_eq_true rfl⟩ rfl rfl hl.1 (Nat.le_of_ble_eq_true rfl) dX4_countPeals_67 (fun x13 G9 H locs hq hB => ?_)
        obtain ⟨rfl, i_x13⟩ := hq
        exact iv_iret X hr hlocks hB ⟨hM, i_x13⟩ dX4_countPeals_70
      · skip
        have i13_x7 : iv_R 0 255 x7 := (i_x7.cutHi (n := 255) (iv_le_r (iv_nlt c11) i_x6))
        refine lv_iconst (v := 0) hx hb dX4_countPeals_21 (by decide) ?_
        refine lv_istore (lv' := [(4, .int 0), (3, .int x7), (2, .int x6), (0, .ref h0)]) hx hb dX4_countPeals_22 hl (by decide) rfl (fun ls hl => ?_)
        have L_24 : ∀ (n_24 : Nat) (G18 : iv_G) (hM : iv_Md [4, 32, 33] G G18) (H : Heap) (locs : List Loc) (hB : iv_B iv_sh D classes tys base G18 s.heap H locs) (g16 : Nat → Int32) (r17 : Nat → Nat) (a_h0 : G18 h0 = some (4, g16, r17)) (x15 : Int32) (i_x15 : iv_R 0 8 x15) (hn_24 : (9 - x15.toInt).toNat < n_24) (ls : Array Slot) (hl : lv_has ls 5 [(4, .int x15), (3, .int x7), (2, .int x6), (0, .ref h0)]), W p l e ({ frames := 4, cells := 0, slots := 0, locals := 82 } : Room) s m args below meth c H locs 0 0 (MQ below (iv_Qi iv_sh D classes tys base (fun v G' => iv_Md [4, 32, 33] G G' ∧ iv_R (-2147483648) 2147483647 v)) args s 0 0 (iv_A base)) (F0 m 24 ls []) := by
          intro n_24
          induction n_24 with
          | zero => intro G18 hM H locs hB g16 r17 a_h0 x15 i_x15 hn_24 ls hl; exact absurd hn_24 (Nat.not_lt_zero _)
          | succ n_24 ih_24 =>
            intro G18 hM H locs hB g16 r17 a_h0 x15 i_x15 hn_24 ls hl
            refine lv_iload hx hb dX4_countPeals_24 (lv_at hl 0 rfl) ?_
            refine lv_aload_n hx hb dX4_countPeals_26 rfl (lv_at hl 3 rfl) ?_
            refine iv_geti X ft_X4 hB a_h0 sh_4 3 (by decide) rfl k_fl_X4_61 dX4_countPeals_27 (fun x19 e_x19 i_x19 => ?_)
            refine lv_icmp_ge (tgt := 58) hx hb dX4_countPeals_30 (by decide) (fun c20 => ?_) (fun c20 => ?_)
            · skip
              refine iv_iinc hx hb i13_x7 (lo := 1) (hi := 256) (by decide) dX4_countPeals_58 hl (k := 1) rfl (by decide) (fun x21 ls e_x21 i_x21 hl => ?_)
              have hl : lv_has ls 5 [(3, .int x21), (4, .int x15), (2, .int x6), (0, .ref h0)] := hl
              refine lv_goto (tgt := 16) hx hb dX4_countPeals_61 (by decide) ?_
              exact ih_16 G18 hM _ _ hB g16 r17 a_h0 x21 (i_x21.wk (by decide)) (iv_mup (c := 1) i_x7 (by decide) (by decide) (by omega) hn_16) _ (lv_sub hl [0, 2, 3] rfl)
            · skip
              have i21_x15 : iv_R 0 7 x15 := (i_x15.cutHi (n := 7) (iv_lt_r (iv_nle c20) i_x19 (by decide)))
              have i22_x19 : iv_R 1 8 x19 := (i_x19.cutLo (n := 1) (iv_lt_l (iv_nle c20) i_x15 (by decide)))
              refine lv_aload_n hx hb dX4_countPeals_33 rfl (lv_at hl 3 rfl) ?_
              refine iv_getr X ft_X4 hB a_h0 sh_4 4 (by decide) rfl k_fl_X4_18 dX4_countPeals_34 (fun b24 g_b24 r_b24 e_b24 a_b24 => ?_)
              refine lv_iload_n hx hb dX4_countPeals_37 rfl (lv_at hl 1 rfl) ?_
              refine lv_bipush (v := 8) hx hb dX4_countPeals_38 (by decide) ?_
              refine iv_imul hx hb i13_x7 q_8 (lo := 0) (hi := 2040) (by decide) dX4_countPeals_40 (fun x25 e_x25 i_x25 => ?_)
              refine lv_iload hx hb dX4_countPeals_41 (lv_at hl 0 rfl) ?_
              refine iv_iadd hx hb i_x25 i21_x15 (lo := 0) (hi := 2047) (by decide) dX4_countPeals_43 (fun x26 e_x26 i_x26 => ?_)
              refine lv_aload_n hx hb dX4_countPeals_44 rfl (lv_at hl 3 rfl) ?_
              refine lv_iload_n hx hb dX4_countPeals_45 rfl (lv_at hl 1 rfl) ?_
              refine lv_iload hx hb dX4_countPeals_46 (lv_at hl 0 rfl) ?_
              refine iv_cVi X k_good k_mf_X4_waysAfter k_im_X4_waysAfter k_sel_X4_waysAfter k_ml_X4_64 ft_X4 hB a_h0 sh_4 (As := [.int x7, .int x15]) (c_X4_waysAfter l D tys base G18 h0 g16 r17 a_h0 x7 i13_x7 x15 (i21_x15.wk (by decide))) ⟨rfl, rfl⟩ ⟨Nat.le_of_ble_eq_true rfl, Nat.le_of_ble_eq_true rfl⟩ ⟨Nat.le_of_ble_eq_true rfl, Nat.le_of_ble_eq_true rfl⟩ rfl rfl hl.1 (Nat.le_of_ble_eq_true rfl) dX4_countPeals_48 (fun x27 G9 H locs hq hB => ?_)
              obtain ⟨rfl, i_x27⟩ := hq
              refine iv_ast X hB a_b24 sh_33 (iv_in i_x26 (by decide)) i_x27 dX4_countPeals_51 (fun H locs hB => ?_)
              have hm := iv_Md.ast (j := x26.toNatClampNeg) (x := x27) a_b24 rfl (by decide)
              have h9 := iv_up_eq (G := G18) (a := b24) (k := (33, upd g_b24 x26.toNatClampNeg x27, r_b24))
              generalize iv_up G18 b24 _ = G28 at hB hm h9
              have hM := hM.stp hm (by decide)
              have a_h0 := hm.at a_h0 (by decide)
              refine iv_iinc hx hb i21_x15 (lo := 1) (hi := 8) (by decide) dX4_countPeals_52 hl (k := 0) rfl (by decide) (fun x30 ls e_x30 i_x30 hl => ?_)
              have hl : lv_has ls 5 [(4, .int x30), (3, .int x7), (2, .int x6), (0, .ref h0)] := hl
              refine lv_goto (tgt := 24) hx hb dX4_countPeals_55 (by decide) ?_
              exact ih_24 G28 hM _ _ hB g16 r17 a_h0 x30 (i_x30.wk (by decide)) (iv_mup (c := 1) i_x15 (by decide) (by decide) (by omega) hn_24) _ (lv_sub hl [0, 1, 2, 3] rfl)
        exact L_24 _ G10 hM _ _ hB g8 r9 a_h0 0 (q_0.wk (by decide)) (Nat.lt_succ_self _) _ (lv_sub hl [0, 1, 2, 3] rfl)
  exact L_16 _ G1 hM _ _ hB g2 r3 a_h0 0 (q_0.wk (by decide)) (Nat.lt_succ_self _) _ (lv_sub hl [0, 1, 2] rfl)
theorem dX4_firstAfter_0 : decode cX4_firstAfter 0 = .ok (.iconst 0, 1) := by decide +kernel
theorem dX4_firstAfter_1 : decode cX4_firstAfter 1 = .ok (.istore_n 3, 1) := by decide +kernel
theorem dX4_firstAfter_2 : decode cX4_firstAfter 2 = .ok (.iload_n 3, 1) := by decide +kernel
theorem dX4_firstAfter_3 : decode cX4_firstAfter 3 = .ok (.aload_n 0, 1) := by decide +kernel
theorem dX4_firstAfter_4 : decode cX4_firstAfter 4 = .ok (.getfield 61, 3) := by decide +kernel
theorem dX4_firstAfter_7 : decode cX4_firstAfter 7 = .ok (.if_icmp .ge 39, 3) := by decide +kernel
theorem dX4_firstAfter_10 : decode cX4_firstAfter 10 = .ok (.aload_n 0, 1) := by decide +kernel
theorem dX4_firstAfter_11 : decode cX4_firstAfter 11 = .ok (.iload_n 1, 1) := by decide +kernel
theorem dX4_firstAfter_12 : decode cX4_firstAfter 12 = .ok (.iload_n 2, 1) := by decide +kernel
theorem dX4_firstAfter_13 : decode cX4_firstAfter 13 = .ok (.iload_n 3, 1) := by decide +kernel
theorem dX4_firstAfter_14 : decode cX4_firstAfter 14 = .ok (.invokevirtual 67, 3) := by decide +kernel
theorem dX4_firstAfter_17 : decode cX4_firstAfter 17 = .ok (.ifCond .eq 23, 3) := by decide +kernel
theorem dX4_firstAfter_20 : decode cX4_firstAfter 20 = .ok (.aload_n 0, 1) := by decide +kernel
theorem dX4_firstAfter_21 : decode cX4_firstAfter 21 = .ok (.getfield 18, 3) := by decide +kernel
theorem dX4_firstAfter_24 : decode cX4_firstAfter 24 = .ok (.iload_n 1, 1) := by decide +kernel
theorem dX4_firstAfter_25 : decode cX4_firstAfter 25 = .ok (.iconst 1, 1) := by decide +kernel
theorem dX4_firstAfter_26 : decode cX4_firstAfter 26 = .ok (.iload_n 3, 1) := by decide +kernel
theorem dX4_firstAfter_27 : decode cX4_firstAfter 27 = .ok (.ishl, 1) := by decide +kernel
theorem dX4_firstAfter_28 : decode cX4_firstAfter 28 = .ok (.ixor, 1) := by decide +kernel
theorem dX4_firstAfter_29 : decode cX4_firstAfter 29 = .ok (.bipush 8, 2) := by decide +kernel
theorem dX4_firstAfter_31 : decode cX4_firstAfter 31 = .ok (.imul, 1) := by decide +kernel
theorem dX4_firstAfter_32 : decode cX4_firstAfter 32 = .ok (.iload_n 3, 1) := by decide +kernel
theorem dX4_firstAfter_33 : decode cX4_firstAfter 33 = .ok (.iadd, 1) := by decide +kernel
theorem dX4_firstAfter_34 : decode cX4_firstAfter 34 = .ok (.iaload, 1) := by decide +kernel
theorem dX4_firstAfter_35 : decode cX4_firstAfter 35 = .ok (.ifCond .le 5, 3) := by decide +kernel
theorem dX4_firstAfter_38 : decode cX4_firstAfter 38 = .ok (.iload_n 3, 1) := by decide +kernel
theorem dX4_firstAfter_39 : decode cX4_firstAfter 39 = .ok (.ireturn, 1) := by decide +kernel
theorem dX4_firstAfter_40 : decode cX4_firstAfter 40 = .ok (.iinc 3 1, 3) := by decide +kernel
theorem dX4_firstAfter_43 : decode cX4_firstAfter 43 = .ok (.goto (-41), 3) := by decide +kernel
theorem dX4_firstAfter_46 : decode cX4_firstAfter 46 = .ok (.iconst (-1), 1) := by decide +kernel
theorem dX4_firstAfter_47 : decode cX4_firstAfter 47 = .ok (.ireturn, 1) := by decide +kernel
set_option maxHeartbeats 4000000 in
set_option maxRecDepth 100000 in
theorem c_X4_firstAfter (l : Launch) (D : va_G) (tys : List (ClassId × FieldType)) (base : Nat) (G : iv_G) (h0 : Nat) (g_h0 : Nat → Int32) (r_h0 : Nat → Nat) (a_h0 : G h0 = some (4, g_h0, r_h0)) (x_0 : Int32) (i_x_0 : iv_R 0 255 x_0) (x_1 : Int32) (i_x_1 : iv_R (-1) 7 x_1) : Met l yX4_firstAfter (Cond.code yX4_firstAfter cX4_firstAfter 4 (some .int) :: iv_W0) ({ frames := 3, cells := 0, slots := 0, locals := 58 }) (iv_Pc iv_sh D classes tys base G [.ref h0, .int x_0, .int x_1]) (iv_Qi iv_sh D classes tys base (fun v G' => G = G' ∧ iv_R (-1) 7 v)) 0 0 (iv_A base) := by
  refine iv_head (by decide) (Nat.le_of_ble_eq_true rfl) ?_
  intro p e s m args below meth c ls X hr hlocks hname hB hl
  have X := X
  have hx := X.1.1
  have hb := X.1.2.1
  have hl : lv_has ls 4 [(0, .ref h0), (1, .int x_0), (2, .int x_1)] := hl
  refine lv_iconst (v := 0) hx hb dX4_firstAfter_0 (by decide) ?_
  refine lv_istore_n (lv' := [(3, .int 0), (0, .ref h0), (1, .int x_0), (2, .int x_1)]) hx hb dX4_firstAfter_1 rfl hl (by decide) rfl (fun ls hl => ?_)
  have L_2 : ∀ (n_2 : Nat) (H : Heap) (locs : List Loc) (hB : iv_B iv_sh D classes tys base G s.heap H locs) (x1 : Int32) (i_x1 : iv_R 0 8 x1) (hn_2 : (9 - x1.toInt).toNat < n_2) (ls : Array Slot) (hl : lv_has ls 4 [(3, .int x1), (0, .ref h0), (1, .int x_0), (2, .int x_1)]), W p l e ({ frames := 3, cells := 0, slots := 0, locals := 58 } : Room) s m args below meth c H locs 0 0 (MQ below (iv_Qi iv_sh D classes tys base (fun v G' => G = G' ∧ iv_R (-1) 7 v)) args s 0 0 (iv_A base)) (F0 m 2 ls []) := by
    intro n_2
    induction n_2 with
    | zero => intro H locs hB x1 i_x1 hn_2 ls hl; exact absurd hn_2 (Nat.not_lt_zero _)
    | succ n_2 ih_2 =>
      intro H locs hB x1 i_x1 hn_2 ls hl
      refine lv_iload_n hx hb dX4_firstAfter_2 rfl (lv_at hl 0 rfl) ?_
      refine lv_aload_n hx hb dX4_firstAfter_3 rfl (lv_at hl 1 rfl) ?_
      refine iv_geti X ft_X4 hB a_h0 sh_4 3 (by decide) rfl k_fl_X4_61 dX4_firstAfter_4 (fun x2 e_x2 i_x2 => ?_)
      refine lv_icmp_ge (tgt := 46) hx hb dX4_firstAfter_7 (by decide) (fun c3 => ?_) (fun c3 => ?_)
      · skip
        refine lv_iconst (v := (-1)) hx hb dX4_firstAfter_46 (by decide) ?_
        exact iv_iret X hr hlocks hB ⟨rfl, (q_n1.wk (by decide))⟩ dX4_firstAfter_47
      · skip
        have i3_x1 : iv_R 0 7 x1 := (i_x1.cutHi (n := 7) (iv_lt_r (iv_nle c3) i_x2 (by decide)))
        have i4_x2 : iv_R 1 8 x2 := (i_x2.cutLo (n := 1) (iv_lt_l (iv_nle c3) i_x1 (by decide)))
        refine lv_aload_n hx hb dX4_firstAfter_10 rfl (lv_at hl 1 rfl) ?_
        refine lv_iload_n hx hb dX4_firstAfter_11 rfl (lv_at hl 2 rfl) ?_
        refine lv_iload_n hx hb dX4_firstAfter_12 rfl (lv_at hl 3 rfl) ?_
        refine lv_iload_n hx hb dX4_firstAfter_13 rfl (lv_at hl 0 rfl) ?_
        refine iv_cVi X k_good k_mf_X4_canFollow k_im_X4_canFollow k_sel_X4_canFollow k_ml_X4_67 ft_X4 hB a_h0 sh_4 (As := [.int x_0, .int x_1, .int x1]) (c_X4_canFollow l D tys base G h0 g_h0 r_h0 a_h0 x_0 i_x_0 x_1 i_x_1 x1 i3_x1) ⟨rfl, rfl⟩ ⟨Nat.le_of_ble_eq_true rfl, Nat.le_of_ble_eq_true rfl⟩ ⟨Nat.le_of_ble_eq_true rfl, Nat.le_of_ble_eq_true rfl⟩ rfl rfl hl.1 (Nat.le_of_ble_eq_true rfl) dX4_firstAfter_14 (fun x6 G9 H locs hq hB => ?_)
        obtain ⟨rfl, i_x6⟩ := hq
        refine lv_if_eq (tgt := 40) hx hb dX4_firstAfter_17 (by decide) (fun c7 => ?_) (fun c7 => ?_)
        · skip
          have i7_x6 : iv_R 0 0 x6 := (i_x6.cutHi (n := 0) (iv_eq_r c7 q_0).2)
          refine iv_iinc hx hb i3_x1 (lo := 1) (hi := 8) (by decide) dX4_firstAfter_40 hl (k := 0) rfl (by decide) (fun x9 ls e_x9 i_x9 hl => ?_)
          have hl : lv_has ls 4 [(3, .int x9), (0, .ref h0), (1, .int x_0), (2, .int x_1)] := hl
          refine lv_goto (tgt := 2) hx hb dX4_firstAfter_43 (by decide) ?_
          exact ih_2 _ _ hB x9 (i_x9.wk (by decide)) (iv_mup (c := 1) i_x1 (by decide) (by decide) (by omega) hn_2) _ (lv_sub hl [0, 1, 2, 3] rfl)
        · skip
          have i9_x6 : iv_R 1 1 x6 := iv_ne_lo c7 i_x6 q_0 (by decide)
          refine lv_aload_n hx hb dX4_firstAfter_20 rfl (lv_at hl 1 rfl) ?_
          refine iv_getr X ft_X4 hB a_h0 sh_4 4 (by decide) rfl k_fl_X4_18 dX4_firstAfter_21 (fun b11 g_b11 r_b11 e_b11 a_b11 => ?_)
          refine lv_iload_n hx hb dX4_firstAfter_24 rfl (lv_at hl 2 rfl) ?_
          refine lv_iconst (v := 1) hx hb dX4_firstAfter_25 (by decide) ?_
          refine lv_iload_n hx hb dX4_firstAfter_26 rfl (lv_at hl 0 rfl) ?_
          refine iv_shl1 hx hb i3_x1 (lo := 1) (hi := 128) (by decide) dX4_firstAfter_27 (fun x12 e_x12 i_x12 => ?_)
          refine iv_ixor hx hb i_x_0 i_x12 (k := 8) (hi := 255) (by decide) dX4_firstAfter_28 (fun x13 e_x13 i_x13 => ?_)
          refine lv_bipush (v := 8) hx hb dX4_firstAfter_29 (by decide) ?_
          refine iv_imul hx hb i_x13 q_8 (lo := 0) (hi := 2040) (by decide) dX4_firstAfter_31 (fun x14 e_x14 i_x14 => ?_)
          refine lv_iload_n hx hb dX4_firstAfter_32 rfl (lv_at hl 0 rfl) ?_
          refine iv_iadd hx hb i_x14 i3_x1 (lo := 0) (hi := 2047) (by decide) dX4_firstAfter_33 (fun x15 e_x15 i_x15 => ?_)
          refine iv_ald X hB a_b11 sh_33 (iv_in i_x15 (by decide)) dX4_firstAfter_34 (fun x16 e_x16 i_x16 => ?_)
          refine lv_if_le (tgt := 40) hx hb dX4_firstAfter_35 (by decide) (fun c17 => ?_) (fun c17 => ?_)
          · skip
            have i17_x16 : iv_R (-2147483648) 0 x16 := (i_x16.cutHi (n := 0) (iv_le_r c17 q_0))
            refine iv_iinc hx hb i3_x1 (lo := 1) (hi := 8) (by decide) dX4_firstAfter_40 hl (k := 0) rfl (by decide) (fun x19 ls e_x19 i_x19 hl => ?_)
            have hl : lv_has ls 4 [(3, .int x19), (0, .ref h0), (1, .int x_0), (2, .int x_1)] := hl
            refine lv_goto (tgt := 2) hx hb dX4_firstAfter_43 (by decide) ?_
            exact ih_2 _ _ hB x19 (i_x19.wk (by decide)) (iv_mup (c := 1) i_x1 (by decide) (by decide) (by omega) hn_2) _ (lv_sub hl [0, 1, 2, 3] rfl)
          · skip
            have i19_x16 : iv_R 1 2147483647 x16 := (i_x16.cutLo (n := 1) (iv_lt_l (iv_nle c17) q_0 (by decide)))
            refine lv_iload_n hx hb dX4_firstAfter_38 rfl (lv_at hl 0 rfl) ?_
            exact iv_iret X hr hlocks hB ⟨rfl, (i3_x1.wk (by decide))⟩ dX4_firstAfter_39
  exact L_2 _ _ _ hB 0 (q_0.wk (by decide)) (Nat.lt_succ_self _) _ (lv_sub hl [0, 1, 2, 3] rfl)
theorem dX4_inFirstPeal_0 : decode cX4_inFirstPeal 0 = .ok (.iconst 1, 1) := by decide +kernel
theorem dX4_inFirstPeal_1 : decode cX4_inFirstPeal 1 = .ok (.aload_n 0, 1) := by decide +kernel
theorem dX4_inFirstPeal_2 : decode cX4_inFirstPeal 2 = .ok (.getfield 61, 3) := by decide +kernel
theorem dX4_inFirstPeal_5 : decode cX4_inFirstPeal 5 = .ok (.ishl, 1) := by decide +kernel
theorem dX4_inFirstPeal_6 : decode cX4_inFirstPeal 6 = .ok (.iconst 1, 1) := by decide +kernel
theorem dX4_inFirstPeal_7 : decode cX4_inFirstPeal 7 = .ok (.isub, 1) := by decide +kernel
theorem dX4_inFirstPeal_8 : decode cX4_inFirstPeal 8 = .ok (.istore_n 2, 1) := by decide +kernel
theorem dX4_inFirstPeal_9 : decode cX4_inFirstPeal 9 = .ok (.iconst (-1), 1) := by decide +kernel
theorem dX4_inFirstPeal_10 : decode cX4_inFirstPeal 10 = .ok (.istore_n 3, 1) := by decide +kernel
theorem dX4_inFirstPeal_11 : decode cX4_inFirstPeal 11 = .ok (.iconst 0, 1) := by decide +kernel
theorem dX4_inFirstPeal_12 : decode cX4_inFirstPeal 12 = .ok (.istore 4, 2) := by decide +kernel
theorem dX4_inFirstPeal_14 : decode cX4_inFirstPeal 14 = .ok (.iload 4, 2) := by decide +kernel
theorem dX4_inFirstPeal_16 : decode cX4_inFirstPeal 16 = .ok (.iload_n 1, 1) := by decide +kernel
theorem dX4_inFirstPeal_17 : decode cX4_inFirstPeal 17 = .ok (.if_icmp .gt 29, 3) := by decide +kernel
theorem dX4_inFirstPeal_20 : decode cX4_inFirstPeal 20 = .ok (.aload_n 0, 1) := by decide +kernel
theorem dX4_inFirstPeal_21 : decode cX4_inFirstPeal 21 = .ok (.iload_n 2, 1) := by decide +kernel
theorem dX4_inFirstPeal_22 : decode cX4_inFirstPeal 22 = .ok (.iload_n 3, 1) := by decide +kernel
theorem dX4_inFirstPeal_23 : decode cX4_inFirstPeal 23 = .ok (.invokevirtual 70, 3) := by decide +kernel
theorem dX4_inFirstPeal_26 : decode cX4_inFirstPeal 26 = .ok (.istore_n 3, 1) := by decide +kernel
theorem dX4_inFirstPeal_27 : decode cX4_inFirstPeal 27 = .ok (.iload_n 3, 1) := by decide +kernel
theorem dX4_inFirstPeal_28 : decode cX4_inFirstPeal 28 = .ok (.iconst (-1), 1) := by decide +kernel
theorem dX4_inFirstPeal_29 : decode cX4_inFirstPeal 29 = .ok (.if_icmp .ne 5, 3) := by decide +kernel
theorem dX4_inFirstPeal_32 : decode cX4_inFirstPeal 32 = .ok (.iconst (-1), 1) := by decide +kernel
theorem dX4_inFirstPeal_33 : decode cX4_inFirstPeal 33 = .ok (.ireturn, 1) := by decide +kernel
theorem dX4_inFirstPeal_34 : decode cX4_inFirstPeal 34 = .ok (.iload_n 2, 1) := by decide +kernel
theorem dX4_inFirstPeal_35 : decode cX4_inFirstPeal 35 = .ok (.iconst 1, 1) := by decide +kernel
theorem dX4_inFirstPeal_36 : decode cX4_inFirstPeal 36 = .ok (.iload_n 3, 1) := by decide +kernel
theorem dX4_inFirstPeal_37 : decode cX4_inFirstPeal 37 = .ok (.ishl, 1) := by decide +kernel
theorem dX4_inFirstPeal_38 : decode cX4_inFirstPeal 38 = .ok (.ixor, 1) := by decide +kernel
theorem dX4_inFirstPeal_39 : decode cX4_inFirstPeal 39 = .ok (.istore_n 2, 1) := by decide +kernel
theorem dX4_inFirstPeal_40 : decode cX4_inFirstPeal 40 = .ok (.iinc 4 1, 3) := by decide +kernel
theorem dX4_inFirstPeal_43 : decode cX4_inFirstPeal 43 = .ok (.goto (-29), 3) := by decide +kernel
theorem dX4_inFirstPeal_46 : decode cX4_inFirstPeal 46 = .ok (.iload_n 3, 1) := by decide +kernel
theorem dX4_inFirstPeal_47 : decode cX4_inFirstPeal 47 = .ok (.iconst (-1), 1) := by decide +kernel
theorem dX4_inFirstPeal_48 : decode cX4_inFirstPeal 48 = .ok (.if_icmp .ne 7, 3) := by decide +kernel
theorem dX4_inFirstPeal_51 : decode cX4_inFirstPeal 51 = .ok (.iconst (-1), 1) := by decide +kernel
theorem dX4_inFirstPeal_52 : decode cX4_inFirstPeal 52 = .ok (.goto 9, 3) := by decide +kernel
theorem dX4_inFirstPeal_55 : decode cX4_inFirstPeal 55 = .ok (.aload_n 0, 1) := by decide +kernel
theorem dX4_inFirstPeal_56 : decode cX4_inFirstPeal 56 = .ok (.getfield 15, 3) := by decide +kernel
theorem dX4_inFirstPeal_59 : decode cX4_inFirstPeal 59 = .ok (.iload_n 3, 1) := by decide +kernel
theorem dX4_inFirstPeal_60 : decode cX4_inFirstPeal 60 = .ok (.iaload, 1) := by decide +kernel
theorem dX4_inFirstPeal_61 : decode cX4_inFirstPeal 61 = .ok (.ireturn, 1) := by decide +kernel
set_option maxHeartbeats 4000000 in
set_option maxRecDepth 100000 in
theorem c_X4_inFirstPeal (l : Launch) (D : va_G) (tys : List (ClassId × FieldType)) (base : Nat) (G : iv_G) (h0 : Nat) (g_h0 : Nat → Int32) (r_h0 : Nat → Nat) (a_h0 : G h0 = some (4, g_h0, r_h0)) (x_0 : Int32) (i_x_0 : iv_R (-2147483648) 62 x_0) : Met l yX4_inFirstPeal (Cond.code yX4_inFirstPeal cX4_inFirstPeal 5 (some .int) :: iv_W0) ({ frames := 4, cells := 0, slots := 0, locals := 81 }) (iv_Pc iv_sh D classes tys base G [.ref h0, .int x_0]) (iv_Qi iv_sh D classes tys base (fun v G' => G = G' ∧ iv_R (-1) 9 v)) 0 0 (iv_A base) := by
  refine iv_head (by decide) (Nat.le_of_ble_eq_true rfl) ?_
  intro p e s m args below meth c ls X hr hlocks hname hB hl
  have X := X
  have hx := X.1.1
  have hb := X.1.2.1
  have hl : lv_has ls 5 [(0, .ref h0), (1, .int x_0)] := hl
  refine lv_iconst (v := 1) hx hb dX4_inFirstPeal_0 (by decide) ?_
  refine lv_aload_n hx hb dX4_inFirstPeal_1 rfl (lv_at hl 0 rfl) ?_
  refine iv_geti X ft_X4 hB a_h0 sh_4 3 (by decide) rfl k_fl_X4_61 dX4_inFirstPeal_2 (fun x1 e_x1 i_x1 => ?_)
  refine iv_shl1 hx hb i_x1 (lo := 1) (hi := 256) (by decide) dX4_inFirstPeal_5 (fun x2 e_x2 i_x2 => ?_)
  refine lv_iconst (v := 1) hx hb dX4_inFirstPeal_6 (by decide) ?_
  refine iv_isub hx hb i_x2 q_1 (lo := 0) (hi := 255) (by decide) dX4_inFirstPeal_7 (fun x3 e_x3 i_x3 => ?_)
  refine lv_istore_n (lv' := [(2, .int x3), (0, .ref h0), (1, .int x_0)]) hx hb dX4_inFirstPeal_8 rfl hl (by decide) rfl (fun ls hl => ?_)
  refine lv_iconst (v := (-1)) hx hb dX4_inFirstPeal_9 (by decide) ?_
  refine lv_istore_n (lv' := [(3, .int (-1)), (2, .int x3), (0, .ref h0), (1, .int x_0)]) hx hb dX4_inFirstPeal_10 rfl hl (by decide) rfl (fun ls hl => ?_)
  refine lv_iconst (v := 0) hx hb dX4_inFirstPeal_11 (by decide) ?_
  refine lv_istore (lv' := [(4, .int 0), (3, .int (-1)), (2, .int x3), (0, .ref h0), (1, .int x_0)]) hx hb dX4_inFirstPeal_12 hl (by decide) rfl (fun ls hl => ?_)
  have L_14 : ∀ (n_14 : Nat) (H : Heap) (locs : List Loc) (hB : iv_B iv_sh D classes tys base G s.heap H locs) (x4 : Int32) (i_x4 : iv_R 0 255 x4) (x5 : Int32) (i_x5 : iv_R (-1) 7 x5) (x6 : Int32) (i_x6 : iv_R 0 64 x6) (hn_14 : (65 - x6.toInt).toNat < n_14) (ls : Array Slot) (hl : lv_has ls 5 [(4, .int x6), (3, .int x5), (2, .int x4), (0, .ref h0), (1, .int x_0)]), W p l e ({ frames := 4, cells := 0, slots := 0, locals := 81 } : Room) s m args below meth c H locs 0 0 (MQ below (iv_Qi iv_sh D classes tys base (fun v G' => G = G' ∧ iv_R (-1) 9 v)) args s 0 0 (iv_A base)) (F0 m 14 ls []) := by
    intro n_14
    induction n_14 with
    | zero => intro H locs hB x4 i_x4 x5 i_x5 x6 i_x6 hn_14 ls hl; exact absurd hn_14 (Nat.not_lt_zero _)
    | succ n_14 ih_14 =>
      intro H locs hB x4 i_x4 x5 i_x5 x6 i_x6 hn_14 ls hl
      refine lv_iload hx hb dX4_inFirstPeal_14 (lv_at hl 0 rfl) ?_
      refine lv_iload_n hx hb dX4_inFirstPeal_16 rfl (lv_at hl 4 rfl) ?_
      refine lv_icmp_gt (tgt := 46) hx hb dX4_inFirstPeal_17 (by decide) (fun c7 => ?_) (fun c7 => ?_)
      · skip
        refine lv_iload_n hx hb dX4_inFirstPeal_46 rfl (lv_at hl 1 rfl) ?_
        refine lv_iconst (v := (-1)) hx hb dX4_inFirstPeal_47 (by decide) ?_
        refine lv_icmp_ne (tgt := 55) hx hb dX4_inFirstPeal_48 (by decide) (fun c8 => ?_) (fun c8 => ?_)
        · skip
          have i8_x5 : iv_R 0 7 x5 := iv_ne_lo c8 i_x5 q_n1 (by decide)
          refine lv_aload_n hx hb dX4_inFirstPeal_55 rfl (lv_at hl 3 rfl) ?_
          refine iv_getr X ft_X4 hB a_h0 sh_4 2 (by decide) rfl k_fl_X4_15 dX4_inFirstPeal_56 (fun b10 g_b10 r_b10 e_b10 a_b10 => ?_)
          refine lv_iload_n hx hb dX4_inFirstPeal_59 rfl (lv_at hl 1 rfl) ?_
          refine iv_ald X hB a_b10 sh_32 (iv_in i8_x5 (by decide)) dX4_inFirstPeal_60 (fun x11 e_x11 i_x11 => ?_)
          exact iv_iret X hr hlocks hB ⟨rfl, (i_x11.wk (by decide))⟩ dX4_inFirstPeal_61
        · skip
          have i11_x5 : iv_R (-1) (-1) x5 := (i_x5.cutHi (n := (-1)) (iv_eq_r c8 q_n1).2)
          refine lv_iconst (v := (-1)) hx hb dX4_inFirstPeal_51 (by decide) ?_
          refine lv_goto (tgt := 61) hx hb dX4_inFirstPeal_52 (by decide) ?_
          exact iv_iret X hr hlocks hB ⟨rfl, (q_n1.wk (by decide))⟩ dX4_inFirstPeal_61
      · skip
        have i12_x6 : iv_R 0 62 x6 := (i_x6.cutHi (n := 62) (iv_le_r (iv_nlt c7) i_x_0))
        have i13_x_0 : iv_R 0 62 x_0 := (i_x_0.cutLo (n := 0) (iv_le_l (iv_nlt c7) i_x6))
        refine lv_aload_n hx hb dX4_inFirstPeal_20 rfl (lv_at hl 3 rfl) ?_
        refine lv_iload_n hx hb dX4_inFirstPeal_21 rfl (lv_at hl 2 rfl) ?_
        refine lv_iload_n hx hb dX4_inFirstPeal_22 rfl (lv_at hl 1 rfl) ?_
        refine iv_cVi X k_good k_mf_X4_firstAfter k_im_X4_firstAfter k_sel_X4_firstAfter k_ml_X4_70 ft_X4 hB a_h0 sh_4 (As := [.int x4, .int x5]) (c_X4_firstAfter l D tys base G h0 g_h0 r_h0 a_h0 x4 i_x4 x5 i_x5) ⟨rfl, rfl⟩ ⟨Nat.le_of_ble_eq_true rfl, Nat.le_of_ble_eq_true rfl⟩ ⟨Nat.le_of_ble_eq_true rfl, Nat.le_of_ble_eq_true rfl⟩ rfl rfl hl.1 (Nat.le_of_ble_eq_true rfl) dX4_inFirstPeal_23 (fun x15 G9 H locs hq hB => ?_)
        obtain ⟨rfl, i_x15⟩ := hq
        refine lv_istore_n (lv' := [(3, .int x15), (4, .int x6), (2, .int x4), (0, .ref h0), (1, .int x_0)]) hx hb dX4_inFirstPeal_26 rfl hl (by decide) rfl (fun ls hl => ?_)
        refine lv_iload_n hx hb dX4_inFirstPeal_27 rfl (lv_at hl 0 rfl) ?_
        refine lv_iconst (v := (-1)) hx hb dX4_inFirstPeal_28 (by decide) ?_
        refine lv_icmp_ne (tgt := 34) hx hb dX4_inFirstPeal_29 (by decide) (fun c16 => ?_) (fun c16 => ?_)
        · skip
          have i16_x15 : iv_R 0 7 x15 := iv_ne_lo c16 i_x15 q_n1 (by decide)
          refine lv_iload_n hx hb dX4_inFirstPeal_34 rfl (lv_at hl 2 rfl) ?_
          refine lv_iconst (v := 1) hx hb dX4_inFirstPeal_35 (by decide) ?_
          refine lv_iload_n hx hb dX4_inFirstPeal_36 rfl (lv_at hl 0 rfl) ?_
          refine iv_shl1 hx hb i16_x15 (lo := 1) (hi := 128) (by decide) dX4_inFirstPeal_37 (fun x18 e_x18 i_x18 => ?_)
          refine iv_ixor hx hb i_x4 i_x18 (k := 8) (hi := 255) (by decide) dX4_inFirstPeal_38 (fun x19 e_x19 i_x19 => ?_)
          refine lv_istore_n (lv' := [(2, .int x19), (3, .int x15), (4, .int x6), (0, .ref h0), (1, .int x_0)]) hx hb dX4_inFirstPeal_39 rfl hl (by decide) rfl (fun ls hl => ?_)
          refine iv_iinc hx hb i12_x6 (lo := 1) (hi := 63) (by decide) dX4_inFirstPeal_40 hl (k := 2) rfl (by decide) (fun x20 ls e_x20 i_x20 hl => ?_)
          have hl : lv_has ls 5 [(4, .int x20), (2, .int x19), (3, .int x15), (0, .ref h0), (1, .int x_0)] := hl
          refine lv_goto (tgt := 14) hx hb dX4_inFirstPeal_43 (by decide) ?_
          exact ih_14 _ _ hB x19 i_x19 x15 (i16_x15.wk (by decide)) x20 (i_x20.wk (by decide)) (iv_mup (c := 1) i_x6 (by decide) (by decide) (by omega) hn_14) _ (lv_sub hl [0, 2, 1, 3, 4] rfl)
        · skip
          have i20_x15 : iv_R (-1) (-1) x15 := (i_x15.cutHi (n := (-1)) (iv_eq_r c16 q_n1).2)
          refine lv_iconst (v := (-1)) hx hb dX4_inFirstPeal_32 (by decide) ?_
          exact iv_iret X hr hlocks hB ⟨rfl, (q_n1.wk (by decide))⟩ dX4_inFirstPeal_33
  exact L_14 _ _ _ hB x3 i_x3 (-1) (q_n1.wk (by decide)) 0 (q_0.wk (by decide)) (Nat.lt_succ_self _) _ (lv_sub hl [0, 1, 2, 3, 4] rfl)
theorem dX5_isSetOfBells_0 : decode cX5_isSetOfBells 0 = .ok (.iload_n 1, 1) := by decide +kernel
theorem dX5_isSetOfBells_1 : decode cX5_isSetOfBells 1 = .ok (.aload_n 0, 1) := by decide +kernel
theorem dX5_isSetOfBells_2 : decode cX5_isSetOfBells 2 = .ok (.getfield 61, 3) := by decide +kernel
theorem dX5_isSetOfBells_5 : decode cX5_isSetOfBells 5 = .ok (.iushr, 1) := by decide +kernel
theorem dX5_isSetOfBells_6 : decode cX5_isSetOfBells 6 = .ok (.ifCond .ne 7, 3) := by decide +kernel
theorem dX5_isSetOfBells_9 : decode cX5_isSetOfBells 9 = .ok (.iconst 1, 1) := by decide +kernel
theorem dX5_isSetOfBells_10 : decode cX5_isSetOfBells 10 = .ok (.goto 4, 3) := by decide +kernel
theorem dX5_isSetOfBells_13 : decode cX5_isSetOfBells 13 = .ok (.iconst 0, 1) := by decide +kernel
theorem dX5_isSetOfBells_14 : decode cX5_isSetOfBells 14 = .ok (.ireturn, 1) := by decide +kernel
set_option maxHeartbeats 4000000 in
set_option maxRecDepth 100000 in
theorem c_X5_isSetOfBells (l : Launch) (D : va_G) (tys : List (ClassId × FieldType)) (base : Nat) (G : iv_G) (h0 : Nat) (g_h0 : Nat → Int32) (r_h0 : Nat → Nat) (a_h0 : G h0 = some (5, g_h0, r_h0)) (x_0 : Int32) (i_x_0 : iv_R (-2147483648) 2147483647 x_0) : Met l yX5_isSetOfBells (Cond.code yX5_isSetOfBells cX5_isSetOfBells 2 (some .boolean) :: iv_W0) ({ frames := 0, cells := 0, slots := 0, locals := 0 }) (iv_Pc iv_sh D classes tys base G [.ref h0, .int x_0]) (iv_Qi iv_sh D classes tys base (fun v G' => G = G' ∧ iv_R 0 1 v)) 0 0 (iv_A base) := by
  refine iv_head (by decide) (Nat.le_of_ble_eq_true rfl) ?_
  intro p e s m args below meth c ls X hr hlocks hname hB hl
  have X := X
  have hx := X.1.1
  have hb := X.1.2.1
  have hl : lv_has ls 2 [(0, .ref h0), (1, .int x_0)] := hl
  refine lv_iload_n hx hb dX5_isSetOfBells_0 rfl (lv_at hl 1 rfl) ?_
  refine lv_aload_n hx hb dX5_isSetOfBells_1 rfl (lv_at hl 0 rfl) ?_
  refine iv_geti X ft_X5 hB a_h0 sh_5 1 (by decide) rfl k_fl_X5_61 dX5_isSetOfBells_2 (fun x1 e_x1 i_x1 => ?_)
  refine lv_iushr hx hb dX5_isSetOfBells_5 rfl ?_
  refine lv_topi (fun x2 e_x2 => ?_)
  have i_x2 := iv_R.all x2
  refine lv_if_ne (tgt := 13) hx hb dX5_isSetOfBells_6 (by decide) (fun c3 => ?_) (fun c3 => ?_)
  · skip
    refine lv_iconst (v := 0) hx hb dX5_isSetOfBells_13 (by decide) ?_
    exact iv_zret X hr hlocks hB (q_0.wk (by decide)) ⟨rfl, (q_0.wk (by decide))⟩ dX5_isSetOfBells_14
  · skip
    have i3_x2 : iv_R 0 0 x2 := ((i_x2.cutLo (n := 0) (iv_eq_r c3 q_0).1).cutHi (n := 0) (iv_eq_r c3 q_0).2)
    refine lv_iconst (v := 1) hx hb dX5_isSetOfBells_9 (by decide) ?_
    refine lv_goto (tgt := 14) hx hb dX5_isSetOfBells_10 (by decide) ?_
    exact iv_zret X hr hlocks hB (q_1.wk (by decide)) ⟨rfl, (q_1.wk (by decide))⟩ dX5_isSetOfBells_14
theorem dX11_peals_0 : decode cX11_peals 0 = .ok (.aload_n 0, 1) := by decide +kernel
theorem dX11_peals_1 : decode cX11_peals 1 = .ok (.getfield 12, 3) := by decide +kernel
theorem dX11_peals_4 : decode cX11_peals 4 = .ok (.iload_n 1, 1) := by decide +kernel
theorem dX11_peals_5 : decode cX11_peals 5 = .ok (.invokevirtual 322, 3) := by decide +kernel
theorem dX11_peals_8 : decode cX11_peals 8 = .ok (.ifCond .eq 12, 3) := by decide +kernel
theorem dX11_peals_11 : decode cX11_peals 11 = .ok (.iload_n 1, 1) := by decide +kernel
theorem dX11_peals_12 : decode cX11_peals 12 = .ok (.invokestatic 288, 3) := by decide +kernel
theorem dX11_peals_15 : decode cX11_peals 15 = .ok (.bipush 8, 2) := by decide +kernel
theorem dX11_peals_17 : decode cX11_peals 17 = .ok (.if_icmp .le 5, 3) := by decide +kernel
theorem dX11_peals_20 : decode cX11_peals 20 = .ok (.iconst (-1), 1) := by decide +kernel
theorem dX11_peals_21 : decode cX11_peals 21 = .ok (.ireturn, 1) := by decide +kernel
theorem dX11_peals_22 : decode cX11_peals 22 = .ok (.iload_n 2, 1) := by decide +kernel
theorem dX11_peals_23 : decode cX11_peals 23 = .ok (.ifCond .ne 12, 3) := by decide +kernel
theorem dX11_peals_26 : decode cX11_peals 26 = .ok (.aload_n 0, 1) := by decide +kernel
theorem dX11_peals_27 : decode cX11_peals 27 = .ok (.getfield 65, 3) := by decide +kernel
theorem dX11_peals_30 : decode cX11_peals 30 = .ok (.iload_n 1, 1) := by decide +kernel
theorem dX11_peals_31 : decode cX11_peals 31 = .ok (.invokevirtual 331, 3) := by decide +kernel
theorem dX11_peals_34 : decode cX11_peals 34 = .ok (.ireturn, 1) := by decide +kernel
theorem dX11_peals_35 : decode cX11_peals 35 = .ok (.iload_n 2, 1) := by decide +kernel
theorem dX11_peals_36 : decode cX11_peals 36 = .ok (.bipush 10, 2) := by decide +kernel
theorem dX11_peals_38 : decode cX11_peals 38 = .ok (.isub, 1) := by decide +kernel
theorem dX11_peals_39 : decode cX11_peals 39 = .ok (.istore_n 3, 1) := by decide +kernel
theorem dX11_peals_40 : decode cX11_peals 40 = .ok (.iload_n 2, 1) := by decide +kernel
theorem dX11_peals_41 : decode cX11_peals 41 = .ok (.bipush 10, 2) := by decide +kernel
theorem dX11_peals_43 : decode cX11_peals 43 = .ok (.if_icmp .lt 22, 3) := by decide +kernel
theorem dX11_peals_46 : decode cX11_peals 46 = .ok (.iload_n 3, 1) := by decide +kernel
theorem dX11_peals_47 : decode cX11_peals 47 = .ok (.iload_n 1, 1) := by decide +kernel
theorem dX11_peals_48 : decode cX11_peals 48 = .ok (.invokestatic 288, 3) := by decide +kernel
theorem dX11_peals_51 : decode cX11_peals 51 = .ok (.if_icmp .ge 14, 3) := by decide +kernel
theorem dX11_peals_54 : decode cX11_peals 54 = .ok (.aload_n 0, 1) := by decide +kernel
theorem dX11_peals_55 : decode cX11_peals 55 = .ok (.getfield 65, 3) := by decide +kernel
theorem dX11_peals_58 : decode cX11_peals 58 = .ok (.iload_n 1, 1) := by decide +kernel
theorem dX11_peals_59 : decode cX11_peals 59 = .ok (.invokevirtual 331, 3) := by decide +kernel
theorem dX11_peals_62 : decode cX11_peals 62 = .ok (.ifCond .ne 5, 3) := by decide +kernel
theorem dX11_peals_65 : decode cX11_peals 65 = .ok (.iconst (-1), 1) := by decide +kernel
theorem dX11_peals_66 : decode cX11_peals 66 = .ok (.ireturn, 1) := by decide +kernel
theorem dX11_peals_67 : decode cX11_peals 67 = .ok (.aload_n 0, 1) := by decide +kernel
theorem dX11_peals_68 : decode cX11_peals 68 = .ok (.getfield 65, 3) := by decide +kernel
theorem dX11_peals_71 : decode cX11_peals 71 = .ok (.iload_n 3, 1) := by decide +kernel
theorem dX11_peals_72 : decode cX11_peals 72 = .ok (.invokevirtual 334, 3) := by decide +kernel
theorem dX11_peals_75 : decode cX11_peals 75 = .ok (.ireturn, 1) := by decide +kernel
set_option maxHeartbeats 4000000 in
set_option maxRecDepth 100000 in
theorem c_X11_peals (l : Launch) (D : va_G) (tys : List (ClassId × FieldType)) (base : Nat) (G : iv_G) (h0 : Nat) (g_h0 : Nat → Int32) (r_h0 : Nat → Nat) (a_h0 : G h0 = some (11, g_h0, r_h0)) (x_0 : Int32) (i_x_0 : iv_R (-2147483648) 2147483647 x_0) (x_1 : Int32) (i_x_1 : iv_R (-2147483648) 2147483647 x_1) : Met l yX11_peals (Cond.code yX11_peals cX11_peals 4 (some .int) :: iv_W0) ({ frames := 5, cells := 0, slots := 0, locals := 106 }) (iv_Pc iv_sh D classes tys base G [.ref h0, .int x_0, .int x_1]) (iv_Qi iv_sh D classes tys base (fun v G' => iv_Md [4, 32, 33] G G' ∧ iv_R (-2147483648) 2147483647 v)) 0 0 (iv_A base) := by
  refine iv_head (by decide) (Nat.le_of_ble_eq_true rfl) ?_
  intro p e s m args below meth c ls X hr hlocks hname hB hl
  have X := X
  have hx := X.1.1
  have hb := X.1.2.1
  have hM : iv_Md [4, 32, 33] G G := iv_Md.rf
  have hl : lv_has ls 4 [(0, .ref h0), (1, .int x_0), (2, .int x_1)] := hl
  refine lv_aload_n hx hb dX11_peals_0 rfl (lv_at hl 0 rfl) ?_
  refine iv_getr X ft_X11 hB a_h0 sh_11 0 (by decide) rfl k_fl_X11_12 dX11_peals_1 (fun b1 g_b1 r_b1 e_b1 a_b1 => ?_)
  refine lv_iload_n hx hb dX11_peals_4 rfl (lv_at hl 1 rfl) ?_
  refine iv_cVi X k_good k_mf_X5_isSetOfBells k_im_X5_isSetOfBells k_sel_X5_isSetOfBells k_ml_X11_322 ft_X5 hB a_b1 sh_5 (As := [.int x_0]) (c_X5_isSetOfBells l D tys base G b1 g_b1 r_b1 a_b1 x_0 i_x_0) ⟨rfl, rfl⟩ ⟨Nat.le_of_ble_eq_true rfl, Nat.le_of_ble_eq_true rfl⟩ ⟨Nat.le_of_ble_eq_true rfl, Nat.le_of_ble_eq_true rfl⟩ rfl rfl hl.1 (Nat.le_of_ble_eq_true rfl) dX11_peals_5 (fun x2 G9 H locs hq hB => ?_)
  obtain ⟨rfl, i_x2⟩ := hq
  refine lv_if_eq (tgt := 20) hx hb dX11_peals_8 (by decide) (fun c3 => ?_) (fun c3 => ?_)
  · skip
    have i3_x2 : iv_R 0 0 x2 := (i_x2.cutHi (n := 0) (iv_eq_r c3 q_0).2)
    refine lv_iconst (v := (-1)) hx hb dX11_peals_20 (by decide) ?_
    exact iv_iret X hr hlocks hB ⟨hM, (q_n1.wk (by decide))⟩ dX11_peals_21
  · skip
    have i4_x2 : iv_R 1 1 x2 := iv_ne_lo c3 i_x2 q_0 (by decide)
    refine lv_iload_n hx hb dX11_peals_11 rfl (lv_at hl 1 rfl) ?_
    refine iv_cSi X k_good k_mf_J6_bitCount_0f7a4 k_st_J6_bitCount_0f7a4 k_ml_X11_288 hB (As := [.int x_0]) (c_J6_bitCount_0f7a4 l D tys base G x_0 i_x_0) ⟨rfl, rfl⟩ ⟨Nat.le_of_ble_eq_true rfl, Nat.le_of_ble_eq_true rfl⟩ ⟨Nat.le_of_ble_eq_true rfl, Nat.le_of_ble_eq_true rfl⟩ rfl rfl hl.1 (Nat.le_of_ble_eq_true rfl) dX11_peals_12 (fun x6 G9 H locs hq hB => ?_)
    obtain ⟨rfl, i_x6⟩ := hq
    refine lv_bipush (v := 8) hx hb dX11_peals_15 (by decide) ?_
    refine lv_icmp_le (tgt := 22) hx hb dX11_peals_17 (by decide) (fun c7 => ?_) (fun c7 => ?_)
    · skip
      have i7_x6 : iv_R 0 8 x6 := (i_x6.cutHi (n := 8) (iv_le_r c7 q_8))
      refine lv_iload_n hx hb dX11_peals_22 rfl (lv_at hl 2 rfl) ?_
      refine lv_if_ne (tgt := 35) hx hb dX11_peals_23 (by decide) (fun c9 => ?_) (fun c9 => ?_)
      · skip
        refine lv_iload_n hx hb dX11_peals_35 rfl (lv_at hl 2 rfl) ?_
        refine lv_bipush (v := 10) hx hb dX11_peals_36 (by decide) ?_
        refine lv_isub hx hb dX11_peals_38 ?_
        refine lv_topi (fun x10 e_x10 => ?_)
        have i_x10 := iv_R.all x10
        refine lv_istore_n (lv' := [(3, .int x10), (0, .ref h0), (1, .int x_0), (2, .int x_1)]) hx hb dX11_peals_39 rfl hl (by decide) rfl (fun ls hl => ?_)
        refine lv_iload_n hx hb dX11_peals_40 rfl (lv_at hl 3 rfl) ?_
        refine lv_bipush (v := 10) hx hb dX11_peals_41 (by decide) ?_
        refine lv_icmp_lt (tgt := 65) hx hb dX11_peals_43 (by decide) (fun c11 => ?_) (fun c11 => ?_)
        · skip
          have i11_x_1 : iv_R (-2147483648) 9 x_1 := (i_x_1.cutHi (n := 9) (iv_lt_r c11 q_10 (by decide)))
          refine lv_iconst (v := (-1)) hx hb dX11_peals_65 (by decide) ?_
          exact iv_iret X hr hlocks hB ⟨hM, (q_n1.wk (by decide))⟩ dX11_peals_66
        · skip
          have i12_x_1 : iv_R 10 2147483647 x_1 := (i_x_1.cutLo (n := 10) (iv_le_l (iv_nlt c11) q_10))
          refine lv_iload_n hx hb dX11_peals_46 rfl (lv_at hl 0 rfl) ?_
          refine lv_iload_n hx hb dX11_peals_47 rfl (lv_at hl 2 rfl) ?_
          refine iv_cSi X k_good k_mf_J6_bitCount_0f7a4 k_st_J6_bitCount_0f7a4 k_ml_X11_288 hB (As := [.int x_0]) (c_J6_bitCount_0f7a4 l D tys base G x_0 i_x_0) ⟨rfl, rfl⟩ ⟨Nat.le_of_ble_eq_true rfl, Nat.le_of_ble_eq_true rfl⟩ ⟨Nat.le_of_ble_eq_true rfl, Nat.le_of_ble_eq_true rfl⟩ rfl rfl hl.1 (Nat.le_of_ble_eq_true rfl) dX11_peals_48 (fun x14 G9 H locs hq hB => ?_)
          obtain ⟨rfl, i_x14⟩ := hq
          refine lv_icmp_ge (tgt := 65) hx hb dX11_peals_51 (by decide) (fun c15 => ?_) (fun c15 => ?_)
          · skip
            have i15_x10 : iv_R 0 2147483647 x10 := (i_x10.cutLo (n := 0) (iv_le_l c15 i_x14))
            refine lv_iconst (v := (-1)) hx hb dX11_peals_65 (by decide) ?_
            exact iv_iret X hr hlocks hB ⟨hM, (q_n1.wk (by decide))⟩ dX11_peals_66
          · skip
            have i16_x10 : iv_R (-2147483648) 62 x10 := (i_x10.cutHi (n := 62) (iv_lt_r (iv_nle c15) i_x14 (by decide)))
            refine lv_aload_n hx hb dX11_peals_54 rfl (lv_at hl 1 rfl) ?_
            refine iv_getr X ft_X11 hB a_h0 sh_11 10 (by decide) rfl k_fl_X11_65 dX11_peals_55 (fun b18 g_b18 r_b18 e_b18 a_b18 => ?_)
            refine lv_iload_n hx hb dX11_peals_58 rfl (lv_at hl 2 rfl) ?_
            refine iv_cVi X k_good k_mf_X4_countPeals k_im_X4_countPeals k_sel_X4_countPeals k_ml_X11_331 ft_X4 hB a_b18 sh_4 (As := [.int x_0]) (c_X4_countPeals l D tys base G b18 g_b18 r_b18 a_b18 x_0 i_x_0) ⟨rfl, rfl⟩ ⟨Nat.le_of_ble_eq_true rfl, Nat.le_of_ble_eq_true rfl⟩ ⟨Nat.le_of_ble_eq_true rfl, Nat.le_of_ble_eq_true rfl⟩ rfl rfl hl.1 (Nat.le_of_ble_eq_true rfl) dX11_peals_59 (fun x19 G9 H locs hq hB => ?_)
            obtain ⟨hm, i_x19⟩ := hq
            obtain ⟨G20, hG9⟩ : ∃ g, g = G9 := ⟨_, rfl⟩
            rw [← hG9] at hm hB
            have hM := hM.stp hm (by decide)
            have a_h0 := hm.at a_h0 (by decide)
            refine lv_if_ne (tgt := 67) hx hb dX11_peals_62 (by decide) (fun c21 => ?_) (fun c21 => ?_)
            · skip
              refine lv_aload_n hx hb dX11_peals_67 rfl (lv_at hl 1 rfl) ?_
              refine iv_getr X ft_X11 hB a_h0 sh_11 10 (by decide) rfl k_fl_X11_65 dX11_peals_68 (fun b22 g_b22 r_b22 e_b22 a_b22 => ?_)
              refine lv_iload_n hx hb dX11_peals_71 rfl (lv_at hl 0 rfl) ?_
              refine iv_cVi X k_good k_mf_X4_inFirstPeal k_im_X4_inFirstPeal k_sel_X4_inFirstPeal k_ml_X11_334 ft_X4 hB a_b22 sh_4 (As := [.int x10]) (c_X4_inFirstPeal l D tys base G20 b22 g_b22 r_b22 a_b22 x10 i16_x10) ⟨rfl, rfl⟩ ⟨Nat.le_of_ble_eq_true rfl, Nat.le_of_ble_eq_true rfl⟩ ⟨Nat.le_of_ble_eq_true rfl, Nat.le_of_ble_eq_true rfl⟩ rfl rfl hl.1 (Nat.le_of_ble_eq_true rfl) dX11_peals_72 (fun x23 G9 H locs hq hB => ?_)
              obtain ⟨rfl, i_x23⟩ := hq
              exact iv_iret X hr hlocks hB ⟨hM, (i_x23.wk (by decide))⟩ dX11_peals_75
            · skip
              have i23_x19 : iv_R 0 0 x19 := ((i_x19.cutLo (n := 0) (iv_eq_r c21 q_0).1).cutHi (n := 0) (iv_eq_r c21 q_0).2)
              refine lv_iconst (v := (-1)) hx hb dX11_peals_65 (by decide) ?_
              exact iv_iret X hr hlocks hB ⟨hM, (q_n1.wk (by decide))⟩ dX11_peals_66
      · skip
        have i24_x_1 : iv_R 0 0 x_1 := ((i_x_1.cutLo (n := 0) (iv_eq_r c9 q_0).1).cutHi (n := 0) (iv_eq_r c9 q_0).2)
        refine lv_aload_n hx hb dX11_peals_26 rfl (lv_at hl 0 rfl) ?_
        refine iv_getr X ft_X11 hB a_h0 sh_11 10 (by decide) rfl k_fl_X11_65 dX11_peals_27 (fun b26 g_b26 r_b26 e_b26 a_b26 => ?_)
        refine lv_iload_n hx hb dX11_peals_30 rfl (lv_at hl 1 rfl) ?_
        refine iv_cVi X k_good k_mf_X4_countPeals k_im_X4_countPeals k_sel_X4_countPeals k_ml_X11_331 ft_X4 hB a_b26 sh_4 (As := [.int x_0]) (c_X4_countPeals l D tys base G b26 g_b26 r_b26 a_b26 x_0 i_x_0) ⟨rfl, rfl⟩ ⟨Nat.le_of_ble_eq_true rfl, Nat.le_of_ble_eq_true rfl⟩ ⟨Nat.le_of_ble_eq_true rfl, Nat.le_of_ble_eq_true rfl⟩ rfl rfl hl.1 (Nat.le_of_ble_eq_true rfl) dX11_peals_31 (fun x27 G9 H locs hq hB => ?_)
        obtain ⟨hm, i_x27⟩ := hq
        obtain ⟨G28, hG9⟩ : ∃ g, g = G9 := ⟨_, rfl⟩
        rw [← hG9] at hm hB
        have hM := hM.stp hm (by decide)
        have a_h0 := hm.at a_h0 (by decide)
        exact iv_iret X hr hlocks hB ⟨hM, i_x27⟩ dX11_peals_34
    · skip
      have i28_x6 : iv_R 9 63 x6 := (i_x6.cutLo (n := 9) (iv_lt_l (iv_nle c7) q_8 (by decide)))
      refine lv_iconst (v := (-1)) hx hb dX11_peals_20 (by decide) ?_
      exact iv_iret X hr hlocks hB ⟨hM, (q_n1.wk (by decide))⟩ dX11_peals_21
theorem dX11_placed_0 : decode cX11_placed 0 = .ok (.aload_n 0, 1) := by decide +kernel
theorem dX11_placed_1 : decode cX11_placed 1 = .ok (.getfield 12, 3) := by decide +kernel
theorem dX11_placed_4 : decode cX11_placed 4 = .ok (.iload_n 1, 1) := by decide +kernel
theorem dX11_placed_5 : decode cX11_placed 5 = .ok (.invokevirtual 293, 3) := by decide +kernel
theorem dX11_placed_8 : decode cX11_placed 8 = .ok (.ifCond .ne 5, 3) := by decide +kernel
theorem dX11_placed_11 : decode cX11_placed 11 = .ok (.iconst (-1), 1) := by decide +kernel
theorem dX11_placed_12 : decode cX11_placed 12 = .ok (.ireturn, 1) := by decide +kernel
theorem dX11_placed_13 : decode cX11_placed 13 = .ok (.iconst 0, 1) := by decide +kernel
theorem dX11_placed_14 : decode cX11_placed 14 = .ok (.istore_n 2, 1) := by decide +kernel
theorem dX11_placed_15 : decode cX11_placed 15 = .ok (.iconst (-1), 1) := by decide +kernel
theorem dX11_placed_16 : decode cX11_placed 16 = .ok (.istore_n 3, 1) := by decide +kernel
theorem dX11_placed_17 : decode cX11_placed 17 = .ok (.iconst 0, 1) := by decide +kernel
theorem dX11_placed_18 : decode cX11_placed 18 = .ok (.istore 4, 2) := by decide +kernel
theorem dX11_placed_20 : decode cX11_placed 20 = .ok (.iload 4, 2) := by decide +kernel
theorem dX11_placed_22 : decode cX11_placed 22 = .ok (.iconst 4, 1) := by decide +kernel
theorem dX11_placed_23 : decode cX11_placed 23 = .ok (.if_icmp .ge 44, 3) := by decide +kernel
theorem dX11_placed_26 : decode cX11_placed 26 = .ok (.aload_n 0, 1) := by decide +kernel
theorem dX11_placed_27 : decode cX11_placed 27 = .ok (.getfield 42, 3) := by decide +kernel
theorem dX11_placed_30 : decode cX11_placed 30 = .ok (.iload_n 1, 1) := by decide +kernel
theorem dX11_placed_31 : decode cX11_placed 31 = .ok (.iload 4, 2) := by decide +kernel
theorem dX11_placed_33 : decode cX11_placed 33 = .ok (.aload_n 0, 1) := by decide +kernel
theorem dX11_placed_34 : decode cX11_placed 34 = .ok (.getfield 12, 3) := by decide +kernel
theorem dX11_placed_37 : decode cX11_placed 37 = .ok (.iload_n 1, 1) := by decide +kernel
theorem dX11_placed_38 : decode cX11_placed 38 = .ok (.invokevirtual 253, 3) := by decide +kernel
theorem dX11_placed_41 : decode cX11_placed 41 = .ok (.invokevirtual 257, 3) := by decide +kernel
theorem dX11_placed_44 : decode cX11_placed 44 = .ok (.invokestatic 288, 3) := by decide +kernel
theorem dX11_placed_47 : decode cX11_placed 47 = .ok (.istore 5, 2) := by decide +kernel
theorem dX11_placed_49 : decode cX11_placed 49 = .ok (.iload 5, 2) := by decide +kernel
theorem dX11_placed_51 : decode cX11_placed 51 = .ok (.iload_n 3, 1) := by decide +kernel
theorem dX11_placed_52 : decode cX11_placed 52 = .ok (.if_icmp .le 9, 3) := by decide +kernel
theorem dX11_placed_55 : decode cX11_placed 55 = .ok (.iload 5, 2) := by decide +kernel
theorem dX11_placed_57 : decode cX11_placed 57 = .ok (.istore_n 3, 1) := by decide +kernel
theorem dX11_placed_58 : decode cX11_placed 58 = .ok (.iload 4, 2) := by decide +kernel
theorem dX11_placed_60 : decode cX11_placed 60 = .ok (.istore_n 2, 1) := by decide +kernel
theorem dX11_placed_61 : decode cX11_placed 61 = .ok (.iinc 4 1, 3) := by decide +kernel
theorem dX11_placed_64 : decode cX11_placed 64 = .ok (.goto (-44), 3) := by decide +kernel
theorem dX11_placed_67 : decode cX11_placed 67 = .ok (.iload_n 2, 1) := by decide +kernel
theorem dX11_placed_68 : decode cX11_placed 68 = .ok (.ireturn, 1) := by decide +kernel
set_option maxHeartbeats 4000000 in
set_option maxRecDepth 100000 in
theorem c_X11_placed (l : Launch) (D : va_G) (tys : List (ClassId × FieldType)) (base : Nat) (G : iv_G) (h0 : Nat) (g_h0 : Nat → Int32) (r_h0 : Nat → Nat) (a_h0 : G h0 = some (11, g_h0, r_h0)) (x_0 : Int32) (i_x_0 : iv_R (-2147483648) 2147483647 x_0) : Met l yX11_placed (Cond.code yX11_placed cX11_placed 6 (some .int) :: iv_W0) ({ frames := 5, cells := 0, slots := 0, locals := 130 }) (iv_Pc iv_sh D classes tys base G [.ref h0, .int x_0]) (iv_Qi iv_sh D classes tys base (fun v G' => iv_Md [28, 30] G G' ∧ iv_R (-1) 3 v)) 0 0 (iv_A base) := by
  refine iv_head (by decide) (Nat.le_of_ble_eq_true rfl) ?_
  intro p e s m args below meth c ls X hr hlocks hname hB hl
  have X := X
  have hx := X.1.1
  have hb := X.1.2.1
  have hM : iv_Md [28, 30] G G := iv_Md.rf
  have hl : lv_has ls 6 [(0, .ref h0), (1, .int x_0)] := hl
  refine lv_aload_n hx hb dX11_placed_0 rfl (lv_at hl 0 rfl) ?_
  refine iv_getr X ft_X11 hB a_h0 sh_11 0 (by decide) rfl k_fl_X11_12 dX11_placed_1 (fun b1 g_b1 r_b1 e_b1 a_b1 => ?_)
  refine lv_iload_n hx hb dX11_placed_4 rfl (lv_at hl 1 rfl) ?_
  refine iv_cVi X k_good k_mf_X5_isRung k_im_X5_isRung k_sel_X5_isRung k_ml_X11_293 ft_X5 hB a_b1 sh_5 (As := [.int x_0]) (c_X5_isRung l D tys base G b1 g_b1 r_b1 a_b1 x_0 i_x_0) ⟨rfl, rfl⟩ ⟨Nat.le_of_ble_eq_true rfl, Nat.le_of_ble_eq_true rfl⟩ ⟨Nat.le_of_ble_eq_true rfl, Nat.le_of_ble_eq_true rfl⟩ rfl rfl hl.1 (Nat.le_of_ble_eq_true rfl) dX11_placed_5 (fun x2 G9 H locs hq hB => ?_)
  obtain ⟨rfl, i_x2, hp3⟩ := hq
  refine lv_if_ne (tgt := 13) hx hb dX11_placed_8 (by decide) (fun c4 => ?_) (fun c4 => ?_)
  · skip
    have i4_x2 : iv_R 1 1 x2 := iv_ne_lo c4 i_x2 q_0 (by decide)
    have i5_x_0 : iv_R 0 9 x_0 := ((i_x_0.cutLo (n := 0) (hp3 c4).1).cutHi (n := 9) (hp3 c4).2)
    refine lv_iconst (v := 0) hx hb dX11_placed_13 (by decide) ?_
    refine lv_istore_n (lv' := [(2, .int 0), (0, .ref h0), (1, .int x_0)]) hx hb dX11_placed_14 rfl hl (by decide) rfl (fun ls hl => ?_)
    refine lv_iconst (v := (-1)) hx hb dX11_placed_15 (by decide) ?_
    refine lv_istore_n (lv' := [(3, .int (-1)), (2, .int 0), (0, .ref h0), (1, .int x_0)]) hx hb dX11_placed_16 rfl hl (by decide) rfl (fun ls hl => ?_)
    refine lv_iconst (v := 0) hx hb dX11_placed_17 (by decide) ?_
    refine lv_istore (lv' := [(4, .int 0), (3, .int (-1)), (2, .int 0), (0, .ref h0), (1, .int x_0)]) hx hb dX11_placed_18 hl (by decide) rfl (fun ls hl => ?_)
    have L_20 : ∀ (n_20 : Nat) (G10 : iv_G) (hM : iv_Md [28, 30] G G10) (H : Heap) (locs : List Loc) (hB : iv_B iv_sh D classes tys base G10 s.heap H locs) (a_h0 : G10 h0 = some (11, g_h0, r_h0)) (x7 : Int32) (i_x7 : iv_R 0 3 x7) (x8 : Int32) (i_x8 : iv_R (-1) 63 x8) (x9 : Int32) (i_x9 : iv_R 0 4 x9) (hn_20 : (5 - x9.toInt).toNat < n_20) (ls : Array Slot) (hl : lv_has ls 6 [(4, .int x9), (3, .int x8), (2, .int x7), (0, .ref h0), (1, .int x_0)]), W p l e ({ frames := 5, cells := 0, slots := 0, locals := 130 } : Room) s m args below meth c H locs 0 0 (MQ below (iv_Qi iv_sh D classes tys base (fun v G' => iv_Md [28, 30] G G' ∧ iv_R (-1) 3 v)) args s 0 0 (iv_A base)) (F0 m 20 ls []) := by
      intro n_20
      induction n_20 with
      | zero => intro G10 hM H locs hB a_h0 x7 i_x7 x8 i_x8 x9 i_x9 hn_20 ls hl; exact absurd hn_20 (Nat.not_lt_zero _)
      | succ n_20 ih_20 =>
        intro G10 hM H locs hB a_h0 x7 i_x7 x8 i_x8 x9 i_x9 hn_20 ls hl
        refine lv_iload hx hb dX11_placed_20 (lv_at hl 0 rfl) ?_
        refine lv_iconst (v := 4) hx hb dX11_placed_22 (by decide) ?_
        refine lv_icmp_ge (tgt := 67) hx hb dX11_placed_23 (by decide) (fun c11 => ?_) (fun c11 => ?_)
        · skip
          have i11_x9 : iv_R 4 4 x9 := (i_x9.cutLo (n := 4) (iv_le_l c11 q_4))
          refine lv_iload_n hx hb dX11_placed_67 rfl (lv_at hl 2 rfl) ?_
          exact iv_iret X hr hlocks hB ⟨hM, (i_x7.wk (by decide))⟩ dX11_placed_68
        · skip
          have i12_x9 : iv_R 0 3 x9 := (i_x9.cutHi (n := 3) (iv_lt_r (iv_nle c11) q_4 (by decide)))
          refine lv_aload_n hx hb dX11_placed_26 rfl (lv_at hl 3 rfl) ?_
          refine iv_getr X ft_X11 hB a_h0 sh_11 7 (by decide) rfl k_fl_X11_42 dX11_placed_27 (fun b14 g_b14 r_b14 e_b14 a_b14 => ?_)
          refine lv_iload_n hx hb dX11_placed_30 rfl (lv_at hl 4 rfl) ?_
          refine lv_iload hx hb dX11_placed_31 (lv_at hl 0 rfl) ?_
          refine lv_aload_n hx hb dX11_placed_33 rfl (lv_at hl 3 rfl) ?_
          refine iv_getr X ft_X11 hB a_h0 sh_11 0 (by decide) rfl k_fl_X11_12 dX11_placed_34 (fun b15 g_b15 r_b15 e_b15 a_b15 => ?_)
          refine lv_iload_n hx hb dX11_placed_37 rfl (lv_at hl 4 rfl) ?_
          refine iv_cVi X k_good k_mf_X5_soundsIn k_im_X5_soundsIn k_sel_X5_soundsIn k_ml_X11_253 ft_X5 hB a_b15 sh_5 (As := [.int x_0]) (c_X5_soundsIn l D tys base G10 b15 g_b15 r_b15 a_b15 x_0 i5_x_0) ⟨rfl, rfl⟩ ⟨Nat.le_of_ble_eq_true rfl, Nat.le_of_ble_eq_true rfl⟩ ⟨Nat.le_of_ble_eq_true rfl, Nat.le_of_ble_eq_true rfl⟩ rfl rfl hl.1 (Nat.le_of_ble_eq_true rfl) dX11_placed_38 (fun x16 G9 H locs hq hB => ?_)
          obtain ⟨rfl, i_x16⟩ := hq
          refine iv_cVi X k_good k_mf_X2_clearHours k_im_X2_clearHours k_sel_X2_clearHours k_ml_X11_257 ft_X2 hB a_b14 sh_2 (As := [.int x_0, .int x9, .int x16]) (c_X2_clearHours l D tys base G10 b14 g_b14 r_b14 a_b14 x_0 i5_x_0 x9 (i12_x9.wk (by decide)) x16 i_x16) ⟨rfl, rfl⟩ ⟨Nat.le_of_ble_eq_true rfl, Nat.le_of_ble_eq_true rfl⟩ ⟨Nat.le_of_ble_eq_true rfl, Nat.le_of_ble_eq_true rfl⟩ rfl rfl hl.1 (Nat.le_of_ble_eq_true rfl) dX11_placed_41 (fun x17 G9 H locs hq hB => ?_)
          obtain ⟨hm, i_x17⟩ := hq
          obtain ⟨G18, hG9⟩ : ∃ g, g = G9 := ⟨_, rfl⟩
          rw [← hG9] at hm hB
          have hM := hM.stp hm (by decide)
          have a_h0 := hm.at a_h0 (by decide)
          refine iv_cSi X k_good k_mf_J6_bitCount_0f7a4 k_st_J6_bitCount_0f7a4 k_ml_X11_288 hB (As := [.int x17]) (c_J6_bitCount_0f7a4 l D tys base G18 x17 i_x17) ⟨rfl, rfl⟩ ⟨Nat.le_of_ble_eq_true rfl, Nat.le_of_ble_eq_true rfl⟩ ⟨Nat.le_of_ble_eq_true rfl, Nat.le_of_ble_eq_true rfl⟩ rfl rfl hl.1 (Nat.le_of_ble_eq_true rfl) dX11_placed_44 (fun x19 G9 H locs hq hB => ?_)
          obtain ⟨rfl, i_x19⟩ := hq
          refine lv_istore (lv' := [(5, .int x19), (4, .int x9), (3, .int x8), (2, .int x7), (0, .ref h0), (1, .int x_0)]) hx hb dX11_placed_47 hl (by decide) rfl (fun ls hl => ?_)
          refine lv_iload hx hb dX11_placed_49 (lv_at hl 0 rfl) ?_
          refine lv_iload_n hx hb dX11_placed_51 rfl (lv_at hl 2 rfl) ?_
          refine lv_icmp_le (tgt := 61) hx hb dX11_placed_52 (by decide) (fun c20 => ?_) (fun c20 => ?_)
          · skip
            have i20_x8 : iv_R 0 63 x8 := (i_x8.cutLo (n := 0) (iv_le_l c20 i_x19))
            refine iv_iinc hx hb i12_x9 (lo := 1) (hi := 4) (by decide) dX11_placed_61 hl (k := 1) rfl (by decide) (fun x22 ls e_x22 i_x22 hl => ?_)
            have hl : lv_has ls 6 [(4, .int x22), (5, .int x19), (3, .int x8), (2, .int x7), (0, .ref h0), (1, .int x_0)] := hl
            refine lv_goto (tgt := 20) hx hb dX11_placed_64 (by decide) ?_
            exact ih_20 G18 hM _ _ hB a_h0 x7 i_x7 x8 (i20_x8.wk (by decide)) x22 (i_x22.wk (by decide)) (iv_mup (c := 1) i_x9 (by decide) (by decide) (by omega) hn_20) _ (lv_sub hl [0, 2, 3, 4, 5] rfl)
          · skip
            have i22_x8 : iv_R (-1) 62 x8 := (i_x8.cutHi (n := 62) (iv_lt_r (iv_nle c20) i_x19 (by decide)))
            refine lv_iload hx hb dX11_placed_55 (lv_at hl 0 rfl) ?_
            refine lv_istore_n (lv' := [(3, .int x19), (5, .int x19), (4, .int x9), (2, .int x7), (0, .ref h0), (1, .int x_0)]) hx hb dX11_placed_57 rfl hl (by decide) rfl (fun ls hl => ?_)
            refine lv_iload hx hb dX11_placed_58 (lv_at hl 2 rfl) ?_
            refine lv_istore_n (lv' := [(2, .int x9), (3, .int x19), (5, .int x19), (4, .int x9), (0, .ref h0), (1, .int x_0)]) hx hb dX11_placed_60 rfl hl (by decide) rfl (fun ls hl => ?_)
            refine iv_iinc hx hb i12_x9 (lo := 1) (hi := 4) (by decide) dX11_placed_61 hl (k := 3) rfl (by decide) (fun x24 ls e_x24 i_x24 hl => ?_)
            have hl : lv_has ls 6 [(4, .int x24), (2, .int x9), (3, .int x19), (5, .int x19), (0, .ref h0), (1, .int x_0)] := hl
            refine lv_goto (tgt := 20) hx hb dX11_placed_64 (by decide) ?_
            exact ih_20 G18 hM _ _ hB a_h0 x9 i12_x9 x19 (i_x19.wk (by decide)) x24 (i_x24.wk (by decide)) (iv_mup (c := 1) i_x9 (by decide) (by decide) (by omega) hn_20) _ (lv_sub hl [0, 2, 1, 4, 5] rfl)
    exact L_20 _ G hM _ _ hB a_h0 0 (q_0.wk (by decide)) (-1) (q_n1.wk (by decide)) 0 (q_0.wk (by decide)) (Nat.lt_succ_self _) _ (lv_sub hl [0, 1, 2, 3, 4] rfl)
  · skip
    have i24_x2 : iv_R 0 0 x2 := (i_x2.cutHi (n := 0) (iv_eq_r c4 q_0).2)
    refine lv_iconst (v := (-1)) hx hb dX11_placed_11 (by decide) ?_
    exact iv_iret X hr hlocks hB ⟨hM, (q_n1.wk (by decide))⟩ dX11_placed_12
theorem dX2_doQuarrel_0 : decode cX2_doQuarrel 0 = .ok (.aload_n 0, 1) := by decide +kernel
theorem dX2_doQuarrel_1 : decode cX2_doQuarrel 1 = .ok (.getfield 15, 3) := by decide +kernel
theorem dX2_doQuarrel_4 : decode cX2_doQuarrel 4 = .ok (.iload_n 1, 1) := by decide +kernel
theorem dX2_doQuarrel_5 : decode cX2_doQuarrel 5 = .ok (.iload_n 2, 1) := by decide +kernel
theorem dX2_doQuarrel_6 : decode cX2_doQuarrel 6 = .ok (.invokevirtual 88, 3) := by decide +kernel
theorem dX2_doQuarrel_9 : decode cX2_doQuarrel 9 = .ok (.ifCond .ne 5, 3) := by decide +kernel
theorem dX2_doQuarrel_12 : decode cX2_doQuarrel 12 = .ok (.iconst 0, 1) := by decide +kernel
theorem dX2_doQuarrel_13 : decode cX2_doQuarrel 13 = .ok (.ireturn, 1) := by decide +kernel
theorem dX2_doQuarrel_14 : decode cX2_doQuarrel 14 = .ok (.aload_n 0, 1) := by decide +kernel
theorem dX2_doQuarrel_15 : decode cX2_doQuarrel 15 = .ok (.getfield 15, 3) := by decide +kernel
theorem dX2_doQuarrel_18 : decode cX2_doQuarrel 18 = .ok (.iload_n 1, 1) := by decide +kernel
theorem dX2_doQuarrel_19 : decode cX2_doQuarrel 19 = .ok (.invokevirtual 92, 3) := by decide +kernel
theorem dX2_doQuarrel_22 : decode cX2_doQuarrel 22 = .ok (.aload_n 0, 1) := by decide +kernel
theorem dX2_doQuarrel_23 : decode cX2_doQuarrel 23 = .ok (.getfield 15, 3) := by decide +kernel
theorem dX2_doQuarrel_26 : decode cX2_doQuarrel 26 = .ok (.iload_n 2, 1) := by decide +kernel
theorem dX2_doQuarrel_27 : decode cX2_doQuarrel 27 = .ok (.invokevirtual 92, 3) := by decide +kernel
theorem dX2_doQuarrel_30 : decode cX2_doQuarrel 30 = .ok (.iand, 1) := by decide +kernel
theorem dX2_doQuarrel_31 : decode cX2_doQuarrel 31 = .ok (.istore_n 3, 1) := by decide +kernel
theorem dX2_doQuarrel_32 : decode cX2_doQuarrel 32 = .ok (.aload_n 0, 1) := by decide +kernel
theorem dX2_doQuarrel_33 : decode cX2_doQuarrel 33 = .ok (.iload_n 1, 1) := by decide +kernel
theorem dX2_doQuarrel_34 : decode cX2_doQuarrel 34 = .ok (.iload_n 2, 1) := by decide +kernel
theorem dX2_doQuarrel_35 : decode cX2_doQuarrel 35 = .ok (.aload_n 0, 1) := by decide +kernel
theorem dX2_doQuarrel_36 : decode cX2_doQuarrel 36 = .ok (.getfield 15, 3) := by decide +kernel
theorem dX2_doQuarrel_39 : decode cX2_doQuarrel 39 = .ok (.getfield 19, 3) := by decide +kernel
theorem dX2_doQuarrel_42 : decode cX2_doQuarrel 42 = .ok (.iload_n 2, 1) := by decide +kernel
theorem dX2_doQuarrel_43 : decode cX2_doQuarrel 43 = .ok (.aaload, 1) := by decide +kernel
theorem dX2_doQuarrel_44 : decode cX2_doQuarrel 44 = .ok (.getfield 75, 3) := by decide +kernel
theorem dX2_doQuarrel_47 : decode cX2_doQuarrel 47 = .ok (.iload_n 3, 1) := by decide +kernel
theorem dX2_doQuarrel_48 : decode cX2_doQuarrel 48 = .ok (.invokevirtual 96, 3) := by decide +kernel
theorem dX2_doQuarrel_51 : decode cX2_doQuarrel 51 = .ok (.istore 4, 2) := by decide +kernel
theorem dX2_doQuarrel_53 : decode cX2_doQuarrel 53 = .ok (.aload_n 0, 1) := by decide +kernel
theorem dX2_doQuarrel_54 : decode cX2_doQuarrel 54 = .ok (.iload_n 2, 1) := by decide +kernel
theorem dX2_doQuarrel_55 : decode cX2_doQuarrel 55 = .ok (.iload_n 1, 1) := by decide +kernel
theorem dX2_doQuarrel_56 : decode cX2_doQuarrel 56 = .ok (.aload_n 0, 1) := by decide +kernel
theorem dX2_doQuarrel_57 : decode cX2_doQuarrel 57 = .ok (.getfield 15, 3) := by decide +kernel
theorem dX2_doQuarrel_60 : decode cX2_doQuarrel 60 = .ok (.getfield 19, 3) := by decide +kernel
theorem dX2_doQuarrel_63 : decode cX2_doQuarrel 63 = .ok (.iload_n 1, 1) := by decide +kernel
theorem dX2_doQuarrel_64 : decode cX2_doQuarrel 64 = .ok (.aaload, 1) := by decide +kernel
theorem dX2_doQuarrel_65 : decode cX2_doQuarrel 65 = .ok (.getfield 75, 3) := by decide +kernel
theorem dX2_doQuarrel_68 : decode cX2_doQuarrel 68 = .ok (.iload 4, 2) := by decide +kernel
theorem dX2_doQuarrel_70 : decode cX2_doQuarrel 70 = .ok (.invokevirtual 96, 3) := by decide +kernel
theorem dX2_doQuarrel_73 : decode cX2_doQuarrel 73 = .ok (.ifCond .eq 7, 3) := by decide +kernel
theorem dX2_doQuarrel_76 : decode cX2_doQuarrel 76 = .ok (.iconst 1, 1) := by decide +kernel
theorem dX2_doQuarrel_77 : decode cX2_doQuarrel 77 = .ok (.goto 4, 3) := by decide +kernel
theorem dX2_doQuarrel_80 : decode cX2_doQuarrel 80 = .ok (.iconst 0, 1) := by decide +kernel
theorem dX2_doQuarrel_81 : decode cX2_doQuarrel 81 = .ok (.ireturn, 1) := by decide +kernel
set_option maxHeartbeats 4000000 in
set_option maxRecDepth 100000 in
theorem c_X2_doQuarrel (l : Launch) (D : va_G) (tys : List (ClassId × FieldType)) (base : Nat) (G : iv_G) (h0 : Nat) (g_h0 : Nat → Int32) (r_h0 : Nat → Nat) (a_h0 : G h0 = some (2, g_h0, r_h0)) (x_0 : Int32) (i_x_0 : iv_R 0 9 x_0) (x_1 : Int32) (i_x_1 : iv_R 1 9 x_1) : Met l yX2_doQuarrel (Cond.code yX2_doQuarrel cX2_doQuarrel 5 (some .boolean) :: iv_W0) ({ frames := 4, cells := 0, slots := 0, locals := 105 }) (iv_Pc iv_sh D classes tys base G [.ref h0, .int x_0, .int x_1]) (iv_Qi iv_sh D classes tys base (fun v G' => iv_Md [28, 30] G G' ∧ iv_R 0 1 v)) 0 0 (iv_A base) := by
  refine iv_head (by decide) (Nat.le_of_ble_eq_true rfl) ?_
  intro p e s m args below meth c ls X hr hlocks hname hB hl
  have X := X
  have hx := X.1.1
  have hb := X.1.2.1
  have hM : iv_Md [28, 30] G G := iv_Md.rf
  have hl : lv_has ls 5 [(0, .ref h0), (1, .int x_0), (2, .int x_1)] := hl
  refine lv_aload_n hx hb dX2_doQuarrel_0 rfl (lv_at hl 0 rfl) ?_
  refine iv_getr X ft_X2 hB a_h0 sh_2 0 (by decide) rfl k_fl_X2_15 dX2_doQuarrel_1 (fun b1 g_b1 r_b1 e_b1 a_b1 => ?_)
  refine lv_iload_n hx hb dX2_doQuarrel_4 rfl (lv_at hl 1 rfl) ?_
  refine lv_iload_n hx hb dX2_doQuarrel_5 rfl (lv_at hl 2 rfl) ?_
  refine iv_cVi X k_good k_mf_X5_areNear k_im_X5_areNear k_sel_X5_areNear k_ml_X2_88 ft_X5 hB a_b1 sh_5 (As := [.int x_0, .int x_1]) (c_X5_areNear l D tys base G b1 g_b1 r_b1 a_b1 x_0 i_x_0 x_1 (i_x_1.wk (by decide))) ⟨rfl, rfl⟩ ⟨Nat.le_of_ble_eq_true rfl, Nat.le_of_ble_eq_true rfl⟩ ⟨Nat.le_of_ble_eq_true rfl, Nat.le_of_ble_eq_true rfl⟩ rfl rfl hl.1 (Nat.le_of_ble_eq_true rfl) dX2_doQuarrel_6 (fun x2 G9 H locs hq hB => ?_)
  obtain ⟨rfl, i_x2⟩ := hq
  refine lv_if_ne (tgt := 14) hx hb dX2_doQuarrel_9 (by decide) (fun c3 => ?_) (fun c3 => ?_)
  · skip
    have i3_x2 : iv_R 1 1 x2 := iv_ne_lo c3 i_x2 q_0 (by decide)
    refine lv_aload_n hx hb dX2_doQuarrel_14 rfl (lv_at hl 0 rfl) ?_
    refine iv_getr0 X ft_X2 hB a_h0 sh_2 0 (by decide) rfl k_fl_X2_15 dX2_doQuarrel_15 e_b1 ?_
    refine lv_iload_n hx hb dX2_doQuarrel_18 rfl (lv_at hl 1 rfl) ?_
    refine iv_cVi X k_good k_mf_X5_soundsIn k_im_X5_soundsIn k_sel_X5_soundsIn k_ml_X2_92 ft_X5 hB a_b1 sh_5 (As := [.int x_0]) (c_X5_soundsIn l D tys base G b1 g_b1 r_b1 a_b1 x_0 i_x_0) ⟨rfl, rfl⟩ ⟨Nat.le_of_ble_eq_true rfl, Nat.le_of_ble_eq_true rfl⟩ ⟨Nat.le_of_ble_eq_true rfl, Nat.le_of_ble_eq_true rfl⟩ rfl rfl hl.1 (Nat.le_of_ble_eq_true rfl) dX2_doQuarrel_19 (fun x5 G9 H locs hq hB => ?_)
    obtain ⟨rfl, i_x5⟩ := hq
    refine lv_aload_n hx hb dX2_doQuarrel_22 rfl (lv_at hl 0 rfl) ?_
    refine iv_getr0 X ft_X2 hB a_h0 sh_2 0 (by decide) rfl k_fl_X2_15 dX2_doQuarrel_23 e_b1 ?_
    refine lv_iload_n hx hb dX2_doQuarrel_26 rfl (lv_at hl 2 rfl) ?_
    refine iv_cVi X k_good k_mf_X5_soundsIn k_im_X5_soundsIn k_sel_X5_soundsIn k_ml_X2_92 ft_X5 hB a_b1 sh_5 (As := [.int x_1]) (c_X5_soundsIn l D tys base G b1 g_b1 r_b1 a_b1 x_1 (i_x_1.wk (by decide))) ⟨rfl, rfl⟩ ⟨Nat.le_of_ble_eq_true rfl, Nat.le_of_ble_eq_true rfl⟩ ⟨Nat.le_of_ble_eq_true rfl, Nat.le_of_ble_eq_true rfl⟩ rfl rfl hl.1 (Nat.le_of_ble_eq_true rfl) dX2_doQuarrel_27 (fun x6 G9 H locs hq hB => ?_)
    obtain ⟨rfl, i_x6⟩ := hq
    refine lv_iand hx hb dX2_doQuarrel_30 ?_
    refine lv_topi (fun x7 e_x7 => ?_)
    have i_x7 := iv_R.all x7
    refine lv_istore_n (lv' := [(3, .int x7), (0, .ref h0), (1, .int x_0), (2, .int x_1)]) hx hb dX2_doQuarrel_31 rfl hl (by decide) rfl (fun ls hl => ?_)
    refine lv_aload_n hx hb dX2_doQuarrel_32 rfl (lv_at hl 1 rfl) ?_
    refine lv_iload_n hx hb dX2_doQuarrel_33 rfl (lv_at hl 2 rfl) ?_
    refine lv_iload_n hx hb dX2_doQuarrel_34 rfl (lv_at hl 3 rfl) ?_
    refine lv_aload_n hx hb dX2_doQuarrel_35 rfl (lv_at hl 1 rfl) ?_
    refine iv_getr0 X ft_X2 hB a_h0 sh_2 0 (by decide) rfl k_fl_X2_15 dX2_doQuarrel_36 e_b1 ?_
    refine iv_getr X ft_X5 hB a_b1 sh_5 0 (by decide) rfl k_fl_X2_19 dX2_doQuarrel_39 (fun b8 g_b8 r_b8 e_b8 a_b8 => ?_)
    refine lv_iload_n hx hb dX2_doQuarrel_42 rfl (lv_at hl 3 rfl) ?_
    refine iv_aald X hB a_b8 sh_40 (iv_in i_x_1 (by decide)) dX2_doQuarrel_43 (fun b9 g_b9 r_b9 e_b9 a_b9 => ?_)
    refine iv_geti X ft_X1 hB a_b9 sh_1 0 (by decide) rfl k_fl_X2_75 dX2_doQuarrel_44 (fun x10 e_x10 i_x10 => ?_)
    refine lv_iload_n hx hb dX2_doQuarrel_47 rfl (lv_at hl 0 rfl) ?_
    refine iv_cVi X k_good k_mf_X2_drowningHours k_im_X2_drowningHours k_sel_X2_drowningHours k_ml_X2_96 ft_X2 hB a_h0 sh_2 (As := [.int x_0, .int x_1, .int x10, .int x7]) (c_X2_drowningHours l D tys base G h0 g_h0 r_h0 a_h0 x_0 i_x_0 x_1 (i_x_1.wk (by decide)) x10 i_x10 x7 i_x7) ⟨rfl, rfl⟩ ⟨Nat.le_of_ble_eq_true rfl, Nat.le_of_ble_eq_true rfl⟩ ⟨Nat.le_of_ble_eq_true rfl, Nat.le_of_ble_eq_true rfl⟩ rfl rfl hl.1 (Nat.le_of_ble_eq_true rfl) dX2_doQuarrel_48 (fun x11 G9 H locs hq hB => ?_)
    obtain ⟨hm, i_x11⟩ := hq
    obtain ⟨G12, hG9⟩ : ∃ g, g = G9 := ⟨_, rfl⟩
    rw [← hG9] at hm hB
    have hM := hM.stp hm (by decide)
    have a_h0 := hm.at a_h0 (by decide)
    refine lv_istore (lv' := [(4, .int x11), (3, .int x7), (0, .ref h0), (1, .int x_0), (2, .int x_1)]) hx hb dX2_doQuarrel_51 hl (by decide) rfl (fun ls hl => ?_)
    refine lv_aload_n hx hb dX2_doQuarrel_53 rfl (lv_at hl 2 rfl) ?_
    refine lv_iload_n hx hb dX2_doQuarrel_54 rfl (lv_at hl 4 rfl) ?_
    refine lv_iload_n hx hb dX2_doQuarrel_55 rfl (lv_at hl 3 rfl) ?_
    refine lv_aload_n hx hb dX2_doQuarrel_56 rfl (lv_at hl 2 rfl) ?_
    refine iv_getr X ft_X2 hB a_h0 sh_2 0 (by decide) rfl k_fl_X2_15 dX2_doQuarrel_57 (fun b13 g_b13 r_b13 e_b13 a_b13 => ?_)
    refine iv_getr X ft_X5 hB a_b13 sh_5 0 (by decide) rfl k_fl_X2_19 dX2_doQuarrel_60 (fun b14 g_b14 r_b14 e_b14 a_b14 => ?_)
    refine lv_iload_n hx hb dX2_doQuarrel_63 rfl (lv_at hl 3 rfl) ?_
    refine iv_aald X hB a_b14 sh_40 (iv_in i_x_0 (by decide)) dX2_doQuarrel_64 (fun b15 g_b15 r_b15 e_b15 a_b15 => ?_)
    refine iv_geti X ft_X1 hB a_b15 sh_1 0 (by decide) rfl k_fl_X2_75 dX2_doQuarrel_65 (fun x16 e_x16 i_x16 => ?_)
    refine lv_iload hx hb dX2_doQuarrel_68 (lv_at hl 0 rfl) ?_
    refine iv_cVi X k_good k_mf_X2_drowningHours k_im_X2_drowningHours k_sel_X2_drowningHours k_ml_X2_96 ft_X2 hB a_h0 sh_2 (As := [.int x_1, .int x_0, .int x16, .int x11]) (c_X2_drowningHours l D tys base G12 h0 g_h0 r_h0 a_h0 x_1 (i_x_1.wk (by decide)) x_0 i_x_0 x16 i_x16 x11 (i_x11.wk (by decide))) ⟨rfl, rfl⟩ ⟨Nat.le_of_ble_eq_true rfl, Nat.le_of_ble_eq_true rfl⟩ ⟨Nat.le_of_ble_eq_true rfl, Nat.le_of_ble_eq_true rfl⟩ rfl rfl hl.1 (Nat.le_of_ble_eq_true rfl) dX2_doQuarrel_70 (fun x17 G9 H locs hq hB => ?_)
    obtain ⟨hm, i_x17⟩ := hq
    obtain ⟨G18, hG9⟩ : ∃ g, g = G9 := ⟨_, rfl⟩
    rw [← hG9] at hm hB
    have hM := hM.stp hm (by decide)
    have a_h0 := hm.at a_h0 (by decide)
    refine lv_if_eq (tgt := 80) hx hb dX2_doQuarrel_73 (by decide) (fun c19 => ?_) (fun c19 => ?_)
    · skip
      have i19_x17 : iv_R 0 0 x17 := (i_x17.cutHi (n := 0) (iv_eq_r c19 q_0).2)
      refine lv_iconst (v := 0) hx hb dX2_doQuarrel_80 (by decide) ?_
      exact iv_zret X hr hlocks hB (q_0.wk (by decide)) ⟨hM, (q_0.wk (by decide))⟩ dX2_doQuarrel_81
    · skip
      have i20_x17 : iv_R 1 2147483647 x17 := iv_ne_lo c19 i_x17 q_0 (by decide)
      refine lv_iconst (v := 1) hx hb dX2_doQuarrel_76 (by decide) ?_
      refine lv_goto (tgt := 81) hx hb dX2_doQuarrel_77 (by decide) ?_
      exact iv_zret X hr hlocks hB (q_1.wk (by decide)) ⟨hM, (q_1.wk (by decide))⟩ dX2_doQuarrel_81
  · skip
    have i21_x2 : iv_R 0 0 x2 := (i_x2.cutHi (n := 0) (iv_eq_r c3 q_0).2)
    refine lv_iconst (v := 0) hx hb dX2_doQuarrel_12 (by decide) ?_
    exact iv_zret X hr hlocks hB (q_0.wk (by decide)) ⟨hM, (q_0.wk (by decide))⟩ dX2_doQuarrel_13
theorem dX11_quarrels_0 : decode cX11_quarrels 0 = .ok (.iconst 0, 1) := by decide +kernel
theorem dX11_quarrels_1 : decode cX11_quarrels 1 = .ok (.istore_n 2, 1) := by decide +kernel
theorem dX11_quarrels_2 : decode cX11_quarrels 2 = .ok (.iconst (-1), 1) := by decide +kernel
theorem dX11_quarrels_3 : decode cX11_quarrels 3 = .ok (.istore_n 3, 1) := by decide +kernel
theorem dX11_quarrels_4 : decode cX11_quarrels 4 = .ok (.iconst (-1), 1) := by decide +kernel
theorem dX11_quarrels_5 : decode cX11_quarrels 5 = .ok (.istore 4, 2) := by decide +kernel
theorem dX11_quarrels_7 : decode cX11_quarrels 7 = .ok (.iconst 0, 1) := by decide +kernel
theorem dX11_quarrels_8 : decode cX11_quarrels 8 = .ok (.istore 5, 2) := by decide +kernel
theorem dX11_quarrels_10 : decode cX11_quarrels 10 = .ok (.iload 5, 2) := by decide +kernel
theorem dX11_quarrels_12 : decode cX11_quarrels 12 = .ok (.aload_n 0, 1) := by decide +kernel
theorem dX11_quarrels_13 : decode cX11_quarrels 13 = .ok (.getfield 12, 3) := by decide +kernel
theorem dX11_quarrels_16 : decode cX11_quarrels 16 = .ok (.getfield 90, 3) := by decide +kernel
theorem dX11_quarrels_19 : decode cX11_quarrels 19 = .ok (.if_icmp .ge 61, 3) := by decide +kernel
theorem dX11_quarrels_22 : decode cX11_quarrels 22 = .ok (.iload 5, 2) := by decide +kernel
theorem dX11_quarrels_24 : decode cX11_quarrels 24 = .ok (.iconst 1, 1) := by decide +kernel
theorem dX11_quarrels_25 : decode cX11_quarrels 25 = .ok (.iadd, 1) := by decide +kernel
theorem dX11_quarrels_26 : decode cX11_quarrels 26 = .ok (.istore 6, 2) := by decide +kernel
theorem dX11_quarrels_28 : decode cX11_quarrels 28 = .ok (.iload 6, 2) := by decide +kernel
theorem dX11_quarrels_30 : decode cX11_quarrels 30 = .ok (.aload_n 0, 1) := by decide +kernel
theorem dX11_quarrels_31 : decode cX11_quarrels 31 = .ok (.getfield 12, 3) := by decide +kernel
theorem dX11_quarrels_34 : decode cX11_quarrels 34 = .ok (.getfield 90, 3) := by decide +kernel
theorem dX11_quarrels_37 : decode cX11_quarrels 37 = .ok (.if_icmp .ge 37, 3) := by decide +kernel
theorem dX11_quarrels_40 : decode cX11_quarrels 40 = .ok (.aload_n 0, 1) := by decide +kernel
theorem dX11_quarrels_41 : decode cX11_quarrels 41 = .ok (.getfield 42, 3) := by decide +kernel
theorem dX11_quarrels_44 : decode cX11_quarrels 44 = .ok (.iload 5, 2) := by decide +kernel
theorem dX11_quarrels_46 : decode cX11_quarrels 46 = .ok (.iload 6, 2) := by decide +kernel
theorem dX11_quarrels_48 : decode cX11_quarrels 48 = .ok (.invokevirtual 297, 3) := by decide +kernel
theorem dX11_quarrels_51 : decode cX11_quarrels 51 = .ok (.ifCond .eq 17, 3) := by decide +kernel
theorem dX11_quarrels_54 : decode cX11_quarrels 54 = .ok (.iload_n 2, 1) := by decide +kernel
theorem dX11_quarrels_55 : decode cX11_quarrels 55 = .ok (.ifCond .ne 10, 3) := by decide +kernel
theorem dX11_quarrels_58 : decode cX11_quarrels 58 = .ok (.iload 5, 2) := by decide +kernel
theorem dX11_quarrels_60 : decode cX11_quarrels 60 = .ok (.istore_n 3, 1) := by decide +kernel
theorem dX11_quarrels_61 : decode cX11_quarrels 61 = .ok (.iload 6, 2) := by decide +kernel
theorem dX11_quarrels_63 : decode cX11_quarrels 63 = .ok (.istore 4, 2) := by decide +kernel
theorem dX11_quarrels_65 : decode cX11_quarrels 65 = .ok (.iinc 2 1, 3) := by decide +kernel
theorem dX11_quarrels_68 : decode cX11_quarrels 68 = .ok (.iinc 6 1, 3) := by decide +kernel
theorem dX11_quarrels_71 : decode cX11_quarrels 71 = .ok (.goto (-43), 3) := by decide +kernel
theorem dX11_quarrels_74 : decode cX11_quarrels 74 = .ok (.iinc 5 1, 3) := by decide +kernel
theorem dX11_quarrels_77 : decode cX11_quarrels 77 = .ok (.goto (-67), 3) := by decide +kernel
theorem dX11_quarrels_80 : decode cX11_quarrels 80 = .ok (.iload_n 1, 1) := by decide +kernel
theorem dX11_quarrels_81 : decode cX11_quarrels 81 = .ok (.iconst 2, 1) := by decide +kernel
theorem dX11_quarrels_82 : decode cX11_quarrels 82 = .ok (.if_icmp .ne 8, 3) := by decide +kernel
theorem dX11_quarrels_85 : decode cX11_quarrels 85 = .ok (.iload 4, 2) := by decide +kernel
theorem dX11_quarrels_87 : decode cX11_quarrels 87 = .ok (.goto 9, 3) := by decide +kernel
theorem dX11_quarrels_90 : decode cX11_quarrels 90 = .ok (.iload_n 1, 1) := by decide +kernel
theorem dX11_quarrels_91 : decode cX11_quarrels 91 = .ok (.iload_n 2, 1) := by decide +kernel
theorem dX11_quarrels_92 : decode cX11_quarrels 92 = .ok (.iload_n 3, 1) := by decide +kernel
theorem dX11_quarrels_93 : decode cX11_quarrels 93 = .ok (.invokestatic 282, 3) := by decide +kernel
theorem dX11_quarrels_96 : decode cX11_quarrels 96 = .ok (.ireturn, 1) := by decide +kernel
set_option maxHeartbeats 4000000 in
set_option maxRecDepth 100000 in
theorem c_X11_quarrels (l : Launch) (D : va_G) (tys : List (ClassId × FieldType)) (base : Nat) (G : iv_G) (h0 : Nat) (g_h0 : Nat → Int32) (r_h0 : Nat → Nat) (a_h0 : G h0 = some (11, g_h0, r_h0)) (x_0 : Int32) (i_x_0 : iv_R (-2147483648) 2147483647 x_0) : Met l yX11_quarrels (Cond.code yX11_quarrels cX11_quarrels 7 (some .int) :: iv_W0) ({ frames := 5, cells := 0, slots := 0, locals := 129 }) (iv_Pc iv_sh D classes tys base G [.ref h0, .int x_0]) (iv_Qi iv_sh D classes tys base (fun v G' => iv_Md [28, 30] G G' ∧ iv_R (-2147483648) 2147483647 v)) 0 0 (iv_A base) := by
  refine iv_head (by decide) (Nat.le_of_ble_eq_true rfl) ?_
  intro p e s m args below meth c ls X hr hlocks hname hB hl
  have X := X
  have hx := X.1.1
  have hb := X.1.2.1
  have hM : iv_Md [28, 30] G G := iv_Md.rf
  have hl : lv_has ls 7 [(0, .ref h0), (1, .int x_0)] := hl
  refine lv_iconst (v := 0) hx hb dX11_quarrels_0 (by decide) ?_
  refine lv_istore_n (lv' := [(2, .int 0), (0, .ref h0), (1, .int x_0)]) hx hb dX11_quarrels_1 rfl hl (by decide) rfl (fun ls hl => ?_)
  refine lv_iconst (v := (-1)) hx hb dX11_quarrels_2 (by decide) ?_
  refine lv_istore_n (lv' := [(3, .int (-1)), (2, .int 0), (0, .ref h0), (1, .int x_0)]) hx hb dX11_quarrels_3 rfl hl (by decide) rfl (fun ls hl => ?_)
  refine lv_iconst (v := (-1)) hx hb dX11_quarrels_4 (by decide) ?_
  refine lv_istore (lv' := [(4, .int (-1)), (3, .int (-1)), (2, .int 0), (0, .ref h0), (1, .int x_0)]) hx hb dX11_quarrels_5 hl (by decide) rfl (fun ls hl => ?_)
  refine lv_iconst (v := 0) hx hb dX11_quarrels_7 (by decide) ?_
  refine lv_istore (lv' := [(5, .int 0), (4, .int (-1)), (3, .int (-1)), (2, .int 0), (0, .ref h0), (1, .int x_0)]) hx hb dX11_quarrels_8 hl (by decide) rfl (fun ls hl => ?_)
  have L_10 : ∀ (n_10 : Nat) (G5 : iv_G) (hM : iv_Md [28, 30] G G5) (H : Heap) (locs : List Loc) (hB : iv_B iv_sh D classes tys base G5 s.heap H locs) (a_h0 : G5 h0 = some (11, g_h0, r_h0)) (x1 : Int32) (i_x1 : iv_R (-2147483648) 2147483647 x1) (x2 : Int32) (i_x2 : iv_R (-1) 9 x2) (x3 : Int32) (i_x3 : iv_R (-1) 9 x3) (x4 : Int32) (i_x4 : iv_R 0 10 x4) (hn_10 : (11 - x4.toInt).toNat < n_10) (ls : Array Slot) (hl : lv_has ls 7 [(5, .int x4), (4, .int x3), (3, .int x2), (2, .int x1), (0, .ref h0), (1, .int x_0)]), W p l e ({ frames := 5, cells := 0, slots := 0, locals := 129 } : Room) s m args below meth c H locs 0 0 (MQ below (iv_Qi iv_sh D classes tys base (fun v G' => iv_Md [28, 30] G G' ∧ iv_R (-2147483648) 2147483647 v)) args s 0 0 (iv_A base)) (F0 m 10 ls []) := by
    intro n_10
    induction n_10 with
    | zero => intro G5 hM H locs hB a_h0 x1 i_x1 x2 i_x2 x3 i_x3 x4 i_x4 hn_10 ls hl; exact absurd hn_10 (Nat.not_lt_zero _)
    | succ n_10 ih_10 =>
      intro G5 hM H locs hB a_h0 x1 i_x1 x2 i_x2 x3 i_x3 x4 i_x4 hn_10 ls hl
      refine lv_iload hx hb dX11_quarrels_10 (lv_at hl 0 rfl) ?_
      refine lv_aload_n hx hb dX11_quarrels_12 rfl (lv_at hl 4 rfl) ?_
      refine iv_getr X ft_X11 hB a_h0 sh_11 0 (by decide) rfl k_fl_X11_12 dX11_quarrels_13 (fun b6 g_b6 r_b6 e_b6 a_b6 => ?_)
      refine iv_geti X ft_X5 hB a_b6 sh_5 1 (by decide) rfl k_fl_X11_90 dX11_quarrels_16 (fun x7 e_x7 i_x7 => ?_)
      refine lv_icmp_ge (tgt := 80) hx hb dX11_quarrels_19 (by decide) (fun c8 => ?_) (fun c8 => ?_)
      · skip
        refine lv_iload_n hx hb dX11_quarrels_80 rfl (lv_at hl 5 rfl) ?_
        refine lv_iconst (v := 2) hx hb dX11_quarrels_81 (by decide) ?_
        refine lv_icmp_ne (tgt := 90) hx hb dX11_quarrels_82 (by decide) (fun c9 => ?_) (fun c9 => ?_)
        · skip
          refine lv_iload_n hx hb dX11_quarrels_90 rfl (lv_at hl 5 rfl) ?_
          refine lv_iload_n hx hb dX11_quarrels_91 rfl (lv_at hl 3 rfl) ?_
          refine lv_iload_n hx hb dX11_quarrels_92 rfl (lv_at hl 2 rfl) ?_
          refine iv_cSi X k_good k_mf_X11_chosen k_st_X11_chosen k_ml_X11_282 hB (As := [.int x_0, .int x1, .int x2]) (c_X11_chosen l D tys base G5 x_0 i_x_0 x1 i_x1 x2 (i_x2.wk (by decide))) ⟨rfl, rfl⟩ ⟨Nat.le_of_ble_eq_true rfl, Nat.le_of_ble_eq_true rfl⟩ ⟨Nat.le_of_ble_eq_true rfl, Nat.le_of_ble_eq_true rfl⟩ rfl rfl hl.1 (Nat.le_of_ble_eq_true rfl) dX11_quarrels_93 (fun x10 G9 H locs hq hB => ?_)
          obtain ⟨rfl, i_x10⟩ := hq
          exact iv_iret X hr hlocks hB ⟨hM, i_x10⟩ dX11_quarrels_96
        · skip
          have i10_x_0 : iv_R 2 2 x_0 := ((i_x_0.cutLo (n := 2) (iv_eq_r c9 q_2).1).cutHi (n := 2) (iv_eq_r c9 q_2).2)
          refine lv_iload hx hb dX11_quarrels_85 (lv_at hl 1 rfl) ?_
          refine lv_goto (tgt := 96) hx hb dX11_quarrels_87 (by decide) ?_
          exact iv_iret X hr hlocks hB ⟨hM, (i_x3.wk (by decide))⟩ dX11_quarrels_96
      · skip
        have i11_x4 : iv_R 0 9 x4 := (i_x4.cutHi (n := 9) (iv_lt_r (iv_nle c8) i_x7 (by decide)))
        have i12_x7 : iv_R 1 10 x7 := (i_x7.cutLo (n := 1) (iv_lt_l (iv_nle c8) i_x4 (by decide)))
        refine lv_iload hx hb dX11_quarrels_22 (lv_at hl 0 rfl) ?_
        refine lv_iconst (v := 1) hx hb dX11_quarrels_24 (by decide) ?_
        refine iv_iadd hx hb i11_x4 q_1 (lo := 1) (hi := 10) (by decide) dX11_quarrels_25 (fun x14 e_x14 i_x14 => ?_)
        refine lv_istore (lv' := [(6, .int x14), (5, .int x4), (4, .int x3), (3, .int x2), (2, .int x1), (0, .ref h0), (1, .int x_0)]) hx hb dX11_quarrels_26 hl (by decide) rfl (fun ls hl => ?_)
        have L_28 : ∀ (n_28 : Nat) (G19 : iv_G) (hM : iv_Md [28, 30] G G19) (H : Heap) (locs : List Loc) (hB : iv_B iv_sh D classes tys base G19 s.heap H locs) (a_h0 : G19 h0 = some (11, g_h0, r_h0)) (x15 : Int32) (i_x15 : iv_R (-2147483648) 2147483647 x15) (x16 : Int32) (i_x16 : iv_R (-1) 9 x16) (x17 : Int32) (i_x17 : iv_R (-1) 9 x17) (x18 : Int32) (i_x18 : iv_R 1 10 x18) (hn_28 : (11 - x18.toInt).toNat < n_28) (ls : Array Slot) (hl : lv_has ls 7 [(6, .int x18), (5, .int x4), (4, .int x17), (3, .int x16), (2, .int x15), (0, .ref h0), (1, .int x_0)]), W p l e ({ frames := 5, cells := 0, slots := 0, locals := 129 } : Room) s m args below meth c H locs 0 0 (MQ below (iv_Qi iv_sh D classes tys base (fun v G' => iv_Md [28, 30] G G' ∧ iv_R (-2147483648) 2147483647 v)) args s 0 0 (iv_A base)) (F0 m 28 ls []) := by
          intro n_28
          induction n_28 with
          | zero => intro G19 hM H locs hB a_h0 x15 i_x15 x16 i_x16 x17 i_x17 x18 i_x18 hn_28 ls hl; exact absurd hn_28 (Nat.not_lt_zero _)
          | succ n_28 ih_28 =>
            intro G19 hM H locs hB a_h0 x15 i_x15 x16 i_x16 x17 i_x17 x18 i_x18 hn_28 ls hl
            refine lv_iload hx hb dX11_quarrels_28 (lv_at hl 0 rfl) ?_
            refine lv_aload_n hx hb dX11_quarrels_30 rfl (lv_at hl 5 rfl) ?_
            refine iv_getr X ft_X11 hB a_h0 sh_11 0 (by decide) rfl k_fl_X11_12 dX11_quarrels_31 (fun b20 g_b20 r_b20 e_b20 a_b20 => ?_)
            refine iv_geti X ft_X5 hB a_b20 sh_5 1 (by decide) rfl k_fl_X11_90 dX11_quarrels_34 (fun x21 e_x21 i_x21 => ?_)
            refine lv_icmp_ge (tgt := 74) hx hb dX11_quarrels_37 (by decide) (fun c22 => ?_) (fun c22 => ?_)
            · skip
              refine iv_iinc hx hb i11_x4 (lo := 1) (hi := 10) (by decide) dX11_quarrels_74 hl (k := 1) rfl (by decide) (fun x23 ls e_x23 i_x23 hl => ?_)
              have hl : lv_has ls 7 [(5, .int x23), (6, .int x18), (4, .int x17), (3, .int x16), (2, .int x15), (0, .ref h0), (1, .int x_0)] := hl
              refine lv_goto (tgt := 10) hx hb dX11_quarrels_77 (by decide) ?_
              exact ih_10 G19 hM _ _ hB a_h0 x15 i_x15 x16 i_x16 x17 i_x17 x23 (i_x23.wk (by decide)) (iv_mup (c := 1) i_x4 (by decide) (by decide) (by omega) hn_10) _ (lv_sub hl [0, 2, 3, 4, 5, 6] rfl)
            · skip
              have i23_x18 : iv_R 1 9 x18 := (i_x18.cutHi (n := 9) (iv_lt_r (iv_nle c22) i_x21 (by decide)))
              have i24_x21 : iv_R 2 10 x21 := (i_x21.cutLo (n := 2) (iv_lt_l (iv_nle c22) i_x18 (by decide)))
              refine lv_aload_n hx hb dX11_quarrels_40 rfl (lv_at hl 5 rfl) ?_
              refine iv_getr X ft_X11 hB a_h0 sh_11 7 (by decide) rfl k_fl_X11_42 dX11_quarrels_41 (fun b26 g_b26 r_b26 e_b26 a_b26 => ?_)
              refine lv_iload hx hb dX11_quarrels_44 (lv_at hl 1 rfl) ?_
              refine lv_iload hx hb dX11_quarrels_46 (lv_at hl 0 rfl) ?_
              refine iv_cVi X k_good k_mf_X2_doQuarrel k_im_X2_doQuarrel k_sel_X2_doQuarrel k_ml_X11_297 ft_X2 hB a_b26 sh_2 (As := [.int x4, .int x18]) (c_X2_doQuarrel l D tys base G19 b26 g_b26 r_b26 a_b26 x4 i11_x4 x18 i23_x18) ⟨rfl, rfl⟩ ⟨Nat.le_of_ble_eq_true rfl, Nat.le_of_ble_eq_true rfl⟩ ⟨Nat.le_of_ble_eq_true rfl, Nat.le_of_ble_eq_true rfl⟩ rfl rfl hl.1 (Nat.le_of_ble_eq_true rfl) dX11_quarrels_48 (fun x27 G9 H locs hq hB => ?_)
              obtain ⟨hm, i_x27⟩ := hq
              obtain ⟨G28, hG9⟩ : ∃ g, g = G9 := ⟨_, rfl⟩
              rw [← hG9] at hm hB
              have hM := hM.stp hm (by decide)
              have a_h0 := hm.at a_h0 (by decide)
              refine lv_if_eq (tgt := 68) hx hb dX11_quarrels_51 (by decide) (fun c29 => ?_) (fun c29 => ?_)
              · skip
                have i29_x27 : iv_R 0 0 x27 := (i_x27.cutHi (n := 0) (iv_eq_r c29 q_0).2)
                refine iv_iinc hx hb i23_x18 (lo := 2) (hi := 10) (by decide) dX11_quarrels_68 hl (k := 0) rfl (by decide) (fun x31 ls e_x31 i_x31 hl => ?_)
                have hl : lv_has ls 7 [(6, .int x31), (5, .int x4), (4, .int x17), (3, .int x16), (2, .int x15), (0, .ref h0), (1, .int x_0)] := hl
                refine lv_goto (tgt := 28) hx hb dX11_quarrels_71 (by decide) ?_
                exact ih_28 G28 hM _ _ hB a_h0 x15 i_x15 x16 i_x16 x17 i_x17 x31 (i_x31.wk (by decide)) (iv_mup (c := 1) i_x18 (by decide) (by decide) (by omega) hn_28) _ (lv_sub hl [0, 1, 2, 3, 4, 5, 6] rfl)
              · skip
                have i31_x27 : iv_R 1 1 x27 := iv_ne_lo c29 i_x27 q_0 (by decide)
                refine lv_iload_n hx hb dX11_quarrels_54 rfl (lv_at hl 4 rfl) ?_
                refine lv_if_ne (tgt := 65) hx hb dX11_quarrels_55 (by decide) (fun c33 => ?_) (fun c33 => ?_)
                · skip
                  obtain ⟨x34, e_x34⟩ : ∃ y : Int32, y = x15 + Int32.ofInt 1 := ⟨_, rfl⟩
                  refine lv_iinc (v := x34) (lv' := [(2, .int x34), (6, .int x18), (5, .int x4), (4, .int x17), (3, .int x16), (0, .ref h0), (1, .int x_0)]) hx hb dX11_quarrels_65 hl (k := 4) rfl e_x34.symm (by decide) rfl (fun ls hl => ?_)
                  have i_x34 := iv_R.all x34
                  refine iv_iinc hx hb i23_x18 (lo := 2) (hi := 10) (by decide) dX11_quarrels_68 hl (k := 1) rfl (by decide) (fun x35 ls e_x35 i_x35 hl => ?_)
                  have hl : lv_has ls 7 [(6, .int x35), (2, .int x34), (5, .int x4), (4, .int x17), (3, .int x16), (0, .ref h0), (1, .int x_0)] := hl
                  refine lv_goto (tgt := 28) hx hb dX11_quarrels_71 (by decide) ?_
                  exact ih_28 G28 hM _ _ hB a_h0 x34 i_x34 x16 i_x16 x17 i_x17 x35 (i_x35.wk (by decide)) (iv_mup (c := 1) i_x18 (by decide) (by decide) (by omega) hn_28) _ (lv_sub hl [0, 2, 3, 4, 1, 5, 6] rfl)
                · skip
                  have i35_x15 : iv_R 0 0 x15 := ((i_x15.cutLo (n := 0) (iv_eq_r c33 q_0).1).cutHi (n := 0) (iv_eq_r c33 q_0).2)
                  refine lv_iload hx hb dX11_quarrels_58 (lv_at hl 1 rfl) ?_
                  refine lv_istore_n (lv' := [(3, .int x4), (6, .int x18), (5, .int x4), (4, .int x17), (2, .int x15), (0, .ref h0), (1, .int x_0)]) hx hb dX11_quarrels_60 rfl hl (by decide) rfl (fun ls hl => ?_)
                  refine lv_iload hx hb dX11_quarrels_61 (lv_at hl 1 rfl) ?_
                  refine lv_istore (lv' := [(4, .int x18), (3, .int x4), (6, .int x18), (5, .int x4), (2, .int x15), (0, .ref h0), (1, .int x_0)]) hx hb dX11_quarrels_63 hl (by decide) rfl (fun ls hl => ?_)
                  refine iv_iinc hx hb i35_x15 (lo := 1) (hi := 1) (by decide) dX11_quarrels_65 hl (k := 4) rfl (by decide) (fun x37 ls e_x37 i_x37 hl => ?_)
                  have hl : lv_has ls 7 [(2, .int x37), (4, .int x18), (3, .int x4), (6, .int x18), (5, .int x4), (0, .ref h0), (1, .int x_0)] := hl
                  refine iv_iinc hx hb i23_x18 (lo := 2) (hi := 10) (by decide) dX11_quarrels_68 hl (k := 3) rfl (by decide) (fun x38 ls e_x38 i_x38 hl => ?_)
                  have hl : lv_has ls 7 [(6, .int x38), (2, .int x37), (4, .int x18), (3, .int x4), (5, .int x4), (0, .ref h0), (1, .int x_0)] := hl
                  refine lv_goto (tgt := 28) hx hb dX11_quarrels_71 (by decide) ?_
                  exact ih_28 G28 hM _ _ hB a_h0 x37 (i_x37.wk (by decide)) x4 (i11_x4.wk (by decide)) x18 (i23_x18.wk (by decide)) x38 (i_x38.wk (by decide)) (iv_mup (c := 1) i_x18 (by decide) (by decide) (by omega) hn_28) _ (lv_sub hl [0, 4, 2, 3, 1, 5, 6] rfl)
        exact L_28 _ G5 hM _ _ hB a_h0 x1 i_x1 x2 i_x2 x3 i_x3 x14 i_x14 (Nat.lt_succ_self _) _ (lv_sub hl [0, 1, 2, 3, 4, 5, 6] rfl)
  exact L_10 _ G hM _ _ hB a_h0 0 (q_0.wk (by decide)) (-1) (q_n1.wk (by decide)) (-1) (q_n1.wk (by decide)) 0 (q_0.wk (by decide)) (Nat.lt_succ_self _) _ (lv_sub hl [0, 1, 2, 3, 4, 5] rfl)
theorem dX9_isFreeAt_0 : decode cX9_isFreeAt 0 = .ok (.iload_n 2, 1) := by decide +kernel
theorem dX9_isFreeAt_1 : decode cX9_isFreeAt 1 = .ok (.bipush 47, 2) := by decide +kernel
theorem dX9_isFreeAt_3 : decode cX9_isFreeAt 3 = .ok (.if_icmp .le 5, 3) := by decide +kernel
theorem dX9_isFreeAt_6 : decode cX9_isFreeAt 6 = .ok (.iconst 0, 1) := by decide +kernel
theorem dX9_isFreeAt_7 : decode cX9_isFreeAt 7 = .ok (.ireturn, 1) := by decide +kernel
theorem dX9_isFreeAt_8 : decode cX9_isFreeAt 8 = .ok (.iconst 0, 1) := by decide +kernel
theorem dX9_isFreeAt_9 : decode cX9_isFreeAt 9 = .ok (.istore_n 3, 1) := by decide +kernel
theorem dX9_isFreeAt_10 : decode cX9_isFreeAt 10 = .ok (.iload_n 3, 1) := by decide +kernel
theorem dX9_isFreeAt_11 : decode cX9_isFreeAt 11 = .ok (.aload_n 0, 1) := by decide +kernel
theorem dX9_isFreeAt_12 : decode cX9_isFreeAt 12 = .ok (.getfield 15, 3) := by decide +kernel
theorem dX9_isFreeAt_15 : decode cX9_isFreeAt 15 = .ok (.getfield 19, 3) := by decide +kernel
theorem dX9_isFreeAt_18 : decode cX9_isFreeAt 18 = .ok (.if_icmp .ge 74, 3) := by decide +kernel
theorem dX9_isFreeAt_21 : decode cX9_isFreeAt 21 = .ok (.iload_n 1, 1) := by decide +kernel
theorem dX9_isFreeAt_22 : decode cX9_isFreeAt 22 = .ok (.iload_n 3, 1) := by decide +kernel
theorem dX9_isFreeAt_23 : decode cX9_isFreeAt 23 = .ok (.iushr, 1) := by decide +kernel
theorem dX9_isFreeAt_24 : decode cX9_isFreeAt 24 = .ok (.iconst 1, 1) := by decide +kernel
theorem dX9_isFreeAt_25 : decode cX9_isFreeAt 25 = .ok (.iand, 1) := by decide +kernel
theorem dX9_isFreeAt_26 : decode cX9_isFreeAt 26 = .ok (.ifCond .ne 23, 3) := by decide +kernel
theorem dX9_isFreeAt_29 : decode cX9_isFreeAt 29 = .ok (.aload_n 0, 1) := by decide +kernel
theorem dX9_isFreeAt_30 : decode cX9_isFreeAt 30 = .ok (.getfield 15, 3) := by decide +kernel
theorem dX9_isFreeAt_33 : decode cX9_isFreeAt 33 = .ok (.getfield 45, 3) := by decide +kernel
theorem dX9_isFreeAt_36 : decode cX9_isFreeAt 36 = .ok (.iload_n 3, 1) := by decide +kernel
theorem dX9_isFreeAt_37 : decode cX9_isFreeAt 37 = .ok (.aaload, 1) := by decide +kernel
theorem dX9_isFreeAt_38 : decode cX9_isFreeAt 38 = .ok (.getfield 49, 3) := by decide +kernel
theorem dX9_isFreeAt_41 : decode cX9_isFreeAt 41 = .ok (.iconst 2, 1) := by decide +kernel
theorem dX9_isFreeAt_42 : decode cX9_isFreeAt 42 = .ok (.if_icmp .eq 7, 3) := by decide +kernel
theorem dX9_isFreeAt_45 : decode cX9_isFreeAt 45 = .ok (.iconst 1, 1) := by decide +kernel
theorem dX9_isFreeAt_46 : decode cX9_isFreeAt 46 = .ok (.goto 4, 3) := by decide +kernel
theorem dX9_isFreeAt_49 : decode cX9_isFreeAt 49 = .ok (.iconst 0, 1) := by decide +kernel
theorem dX9_isFreeAt_50 : decode cX9_isFreeAt 50 = .ok (.istore 4, 2) := by decide +kernel
theorem dX9_isFreeAt_52 : decode cX9_isFreeAt 52 = .ok (.iload 4, 2) := by decide +kernel
theorem dX9_isFreeAt_54 : decode cX9_isFreeAt 54 = .ok (.ifCond .eq 32, 3) := by decide +kernel
theorem dX9_isFreeAt_57 : decode cX9_isFreeAt 57 = .ok (.aload_n 0, 1) := by decide +kernel
theorem dX9_isFreeAt_58 : decode cX9_isFreeAt 58 = .ok (.getfield 15, 3) := by decide +kernel
theorem dX9_isFreeAt_61 : decode cX9_isFreeAt 61 = .ok (.getfield 45, 3) := by decide +kernel
theorem dX9_isFreeAt_64 : decode cX9_isFreeAt 64 = .ok (.iload_n 3, 1) := by decide +kernel
theorem dX9_isFreeAt_65 : decode cX9_isFreeAt 65 = .ok (.aaload, 1) := by decide +kernel
theorem dX9_isFreeAt_66 : decode cX9_isFreeAt 66 = .ok (.getfield 63, 3) := by decide +kernel
theorem dX9_isFreeAt_69 : decode cX9_isFreeAt 69 = .ok (.iload_n 2, 1) := by decide +kernel
theorem dX9_isFreeAt_70 : decode cX9_isFreeAt 70 = .ok (.isub, 1) := by decide +kernel
theorem dX9_isFreeAt_71 : decode cX9_isFreeAt 71 = .ok (.invokestatic 69, 3) := by decide +kernel
theorem dX9_isFreeAt_74 : decode cX9_isFreeAt 74 = .ok (.aload_n 0, 1) := by decide +kernel
theorem dX9_isFreeAt_75 : decode cX9_isFreeAt 75 = .ok (.getfield 15, 3) := by decide +kernel
theorem dX9_isFreeAt_78 : decode cX9_isFreeAt 78 = .ok (.getfield 74, 3) := by decide +kernel
theorem dX9_isFreeAt_81 : decode cX9_isFreeAt 81 = .ok (.if_icmp .ge 5, 3) := by decide +kernel
theorem dX9_isFreeAt_84 : decode cX9_isFreeAt 84 = .ok (.iconst 0, 1) := by decide +kernel
theorem dX9_isFreeAt_85 : decode cX9_isFreeAt 85 = .ok (.ireturn, 1) := by decide +kernel
theorem dX9_isFreeAt_86 : decode cX9_isFreeAt 86 = .ok (.iinc 3 1, 3) := by decide +kernel
theorem dX9_isFreeAt_89 : decode cX9_isFreeAt 89 = .ok (.goto (-79), 3) := by decide +kernel
theorem dX9_isFreeAt_92 : decode cX9_isFreeAt 92 = .ok (.iconst 1, 1) := by decide +kernel
theorem dX9_isFreeAt_93 : decode cX9_isFreeAt 93 = .ok (.ireturn, 1) := by decide +kernel
set_option maxHeartbeats 4000000 in
set_option maxRecDepth 100000 in
theorem c_X9_isFreeAt (l : Launch) (D : va_G) (tys : List (ClassId × FieldType)) (base : Nat) (G : iv_G) (h0 : Nat) (g_h0 : Nat → Int32) (r_h0 : Nat → Nat) (a_h0 : G h0 = some (9, g_h0, r_h0)) (x_0 : Int32) (i_x_0 : iv_R (-2147483648) 2147483647 x_0) (x_1 : Int32) (i_x_1 : iv_R (-2147483648) 2147483647 x_1) : Met l yX9_isFreeAt (Cond.code yX9_isFreeAt cX9_isFreeAt 5 (some .boolean) :: iv_W0) ({ frames := 1, cells := 0, slots := 0, locals := 13 }) (iv_Pc iv_sh D classes tys base G [.ref h0, .int x_0, .int x_1]) (iv_Qi iv_sh D classes tys base (fun v G' => G = G' ∧ iv_R 0 1 v ∧ (¬ v = 0 → iv_R (-2147483648) 47 x_1))) 0 0 (iv_A base) := by
  refine iv_head (by decide) (Nat.le_of_ble_eq_true rfl) ?_
  intro p e s m args below meth c ls X hr hlocks hname hB hl
  have X := X
  have hx := X.1.1
  have hb := X.1.2.1
  have hl : lv_has ls 5 [(0, .ref h0), (1, .int x_0), (2, .int x_1)] := hl
  refine lv_iload_n hx hb dX9_isFreeAt_0 rfl (lv_at hl 2 rfl) ?_
  refine lv_bipush (v := 47) hx hb dX9_isFreeAt_1 (by decide) ?_
  refine lv_icmp_le (tgt := 8) hx hb dX9_isFreeAt_3 (by decide) (fun c1 => ?_) (fun c1 => ?_)
  · skip
    have i1_x_1 : iv_R (-2147483648) 47 x_1 := (i_x_1.cutHi (n := 47) (iv_le_r c1 q_47))
    refine lv_iconst (v := 0) hx hb dX9_isFreeAt_8 (by decide) ?_
    refine lv_istore_n (lv' := [(3, .int 0), (0, .ref h0), (1, .int x_0), (2, .int x_1)]) hx hb dX9_isFreeAt_9 rfl hl (by decide) rfl (fun ls hl => ?_)
    have L_10 : ∀ (n_10 : Nat) (H : Heap) (locs : List Loc) (hB : iv_B iv_sh D classes tys base G s.heap H locs) (x3 : Int32) (i_x3 : iv_R 0 10 x3) (hn_10 : (11 - x3.toInt).toNat < n_10) (ls : Array Slot) (hl : lv_has ls 5 [(3, .int x3), (0, .ref h0), (1, .int x_0), (2, .int x_1)]), W p l e ({ frames := 1, cells := 0, slots := 0, locals := 13 } : Room) s m args below meth c H locs 0 0 (MQ below (iv_Qi iv_sh D classes tys base (fun v G' => G = G' ∧ iv_R 0 1 v ∧ (¬ v = 0 → iv_R (-2147483648) 47 x_1))) args s 0 0 (iv_A base)) (F0 m 10 ls []) := by
      intro n_10
      induction n_10 with
      | zero => intro H locs hB x3 i_x3 hn_10 ls hl; exact absurd hn_10 (Nat.not_lt_zero _)
      | succ n_10 ih_10 =>
        intro H locs hB x3 i_x3 hn_10 ls hl
        refine lv_iload_n hx hb dX9_isFreeAt_10 rfl (lv_at hl 0 rfl) ?_
        refine lv_aload_n hx hb dX9_isFreeAt_11 rfl (lv_at hl 1 rfl) ?_
        refine iv_getr X ft_X9 hB a_h0 sh_9 0 (by decide) rfl k_fl_X9_15 dX9_isFreeAt_12 (fun b4 g_b4 r_b4 e_b4 a_b4 => ?_)
        refine iv_geti X ft_X5 hB a_b4 sh_5 1 (by decide) rfl k_fl_X9_19 dX9_isFreeAt_15 (fun x5 e_x5 i_x5 => ?_)
        refine lv_icmp_ge (tgt := 92) hx hb dX9_isFreeAt_18 (by decide) (fun c6 => ?_) (fun c6 => ?_)
        · skip
          refine lv_iconst (v := 1) hx hb dX9_isFreeAt_92 (by decide) ?_
          exact iv_zret X hr hlocks hB (q_1.wk (by decide)) ⟨rfl, (q_1.wk (by decide)), fun _ => i1_x_1⟩ dX9_isFreeAt_93
        · skip
          have i6_x3 : iv_R 0 9 x3 := (i_x3.cutHi (n := 9) (iv_lt_r (iv_nle c6) i_x5 (by decide)))
          have i7_x5 : iv_R 1 10 x5 := (i_x5.cutLo (n := 1) (iv_lt_l (iv_nle c6) i_x3 (by decide)))
          refine lv_iload_n hx hb dX9_isFreeAt_21 rfl (lv_at hl 2 rfl) ?_
          refine lv_iload_n hx hb dX9_isFreeAt_22 rfl (lv_at hl 0 rfl) ?_
          refine lv_iushr hx hb dX9_isFreeAt_23 rfl ?_
          refine lv_topi (fun x9 e_x9 => ?_)
          have i_x9 := iv_R.all x9
          refine lv_iconst (v := 1) hx hb dX9_isFreeAt_24 (by decide) ?_
          refine iv_iand_r hx hb q_1 (by decide) dX9_isFreeAt_25 (fun x10 e_x10 i_x10 => ?_)
          refine lv_if_ne (tgt := 49) hx hb dX9_isFreeAt_26 (by decide) (fun c11 => ?_) (fun c11 => ?_)
          · skip
            have i11_x10 : iv_R 1 1 x10 := iv_ne_lo c11 i_x10 q_0 (by decide)
            refine lv_iconst (v := 0) hx hb dX9_isFreeAt_49 (by decide) ?_
            refine lv_istore (lv' := [(4, .int 0), (3, .int x3), (0, .ref h0), (1, .int x_0), (2, .int x_1)]) hx hb dX9_isFreeAt_50 hl (by decide) rfl (fun ls hl => ?_)
            refine lv_iload hx hb dX9_isFreeAt_52 (lv_at hl 0 rfl) ?_
            refine lv_if_eq (tgt := 86) hx hb dX9_isFreeAt_54 (by decide) (fun c13 => ?_) (fun c13 => ?_)
            · skip
              refine iv_iinc hx hb i6_x3 (lo := 1) (hi := 10) (by decide) dX9_isFreeAt_86 hl (k := 1) rfl (by decide) (fun x14 ls e_x14 i_x14 hl => ?_)
              have hl : lv_has ls 5 [(3, .int x14), (4, .int 0), (0, .ref h0), (1, .int x_0), (2, .int x_1)] := hl
              refine lv_goto (tgt := 10) hx hb dX9_isFreeAt_89 (by decide) ?_
              exact ih_10 _ _ hB x14 (i_x14.wk (by decide)) (iv_mup (c := 1) i_x3 (by decide) (by decide) (by omega) hn_10) _ (lv_sub hl [0, 2, 3, 4] rfl)
            · skip
              exact absurd rfl c13
          · skip
            have i14_x10 : iv_R 0 0 x10 := (i_x10.cutHi (n := 0) (iv_eq_r c11 q_0).2)
            refine lv_aload_n hx hb dX9_isFreeAt_29 rfl (lv_at hl 1 rfl) ?_
            refine iv_getr0 X ft_X9 hB a_h0 sh_9 0 (by decide) rfl k_fl_X9_15 dX9_isFreeAt_30 e_b4 ?_
            refine iv_getr X ft_X5 hB a_b4 sh_5 0 (by decide) rfl k_fl_X9_45 dX9_isFreeAt_33 (fun b16 g_b16 r_b16 e_b16 a_b16 => ?_)
            refine lv_iload_n hx hb dX9_isFreeAt_36 rfl (lv_at hl 0 rfl) ?_
            refine iv_aald X hB a_b16 sh_40 (iv_in i6_x3 (by decide)) dX9_isFreeAt_37 (fun b17 g_b17 r_b17 e_b17 a_b17 => ?_)
            refine iv_geti X ft_X1 hB a_b17 sh_1 6 (by decide) rfl k_fl_X9_49 dX9_isFreeAt_38 (fun x18 e_x18 i_x18 => ?_)
            refine lv_iconst (v := 2) hx hb dX9_isFreeAt_41 (by decide) ?_
            refine lv_icmp_eq (tgt := 49) hx hb dX9_isFreeAt_42 (by decide) (fun c19 => ?_) (fun c19 => ?_)
            · skip
              have i19_x18 : iv_R 2 2 x18 := ((i_x18.cutLo (n := 2) (iv_eq_r c19 q_2).1).cutHi (n := 2) (iv_eq_r c19 q_2).2)
              refine lv_iconst (v := 0) hx hb dX9_isFreeAt_49 (by decide) ?_
              refine lv_istore (lv' := [(4, .int 0), (3, .int x3), (0, .ref h0), (1, .int x_0), (2, .int x_1)]) hx hb dX9_isFreeAt_50 hl (by decide) rfl (fun ls hl => ?_)
              refine lv_iload hx hb dX9_isFreeAt_52 (lv_at hl 0 rfl) ?_
              refine lv_if_eq (tgt := 86) hx hb dX9_isFreeAt_54 (by decide) (fun c21 => ?_) (fun c21 => ?_)
              · skip
                refine iv_iinc hx hb i6_x3 (lo := 1) (hi := 10) (by decide) dX9_isFreeAt_86 hl (k := 1) rfl (by decide) (fun x22 ls e_x22 i_x22 hl => ?_)
                have hl : lv_has ls 5 [(3, .int x22), (4, .int 0), (0, .ref h0), (1, .int x_0), (2, .int x_1)] := hl
                refine lv_goto (tgt := 10) hx hb dX9_isFreeAt_89 (by decide) ?_
                exact ih_10 _ _ hB x22 (i_x22.wk (by decide)) (iv_mup (c := 1) i_x3 (by decide) (by decide) (by omega) hn_10) _ (lv_sub hl [0, 2, 3, 4] rfl)
              · skip
                exact absurd rfl c21
            · skip
              refine lv_iconst (v := 1) hx hb dX9_isFreeAt_45 (by decide) ?_
              refine lv_goto (tgt := 50) hx hb dX9_isFreeAt_46 (by decide) ?_
              refine lv_istore (lv' := [(4, .int 1), (3, .int x3), (0, .ref h0), (1, .int x_0), (2, .int x_1)]) hx hb dX9_isFreeAt_50 hl (by decide) rfl (fun ls hl => ?_)
              refine lv_iload hx hb dX9_isFreeAt_52 (lv_at hl 0 rfl) ?_
              refine lv_if_eq (tgt := 86) hx hb dX9_isFreeAt_54 (by decide) (fun c23 => ?_) (fun c23 => ?_)
              · skip
                exact (q_1.cutHi (n := 0) (iv_eq_r c23 q_0).2).no (by decide)
              · skip
                refine lv_aload_n hx hb dX9_isFreeAt_57 rfl (lv_at hl 2 rfl) ?_
                refine iv_getr0 X ft_X9 hB a_h0 sh_9 0 (by decide) rfl k_fl_X9_15 dX9_isFreeAt_58 e_b4 ?_
                refine iv_getr0 X ft_X5 hB a_b4 sh_5 0 (by decide) rfl k_fl_X9_45 dX9_isFreeAt_61 e_b16 ?_
                refine lv_iload_n hx hb dX9_isFreeAt_64 rfl (lv_at hl 1 rfl) ?_
                refine iv_aald X hB a_b16 sh_40 (iv_in i6_x3 (by decide)) dX9_isFreeAt_65 (fun b24 g_b24 r_b24 e_b24 a_b24 => ?_)
                refine iv_geti X ft_X1 hB a_b24 sh_1 1 (by decide) rfl k_fl_X9_63 dX9_isFreeAt_66 (fun x25 e_x25 i_x25 => ?_)
                refine lv_iload_n hx hb dX9_isFreeAt_69 rfl (lv_at hl 4 rfl) ?_
                refine lv_isub hx hb dX9_isFreeAt_70 ?_
                refine lv_topi (fun x26 e_x26 => ?_)
                have i_x26 := iv_R.all x26
                refine iv_mabs X hl.1 k_mm_X9_69 ⟨Nat.le_of_ble_eq_true rfl, Nat.le_of_ble_eq_true rfl⟩ ⟨Nat.le_of_ble_eq_true rfl, Nat.le_of_ble_eq_true rfl⟩ dX9_isFreeAt_71 (fun x27 e_x27 i_x27 => ?_)
                refine lv_aload_n hx hb dX9_isFreeAt_74 rfl (lv_at hl 2 rfl) ?_
                refine iv_getr0 X ft_X9 hB a_h0 sh_9 0 (by decide) rfl k_fl_X9_15 dX9_isFreeAt_75 e_b4 ?_
                refine iv_geti X ft_X5 hB a_b4 sh_5 3 (by decide) rfl k_fl_X9_74 dX9_isFreeAt_78 (fun x28 e_x28 i_x28 => ?_)
                refine lv_icmp_ge (tgt := 86) hx hb dX9_isFreeAt_81 (by decide) (fun c29 => ?_) (fun c29 => ?_)
                · skip
                  refine iv_iinc hx hb i6_x3 (lo := 1) (hi := 10) (by decide) dX9_isFreeAt_86 hl (k := 1) rfl (by decide) (fun x30 ls e_x30 i_x30 hl => ?_)
                  have hl : lv_has ls 5 [(3, .int x30), (4, .int 1), (0, .ref h0), (1, .int x_0), (2, .int x_1)] := hl
                  refine lv_goto (tgt := 10) hx hb dX9_isFreeAt_89 (by decide) ?_
                  exact ih_10 _ _ hB x30 (i_x30.wk (by decide)) (iv_mup (c := 1) i_x3 (by decide) (by decide) (by omega) hn_10) _ (lv_sub hl [0, 2, 3, 4] rfl)
                · skip
                  have i30_x27 : iv_R (-2147483648) 2147483646 x27 := (i_x27.cutHi (n := 2147483646) (iv_lt_r (iv_nle c29) i_x28 (by decide)))
                  have i31_x28 : iv_R (-2147483647) 2147483647 x28 := (i_x28.cutLo (n := (-2147483647)) (iv_lt_l (iv_nle c29) i_x27 (by decide)))
                  refine lv_iconst (v := 0) hx hb dX9_isFreeAt_84 (by decide) ?_
                  exact iv_zret X hr hlocks hB (q_0.wk (by decide)) ⟨rfl, (q_0.wk (by decide)), fun _ => i1_x_1⟩ dX9_isFreeAt_85
    exact L_10 _ _ _ hB 0 (q_0.wk (by decide)) (Nat.lt_succ_self _) _ (lv_sub hl [0, 1, 2, 3] rfl)
  · skip
    have i32_x_1 : iv_R 48 2147483647 x_1 := (i_x_1.cutLo (n := 48) (iv_lt_l (iv_nle c1) q_47 (by decide)))
    refine lv_iconst (v := 0) hx hb dX9_isFreeAt_6 (by decide) ?_
    exact iv_zret X hr hlocks hB (q_0.wk (by decide)) ⟨rfl, (q_0.wk (by decide)), fun h => absurd (iv_z q_0) h⟩ dX9_isFreeAt_7
theorem dX9_canRaise_0 : decode cX9_canRaise 0 = .ok (.iconst 0, 1) := by decide +kernel
theorem dX9_canRaise_1 : decode cX9_canRaise 1 = .ok (.istore_n 3, 1) := by decide +kernel
theorem dX9_canRaise_2 : decode cX9_canRaise 2 = .ok (.iload_n 3, 1) := by decide +kernel
theorem dX9_canRaise_3 : decode cX9_canRaise 3 = .ok (.aload_n 0, 1) := by decide +kernel
theorem dX9_canRaise_4 : decode cX9_canRaise 4 = .ok (.getfield 15, 3) := by decide +kernel
theorem dX9_canRaise_7 : decode cX9_canRaise 7 = .ok (.getfield 19, 3) := by decide +kernel
theorem dX9_canRaise_10 : decode cX9_canRaise 10 = .ok (.if_icmp .ge 42, 3) := by decide +kernel
theorem dX9_canRaise_13 : decode cX9_canRaise 13 = .ok (.iload_n 1, 1) := by decide +kernel
theorem dX9_canRaise_14 : decode cX9_canRaise 14 = .ok (.iload_n 3, 1) := by decide +kernel
theorem dX9_canRaise_15 : decode cX9_canRaise 15 = .ok (.iushr, 1) := by decide +kernel
theorem dX9_canRaise_16 : decode cX9_canRaise 16 = .ok (.iconst 1, 1) := by decide +kernel
theorem dX9_canRaise_17 : decode cX9_canRaise 17 = .ok (.iand, 1) := by decide +kernel
theorem dX9_canRaise_18 : decode cX9_canRaise 18 = .ok (.iconst 1, 1) := by decide +kernel
theorem dX9_canRaise_19 : decode cX9_canRaise 19 = .ok (.if_icmp .ne 27, 3) := by decide +kernel
theorem dX9_canRaise_22 : decode cX9_canRaise 22 = .ok (.aload_n 0, 1) := by decide +kernel
theorem dX9_canRaise_23 : decode cX9_canRaise 23 = .ok (.iload_n 1, 1) := by decide +kernel
theorem dX9_canRaise_24 : decode cX9_canRaise 24 = .ok (.aload_n 0, 1) := by decide +kernel
theorem dX9_canRaise_25 : decode cX9_canRaise 25 = .ok (.getfield 15, 3) := by decide +kernel
theorem dX9_canRaise_28 : decode cX9_canRaise 28 = .ok (.getfield 45, 3) := by decide +kernel
theorem dX9_canRaise_31 : decode cX9_canRaise 31 = .ok (.iload_n 3, 1) := by decide +kernel
theorem dX9_canRaise_32 : decode cX9_canRaise 32 = .ok (.aaload, 1) := by decide +kernel
theorem dX9_canRaise_33 : decode cX9_canRaise 33 = .ok (.getfield 63, 3) := by decide +kernel
theorem dX9_canRaise_36 : decode cX9_canRaise 36 = .ok (.iload_n 2, 1) := by decide +kernel
theorem dX9_canRaise_37 : decode cX9_canRaise 37 = .ok (.iadd, 1) := by decide +kernel
theorem dX9_canRaise_38 : decode cX9_canRaise 38 = .ok (.invokevirtual 66, 3) := by decide +kernel
theorem dX9_canRaise_41 : decode cX9_canRaise 41 = .ok (.ifCond .ne 5, 3) := by decide +kernel
theorem dX9_canRaise_44 : decode cX9_canRaise 44 = .ok (.iconst 0, 1) := by decide +kernel
theorem dX9_canRaise_45 : decode cX9_canRaise 45 = .ok (.ireturn, 1) := by decide +kernel
theorem dX9_canRaise_46 : decode cX9_canRaise 46 = .ok (.iinc 3 1, 3) := by decide +kernel
theorem dX9_canRaise_49 : decode cX9_canRaise 49 = .ok (.goto (-47), 3) := by decide +kernel
theorem dX9_canRaise_52 : decode cX9_canRaise 52 = .ok (.iconst 1, 1) := by decide +kernel
theorem dX9_canRaise_53 : decode cX9_canRaise 53 = .ok (.ireturn, 1) := by decide +kernel
set_option maxHeartbeats 4000000 in
set_option maxRecDepth 100000 in
theorem c_X9_canRaise (l : Launch) (D : va_G) (tys : List (ClassId × FieldType)) (base : Nat) (G : iv_G) (h0 : Nat) (g_h0 : Nat → Int32) (r_h0 : Nat → Nat) (a_h0 : G h0 = some (9, g_h0, r_h0)) (x_0 : Int32) (i_x_0 : iv_R (-2147483648) 2147483647 x_0) (x_1 : Int32) (i_x_1 : iv_R 0 47 x_1) : Met l yX9_canRaise (Cond.code yX9_canRaise cX9_canRaise 4 (some .boolean) :: iv_W0) ({ frames := 2, cells := 0, slots := 0, locals := 37 }) (iv_Pc iv_sh D classes tys base G [.ref h0, .int x_0, .int x_1]) (iv_Qi iv_sh D classes tys base (fun v G' => G = G' ∧ iv_R 0 1 v)) 0 0 (iv_A base) := by
  refine iv_head (by decide) (Nat.le_of_ble_eq_true rfl) ?_
  intro p e s m args below meth c ls X hr hlocks hname hB hl
  have X := X
  have hx := X.1.1
  have hb := X.1.2.1
  have hl : lv_has ls 4 [(0, .ref h0), (1, .int x_0), (2, .int x_1)] := hl
  refine lv_iconst (v := 0) hx hb dX9_canRaise_0 (by decide) ?_
  refine lv_istore_n (lv' := [(3, .int 0), (0, .ref h0), (1, .int x_0), (2, .int x_1)]) hx hb dX9_canRaise_1 rfl hl (by decide) rfl (fun ls hl => ?_)
  have L_2 : ∀ (n_2 : Nat) (H : Heap) (locs : List Loc) (hB : iv_B iv_sh D classes tys base G s.heap H locs) (x1 : Int32) (i_x1 : iv_R 0 10 x1) (hn_2 : (11 - x1.toInt).toNat < n_2) (ls : Array Slot) (hl : lv_has ls 4 [(3, .int x1), (0, .ref h0), (1, .int x_0), (2, .int x_1)]), W p l e ({ frames := 2, cells := 0, slots := 0, locals := 37 } : Room) s m args below meth c H locs 0 0 (MQ below (iv_Qi iv_sh D classes tys base (fun v G' => G = G' ∧ iv_R 0 1 v)) args s 0 0 (iv_A base)) (F0 m 2 ls []) := by
    intro n_2
    induction n_2 with
    | zero => intro H locs hB x1 i_x1 hn_2 ls hl; exact absurd hn_2 (Nat.not_lt_zero _)
    | succ n_2 ih_2 =>
      intro H locs hB x1 i_x1 hn_2 ls hl
      refine lv_iload_n hx hb dX9_canRaise_2 rfl (lv_at hl 0 rfl) ?_
      refine lv_aload_n hx hb dX9_canRaise_3 rfl (lv_at hl 1 rfl) ?_
      refine iv_getr X ft_X9 hB a_h0 sh_9 0 (by decide) rfl k_fl_X9_15 dX9_canRaise_4 (fun b2 g_b2 r_b2 e_b2 a_b2 => ?_)
      refine iv_geti X ft_X5 hB a_b2 sh_5 1 (by decide) rfl k_fl_X9_19 dX9_canRaise_7 (fun x3 e_x3 i_x3 => ?_)
      refine lv_icmp_ge (tgt := 52) hx hb dX9_canRaise_10 (by decide) (fun c4 => ?_) (fun c4 => ?_)
      · skip
        refine lv_iconst (v := 1) hx hb dX9_canRaise_52 (by decide) ?_
        exact iv_zret X hr hlocks hB (q_1.wk (by decide)) ⟨rfl, (q_1.wk (by decide))⟩ dX9_canRaise_53
      · skip
        have i4_x1 : iv_R 0 9 x1 := (i_x1.cutHi (n := 9) (iv_lt_r (iv_nle c4) i_x3 (by decide)))
        have i5_x3 : iv_R 1 10 x3 := (i_x3.cutLo (n := 1) (iv_lt_l (iv_nle c4) i_x1 (by decide)))
        refine lv_iload_n hx hb dX9_canRaise_13 rfl (lv_at hl 2 rfl) ?_
        refine lv_iload_n hx hb dX9_canRaise_14 rfl (lv_at hl 0 rfl) ?_
        refine lv_iushr hx hb dX9_canRaise_15 rfl ?_
        refine lv_topi (fun x7 e_x7 => ?_)
        have i_x7 := iv_R.all x7
        refine lv_iconst (v := 1) hx hb dX9_canRaise_16 (by decide) ?_
        refine iv_iand_r hx hb q_1 (by decide) dX9_canRaise_17 (fun x8 e_x8 i_x8 => ?_)
        refine lv_iconst (v := 1) hx hb dX9_canRaise_18 (by decide) ?_
        refine lv_icmp_ne (tgt := 46) hx hb dX9_canRaise_19 (by decide) (fun c9 => ?_) (fun c9 => ?_)
        · skip
          have i9_x8 : iv_R 0 0 x8 := iv_ne_hi c9 i_x8 q_1 (by decide)
          refine iv_iinc hx hb i4_x1 (lo := 1) (hi := 10) (by decide) dX9_canRaise_46 hl (k := 0) rfl (by decide) (fun x11 ls e_x11 i_x11 hl => ?_)
          have hl : lv_has ls 4 [(3, .int x11), (0, .ref h0), (1, .int x_0), (2, .int x_1)] := hl
          refine lv_goto (tgt := 2) hx hb dX9_canRaise_49 (by decide) ?_
          exact ih_2 _ _ hB x11 (i_x11.wk (by decide)) (iv_mup (c := 1) i_x1 (by decide) (by decide) (by omega) hn_2) _ (lv_sub hl [0, 1, 2, 3] rfl)
        · skip
          have i11_x8 : iv_R 1 1 x8 := (i_x8.cutLo (n := 1) (iv_eq_r c9 q_1).1)
          refine lv_aload_n hx hb dX9_canRaise_22 rfl (lv_at hl 1 rfl) ?_
          refine lv_iload_n hx hb dX9_canRaise_23 rfl (lv_at hl 2 rfl) ?_
          refine lv_aload_n hx hb dX9_canRaise_24 rfl (lv_at hl 1 rfl) ?_
          refine iv_getr0 X ft_X9 hB a_h0 sh_9 0 (by decide) rfl k_fl_X9_15 dX9_canRaise_25 e_b2 ?_
          refine iv_getr X ft_X5 hB a_b2 sh_5 0 (by decide) rfl k_fl_X9_45 dX9_canRaise_28 (fun b13 g_b13 r_b13 e_b13 a_b13 => ?_)
          refine lv_iload_n hx hb dX9_canRaise_31 rfl (lv_at hl 0 rfl) ?_
          refine iv_aald X hB a_b13 sh_40 (iv_in i4_x1 (by decide)) dX9_canRaise_32 (fun b14 g_b14 r_b14 e_b14 a_b14 => ?_)
          refine iv_geti X ft_X1 hB a_b14 sh_1 1 (by decide) rfl k_fl_X9_63 dX9_canRaise_33 (fun x15 e_x15 i_x15 => ?_)
          refine lv_iload_n hx hb dX9_canRaise_36 rfl (lv_at hl 3 rfl) ?_
          refine lv_iadd hx hb dX9_canRaise_37 ?_
          refine lv_topi (fun x16 e_x16 => ?_)
          have i_x16 := iv_R.all x16
          refine iv_cVi X k_good k_mf_X9_isFreeAt k_im_X9_isFreeAt k_sel_X9_isFreeAt k_ml_X9_66 ft_X9 hB a_h0 sh_9 (As := [.int x_0, .int x16]) (c_X9_isFreeAt l D tys base G h0 g_h0 r_h0 a_h0 x_0 i_x_0 x16 i_x16) ⟨rfl, rfl⟩ ⟨Nat.le_of_ble_eq_true rfl, Nat.le_of_ble_eq_true rfl⟩ ⟨Nat.le_of_ble_eq_true rfl, Nat.le_of_ble_eq_true rfl⟩ rfl rfl hl.1 (Nat.le_of_ble_eq_true rfl) dX9_canRaise_38 (fun x17 G9 H locs hq hB => ?_)
          obtain ⟨rfl, i_x17, hp18⟩ := hq
          refine lv_if_ne (tgt := 46) hx hb dX9_canRaise_41 (by decide) (fun c19 => ?_) (fun c19 => ?_)
          · skip
            have i19_x17 : iv_R 1 1 x17 := iv_ne_lo c19 i_x17 q_0 (by decide)
            have i20_x16 : iv_R (-2147483648) 47 x16 := (i_x16.cutHi (n := 47) (hp18 c19).2)
            refine iv_iinc hx hb i4_x1 (lo := 1) (hi := 10) (by decide) dX9_canRaise_46 hl (k := 0) rfl (by decide) (fun x22 ls e_x22 i_x22 hl => ?_)
            have hl : lv_has ls 4 [(3, .int x22), (0, .ref h0), (1, .int x_0), (2, .int x_1)] := hl
            refine lv_goto (tgt := 2) hx hb dX9_canRaise_49 (by decide) ?_
            exact ih_2 _ _ hB x22 (i_x22.wk (by decide)) (iv_mup (c := 1) i_x1 (by decide) (by decide) (by omega) hn_2) _ (lv_sub hl [0, 1, 2, 3] rfl)
          · skip
            have i22_x17 : iv_R 0 0 x17 := (i_x17.cutHi (n := 0) (iv_eq_r c19 q_0).2)
            refine lv_iconst (v := 0) hx hb dX9_canRaise_44 (by decide) ?_
            exact iv_zret X hr hlocks hB (q_0.wk (by decide)) ⟨rfl, (q_0.wk (by decide))⟩ dX9_canRaise_45
  exact L_2 _ _ _ hB 0 (q_0.wk (by decide)) (Nat.lt_succ_self _) _ (lv_sub hl [0, 1, 2, 3] rfl)
theorem dX11_raised_0 : decode cX11_raised 0 = .ok (.iload_n 1, 1) := by decide +kernel
theorem dX11_raised_1 : decode cX11_raised 1 = .ok (.ifCond .eq 14, 3) := by decide +kernel
theorem dX11_raised_4 : decode cX11_raised 4 = .ok (.aload_n 0, 1) := by decide +kernel
theorem dX11_raised_5 : decode cX11_raised 5 = .ok (.getfield 12, 3) := by decide +kernel
theorem dX11_raised_8 : decode cX11_raised 8 = .ok (.iload_n 1, 1) := by decide +kernel
theorem dX11_raised_9 : decode cX11_raised 9 = .ok (.invokevirtual 322, 3) := by decide +kernel
theorem dX11_raised_12 : decode cX11_raised 12 = .ok (.ifCond .ne 5, 3) := by decide +kernel
theorem dX11_raised_15 : decode cX11_raised 15 = .ok (.iconst (-1), 1) := by decide +kernel
theorem dX11_raised_16 : decode cX11_raised 16 = .ok (.ireturn, 1) := by decide +kernel
theorem dX11_raised_17 : decode cX11_raised 17 = .ok (.bipush 47, 2) := by decide +kernel
theorem dX11_raised_19 : decode cX11_raised 19 = .ok (.istore_n 2, 1) := by decide +kernel
theorem dX11_raised_20 : decode cX11_raised 20 = .ok (.iload_n 2, 1) := by decide +kernel
theorem dX11_raised_21 : decode cX11_raised 21 = .ok (.ifCond .lt 23, 3) := by decide +kernel
theorem dX11_raised_24 : decode cX11_raised 24 = .ok (.aload_n 0, 1) := by decide +kernel
theorem dX11_raised_25 : decode cX11_raised 25 = .ok (.getfield 58, 3) := by decide +kernel
theorem dX11_raised_28 : decode cX11_raised 28 = .ok (.iload_n 1, 1) := by decide +kernel
theorem dX11_raised_29 : decode cX11_raised 29 = .ok (.iload_n 2, 1) := by decide +kernel
theorem dX11_raised_30 : decode cX11_raised 30 = .ok (.invokevirtual 325, 3) := by decide +kernel
theorem dX11_raised_33 : decode cX11_raised 33 = .ok (.ifCond .eq 5, 3) := by decide +kernel
theorem dX11_raised_36 : decode cX11_raised 36 = .ok (.iload_n 2, 1) := by decide +kernel
theorem dX11_raised_37 : decode cX11_raised 37 = .ok (.ireturn, 1) := by decide +kernel
theorem dX11_raised_38 : decode cX11_raised 38 = .ok (.iinc 2 (-1), 3) := by decide +kernel
theorem dX11_raised_41 : decode cX11_raised 41 = .ok (.goto (-21), 3) := by decide +kernel
theorem dX11_raised_44 : decode cX11_raised 44 = .ok (.iconst (-1), 1) := by decide +kernel
theorem dX11_raised_45 : decode cX11_raised 45 = .ok (.ireturn, 1) := by decide +kernel
set_option maxHeartbeats 4000000 in
set_option maxRecDepth 100000 in
theorem c_X11_raised (l : Launch) (D : va_G) (tys : List (ClassId × FieldType)) (base : Nat) (G : iv_G) (h0 : Nat) (g_h0 : Nat → Int32) (r_h0 : Nat → Nat) (a_h0 : G h0 = some (11, g_h0, r_h0)) (x_0 : Int32) (i_x_0 : iv_R (-2147483648) 2147483647 x_0) : Met l yX11_raised (Cond.code yX11_raised cX11_raised 3 (some .int) :: iv_W0) ({ frames := 3, cells := 0, slots := 0, locals := 60 }) (iv_Pc iv_sh D classes tys base G [.ref h0, .int x_0]) (iv_Qi iv_sh D classes tys base (fun v G' => G = G' ∧ iv_R (-1) 47 v)) 0 0 (iv_A base) := by
  refine iv_head (by decide) (Nat.le_of_ble_eq_true rfl) ?_
  intro p e s m args below meth c ls X hr hlocks hname hB hl
  have X := X
  have hx := X.1.1
  have hb := X.1.2.1
  have hl : lv_has ls 3 [(0, .ref h0), (1, .int x_0)] := hl
  refine lv_iload_n hx hb dX11_raised_0 rfl (lv_at hl 1 rfl) ?_
  refine lv_if_eq (tgt := 15) hx hb dX11_raised_1 (by decide) (fun c1 => ?_) (fun c1 => ?_)
  · skip
    have i1_x_0 : iv_R 0 0 x_0 := ((i_x_0.cutLo (n := 0) (iv_eq_r c1 q_0).1).cutHi (n := 0) (iv_eq_r c1 q_0).2)
    refine lv_iconst (v := (-1)) hx hb dX11_raised_15 (by decide) ?_
    exact iv_iret X hr hlocks hB ⟨rfl, (q_n1.wk (by decide))⟩ dX11_raised_16
  · skip
    refine lv_aload_n hx hb dX11_raised_4 rfl (lv_at hl 0 rfl) ?_
    refine iv_getr X ft_X11 hB a_h0 sh_11 0 (by decide) rfl k_fl_X11_12 dX11_raised_5 (fun b3 g_b3 r_b3 e_b3 a_b3 => ?_)
    refine lv_iload_n hx hb dX11_raised_8 rfl (lv_at hl 1 rfl) ?_
    refine iv_cVi X k_good k_mf_X5_isSetOfBells k_im_X5_isSetOfBells k_sel_X5_isSetOfBells k_ml_X11_322 ft_X5 hB a_b3 sh_5 (As := [.int x_0]) (c_X5_isSetOfBells l D tys base G b3 g_b3 r_b3 a_b3 x_0 i_x_0) ⟨rfl, rfl⟩ ⟨Nat.le_of_ble_eq_true rfl, Nat.le_of_ble_eq_true rfl⟩ ⟨Nat.le_of_ble_eq_true rfl, Nat.le_of_ble_eq_true rfl⟩ rfl rfl hl.1 (Nat.le_of_ble_eq_true rfl) dX11_raised_9 (fun x4 G9 H locs hq hB => ?_)
    obtain ⟨rfl, i_x4⟩ := hq
    refine lv_if_ne (tgt := 17) hx hb dX11_raised_12 (by decide) (fun c5 => ?_) (fun c5 => ?_)
    · skip
      have i5_x4 : iv_R 1 1 x4 := iv_ne_lo c5 i_x4 q_0 (by decide)
      refine lv_bipush (v := 47) hx hb dX11_raised_17 (by decide) ?_
      refine lv_istore_n (lv' := [(2, .int 47), (0, .ref h0), (1, .int x_0)]) hx hb dX11_raised_19 rfl hl (by decide) rfl (fun ls hl => ?_)
      have L_20 : ∀ (n_20 : Nat) (H : Heap) (locs : List Loc) (hB : iv_B iv_sh D classes tys base G s.heap H locs) (x7 : Int32) (i_x7 : iv_R (-1) 47 x7) (hn_20 : (x7.toInt - (-2)).toNat < n_20) (ls : Array Slot) (hl : lv_has ls 3 [(2, .int x7), (0, .ref h0), (1, .int x_0)]), W p l e ({ frames := 3, cells := 0, slots := 0, locals := 60 } : Room) s m args below meth c H locs 0 0 (MQ below (iv_Qi iv_sh D classes tys base (fun v G' => G = G' ∧ iv_R (-1) 47 v)) args s 0 0 (iv_A base)) (F0 m 20 ls []) := by
        intro n_20
        induction n_20 with
        | zero => intro H locs hB x7 i_x7 hn_20 ls hl; exact absurd hn_20 (Nat.not_lt_zero _)
        | succ n_20 ih_20 =>
          intro H locs hB x7 i_x7 hn_20 ls hl
          refine lv_iload_n hx hb dX11_raised_20 rfl (lv_at hl 0 rfl) ?_
          refine lv_if_lt (tgt := 44) hx hb dX11_raised_21 (by decide) (fun c8 => ?_) (fun c8 => ?_)
          · skip
            have i8_x7 : iv_R (-1) (-1) x7 := (i_x7.cutHi (n := (-1)) (iv_lt_r c8 q_0 (by decide)))
            refine lv_iconst (v := (-1)) hx hb dX11_raised_44 (by decide) ?_
            exact iv_iret X hr hlocks hB ⟨rfl, (q_n1.wk (by decide))⟩ dX11_raised_45
          · skip
            have i9_x7 : iv_R 0 47 x7 := (i_x7.cutLo (n := 0) (iv_le_l (iv_nlt c8) q_0))
            refine lv_aload_n hx hb dX11_raised_24 rfl (lv_at hl 1 rfl) ?_
            refine iv_getr X ft_X11 hB a_h0 sh_11 9 (by decide) rfl k_fl_X11_58 dX11_raised_25 (fun b11 g_b11 r_b11 e_b11 a_b11 => ?_)
            refine lv_iload_n hx hb dX11_raised_28 rfl (lv_at hl 2 rfl) ?_
            refine lv_iload_n hx hb dX11_raised_29 rfl (lv_at hl 0 rfl) ?_
            refine iv_cVi X k_good k_mf_X9_canRaise k_im_X9_canRaise k_sel_X9_canRaise k_ml_X11_325 ft_X9 hB a_b11 sh_9 (As := [.int x_0, .int x7]) (c_X9_canRaise l D tys base G b11 g_b11 r_b11 a_b11 x_0 i_x_0 x7 i9_x7) ⟨rfl, rfl⟩ ⟨Nat.le_of_ble_eq_true rfl, Nat.le_of_ble_eq_true rfl⟩ ⟨Nat.le_of_ble_eq_true rfl, Nat.le_of_ble_eq_true rfl⟩ rfl rfl hl.1 (Nat.le_of_ble_eq_true rfl) dX11_raised_30 (fun x12 G9 H locs hq hB => ?_)
            obtain ⟨rfl, i_x12⟩ := hq
            refine lv_if_eq (tgt := 38) hx hb dX11_raised_33 (by decide) (fun c13 => ?_) (fun c13 => ?_)
            · skip
              have i13_x12 : iv_R 0 0 x12 := (i_x12.cutHi (n := 0) (iv_eq_r c13 q_0).2)
              refine iv_iinc hx hb i9_x7 (lo := (-1)) (hi := 46) (by decide) dX11_raised_38 hl (k := 0) rfl (by decide) (fun x15 ls e_x15 i_x15 hl => ?_)
              have hl : lv_has ls 3 [(2, .int x15), (0, .ref h0), (1, .int x_0)] := hl
              refine lv_goto (tgt := 20) hx hb dX11_raised_41 (by decide) ?_
              exact ih_20 _ _ hB x15 (i_x15.wk (by decide)) (iv_mdn (c := 1) i_x7 (by decide) (by decide) (by omega) hn_20) _ (lv_sub hl [0, 1, 2] rfl)
            · skip
              have i15_x12 : iv_R 1 1 x12 := iv_ne_lo c13 i_x12 q_0 (by decide)
              refine lv_iload_n hx hb dX11_raised_36 rfl (lv_at hl 0 rfl) ?_
              exact iv_iret X hr hlocks hB ⟨rfl, (i9_x7.wk (by decide))⟩ dX11_raised_37
      exact L_20 _ _ _ hB 47 (q_47.wk (by decide)) (Nat.lt_succ_self _) _ (lv_sub hl [0, 1, 2] rfl)
    · skip
      have i16_x4 : iv_R 0 0 x4 := (i_x4.cutHi (n := 0) (iv_eq_r c5 q_0).2)
      refine lv_iconst (v := (-1)) hx hb dX11_raised_15 (by decide) ?_
      exact iv_iret X hr hlocks hB ⟨rfl, (q_n1.wk (by decide))⟩ dX11_raised_16
theorem dX9_isWrong_0 : decode cX9_isWrong 0 = .ok (.iload_n 1, 1) := by decide +kernel
theorem dX9_isWrong_1 : decode cX9_isWrong 1 = .ok (.iconst 0, 1) := by decide +kernel
theorem dX9_isWrong_2 : decode cX9_isWrong 2 = .ok (.bipush 19, 2) := by decide +kernel
theorem dX9_isWrong_4 : decode cX9_isWrong 4 = .ok (.invokestatic 118, 3) := by decide +kernel
theorem dX9_isWrong_7 : decode cX9_isWrong 7 = .ok (.ifCond .eq 28, 3) := by decide +kernel
theorem dX9_isWrong_10 : decode cX9_isWrong 10 = .ok (.aload_n 0, 1) := by decide +kernel
theorem dX9_isWrong_11 : decode cX9_isWrong 11 = .ok (.getfield 9, 3) := by decide +kernel
theorem dX9_isWrong_14 : decode cX9_isWrong 14 = .ok (.iload_n 1, 1) := by decide +kernel
theorem dX9_isWrong_15 : decode cX9_isWrong 15 = .ok (.iaload, 1) := by decide +kernel
theorem dX9_isWrong_16 : decode cX9_isWrong 16 = .ok (.aload_n 0, 1) := by decide +kernel
theorem dX9_isWrong_17 : decode cX9_isWrong 17 = .ok (.getfield 15, 3) := by decide +kernel
theorem dX9_isWrong_20 : decode cX9_isWrong 20 = .ok (.getfield 109, 3) := by decide +kernel
theorem dX9_isWrong_23 : decode cX9_isWrong 23 = .ok (.iload_n 1, 1) := by decide +kernel
theorem dX9_isWrong_24 : decode cX9_isWrong 24 = .ok (.iconst 0, 1) := by decide +kernel
theorem dX9_isWrong_25 : decode cX9_isWrong 25 = .ok (.invokevirtual 89, 3) := by decide +kernel
theorem dX9_isWrong_28 : decode cX9_isWrong 28 = .ok (.if_icmp .eq 7, 3) := by decide +kernel
theorem dX9_isWrong_31 : decode cX9_isWrong 31 = .ok (.iconst 1, 1) := by decide +kernel
theorem dX9_isWrong_32 : decode cX9_isWrong 32 = .ok (.goto 4, 3) := by decide +kernel
theorem dX9_isWrong_35 : decode cX9_isWrong 35 = .ok (.iconst 0, 1) := by decide +kernel
theorem dX9_isWrong_36 : decode cX9_isWrong 36 = .ok (.ireturn, 1) := by decide +kernel
set_option maxHeartbeats 4000000 in
set_option maxRecDepth 100000 in
theorem c_X9_isWrong (l : Launch) (D : va_G) (tys : List (ClassId × FieldType)) (base : Nat) (G : iv_G) (h0 : Nat) (g_h0 : Nat → Int32) (r_h0 : Nat → Nat) (a_h0 : G h0 = some (9, g_h0, r_h0)) (x_0 : Int32) (i_x_0 : iv_R 0 19 x_0) : Met l yX9_isWrong (Cond.code yX9_isWrong cX9_isWrong 2 (some .boolean) :: iv_W0) ({ frames := 2, cells := 0, slots := 0, locals := 44 }) (iv_Pc iv_sh D classes tys base G [.ref h0, .int x_0]) (iv_Qi iv_sh D classes tys base (fun v G' => G = G' ∧ iv_R 0 1 v)) 0 0 (iv_A base) := by
  refine iv_head (by decide) (Nat.le_of_ble_eq_true rfl) ?_
  intro p e s m args below meth c ls X hr hlocks hname hB hl
  have X := X
  have hx := X.1.1
  have hb := X.1.2.1
  have hl : lv_has ls 2 [(0, .ref h0), (1, .int x_0)] := hl
  refine lv_iload_n hx hb dX9_isWrong_0 rfl (lv_at hl 1 rfl) ?_
  refine lv_iconst (v := 0) hx hb dX9_isWrong_1 (by decide) ?_
  refine lv_bipush (v := 19) hx hb dX9_isWrong_2 (by decide) ?_
  refine iv_cSNi X k_good k_mf_X11_isWithin k_st_X11_isWithin (k_mn_X9_118 X.2.2) hB (As := [.int x_0, .int 0, .int 19]) (c_X11_isWithin l D tys base G x_0 (i_x_0.wk (by decide)) 0 (q_0.wk (by decide)) 19 (q_19.wk (by decide))) ⟨rfl, rfl⟩ ⟨Nat.le_of_ble_eq_true rfl, Nat.le_of_ble_eq_true rfl⟩ ⟨Nat.le_of_ble_eq_true rfl, Nat.le_of_ble_eq_true rfl⟩ rfl rfl hl.1 (Nat.le_of_ble_eq_true rfl) dX9_isWrong_4 (fun x1 G9 H locs hq hB => ?_)
  obtain ⟨rfl, i_x1, hp2⟩ := hq
  have k3 : ¬ x1 = 0 → iv_R 0 19 x_0 := fun h => ⟨iv_max i_x_0.1 (Int.le_trans q_0.1 (hp2.1 h).1) (by decide), iv_min i_x_0.2 (Int.le_trans (hp2.1 h).2 q_19.2) (by decide)⟩
  refine lv_if_eq (tgt := 35) hx hb dX9_isWrong_7 (by decide) (fun c4 => ?_) (fun c4 => ?_)
  · skip
    have i4_x1 : iv_R 0 0 x1 := (i_x1.cutHi (n := 0) (iv_eq_r c4 q_0).2)
    refine lv_iconst (v := 0) hx hb dX9_isWrong_35 (by decide) ?_
    exact iv_zret X hr hlocks hB (q_0.wk (by decide)) ⟨rfl, (q_0.wk (by decide))⟩ dX9_isWrong_36
  · skip
    have i5_x1 : iv_R 1 1 x1 := iv_ne_lo c4 i_x1 q_0 (by decide)
    refine lv_aload_n hx hb dX9_isWrong_10 rfl (lv_at hl 0 rfl) ?_
    refine iv_getr X ft_X9 hB a_h0 sh_9 1 (by decide) rfl k_fl_X9_9 dX9_isWrong_11 (fun b7 g_b7 r_b7 e_b7 a_b7 => ?_)
    refine lv_iload_n hx hb dX9_isWrong_14 rfl (lv_at hl 1 rfl) ?_
    refine iv_ald X hB a_b7 sh_39 (iv_in i_x_0 (by decide)) dX9_isWrong_15 (fun x8 e_x8 i_x8 => ?_)
    refine lv_aload_n hx hb dX9_isWrong_16 rfl (lv_at hl 0 rfl) ?_
    refine iv_getr X ft_X9 hB a_h0 sh_9 0 (by decide) rfl k_fl_X9_15 dX9_isWrong_17 (fun b9 g_b9 r_b9 e_b9 a_b9 => ?_)
    refine iv_getr X ft_X5 hB a_b9 sh_5 8 (by decide) rfl k_fl_X9_109 dX9_isWrong_20 (fun b10 g_b10 r_b10 e_b10 a_b10 => ?_)
    refine lv_iload_n hx hb dX9_isWrong_23 rfl (lv_at hl 1 rfl) ?_
    refine lv_iconst (v := 0) hx hb dX9_isWrong_24 (by decide) ?_
    refine iv_cVi X k_good k_mf_X8_at k_im_X8_at k_sel_X8_at k_ml_X9_89 ft_X8 hB a_b10 sh_8 (As := [.int x_0, .int 0]) (c_X8_at_8 l D tys base G b10 g_b10 r_b10 a_b10 x_0 i_x_0 0 (q_0.wk (by decide))) ⟨rfl, rfl⟩ ⟨Nat.le_of_ble_eq_true rfl, Nat.le_of_ble_eq_true rfl⟩ ⟨Nat.le_of_ble_eq_true rfl, Nat.le_of_ble_eq_true rfl⟩ rfl rfl hl.1 (Nat.le_of_ble_eq_true rfl) dX9_isWrong_25 (fun x11 G9 H locs hq hB => ?_)
    obtain ⟨rfl, i_x11⟩ := hq
    refine lv_icmp_eq (tgt := 35) hx hb dX9_isWrong_28 (by decide) (fun c12 => ?_) (fun c12 => ?_)
    · skip
      refine lv_iconst (v := 0) hx hb dX9_isWrong_35 (by decide) ?_
      exact iv_zret X hr hlocks hB (q_0.wk (by decide)) ⟨rfl, (q_0.wk (by decide))⟩ dX9_isWrong_36
    · skip
      refine lv_iconst (v := 1) hx hb dX9_isWrong_31 (by decide) ?_
      refine lv_goto (tgt := 36) hx hb dX9_isWrong_32 (by decide) ?_
      exact iv_zret X hr hlocks hB (q_1.wk (by decide)) ⟨rfl, (q_1.wk (by decide))⟩ dX9_isWrong_36
theorem dX9_partnerOf_0 : decode cX9_partnerOf 0 = .ok (.iconst (-1), 1) := by decide +kernel
theorem dX9_partnerOf_1 : decode cX9_partnerOf 1 = .ok (.istore_n 2, 1) := by decide +kernel
theorem dX9_partnerOf_2 : decode cX9_partnerOf 2 = .ok (.iconst 0, 1) := by decide +kernel
theorem dX9_partnerOf_3 : decode cX9_partnerOf 3 = .ok (.istore_n 3, 1) := by decide +kernel
theorem dX9_partnerOf_4 : decode cX9_partnerOf 4 = .ok (.iload_n 3, 1) := by decide +kernel
theorem dX9_partnerOf_5 : decode cX9_partnerOf 5 = .ok (.aload_n 0, 1) := by decide +kernel
theorem dX9_partnerOf_6 : decode cX9_partnerOf 6 = .ok (.getfield 15, 3) := by decide +kernel
theorem dX9_partnerOf_9 : decode cX9_partnerOf 9 = .ok (.getfield 109, 3) := by decide +kernel
theorem dX9_partnerOf_12 : decode cX9_partnerOf 12 = .ok (.getfield 84, 3) := by decide +kernel
theorem dX9_partnerOf_15 : decode cX9_partnerOf 15 = .ok (.if_icmp .ge 68, 3) := by decide +kernel
theorem dX9_partnerOf_18 : decode cX9_partnerOf 18 = .ok (.aload_n 0, 1) := by decide +kernel
theorem dX9_partnerOf_19 : decode cX9_partnerOf 19 = .ok (.iload_n 3, 1) := by decide +kernel
theorem dX9_partnerOf_20 : decode cX9_partnerOf 20 = .ok (.invokevirtual 112, 3) := by decide +kernel
theorem dX9_partnerOf_23 : decode cX9_partnerOf 23 = .ok (.ifCond .eq 54, 3) := by decide +kernel
theorem dX9_partnerOf_26 : decode cX9_partnerOf 26 = .ok (.aload_n 0, 1) := by decide +kernel
theorem dX9_partnerOf_27 : decode cX9_partnerOf 27 = .ok (.getfield 9, 3) := by decide +kernel
theorem dX9_partnerOf_30 : decode cX9_partnerOf 30 = .ok (.iload_n 3, 1) := by decide +kernel
theorem dX9_partnerOf_31 : decode cX9_partnerOf 31 = .ok (.iaload, 1) := by decide +kernel
theorem dX9_partnerOf_32 : decode cX9_partnerOf 32 = .ok (.aload_n 0, 1) := by decide +kernel
theorem dX9_partnerOf_33 : decode cX9_partnerOf 33 = .ok (.getfield 15, 3) := by decide +kernel
theorem dX9_partnerOf_36 : decode cX9_partnerOf 36 = .ok (.getfield 109, 3) := by decide +kernel
theorem dX9_partnerOf_39 : decode cX9_partnerOf 39 = .ok (.iload_n 1, 1) := by decide +kernel
theorem dX9_partnerOf_40 : decode cX9_partnerOf 40 = .ok (.iconst 0, 1) := by decide +kernel
theorem dX9_partnerOf_41 : decode cX9_partnerOf 41 = .ok (.invokevirtual 89, 3) := by decide +kernel
theorem dX9_partnerOf_44 : decode cX9_partnerOf 44 = .ok (.if_icmp .ne 33, 3) := by decide +kernel
theorem dX9_partnerOf_47 : decode cX9_partnerOf 47 = .ok (.aload_n 0, 1) := by decide +kernel
theorem dX9_partnerOf_48 : decode cX9_partnerOf 48 = .ok (.getfield 15, 3) := by decide +kernel
theorem dX9_partnerOf_51 : decode cX9_partnerOf 51 = .ok (.getfield 109, 3) := by decide +kernel
theorem dX9_partnerOf_54 : decode cX9_partnerOf 54 = .ok (.iload_n 3, 1) := by decide +kernel
theorem dX9_partnerOf_55 : decode cX9_partnerOf 55 = .ok (.iconst 0, 1) := by decide +kernel
theorem dX9_partnerOf_56 : decode cX9_partnerOf 56 = .ok (.invokevirtual 89, 3) := by decide +kernel
theorem dX9_partnerOf_59 : decode cX9_partnerOf 59 = .ok (.aload_n 0, 1) := by decide +kernel
theorem dX9_partnerOf_60 : decode cX9_partnerOf 60 = .ok (.getfield 9, 3) := by decide +kernel
theorem dX9_partnerOf_63 : decode cX9_partnerOf 63 = .ok (.iload_n 1, 1) := by decide +kernel
theorem dX9_partnerOf_64 : decode cX9_partnerOf 64 = .ok (.iaload, 1) := by decide +kernel
theorem dX9_partnerOf_65 : decode cX9_partnerOf 65 = .ok (.if_icmp .ne 5, 3) := by decide +kernel
theorem dX9_partnerOf_68 : decode cX9_partnerOf 68 = .ok (.iload_n 3, 1) := by decide +kernel
theorem dX9_partnerOf_69 : decode cX9_partnerOf 69 = .ok (.ireturn, 1) := by decide +kernel
theorem dX9_partnerOf_70 : decode cX9_partnerOf 70 = .ok (.iload_n 2, 1) := by decide +kernel
theorem dX9_partnerOf_71 : decode cX9_partnerOf 71 = .ok (.iconst (-1), 1) := by decide +kernel
theorem dX9_partnerOf_72 : decode cX9_partnerOf 72 = .ok (.if_icmp .ne 5, 3) := by decide +kernel
theorem dX9_partnerOf_75 : decode cX9_partnerOf 75 = .ok (.iload_n 3, 1) := by decide +kernel
theorem dX9_partnerOf_76 : decode cX9_partnerOf 76 = .ok (.istore_n 2, 1) := by decide +kernel
theorem dX9_partnerOf_77 : decode cX9_partnerOf 77 = .ok (.iinc 3 1, 3) := by decide +kernel
theorem dX9_partnerOf_80 : decode cX9_partnerOf 80 = .ok (.goto (-76), 3) := by decide +kernel
theorem dX9_partnerOf_83 : decode cX9_partnerOf 83 = .ok (.iload_n 2, 1) := by decide +kernel
theorem dX9_partnerOf_84 : decode cX9_partnerOf 84 = .ok (.ireturn, 1) := by decide +kernel
set_option maxHeartbeats 4000000 in
set_option maxRecDepth 100000 in
theorem c_X9_partnerOf (l : Launch) (D : va_G) (tys : List (ClassId × FieldType)) (base : Nat) (G : iv_G) (h0 : Nat) (g_h0 : Nat → Int32) (r_h0 : Nat → Nat) (a_h0 : G h0 = some (9, g_h0, r_h0)) (x_0 : Int32) (i_x_0 : iv_R 0 19 x_0) : Met l yX9_partnerOf (Cond.code yX9_partnerOf cX9_partnerOf 4 (some .int) :: iv_W0) ({ frames := 3, cells := 0, slots := 0, locals := 65 }) (iv_Pc iv_sh D classes tys base G [.ref h0, .int x_0]) (iv_Qi iv_sh D classes tys base (fun v G' => G = G' ∧ iv_R (-1) 19 v)) 0 0 (iv_A base) := by
  refine iv_head (by decide) (Nat.le_of_ble_eq_true rfl) ?_
  intro p e s m args below meth c ls X hr hlocks hname hB hl
  have X := X
  have hx := X.1.1
  have hb := X.1.2.1
  have hl : lv_has ls 4 [(0, .ref h0), (1, .int x_0)] := hl
  refine lv_iconst (v := (-1)) hx hb dX9_partnerOf_0 (by decide) ?_
  refine lv_istore_n (lv' := [(2, .int (-1)), (0, .ref h0), (1, .int x_0)]) hx hb dX9_partnerOf_1 rfl hl (by decide) rfl (fun ls hl => ?_)
  refine lv_iconst (v := 0) hx hb dX9_partnerOf_2 (by decide) ?_
  refine lv_istore_n (lv' := [(3, .int 0), (2, .int (-1)), (0, .ref h0), (1, .int x_0)]) hx hb dX9_partnerOf_3 rfl hl (by decide) rfl (fun ls hl => ?_)
  have L_4 : ∀ (n_4 : Nat) (H : Heap) (locs : List Loc) (hB : iv_B iv_sh D classes tys base G s.heap H locs) (x1 : Int32) (i_x1 : iv_R (-1) 19 x1) (x2 : Int32) (i_x2 : iv_R 0 20 x2) (hn_4 : (21 - x2.toInt).toNat < n_4) (ls : Array Slot) (hl : lv_has ls 4 [(3, .int x2), (2, .int x1), (0, .ref h0), (1, .int x_0)]), W p l e ({ frames := 3, cells := 0, slots := 0, locals := 65 } : Room) s m args below meth c H locs 0 0 (MQ below (iv_Qi iv_sh D classes tys base (fun v G' => G = G' ∧ iv_R (-1) 19 v)) args s 0 0 (iv_A base)) (F0 m 4 ls []) := by
    intro n_4
    induction n_4 with
    | zero => intro H locs hB x1 i_x1 x2 i_x2 hn_4 ls hl; exact absurd hn_4 (Nat.not_lt_zero _)
    | succ n_4 ih_4 =>
      intro H locs hB x1 i_x1 x2 i_x2 hn_4 ls hl
      refine lv_iload_n hx hb dX9_partnerOf_4 rfl (lv_at hl 0 rfl) ?_
      refine lv_aload_n hx hb dX9_partnerOf_5 rfl (lv_at hl 2 rfl) ?_
      refine iv_getr X ft_X9 hB a_h0 sh_9 0 (by decide) rfl k_fl_X9_15 dX9_partnerOf_6 (fun b3 g_b3 r_b3 e_b3 a_b3 => ?_)
      refine iv_getr X ft_X5 hB a_b3 sh_5 8 (by decide) rfl k_fl_X9_109 dX9_partnerOf_9 (fun b4 g_b4 r_b4 e_b4 a_b4 => ?_)
      refine iv_geti X ft_X8 hB a_b4 sh_8 2 (by decide) rfl k_fl_X9_84 dX9_partnerOf_12 (fun x5 e_x5 i_x5 => ?_)
      refine lv_icmp_ge (tgt := 83) hx hb dX9_partnerOf_15 (by decide) (fun c6 => ?_) (fun c6 => ?_)
      · skip
        refine lv_iload_n hx hb dX9_partnerOf_83 rfl (lv_at hl 1 rfl) ?_
        exact iv_iret X hr hlocks hB ⟨rfl, i_x1⟩ dX9_partnerOf_84
      · skip
        have i6_x2 : iv_R 0 19 x2 := (i_x2.cutHi (n := 19) (iv_lt_r (iv_nle c6) i_x5 (by decide)))
        have i7_x5 : iv_R 1 20 x5 := (i_x5.cutLo (n := 1) (iv_lt_l (iv_nle c6) i_x2 (by decide)))
        refine lv_aload_n hx hb dX9_partnerOf_18 rfl (lv_at hl 2 rfl) ?_
        refine lv_iload_n hx hb dX9_partnerOf_19 rfl (lv_at hl 0 rfl) ?_
        refine iv_cVi X k_good k_mf_X9_isWrong k_im_X9_isWrong k_sel_X9_isWrong k_ml_X9_112 ft_X9 hB a_h0 sh_9 (As := [.int x2]) (c_X9_isWrong l D tys base G h0 g_h0 r_h0 a_h0 x2 i6_x2) ⟨rfl, rfl⟩ ⟨Nat.le_of_ble_eq_true rfl, Nat.le_of_ble_eq_true rfl⟩ ⟨Nat.le_of_ble_eq_true rfl, Nat.le_of_ble_eq_true rfl⟩ rfl rfl hl.1 (Nat.le_of_ble_eq_true rfl) dX9_partnerOf_20 (fun x9 G9 H locs hq hB => ?_)
        obtain ⟨rfl, i_x9⟩ := hq
        refine lv_if_eq (tgt := 77) hx hb dX9_partnerOf_23 (by decide) (fun c10 => ?_) (fun c10 => ?_)
        · skip
          have i10_x9 : iv_R 0 0 x9 := (i_x9.cutHi (n := 0) (iv_eq_r c10 q_0).2)
          refine iv_iinc hx hb i6_x2 (lo := 1) (hi := 20) (by decide) dX9_partnerOf_77 hl (k := 0) rfl (by decide) (fun x12 ls e_x12 i_x12 hl => ?_)
          have hl : lv_has ls 4 [(3, .int x12), (2, .int x1), (0, .ref h0), (1, .int x_0)] := hl
          refine lv_goto (tgt := 4) hx hb dX9_partnerOf_80 (by decide) ?_
          exact ih_4 _ _ hB x1 i_x1 x12 (i_x12.wk (by decide)) (iv_mup (c := 1) i_x2 (by decide) (by decide) (by omega) hn_4) _ (lv_sub hl [0, 1, 2, 3] rfl)
        · skip
          have i12_x9 : iv_R 1 1 x9 := iv_ne_lo c10 i_x9 q_0 (by decide)
          refine lv_aload_n hx hb dX9_partnerOf_26 rfl (lv_at hl 2 rfl) ?_
          refine iv_getr X ft_X9 hB a_h0 sh_9 1 (by decide) rfl k_fl_X9_9 dX9_partnerOf_27 (fun b14 g_b14 r_b14 e_b14 a_b14 => ?_)
          refine lv_iload_n hx hb dX9_partnerOf_30 rfl (lv_at hl 0 rfl) ?_
          refine iv_ald X hB a_b14 sh_39 (iv_in i6_x2 (by decide)) dX9_partnerOf_31 (fun x15 e_x15 i_x15 => ?_)
          refine lv_aload_n hx hb dX9_partnerOf_32 rfl (lv_at hl 2 rfl) ?_
          refine iv_getr0 X ft_X9 hB a_h0 sh_9 0 (by decide) rfl k_fl_X9_15 dX9_partnerOf_33 e_b3 ?_
          refine iv_getr0 X ft_X5 hB a_b3 sh_5 8 (by decide) rfl k_fl_X9_109 dX9_partnerOf_36 e_b4 ?_
          refine lv_iload_n hx hb dX9_partnerOf_39 rfl (lv_at hl 3 rfl) ?_
          refine lv_iconst (v := 0) hx hb dX9_partnerOf_40 (by decide) ?_
          refine iv_cVi X k_good k_mf_X8_at k_im_X8_at k_sel_X8_at k_ml_X9_89 ft_X8 hB a_b4 sh_8 (As := [.int x_0, .int 0]) (c_X8_at_8 l D tys base G b4 g_b4 r_b4 a_b4 x_0 i_x_0 0 (q_0.wk (by decide))) ⟨rfl, rfl⟩ ⟨Nat.le_of_ble_eq_true rfl, Nat.le_of_ble_eq_true rfl⟩ ⟨Nat.le_of_ble_eq_true rfl, Nat.le_of_ble_eq_true rfl⟩ rfl rfl hl.1 (Nat.le_of_ble_eq_true rfl) dX9_partnerOf_41 (fun x16 G9 H locs hq hB => ?_)
          obtain ⟨rfl, i_x16⟩ := hq
          refine lv_icmp_ne (tgt := 77) hx hb dX9_partnerOf_44 (by decide) (fun c17 => ?_) (fun c17 => ?_)
          · skip
            refine iv_iinc hx hb i6_x2 (lo := 1) (hi := 20) (by decide) dX9_partnerOf_77 hl (k := 0) rfl (by decide) (fun x18 ls e_x18 i_x18 hl => ?_)
            have hl : lv_has ls 4 [(3, .int x18), (2, .int x1), (0, .ref h0), (1, .int x_0)] := hl
            refine lv_goto (tgt := 4) hx hb dX9_partnerOf_80 (by decide) ?_
            exact ih_4 _ _ hB x1 i_x1 x18 (i_x18.wk (by decide)) (iv_mup (c := 1) i_x2 (by decide) (by decide) (by omega) hn_4) _ (lv_sub hl [0, 1, 2, 3] rfl)
          · skip
            refine lv_aload_n hx hb dX9_partnerOf_47 rfl (lv_at hl 2 rfl) ?_
            refine iv_getr0 X ft_X9 hB a_h0 sh_9 0 (by decide) rfl k_fl_X9_15 dX9_partnerOf_48 e_b3 ?_
            refine iv_getr0 X ft_X5 hB a_b3 sh_5 8 (by decide) rfl k_fl_X9_109 dX9_partnerOf_51 e_b4 ?_
            refine lv_iload_n hx hb dX9_partnerOf_54 rfl (lv_at hl 0 rfl) ?_
            refine lv_iconst (v := 0) hx hb dX9_partnerOf_55 (by decide) ?_
            refine iv_cVi X k_good k_mf_X8_at k_im_X8_at k_sel_X8_at k_ml_X9_89 ft_X8 hB a_b4 sh_8 (As := [.int x2, .int 0]) (c_X8_at_8 l D tys base G b4 g_b4 r_b4 a_b4 x2 i6_x2 0 (q_0.wk (by decide))) ⟨rfl, rfl⟩ ⟨Nat.le_of_ble_eq_true rfl, Nat.le_of_ble_eq_true rfl⟩ ⟨Nat.le_of_ble_eq_true rfl, Nat.le_of_ble_eq_true rfl⟩ rfl rfl hl.1 (Nat.le_of_ble_eq_true rfl) dX9_partnerOf_56 (fun x19 G9 H locs hq hB => ?_)
            obtain ⟨rfl, i_x19⟩ := hq
            refine lv_aload_n hx hb dX9_partnerOf_59 rfl (lv_at hl 2 rfl) ?_
            refine iv_getr0 X ft_X9 hB a_h0 sh_9 1 (by decide) rfl k_fl_X9_9 dX9_partnerOf_60 e_b14 ?_
            refine lv_iload_n hx hb dX9_partnerOf_63 rfl (lv_at hl 3 rfl) ?_
            refine iv_ald X hB a_b14 sh_39 (iv_in i_x_0 (by decide)) dX9_partnerOf_64 (fun x20 e_x20 i_x20 => ?_)
            refine lv_icmp_ne (tgt := 70) hx hb dX9_partnerOf_65 (by decide) (fun c21 => ?_) (fun c21 => ?_)
            · skip
              refine lv_iload_n hx hb dX9_partnerOf_70 rfl (lv_at hl 1 rfl) ?_
              refine lv_iconst (v := (-1)) hx hb dX9_partnerOf_71 (by decide) ?_
              refine lv_icmp_ne (tgt := 77) hx hb dX9_partnerOf_72 (by decide) (fun c22 => ?_) (fun c22 => ?_)
              · skip
                have i22_x1 : iv_R 0 19 x1 := iv_ne_lo c22 i_x1 q_n1 (by decide)
                refine iv_iinc hx hb i6_x2 (lo := 1) (hi := 20) (by decide) dX9_partnerOf_77 hl (k := 0) rfl (by decide) (fun x24 ls e_x24 i_x24 hl => ?_)
                have hl : lv_has ls 4 [(3, .int x24), (2, .int x1), (0, .ref h0), (1, .int x_0)] := hl
                refine lv_goto (tgt := 4) hx hb dX9_partnerOf_80 (by decide) ?_
                exact ih_4 _ _ hB x1 (i22_x1.wk (by decide)) x24 (i_x24.wk (by decide)) (iv_mup (c := 1) i_x2 (by decide) (by decide) (by omega) hn_4) _ (lv_sub hl [0, 1, 2, 3] rfl)
              · skip
                have i24_x1 : iv_R (-1) (-1) x1 := (i_x1.cutHi (n := (-1)) (iv_eq_r c22 q_n1).2)
                refine lv_iload_n hx hb dX9_partnerOf_75 rfl (lv_at hl 0 rfl) ?_
                refine lv_istore_n (lv' := [(2, .int x2), (3, .int x2), (0, .ref h0), (1, .int x_0)]) hx hb dX9_partnerOf_76 rfl hl (by decide) rfl (fun ls hl => ?_)
                refine iv_iinc hx hb i6_x2 (lo := 1) (hi := 20) (by decide) dX9_partnerOf_77 hl (k := 1) rfl (by decide) (fun x26 ls e_x26 i_x26 hl => ?_)
                have hl : lv_has ls 4 [(3, .int x26), (2, .int x2), (0, .ref h0), (1, .int x_0)] := hl
                refine lv_goto (tgt := 4) hx hb dX9_partnerOf_80 (by decide) ?_
                exact ih_4 _ _ hB x2 (i6_x2.wk (by decide)) x26 (i_x26.wk (by decide)) (iv_mup (c := 1) i_x2 (by decide) (by decide) (by omega) hn_4) _ (lv_sub hl [0, 1, 2, 3] rfl)
            · skip
              refine lv_iload_n hx hb dX9_partnerOf_68 rfl (lv_at hl 0 rfl) ?_
              exact iv_iret X hr hlocks hB ⟨rfl, (i6_x2.wk (by decide))⟩ dX9_partnerOf_69
  exact L_4 _ _ _ hB (-1) (q_n1.wk (by decide)) 0 (q_0.wk (by decide)) (Nat.lt_succ_self _) _ (lv_sub hl [0, 1, 2, 3] rfl)
theorem dX9_rememberCame_0 : decode cX9_rememberCame 0 = .ok (.iconst 0, 1) := by decide +kernel
theorem dX9_rememberCame_1 : decode cX9_rememberCame 1 = .ok (.istore_n 1, 1) := by decide +kernel
theorem dX9_rememberCame_2 : decode cX9_rememberCame 2 = .ok (.iload_n 1, 1) := by decide +kernel
theorem dX9_rememberCame_3 : decode cX9_rememberCame 3 = .ok (.aload_n 0, 1) := by decide +kernel
theorem dX9_rememberCame_4 : decode cX9_rememberCame 4 = .ok (.getfield 15, 3) := by decide +kernel
theorem dX9_rememberCame_7 : decode cX9_rememberCame 7 = .ok (.getfield 109, 3) := by decide +kernel
theorem dX9_rememberCame_10 : decode cX9_rememberCame 10 = .ok (.getfield 84, 3) := by decide +kernel
theorem dX9_rememberCame_13 : decode cX9_rememberCame 13 = .ok (.if_icmp .ge 33, 3) := by decide +kernel
theorem dX9_rememberCame_16 : decode cX9_rememberCame 16 = .ok (.iload_n 1, 1) := by decide +kernel
theorem dX9_rememberCame_17 : decode cX9_rememberCame 17 = .ok (.bipush 20, 2) := by decide +kernel
theorem dX9_rememberCame_19 : decode cX9_rememberCame 19 = .ok (.if_icmp .ge 27, 3) := by decide +kernel
theorem dX9_rememberCame_22 : decode cX9_rememberCame 22 = .ok (.aload_n 0, 1) := by decide +kernel
theorem dX9_rememberCame_23 : decode cX9_rememberCame 23 = .ok (.getfield 9, 3) := by decide +kernel
theorem dX9_rememberCame_26 : decode cX9_rememberCame 26 = .ok (.iload_n 1, 1) := by decide +kernel
theorem dX9_rememberCame_27 : decode cX9_rememberCame 27 = .ok (.aload_n 0, 1) := by decide +kernel
theorem dX9_rememberCame_28 : decode cX9_rememberCame 28 = .ok (.getfield 15, 3) := by decide +kernel
theorem dX9_rememberCame_31 : decode cX9_rememberCame 31 = .ok (.getfield 109, 3) := by decide +kernel
theorem dX9_rememberCame_34 : decode cX9_rememberCame 34 = .ok (.iload_n 1, 1) := by decide +kernel
theorem dX9_rememberCame_35 : decode cX9_rememberCame 35 = .ok (.iconst 1, 1) := by decide +kernel
theorem dX9_rememberCame_36 : decode cX9_rememberCame 36 = .ok (.invokevirtual 89, 3) := by decide +kernel
theorem dX9_rememberCame_39 : decode cX9_rememberCame 39 = .ok (.iastore, 1) := by decide +kernel
theorem dX9_rememberCame_40 : decode cX9_rememberCame 40 = .ok (.iinc 1 1, 3) := by decide +kernel
theorem dX9_rememberCame_43 : decode cX9_rememberCame 43 = .ok (.goto (-41), 3) := by decide +kernel
theorem dX9_rememberCame_46 : decode cX9_rememberCame 46 = .ok (.return_, 1) := by decide +kernel
set_option maxHeartbeats 4000000 in
set_option maxRecDepth 100000 in
theorem c_X9_rememberCame (l : Launch) (D : va_G) (tys : List (ClassId × FieldType)) (base : Nat) (G : iv_G) (h0 : Nat) (g_h0 : Nat → Int32) (r_h0 : Nat → Nat) (a_h0 : G h0 = some (9, g_h0, r_h0)) : Met l yX9_rememberCame (Cond.code yX9_rememberCame cX9_rememberCame 2 none :: iv_W0) ({ frames := 2, cells := 0, slots := 0, locals := 44 }) (iv_Pc iv_sh D classes tys base G [.ref h0]) (iv_Qv iv_sh D classes tys base (fun G' => iv_Md [39] G G')) 0 0 (iv_A base) := by
  refine iv_head (by decide) (Nat.le_of_ble_eq_true rfl) ?_
  intro p e s m args below meth c ls X hr hlocks hname hB hl
  have X := X
  have hx := X.1.1
  have hb := X.1.2.1
  have hM : iv_Md [39] G G := iv_Md.rf
  have hl : lv_has ls 2 [(0, .ref h0)] := hl
  refine lv_iconst (v := 0) hx hb dX9_rememberCame_0 (by decide) ?_
  refine lv_istore_n (lv' := [(1, .int 0), (0, .ref h0)]) hx hb dX9_rememberCame_1 rfl hl (by decide) rfl (fun ls hl => ?_)
  have L_2 : ∀ (n_2 : Nat) (G2 : iv_G) (hM : iv_Md [39] G G2) (H : Heap) (locs : List Loc) (hB : iv_B iv_sh D classes tys base G2 s.heap H locs) (a_h0 : G2 h0 = some (9, g_h0, r_h0)) (x1 : Int32) (i_x1 : iv_R 0 20 x1) (hn_2 : (21 - x1.toInt).toNat < n_2) (ls : Array Slot) (hl : lv_has ls 2 [(1, .int x1), (0, .ref h0)]), W p l e ({ frames := 2, cells := 0, slots := 0, locals := 44 } : Room) s m args below meth c H locs 0 0 (MQ below (iv_Qv iv_sh D classes tys base (fun G' => iv_Md [39] G G')) args s 0 0 (iv_A base)) (F0 m 2 ls []) := by
    intro n_2
    induction n_2 with
    | zero => intro G2 hM H locs hB a_h0 x1 i_x1 hn_2 ls hl; exact absurd hn_2 (Nat.not_lt_zero _)
    | succ n_2 ih_2 =>
      intro G2 hM H locs hB a_h0 x1 i_x1 hn_2 ls hl
      refine lv_iload_n hx hb dX9_rememberCame_2 rfl (lv_at hl 0 rfl) ?_
      refine lv_aload_n hx hb dX9_rememberCame_3 rfl (lv_at hl 1 rfl) ?_
      refine iv_getr X ft_X9 hB a_h0 sh_9 0 (by decide) rfl k_fl_X9_15 dX9_rememberCame_4 (fun b3 g_b3 r_b3 e_b3 a_b3 => ?_)
      refine iv_getr X ft_X5 hB a_b3 sh_5 8 (by decide) rfl k_fl_X9_109 dX9_rememberCame_7 (fun b4 g_b4 r_b4 e_b4 a_b4 => ?_)
      refine iv_geti X ft_X8 hB a_b4 sh_8 2 (by decide) rfl k_fl_X9_84 dX9_rememberCame_10 (fun x5 e_x5 i_x5 => ?_)
      refine lv_icmp_ge (tgt := 46) hx hb dX9_rememberCame_13 (by decide) (fun c6 => ?_) (fun c6 => ?_)
      · skip
        exact iv_vret X hr hlocks hB hM dX9_rememberCame_46
      · skip
        have i6_x1 : iv_R 0 19 x1 := (i_x1.cutHi (n := 19) (iv_lt_r (iv_nle c6) i_x5 (by decide)))
        have i7_x5 : iv_R 1 20 x5 := (i_x5.cutLo (n := 1) (iv_lt_l (iv_nle c6) i_x1 (by decide)))
        refine lv_iload_n hx hb dX9_rememberCame_16 rfl (lv_at hl 0 rfl) ?_
        refine lv_bipush (v := 20) hx hb dX9_rememberCame_17 (by decide) ?_
        refine lv_icmp_ge (tgt := 46) hx hb dX9_rememberCame_19 (by decide) (fun c9 => ?_) (fun c9 => ?_)
        · skip
          exact (q_20.cutHi (n := 19) (iv_le_r c9 i6_x1)).no (by decide)
        · skip
          refine lv_aload_n hx hb dX9_rememberCame_22 rfl (lv_at hl 1 rfl) ?_
          refine iv_getr X ft_X9 hB a_h0 sh_9 1 (by decide) rfl k_fl_X9_9 dX9_rememberCame_23 (fun b10 g_b10 r_b10 e_b10 a_b10 => ?_)
          refine lv_iload_n hx hb dX9_rememberCame_26 rfl (lv_at hl 0 rfl) ?_
          refine lv_aload_n hx hb dX9_rememberCame_27 rfl (lv_at hl 1 rfl) ?_
          refine iv_getr0 X ft_X9 hB a_h0 sh_9 0 (by decide) rfl k_fl_X9_15 dX9_rememberCame_28 e_b3 ?_
          refine iv_getr0 X ft_X5 hB a_b3 sh_5 8 (by decide) rfl k_fl_X9_109 dX9_rememberCame_31 e_b4 ?_
          refine lv_iload_n hx hb dX9_rememberCame_34 rfl (lv_at hl 0 rfl) ?_
          refine lv_iconst (v := 1) hx hb dX9_rememberCame_35 (by decide) ?_
          refine iv_cVi X k_good k_mf_X8_at k_im_X8_at k_sel_X8_at k_ml_X9_89 ft_X8 hB a_b4 sh_8 (As := [.int x1, .int 1]) (c_X8_at_8 l D tys base G2 b4 g_b4 r_b4 a_b4 x1 i6_x1 1 (q_1.wk (by decide))) ⟨rfl, rfl⟩ ⟨Nat.le_of_ble_eq_true rfl, Nat.le_of_ble_eq_true rfl⟩ ⟨Nat.le_of_ble_eq_true rfl, Nat.le_of_ble_eq_true rfl⟩ rfl rfl hl.1 (Nat.le_of_ble_eq_true rfl) dX9_rememberCame_36 (fun x11 G9 H locs hq hB => ?_)
          obtain ⟨rfl, i_x11⟩ := hq
          refine iv_ast X hB a_b10 sh_39 (iv_in i6_x1 (by decide)) i_x11 dX9_rememberCame_39 (fun H locs hB => ?_)
          have hm := iv_Md.ast (j := x1.toNatClampNeg) (x := x11) a_b10 rfl (by decide)
          have h9 := iv_up_eq (G := G2) (a := b10) (k := (39, upd g_b10 x1.toNatClampNeg x11, r_b10))
          generalize iv_up G2 b10 _ = G12 at hB hm h9
          have hM := hM.stp hm (by decide)
          have a_h0 := hm.at a_h0 (by decide)
          refine iv_iinc hx hb i6_x1 (lo := 1) (hi := 20) (by decide) dX9_rememberCame_40 hl (k := 0) rfl (by decide) (fun x14 ls e_x14 i_x14 hl => ?_)
          have hl : lv_has ls 2 [(1, .int x14), (0, .ref h0)] := hl
          refine lv_goto (tgt := 2) hx hb dX9_rememberCame_43 (by decide) ?_
          exact ih_2 G12 hM _ _ hB a_h0 x14 (i_x14.wk (by decide)) (iv_mup (c := 1) i_x1 (by decide) (by decide) (by omega) hn_2) _ (lv_sub hl [0, 1] rfl)
  exact L_2 _ G hM _ _ hB a_h0 0 (q_0.wk (by decide)) (Nat.lt_succ_self _) _ (lv_sub hl [0, 1] rfl)
theorem dX9_swapsToRight_0 : decode cX9_swapsToRight 0 = .ok (.aload_n 0, 1) := by decide +kernel
theorem dX9_swapsToRight_1 : decode cX9_swapsToRight 1 = .ok (.invokevirtual 99, 3) := by decide +kernel
theorem dX9_swapsToRight_4 : decode cX9_swapsToRight 4 = .ok (.iconst 0, 1) := by decide +kernel
theorem dX9_swapsToRight_5 : decode cX9_swapsToRight 5 = .ok (.istore_n 1, 1) := by decide +kernel
theorem dX9_swapsToRight_6 : decode cX9_swapsToRight 6 = .ok (.iconst 0, 1) := by decide +kernel
theorem dX9_swapsToRight_7 : decode cX9_swapsToRight 7 = .ok (.istore_n 2, 1) := by decide +kernel
theorem dX9_swapsToRight_8 : decode cX9_swapsToRight 8 = .ok (.iload_n 2, 1) := by decide +kernel
theorem dX9_swapsToRight_9 : decode cX9_swapsToRight 9 = .ok (.aload_n 0, 1) := by decide +kernel
theorem dX9_swapsToRight_10 : decode cX9_swapsToRight 10 = .ok (.getfield 15, 3) := by decide +kernel
theorem dX9_swapsToRight_13 : decode cX9_swapsToRight 13 = .ok (.getfield 109, 3) := by decide +kernel
theorem dX9_swapsToRight_16 : decode cX9_swapsToRight 16 = .ok (.getfield 84, 3) := by decide +kernel
theorem dX9_swapsToRight_19 : decode cX9_swapsToRight 19 = .ok (.if_icmp .ge 63, 3) := by decide +kernel
theorem dX9_swapsToRight_22 : decode cX9_swapsToRight 22 = .ok (.aload_n 0, 1) := by decide +kernel
theorem dX9_swapsToRight_23 : decode cX9_swapsToRight 23 = .ok (.iload_n 2, 1) := by decide +kernel
theorem dX9_swapsToRight_24 : decode cX9_swapsToRight 24 = .ok (.invokevirtual 112, 3) := by decide +kernel
theorem dX9_swapsToRight_27 : decode cX9_swapsToRight 27 = .ok (.ifCond .eq 11, 3) := by decide +kernel
theorem dX9_swapsToRight_30 : decode cX9_swapsToRight 30 = .ok (.aload_n 0, 1) := by decide +kernel
theorem dX9_swapsToRight_31 : decode cX9_swapsToRight 31 = .ok (.iload_n 2, 1) := by decide +kernel
theorem dX9_swapsToRight_32 : decode cX9_swapsToRight 32 = .ok (.invokevirtual 115, 3) := by decide +kernel
theorem dX9_swapsToRight_35 : decode cX9_swapsToRight 35 = .ok (.goto 4, 3) := by decide +kernel
theorem dX9_swapsToRight_38 : decode cX9_swapsToRight 38 = .ok (.iconst (-1), 1) := by decide +kernel
theorem dX9_swapsToRight_39 : decode cX9_swapsToRight 39 = .ok (.istore_n 3, 1) := by decide +kernel
theorem dX9_swapsToRight_40 : decode cX9_swapsToRight 40 = .ok (.iload_n 3, 1) := by decide +kernel
theorem dX9_swapsToRight_41 : decode cX9_swapsToRight 41 = .ok (.iconst (-1), 1) := by decide +kernel
theorem dX9_swapsToRight_42 : decode cX9_swapsToRight 42 = .ok (.if_icmp .eq 34, 3) := by decide +kernel
theorem dX9_swapsToRight_45 : decode cX9_swapsToRight 45 = .ok (.aload_n 0, 1) := by decide +kernel
theorem dX9_swapsToRight_46 : decode cX9_swapsToRight 46 = .ok (.getfield 9, 3) := by decide +kernel
theorem dX9_swapsToRight_49 : decode cX9_swapsToRight 49 = .ok (.iload_n 3, 1) := by decide +kernel
theorem dX9_swapsToRight_50 : decode cX9_swapsToRight 50 = .ok (.iaload, 1) := by decide +kernel
theorem dX9_swapsToRight_51 : decode cX9_swapsToRight 51 = .ok (.istore 4, 2) := by decide +kernel
theorem dX9_swapsToRight_53 : decode cX9_swapsToRight 53 = .ok (.aload_n 0, 1) := by decide +kernel
theorem dX9_swapsToRight_54 : decode cX9_swapsToRight 54 = .ok (.getfield 9, 3) := by decide +kernel
theorem dX9_swapsToRight_57 : decode cX9_swapsToRight 57 = .ok (.iload_n 3, 1) := by decide +kernel
theorem dX9_swapsToRight_58 : decode cX9_swapsToRight 58 = .ok (.aload_n 0, 1) := by decide +kernel
theorem dX9_swapsToRight_59 : decode cX9_swapsToRight 59 = .ok (.getfield 9, 3) := by decide +kernel
theorem dX9_swapsToRight_62 : decode cX9_swapsToRight 62 = .ok (.iload_n 2, 1) := by decide +kernel
theorem dX9_swapsToRight_63 : decode cX9_swapsToRight 63 = .ok (.iaload, 1) := by decide +kernel
theorem dX9_swapsToRight_64 : decode cX9_swapsToRight 64 = .ok (.iastore, 1) := by decide +kernel
theorem dX9_swapsToRight_65 : decode cX9_swapsToRight 65 = .ok (.aload_n 0, 1) := by decide +kernel
theorem dX9_swapsToRight_66 : decode cX9_swapsToRight 66 = .ok (.getfield 9, 3) := by decide +kernel
theorem dX9_swapsToRight_69 : decode cX9_swapsToRight 69 = .ok (.iload_n 2, 1) := by decide +kernel
theorem dX9_swapsToRight_70 : decode cX9_swapsToRight 70 = .ok (.iload 4, 2) := by decide +kernel
theorem dX9_swapsToRight_72 : decode cX9_swapsToRight 72 = .ok (.iastore, 1) := by decide +kernel
theorem dX9_swapsToRight_73 : decode cX9_swapsToRight 73 = .ok (.iinc 1 1, 3) := by decide +kernel
theorem dX9_swapsToRight_76 : decode cX9_swapsToRight 76 = .ok (.iinc 2 1, 3) := by decide +kernel
theorem dX9_swapsToRight_79 : decode cX9_swapsToRight 79 = .ok (.goto (-71), 3) := by decide +kernel
theorem dX9_swapsToRight_82 : decode cX9_swapsToRight 82 = .ok (.iload_n 1, 1) := by decide +kernel
theorem dX9_swapsToRight_83 : decode cX9_swapsToRight 83 = .ok (.ireturn, 1) := by decide +kernel
set_option maxHeartbeats 4000000 in
set_option maxRecDepth 100000 in
theorem c_X9_swapsToRight (l : Launch) (D : va_G) (tys : List (ClassId × FieldType)) (base : Nat) (G : iv_G) (h0 : Nat) (g_h0 : Nat → Int32) (r_h0 : Nat → Nat) (a_h0 : G h0 = some (9, g_h0, r_h0)) : Met l yX9_swapsToRight (Cond.code yX9_swapsToRight cX9_swapsToRight 5 (some .int) :: iv_W0) ({ frames := 4, cells := 0, slots := 0, locals := 88 }) (iv_Pc iv_sh D classes tys base G [.ref h0]) (iv_Qi iv_sh D classes tys base (fun v G' => iv_Md [39] G G' ∧ iv_R (-2147483648) 2147483647 v)) 0 0 (iv_A base) := by
  refine iv_head (by decide) (Nat.le_of_ble_eq_true rfl) ?_
  intro p e s m args below meth c ls X hr hlocks hname hB hl
  have X := X
  have hx := X.1.1
  have hb := X.1.2.1
  have hM : iv_Md [39] G G := iv_Md.rf
  have hl : lv_has ls 5 [(0, .ref h0)] := hl
  refine lv_aload_n hx hb dX9_swapsToRight_0 rfl (lv_at hl 0 rfl) ?_
  refine iv_cVv X k_good k_mf_X9_rememberCame k_im_X9_rememberCame k_sel_X9_rememberCame k_ml_X9_99 ft_X9 hB a_h0 sh_9 (As := []) (c_X9_rememberCame l D tys base G h0 g_h0 r_h0 a_h0) ⟨rfl, rfl⟩ ⟨Nat.le_of_ble_eq_true rfl, Nat.le_of_ble_eq_true rfl⟩ ⟨Nat.le_of_ble_eq_true rfl, Nat.le_of_ble_eq_true rfl⟩ rfl rfl hl.1 (Nat.le_of_ble_eq_true rfl) dX9_swapsToRight_1 (fun G9 H locs hq hB => ?_)
  have hm := hq
  obtain ⟨G1, hG9⟩ : ∃ g, g = G9 := ⟨_, rfl⟩
  rw [← hG9] at hm hB
  have hM := hM.stp hm (by decide)
  have a_h0 := hm.at a_h0 (by decide)
  refine lv_iconst (v := 0) hx hb dX9_swapsToRight_4 (by decide) ?_
  refine lv_istore_n (lv' := [(1, .int 0), (0, .ref h0)]) hx hb dX9_swapsToRight_5 rfl hl (by decide) rfl (fun ls hl => ?_)
  refine lv_iconst (v := 0) hx hb dX9_swapsToRight_6 (by decide) ?_
  refine lv_istore_n (lv' := [(2, .int 0), (1, .int 0), (0, .ref h0)]) hx hb dX9_swapsToRight_7 rfl hl (by decide) rfl (fun ls hl => ?_)
  have L_8 : ∀ (n_8 : Nat) (G4 : iv_G) (hM : iv_Md [39] G G4) (H : Heap) (locs : List Loc) (hB : iv_B iv_sh D classes tys base G4 s.heap H locs) (a_h0 : G4 h0 = some (9, g_h0, r_h0)) (x2 : Int32) (i_x2 : iv_R (-2147483648) 2147483647 x2) (x3 : Int32) (i_x3 : iv_R 0 20 x3) (hn_8 : (21 - x3.toInt).toNat < n_8) (ls : Array Slot) (hl : lv_has ls 5 [(2, .int x3), (1, .int x2), (0, .ref h0)]), W p l e ({ frames := 4, cells := 0, slots := 0, locals := 88 } : Room) s m args below meth c H locs 0 0 (MQ below (iv_Qi iv_sh D classes tys base (fun v G' => iv_Md [39] G G' ∧ iv_R (-2147483648) 2147483647 v)) args s 0 0 (iv_A base)) (F0 m 8 ls []) := by
    intro n_8
    induction n_8 with
    | zero => intro G4 hM H locs hB a_h0 x2 i_x2 x3 i_x3 hn_8 ls hl; exact absurd hn_8 (Nat.not_lt_zero _)
    | succ n_8 ih_8 =>
      intro G4 hM H locs hB a_h0 x2 i_x2 x3 i_x3 hn_8 ls hl
      refine lv_iload_n hx hb dX9_swapsToRight_8 rfl (lv_at hl 0 rfl) ?_
      refine lv_aload_n hx hb dX9_swapsToRight_9 rfl (lv_at hl 2 rfl) ?_
      refine iv_getr X ft_X9 hB a_h0 sh_9 0 (by decide) rfl k_fl_X9_15 dX9_swapsToRight_10 (fun b5 g_b5 r_b5 e_b5 a_b5 => ?_)
      refine iv_getr X ft_X5 hB a_b5 sh_5 8 (by decide) rfl k_fl_X9_109 dX9_swapsToRight_13 (fun b6 g_b6 r_b6 e_b6 a_b6 => ?_)
      refine iv_geti X ft_X8 hB a_b6 sh_8 2 (by decide) rfl k_fl_X9_84 dX9_swapsToRight_16 (fun x7 e_x7 i_x7 => ?_)
      refine lv_icmp_ge (tgt := 82) hx hb dX9_swapsToRight_19 (by decide) (fun c8 => ?_) (fun c8 => ?_)
      · skip
        refine lv_iload_n hx hb dX9_swapsToRight_82 rfl (lv_at hl 1 rfl) ?_
        exact iv_iret X hr hlocks hB ⟨hM, i_x2⟩ dX9_swapsToRight_83
      · skip
        have i8_x3 : iv_R 0 19 x3 := (i_x3.cutHi (n := 19) (iv_lt_r (iv_nle c8) i_x7 (by decide)))
        have i9_x7 : iv_R 1 20 x7 := (i_x7.cutLo (n := 1) (iv_lt_l (iv_nle c8) i_x3 (by decide)))
        refine lv_aload_n hx hb dX9_swapsToRight_22 rfl (lv_at hl 2 rfl) ?_
        refine lv_iload_n hx hb dX9_swapsToRight_23 rfl (lv_at hl 0 rfl) ?_
        refine iv_cVi X k_good k_mf_X9_isWrong k_im_X9_isWrong k_sel_X9_isWrong k_ml_X9_112 ft_X9 hB a_h0 sh_9 (As := [.int x3]) (c_X9_isWrong l D tys base G4 h0 g_h0 r_h0 a_h0 x3 i8_x3) ⟨rfl, rfl⟩ ⟨Nat.le_of_ble_eq_true rfl, Nat.le_of_ble_eq_true rfl⟩ ⟨Nat.le_of_ble_eq_true rfl, Nat.le_of_ble_eq_true rfl⟩ rfl rfl hl.1 (Nat.le_of_ble_eq_true rfl) dX9_swapsToRight_24 (fun x11 G9 H locs hq hB => ?_)
        obtain ⟨rfl, i_x11⟩ := hq
        refine lv_if_eq (tgt := 38) hx hb dX9_swapsToRight_27 (by decide) (fun c12 => ?_) (fun c12 => ?_)
        · skip
          have i12_x11 : iv_R 0 0 x11 := (i_x11.cutHi (n := 0) (iv_eq_r c12 q_0).2)
          refine lv_iconst (v := (-1)) hx hb dX9_swapsToRight_38 (by decide) ?_
          refine lv_istore_n (lv' := [(3, .int (-1)), (2, .int x3), (1, .int x2), (0, .ref h0)]) hx hb dX9_swapsToRight_39 rfl hl (by decide) rfl (fun ls hl => ?_)
          refine lv_iload_n hx hb dX9_swapsToRight_40 rfl (lv_at hl 0 rfl) ?_
          refine lv_iconst (v := (-1)) hx hb dX9_swapsToRight_41 (by decide) ?_
          refine lv_icmp_eq (tgt := 76) hx hb dX9_swapsToRight_42 (by decide) (fun c14 => ?_) (fun c14 => ?_)
          · skip
            refine iv_iinc hx hb i8_x3 (lo := 1) (hi := 20) (by decide) dX9_swapsToRight_76 hl (k := 1) rfl (by decide) (fun x15 ls e_x15 i_x15 hl => ?_)
            have hl : lv_has ls 5 [(2, .int x15), (3, .int (-1)), (1, .int x2), (0, .ref h0)] := hl
            refine lv_goto (tgt := 8) hx hb dX9_swapsToRight_79 (by decide) ?_
            exact ih_8 G4 hM _ _ hB a_h0 x2 i_x2 x15 (i_x15.wk (by decide)) (iv_mup (c := 1) i_x3 (by decide) (by decide) (by omega) hn_8) _ (lv_sub hl [0, 2, 3] rfl)
          · skip
            exact absurd rfl c14
        · skip
          have i15_x11 : iv_R 1 1 x11 := iv_ne_lo c12 i_x11 q_0 (by decide)
          refine lv_aload_n hx hb dX9_swapsToRight_30 rfl (lv_at hl 2 rfl) ?_
          refine lv_iload_n hx hb dX9_swapsToRight_31 rfl (lv_at hl 0 rfl) ?_
          refine iv_cVi X k_good k_mf_X9_partnerOf k_im_X9_partnerOf k_sel_X9_partnerOf k_ml_X9_115 ft_X9 hB a_h0 sh_9 (As := [.int x3]) (c_X9_partnerOf l D tys base G4 h0 g_h0 r_h0 a_h0 x3 i8_x3) ⟨rfl, rfl⟩ ⟨Nat.le_of_ble_eq_true rfl, Nat.le_of_ble_eq_true rfl⟩ ⟨Nat.le_of_ble_eq_true rfl, Nat.le_of_ble_eq_true rfl⟩ rfl rfl hl.1 (Nat.le_of_ble_eq_true rfl) dX9_swapsToRight_32 (fun x17 G9 H locs hq hB => ?_)
          obtain ⟨rfl, i_x17⟩ := hq
          refine lv_goto (tgt := 39) hx hb dX9_swapsToRight_35 (by decide) ?_
          refine lv_istore_n (lv' := [(3, .int x17), (2, .int x3), (1, .int x2), (0, .ref h0)]) hx hb dX9_swapsToRight_39 rfl hl (by decide) rfl (fun ls hl => ?_)
          refine lv_iload_n hx hb dX9_swapsToRight_40 rfl (lv_at hl 0 rfl) ?_
          refine lv_iconst (v := (-1)) hx hb dX9_swapsToRight_41 (by decide) ?_
          refine lv_icmp_eq (tgt := 76) hx hb dX9_swapsToRight_42 (by decide) (fun c18 => ?_) (fun c18 => ?_)
          · skip
            have i18_x17 : iv_R (-1) (-1) x17 := (i_x17.cutHi (n := (-1)) (iv_eq_r c18 q_n1).2)
            refine iv_iinc hx hb i8_x3 (lo := 1) (hi := 20) (by decide) dX9_swapsToRight_76 hl (k := 1) rfl (by decide) (fun x20 ls e_x20 i_x20 hl => ?_)
            have hl : lv_has ls 5 [(2, .int x20), (3, .int x17), (1, .int x2), (0, .ref h0)] := hl
            refine lv_goto (tgt := 8) hx hb dX9_swapsToRight_79 (by decide) ?_
            exact ih_8 G4 hM _ _ hB a_h0 x2 i_x2 x20 (i_x20.wk (by decide)) (iv_mup (c := 1) i_x3 (by decide) (by decide) (by omega) hn_8) _ (lv_sub hl [0, 2, 3] rfl)
          · skip
            have i20_x17 : iv_R 0 19 x17 := iv_ne_lo c18 i_x17 q_n1 (by decide)
            refine lv_aload_n hx hb dX9_swapsToRight_45 rfl (lv_at hl 3 rfl) ?_
            refine iv_getr X ft_X9 hB a_h0 sh_9 1 (by decide) rfl k_fl_X9_9 dX9_swapsToRight_46 (fun b22 g_b22 r_b22 e_b22 a_b22 => ?_)
            refine lv_iload_n hx hb dX9_swapsToRight_49 rfl (lv_at hl 0 rfl) ?_
            refine iv_ald X hB a_b22 sh_39 (iv_in i20_x17 (by decide)) dX9_swapsToRight_50 (fun x23 e_x23 i_x23 => ?_)
            refine lv_istore (lv' := [(4, .int x23), (3, .int x17), (2, .int x3), (1, .int x2), (0, .ref h0)]) hx hb dX9_swapsToRight_51 hl (by decide) rfl (fun ls hl => ?_)
            refine lv_aload_n hx hb dX9_swapsToRight_53 rfl (lv_at hl 4 rfl) ?_
            refine iv_getr0 X ft_X9 hB a_h0 sh_9 1 (by decide) rfl k_fl_X9_9 dX9_swapsToRight_54 e_b22 ?_
            refine lv_iload_n hx hb dX9_swapsToRight_57 rfl (lv_at hl 1 rfl) ?_
            refine lv_aload_n hx hb dX9_swapsToRight_58 rfl (lv_at hl 4 rfl) ?_
            refine iv_getr0 X ft_X9 hB a_h0 sh_9 1 (by decide) rfl k_fl_X9_9 dX9_swapsToRight_59 e_b22 ?_
            refine lv_iload_n hx hb dX9_swapsToRight_62 rfl (lv_at hl 2 rfl) ?_
            refine iv_ald X hB a_b22 sh_39 (iv_in i8_x3 (by decide)) dX9_swapsToRight_63 (fun x24 e_x24 i_x24 => ?_)
            refine iv_ast X hB a_b22 sh_39 (iv_in i20_x17 (by decide)) i_x24 dX9_swapsToRight_64 (fun H locs hB => ?_)
            have hm := iv_Md.ast (j := x17.toNatClampNeg) (x := x24) a_b22 rfl (by decide)
            have h9 := iv_up_eq (G := G4) (a := b22) (k := (39, upd g_b22 x17.toNatClampNeg x24, r_b22))
            generalize iv_up G4 b22 _ = G25 at hB hm h9
            have hM := hM.stp hm (by decide)
            have a_h0 := hm.at a_h0 (by decide)
            refine lv_aload_n hx hb dX9_swapsToRight_65 rfl (lv_at hl 4 rfl) ?_
            refine iv_getr X ft_X9 hB a_h0 sh_9 1 (by decide) rfl k_fl_X9_9 dX9_swapsToRight_66 (fun b27 g_b27 r_b27 e_b27 a_b27 => ?_)
            refine lv_iload_n hx hb dX9_swapsToRight_69 rfl (lv_at hl 2 rfl) ?_
            refine lv_iload hx hb dX9_swapsToRight_70 (lv_at hl 0 rfl) ?_
            refine iv_ast X hB a_b27 sh_39 (iv_in i8_x3 (by decide)) i_x23 dX9_swapsToRight_72 (fun H locs hB => ?_)
            have hm := iv_Md.ast (j := x3.toNatClampNeg) (x := x23) a_b27 rfl (by decide)
            have h9 := iv_up_eq (G := G25) (a := b27) (k := (39, upd g_b27 x3.toNatClampNeg x23, r_b27))
            generalize iv_up G25 b27 _ = G28 at hB hm h9
            have hM := hM.stp hm (by decide)
            have a_h0 := hm.at a_h0 (by decide)
            obtain ⟨x30, e_x30⟩ : ∃ y : Int32, y = x2 + Int32.ofInt 1 := ⟨_, rfl⟩
            refine lv_iinc (v := x30) (lv' := [(1, .int x30), (4, .int x23), (3, .int x17), (2, .int x3), (0, .ref h0)]) hx hb dX9_swapsToRight_73 hl (k := 3) rfl e_x30.symm (by decide) rfl (fun ls hl => ?_)
            have i_x30 := iv_R.all x30
            refine iv_iinc hx hb i8_x3 (lo := 1) (hi := 20) (by decide) dX9_swapsToRight_76 hl (k := 3) rfl (by decide) (fun x31 ls e_x31 i_x31 hl => ?_)
            have hl : lv_has ls 5 [(2, .int x31), (1, .int x30), (4, .int x23), (3, .int x17), (0, .ref h0)] := hl
            refine lv_goto (tgt := 8) hx hb dX9_swapsToRight_79 (by decide) ?_
            exact ih_8 G28 hM _ _ hB a_h0 x30 i_x30 x31 (i_x31.wk (by decide)) (iv_mup (c := 1) i_x3 (by decide) (by decide) (by omega) hn_8) _ (lv_sub hl [0, 1, 4] rfl)
  exact L_8 _ G1 hM _ _ hB a_h0 0 (q_0.wk (by decide)) 0 (q_0.wk (by decide)) (Nat.lt_succ_self _) _ (lv_sub hl [0, 1, 2] rfl)
theorem dX9_wrongChildren_0 : decode cX9_wrongChildren 0 = .ok (.iconst 0, 1) := by decide +kernel
theorem dX9_wrongChildren_1 : decode cX9_wrongChildren 1 = .ok (.istore_n 1, 1) := by decide +kernel
theorem dX9_wrongChildren_2 : decode cX9_wrongChildren 2 = .ok (.iconst 0, 1) := by decide +kernel
theorem dX9_wrongChildren_3 : decode cX9_wrongChildren 3 = .ok (.istore_n 2, 1) := by decide +kernel
theorem dX9_wrongChildren_4 : decode cX9_wrongChildren 4 = .ok (.iload_n 2, 1) := by decide +kernel
theorem dX9_wrongChildren_5 : decode cX9_wrongChildren 5 = .ok (.aload_n 0, 1) := by decide +kernel
theorem dX9_wrongChildren_6 : decode cX9_wrongChildren 6 = .ok (.getfield 15, 3) := by decide +kernel
theorem dX9_wrongChildren_9 : decode cX9_wrongChildren 9 = .ok (.getfield 109, 3) := by decide +kernel
theorem dX9_wrongChildren_12 : decode cX9_wrongChildren 12 = .ok (.getfield 84, 3) := by decide +kernel
theorem dX9_wrongChildren_15 : decode cX9_wrongChildren 15 = .ok (.if_icmp .ge 23, 3) := by decide +kernel
theorem dX9_wrongChildren_18 : decode cX9_wrongChildren 18 = .ok (.aload_n 0, 1) := by decide +kernel
theorem dX9_wrongChildren_19 : decode cX9_wrongChildren 19 = .ok (.iload_n 2, 1) := by decide +kernel
theorem dX9_wrongChildren_20 : decode cX9_wrongChildren 20 = .ok (.invokevirtual 112, 3) := by decide +kernel
theorem dX9_wrongChildren_23 : decode cX9_wrongChildren 23 = .ok (.ifCond .eq 9, 3) := by decide +kernel
theorem dX9_wrongChildren_26 : decode cX9_wrongChildren 26 = .ok (.iload_n 1, 1) := by decide +kernel
theorem dX9_wrongChildren_27 : decode cX9_wrongChildren 27 = .ok (.iconst 1, 1) := by decide +kernel
theorem dX9_wrongChildren_28 : decode cX9_wrongChildren 28 = .ok (.iload_n 2, 1) := by decide +kernel
theorem dX9_wrongChildren_29 : decode cX9_wrongChildren 29 = .ok (.ishl, 1) := by decide +kernel
theorem dX9_wrongChildren_30 : decode cX9_wrongChildren 30 = .ok (.ior, 1) := by decide +kernel
theorem dX9_wrongChildren_31 : decode cX9_wrongChildren 31 = .ok (.istore_n 1, 1) := by decide +kernel
theorem dX9_wrongChildren_32 : decode cX9_wrongChildren 32 = .ok (.iinc 2 1, 3) := by decide +kernel
theorem dX9_wrongChildren_35 : decode cX9_wrongChildren 35 = .ok (.goto (-31), 3) := by decide +kernel
theorem dX9_wrongChildren_38 : decode cX9_wrongChildren 38 = .ok (.iload_n 1, 1) := by decide +kernel
theorem dX9_wrongChildren_39 : decode cX9_wrongChildren 39 = .ok (.ireturn, 1) := by decide +kernel
set_option maxHeartbeats 4000000 in
set_option maxRecDepth 100000 in
theorem c_X9_wrongChildren (l : Launch) (D : va_G) (tys : List (ClassId × FieldType)) (base : Nat) (G : iv_G) (h0 : Nat) (g_h0 : Nat → Int32) (r_h0 : Nat → Nat) (a_h0 : G h0 = some (9, g_h0, r_h0)) : Met l yX9_wrongChildren (Cond.code yX9_wrongChildren cX9_wrongChildren 3 (some .int) :: iv_W0) ({ frames := 3, cells := 0, slots := 0, locals := 65 }) (iv_Pc iv_sh D classes tys base G [.ref h0]) (iv_Qi iv_sh D classes tys base (fun v G' => G = G' ∧ iv_R 0 2147483647 v)) 0 0 (iv_A base) := by
  refine iv_head (by decide) (Nat.le_of_ble_eq_true rfl) ?_
  intro p e s m args below meth c ls X hr hlocks hname hB hl
  have X := X
  have hx := X.1.1
  have hb := X.1.2.1
  have hl : lv_has ls 3 [(0, .ref h0)] := hl
  refine lv_iconst (v := 0) hx hb dX9_wrongChildren_0 (by decide) ?_
  refine lv_istore_n (lv' := [(1, .int 0), (0, .ref h0)]) hx hb dX9_wrongChildren_1 rfl hl (by decide) rfl (fun ls hl => ?_)
  refine lv_iconst (v := 0) hx hb dX9_wrongChildren_2 (by decide) ?_
  refine lv_istore_n (lv' := [(2, .int 0), (1, .int 0), (0, .ref h0)]) hx hb dX9_wrongChildren_3 rfl hl (by decide) rfl (fun ls hl => ?_)
  have L_4 : ∀ (n_4 : Nat) (H : Heap) (locs : List Loc) (hB : iv_B iv_sh D classes tys base G s.heap H locs) (x1 : Int32) (i_x1 : iv_R 0 2147483647 x1) (x2 : Int32) (i_x2 : iv_R 0 20 x2) (hn_4 : (21 - x2.toInt).toNat < n_4) (ls : Array Slot) (hl : lv_has ls 3 [(2, .int x2), (1, .int x1), (0, .ref h0)]), W p l e ({ frames := 3, cells := 0, slots := 0, locals := 65 } : Room) s m args below meth c H locs 0 0 (MQ below (iv_Qi iv_sh D classes tys base (fun v G' => G = G' ∧ iv_R 0 2147483647 v)) args s 0 0 (iv_A base)) (F0 m 4 ls []) := by
    intro n_4
    induction n_4 with
    | zero => intro H locs hB x1 i_x1 x2 i_x2 hn_4 ls hl; exact absurd hn_4 (Nat.not_lt_zero _)
    | succ n_4 ih_4 =>
      intro H locs hB x1 i_x1 x2 i_x2 hn_4 ls hl
      refine lv_iload_n hx hb dX9_wrongChildren_4 rfl (lv_at hl 0 rfl) ?_
      refine lv_aload_n hx hb dX9_wrongChildren_5 rfl (lv_at hl 2 rfl) ?_
      refine iv_getr X ft_X9 hB a_h0 sh_9 0 (by decide) rfl k_fl_X9_15 dX9_wrongChildren_6 (fun b3 g_b3 r_b3 e_b3 a_b3 => ?_)
      refine iv_getr X ft_X5 hB a_b3 sh_5 8 (by decide) rfl k_fl_X9_109 dX9_wrongChildren_9 (fun b4 g_b4 r_b4 e_b4 a_b4 => ?_)
      refine iv_geti X ft_X8 hB a_b4 sh_8 2 (by decide) rfl k_fl_X9_84 dX9_wrongChildren_12 (fun x5 e_x5 i_x5 => ?_)
      refine lv_icmp_ge (tgt := 38) hx hb dX9_wrongChildren_15 (by decide) (fun c6 => ?_) (fun c6 => ?_)
      · skip
        refine lv_iload_n hx hb dX9_wrongChildren_38 rfl (lv_at hl 1 rfl) ?_
        exact iv_iret X hr hlocks hB ⟨rfl, i_x1⟩ dX9_wrongChildren_39
      · skip
        have i6_x2 : iv_R 0 19 x2 := (i_x2.cutHi (n := 19) (iv_lt_r (iv_nle c6) i_x5 (by decide)))
        have i7_x5 : iv_R 1 20 x5 := (i_x5.cutLo (n := 1) (iv_lt_l (iv_nle c6) i_x2 (by decide)))
        refine lv_aload_n hx hb dX9_wrongChildren_18 rfl (lv_at hl 2 rfl) ?_
        refine lv_iload_n hx hb dX9_wrongChildren_19 rfl (lv_at hl 0 rfl) ?_
        refine iv_cVi X k_good k_mf_X9_isWrong k_im_X9_isWrong k_sel_X9_isWrong k_ml_X9_112 ft_X9 hB a_h0 sh_9 (As := [.int x2]) (c_X9_isWrong l D tys base G h0 g_h0 r_h0 a_h0 x2 i6_x2) ⟨rfl, rfl⟩ ⟨Nat.le_of_ble_eq_true rfl, Nat.le_of_ble_eq_true rfl⟩ ⟨Nat.le_of_ble_eq_true rfl, Nat.le_of_ble_eq_true rfl⟩ rfl rfl hl.1 (Nat.le_of_ble_eq_true rfl) dX9_wrongChildren_20 (fun x9 G9 H locs hq hB => ?_)
        obtain ⟨rfl, i_x9⟩ := hq
        refine lv_if_eq (tgt := 32) hx hb dX9_wrongChildren_23 (by decide) (fun c10 => ?_) (fun c10 => ?_)
        · skip
          have i10_x9 : iv_R 0 0 x9 := (i_x9.cutHi (n := 0) (iv_eq_r c10 q_0).2)
          refine iv_iinc hx hb i6_x2 (lo := 1) (hi := 20) (by decide) dX9_wrongChildren_32 hl (k := 0) rfl (by decide) (fun x12 ls e_x12 i_x12 hl => ?_)
          have hl : lv_has ls 3 [(2, .int x12), (1, .int x1), (0, .ref h0)] := hl
          refine lv_goto (tgt := 4) hx hb dX9_wrongChildren_35 (by decide) ?_
          exact ih_4 _ _ hB x1 i_x1 x12 (i_x12.wk (by decide)) (iv_mup (c := 1) i_x2 (by decide) (by decide) (by omega) hn_4) _ (lv_sub hl [0, 1, 2] rfl)
        · skip
          have i12_x9 : iv_R 1 1 x9 := iv_ne_lo c10 i_x9 q_0 (by decide)
          refine lv_iload_n hx hb dX9_wrongChildren_26 rfl (lv_at hl 1 rfl) ?_
          refine lv_iconst (v := 1) hx hb dX9_wrongChildren_27 (by decide) ?_
          refine lv_iload_n hx hb dX9_wrongChildren_28 rfl (lv_at hl 0 rfl) ?_
          refine iv_shl1 hx hb i6_x2 (lo := 1) (hi := 524288) (by decide) dX9_wrongChildren_29 (fun x14 e_x14 i_x14 => ?_)
          refine iv_ior hx hb i_x1 i_x14 (k := 31) (hi := 2147483647) (by decide) dX9_wrongChildren_30 (fun x15 e_x15 i_x15 => ?_)
          refine lv_istore_n (lv' := [(1, .int x15), (2, .int x2), (0, .ref h0)]) hx hb dX9_wrongChildren_31 rfl hl (by decide) rfl (fun ls hl => ?_)
          refine iv_iinc hx hb i6_x2 (lo := 1) (hi := 20) (by decide) dX9_wrongChildren_32 hl (k := 1) rfl (by decide) (fun x16 ls e_x16 i_x16 hl => ?_)
          have hl : lv_has ls 3 [(2, .int x16), (1, .int x15), (0, .ref h0)] := hl
          refine lv_goto (tgt := 4) hx hb dX9_wrongChildren_35 (by decide) ?_
          exact ih_4 _ _ hB x15 i_x15 x16 (i_x16.wk (by decide)) (iv_mup (c := 1) i_x2 (by decide) (by decide) (by omega) hn_4) _ (lv_sub hl [0, 1, 2] rfl)
  exact L_4 _ _ _ hB 0 (q_0.wk (by decide)) 0 (q_0.wk (by decide)) (Nat.lt_succ_self _) _ (lv_sub hl [0, 1, 2] rfl)
theorem dX9_rightThen_0 : decode cX9_rightThen 0 = .ok (.aload_n 0, 1) := by decide +kernel
theorem dX9_rightThen_1 : decode cX9_rightThen 1 = .ok (.invokevirtual 106, 3) := by decide +kernel
theorem dX9_rightThen_4 : decode cX9_rightThen 4 = .ok (.pop, 1) := by decide +kernel
theorem dX9_rightThen_5 : decode cX9_rightThen 5 = .ok (.aload_n 0, 1) := by decide +kernel
theorem dX9_rightThen_6 : decode cX9_rightThen 6 = .ok (.getfield 15, 3) := by decide +kernel
theorem dX9_rightThen_9 : decode cX9_rightThen 9 = .ok (.getfield 109, 3) := by decide +kernel
theorem dX9_rightThen_12 : decode cX9_rightThen 12 = .ok (.getfield 84, 3) := by decide +kernel
theorem dX9_rightThen_15 : decode cX9_rightThen 15 = .ok (.aload_n 0, 1) := by decide +kernel
theorem dX9_rightThen_16 : decode cX9_rightThen 16 = .ok (.invokevirtual 102, 3) := by decide +kernel
theorem dX9_rightThen_19 : decode cX9_rightThen 19 = .ok (.invokestatic 40, 3) := by decide +kernel
theorem dX9_rightThen_22 : decode cX9_rightThen 22 = .ok (.isub, 1) := by decide +kernel
theorem dX9_rightThen_23 : decode cX9_rightThen 23 = .ok (.ireturn, 1) := by decide +kernel
set_option maxHeartbeats 4000000 in
set_option maxRecDepth 100000 in
theorem c_X9_rightThen (l : Launch) (D : va_G) (tys : List (ClassId × FieldType)) (base : Nat) (G : iv_G) (h0 : Nat) (g_h0 : Nat → Int32) (r_h0 : Nat → Nat) (a_h0 : G h0 = some (9, g_h0, r_h0)) : Met l yX9_rightThen (Cond.code yX9_rightThen cX9_rightThen 1 (some .int) :: iv_W0) ({ frames := 5, cells := 0, slots := 0, locals := 112 }) (iv_Pc iv_sh D classes tys base G [.ref h0]) (iv_Qi iv_sh D classes tys base (fun v G' => iv_Md [39] G G' ∧ iv_R (-63) 20 v)) 0 0 (iv_A base) := by
  refine iv_head (by decide) (Nat.le_of_ble_eq_true rfl) ?_
  intro p e s m args below meth c ls X hr hlocks hname hB hl
  have X := X
  have hx := X.1.1
  have hb := X.1.2.1
  have hM : iv_Md [39] G G := iv_Md.rf
  have hl : lv_has ls 1 [(0, .ref h0)] := hl
  refine lv_aload_n hx hb dX9_rightThen_0 rfl (lv_at hl 0 rfl) ?_
  refine iv_cVi X k_good k_mf_X9_swapsToRight k_im_X9_swapsToRight k_sel_X9_swapsToRight k_ml_X9_106 ft_X9 hB a_h0 sh_9 (As := []) (c_X9_swapsToRight l D tys base G h0 g_h0 r_h0 a_h0) ⟨rfl, rfl⟩ ⟨Nat.le_of_ble_eq_true rfl, Nat.le_of_ble_eq_true rfl⟩ ⟨Nat.le_of_ble_eq_true rfl, Nat.le_of_ble_eq_true rfl⟩ rfl rfl hl.1 (Nat.le_of_ble_eq_true rfl) dX9_rightThen_1 (fun x1 G9 H locs hq hB => ?_)
  obtain ⟨hm, i_x1⟩ := hq
  obtain ⟨G2, hG9⟩ : ∃ g, g = G9 := ⟨_, rfl⟩
  rw [← hG9] at hm hB
  have hM := hM.stp hm (by decide)
  have a_h0 := hm.at a_h0 (by decide)
  refine lv_pop hx hb dX9_rightThen_4 rfl ?_
  refine lv_aload_n hx hb dX9_rightThen_5 rfl (lv_at hl 0 rfl) ?_
  refine iv_getr X ft_X9 hB a_h0 sh_9 0 (by decide) rfl k_fl_X9_15 dX9_rightThen_6 (fun b3 g_b3 r_b3 e_b3 a_b3 => ?_)
  refine iv_getr X ft_X5 hB a_b3 sh_5 8 (by decide) rfl k_fl_X9_109 dX9_rightThen_9 (fun b4 g_b4 r_b4 e_b4 a_b4 => ?_)
  refine iv_geti X ft_X8 hB a_b4 sh_8 2 (by decide) rfl k_fl_X9_84 dX9_rightThen_12 (fun x5 e_x5 i_x5 => ?_)
  refine lv_aload_n hx hb dX9_rightThen_15 rfl (lv_at hl 0 rfl) ?_
  refine iv_cVi X k_good k_mf_X9_wrongChildren k_im_X9_wrongChildren k_sel_X9_wrongChildren k_ml_X9_102 ft_X9 hB a_h0 sh_9 (As := []) (c_X9_wrongChildren l D tys base G2 h0 g_h0 r_h0 a_h0) ⟨rfl, rfl⟩ ⟨Nat.le_of_ble_eq_true rfl, Nat.le_of_ble_eq_true rfl⟩ ⟨Nat.le_of_ble_eq_true rfl, Nat.le_of_ble_eq_true rfl⟩ rfl rfl hl.1 (Nat.le_of_ble_eq_true rfl) dX9_rightThen_16 (fun x6 G9 H locs hq hB => ?_)
  obtain ⟨rfl, i_x6⟩ := hq
  refine iv_cSi X k_good k_mf_J6_bitCount_0f7a4 k_st_J6_bitCount_0f7a4 k_ml_X9_40 hB (As := [.int x6]) (c_J6_bitCount_0f7a4 l D tys base G2 x6 (i_x6.wk (by decide))) ⟨rfl, rfl⟩ ⟨Nat.le_of_ble_eq_true rfl, Nat.le_of_ble_eq_true rfl⟩ ⟨Nat.le_of_ble_eq_true rfl, Nat.le_of_ble_eq_true rfl⟩ rfl rfl hl.1 (Nat.le_of_ble_eq_true rfl) dX9_rightThen_19 (fun x7 G9 H locs hq hB => ?_)
  obtain ⟨rfl, i_x7⟩ := hq
  refine iv_isub hx hb i_x5 i_x7 (lo := (-63)) (hi := 20) (by decide) dX9_rightThen_22 (fun x8 e_x8 i_x8 => ?_)
  exact iv_iret X hr hlocks hB ⟨hM, i_x8⟩ dX9_rightThen_23
theorem dX9_wrongNow_0 : decode cX9_wrongNow 0 = .ok (.aload_n 0, 1) := by decide +kernel
theorem dX9_wrongNow_1 : decode cX9_wrongNow 1 = .ok (.invokevirtual 99, 3) := by decide +kernel
theorem dX9_wrongNow_4 : decode cX9_wrongNow 4 = .ok (.aload_n 0, 1) := by decide +kernel
theorem dX9_wrongNow_5 : decode cX9_wrongNow 5 = .ok (.invokevirtual 102, 3) := by decide +kernel
theorem dX9_wrongNow_8 : decode cX9_wrongNow 8 = .ok (.ireturn, 1) := by decide +kernel
set_option maxHeartbeats 4000000 in
set_option maxRecDepth 100000 in
theorem c_X9_wrongNow (l : Launch) (D : va_G) (tys : List (ClassId × FieldType)) (base : Nat) (G : iv_G) (h0 : Nat) (g_h0 : Nat → Int32) (r_h0 : Nat → Nat) (a_h0 : G h0 = some (9, g_h0, r_h0)) : Met l yX9_wrongNow (Cond.code yX9_wrongNow cX9_wrongNow 1 (some .int) :: iv_W0) ({ frames := 4, cells := 0, slots := 0, locals := 87 }) (iv_Pc iv_sh D classes tys base G [.ref h0]) (iv_Qi iv_sh D classes tys base (fun v G' => iv_Md [39] G G' ∧ iv_R 0 2147483647 v)) 0 0 (iv_A base) := by
  refine iv_head (by decide) (Nat.le_of_ble_eq_true rfl) ?_
  intro p e s m args below meth c ls X hr hlocks hname hB hl
  have X := X
  have hx := X.1.1
  have hb := X.1.2.1
  have hM : iv_Md [39] G G := iv_Md.rf
  have hl : lv_has ls 1 [(0, .ref h0)] := hl
  refine lv_aload_n hx hb dX9_wrongNow_0 rfl (lv_at hl 0 rfl) ?_
  refine iv_cVv X k_good k_mf_X9_rememberCame k_im_X9_rememberCame k_sel_X9_rememberCame k_ml_X9_99 ft_X9 hB a_h0 sh_9 (As := []) (c_X9_rememberCame l D tys base G h0 g_h0 r_h0 a_h0) ⟨rfl, rfl⟩ ⟨Nat.le_of_ble_eq_true rfl, Nat.le_of_ble_eq_true rfl⟩ ⟨Nat.le_of_ble_eq_true rfl, Nat.le_of_ble_eq_true rfl⟩ rfl rfl hl.1 (Nat.le_of_ble_eq_true rfl) dX9_wrongNow_1 (fun G9 H locs hq hB => ?_)
  have hm := hq
  obtain ⟨G1, hG9⟩ : ∃ g, g = G9 := ⟨_, rfl⟩
  rw [← hG9] at hm hB
  have hM := hM.stp hm (by decide)
  have a_h0 := hm.at a_h0 (by decide)
  refine lv_aload_n hx hb dX9_wrongNow_4 rfl (lv_at hl 0 rfl) ?_
  refine iv_cVi X k_good k_mf_X9_wrongChildren k_im_X9_wrongChildren k_sel_X9_wrongChildren k_ml_X9_102 ft_X9 hB a_h0 sh_9 (As := []) (c_X9_wrongChildren l D tys base G1 h0 g_h0 r_h0 a_h0) ⟨rfl, rfl⟩ ⟨Nat.le_of_ble_eq_true rfl, Nat.le_of_ble_eq_true rfl⟩ ⟨Nat.le_of_ble_eq_true rfl, Nat.le_of_ble_eq_true rfl⟩ rfl rfl hl.1 (Nat.le_of_ble_eq_true rfl) dX9_wrongNow_5 (fun x2 G9 H locs hq hB => ?_)
  obtain ⟨rfl, i_x2⟩ := hq
  exact iv_iret X hr hlocks hB ⟨hM, i_x2⟩ dX9_wrongNow_8
theorem dX11_right_0 : decode cX11_right 0 = .ok (.iload_n 1, 1) := by decide +kernel
theorem dX11_right_1 : decode cX11_right 1 = .ok (.tableswitch 51 0 2 #[27, 35, 43], 27) := by decide +kernel
theorem dX11_right_28 : decode cX11_right 28 = .ok (.aload_n 0, 1) := by decide +kernel
theorem dX11_right_29 : decode cX11_right 29 = .ok (.getfield 58, 3) := by decide +kernel
theorem dX11_right_32 : decode cX11_right 32 = .ok (.invokevirtual 337, 3) := by decide +kernel
theorem dX11_right_35 : decode cX11_right 35 = .ok (.ireturn, 1) := by decide +kernel
theorem dX11_right_36 : decode cX11_right 36 = .ok (.aload_n 0, 1) := by decide +kernel
theorem dX11_right_37 : decode cX11_right 37 = .ok (.getfield 58, 3) := by decide +kernel
theorem dX11_right_40 : decode cX11_right 40 = .ok (.invokevirtual 340, 3) := by decide +kernel
theorem dX11_right_43 : decode cX11_right 43 = .ok (.ireturn, 1) := by decide +kernel
theorem dX11_right_44 : decode cX11_right 44 = .ok (.aload_n 0, 1) := by decide +kernel
theorem dX11_right_45 : decode cX11_right 45 = .ok (.getfield 58, 3) := by decide +kernel
theorem dX11_right_48 : decode cX11_right 48 = .ok (.invokevirtual 343, 3) := by decide +kernel
theorem dX11_right_51 : decode cX11_right 51 = .ok (.ireturn, 1) := by decide +kernel
theorem dX11_right_52 : decode cX11_right 52 = .ok (.iconst (-1), 1) := by decide +kernel
theorem dX11_right_53 : decode cX11_right 53 = .ok (.ireturn, 1) := by decide +kernel
set_option maxHeartbeats 4000000 in
set_option maxRecDepth 100000 in
theorem c_X11_right (l : Launch) (D : va_G) (tys : List (ClassId × FieldType)) (base : Nat) (G : iv_G) (h0 : Nat) (g_h0 : Nat → Int32) (r_h0 : Nat → Nat) (a_h0 : G h0 = some (11, g_h0, r_h0)) (x_0 : Int32) (i_x_0 : iv_R (-2147483648) 2147483647 x_0) : Met l yX11_right (Cond.code yX11_right cX11_right 2 (some .int) :: iv_W0) ({ frames := 6, cells := 0, slots := 0, locals := 132 }) (iv_Pc iv_sh D classes tys base G [.ref h0, .int x_0]) (iv_Qi iv_sh D classes tys base (fun v G' => iv_Md [39] G G' ∧ iv_R (-2147483648) 2147483647 v)) 0 0 (iv_A base) := by
  refine iv_head (by decide) (Nat.le_of_ble_eq_true rfl) ?_
  intro p e s m args below meth c ls X hr hlocks hname hB hl
  have X := X
  have hx := X.1.1
  have hb := X.1.2.1
  have hM : iv_Md [39] G G := iv_Md.rf
  have hl : lv_has ls 2 [(0, .ref h0), (1, .int x_0)] := hl
  refine lv_iload_n hx hb dX11_right_0 rfl (lv_at hl 1 rfl) ?_
  by_cases w1 : x_0.toInt = 0
  · skip
    refine lv_tableIn (tgt := 28) hx hb dX11_right_1 (by omega) (by omega) (by rw [w1]; rfl) (by decide) ?_
    have w1i : iv_R 0 0 x_0 := iv_lit w1
    refine lv_aload_n hx hb dX11_right_28 rfl (lv_at hl 0 rfl) ?_
    refine iv_getr X ft_X11 hB a_h0 sh_11 9 (by decide) rfl k_fl_X11_58 dX11_right_29 (fun b2 g_b2 r_b2 e_b2 a_b2 => ?_)
    refine iv_cVi X k_good k_mf_X9_wrongNow k_im_X9_wrongNow k_sel_X9_wrongNow k_ml_X11_337 ft_X9 hB a_b2 sh_9 (As := []) (c_X9_wrongNow l D tys base G b2 g_b2 r_b2 a_b2) ⟨rfl, rfl⟩ ⟨Nat.le_of_ble_eq_true rfl, Nat.le_of_ble_eq_true rfl⟩ ⟨Nat.le_of_ble_eq_true rfl, Nat.le_of_ble_eq_true rfl⟩ rfl rfl hl.1 (Nat.le_of_ble_eq_true rfl) dX11_right_32 (fun x3 G9 H locs hq hB => ?_)
    obtain ⟨hm, i_x3⟩ := hq
    obtain ⟨G4, hG9⟩ : ∃ g, g = G9 := ⟨_, rfl⟩
    rw [← hG9] at hm hB
    have hM := hM.stp hm (by decide)
    have a_h0 := hm.at a_h0 (by decide)
    exact iv_iret X hr hlocks hB ⟨hM, (i_x3.wk (by decide))⟩ dX11_right_35
  skip
  by_cases w5 : x_0.toInt = 1
  · skip
    refine lv_tableIn (tgt := 36) hx hb dX11_right_1 (by omega) (by omega) (by rw [w5]; rfl) (by decide) ?_
    have w5i : iv_R 1 1 x_0 := iv_lit w5
    refine lv_aload_n hx hb dX11_right_36 rfl (lv_at hl 0 rfl) ?_
    refine iv_getr X ft_X11 hB a_h0 sh_11 9 (by decide) rfl k_fl_X11_58 dX11_right_37 (fun b6 g_b6 r_b6 e_b6 a_b6 => ?_)
    refine iv_cVi X k_good k_mf_X9_swapsToRight k_im_X9_swapsToRight k_sel_X9_swapsToRight k_ml_X11_340 ft_X9 hB a_b6 sh_9 (As := []) (c_X9_swapsToRight l D tys base G b6 g_b6 r_b6 a_b6) ⟨rfl, rfl⟩ ⟨Nat.le_of_ble_eq_true rfl, Nat.le_of_ble_eq_true rfl⟩ ⟨Nat.le_of_ble_eq_true rfl, Nat.le_of_ble_eq_true rfl⟩ rfl rfl hl.1 (Nat.le_of_ble_eq_true rfl) dX11_right_40 (fun x7 G9 H locs hq hB => ?_)
    obtain ⟨hm, i_x7⟩ := hq
    obtain ⟨G8, hG9⟩ : ∃ g, g = G9 := ⟨_, rfl⟩
    rw [← hG9] at hm hB
    have hM := hM.stp hm (by decide)
    have a_h0 := hm.at a_h0 (by decide)
    exact iv_iret X hr hlocks hB ⟨hM, i_x7⟩ dX11_right_43
  skip
  by_cases w9 : x_0.toInt = 2
  · skip
    refine lv_tableIn (tgt := 44) hx hb dX11_right_1 (by omega) (by omega) (by rw [w9]; rfl) (by decide) ?_
    have w9i : iv_R 2 2 x_0 := iv_lit w9
    refine lv_aload_n hx hb dX11_right_44 rfl (lv_at hl 0 rfl) ?_
    refine iv_getr X ft_X11 hB a_h0 sh_11 9 (by decide) rfl k_fl_X11_58 dX11_right_45 (fun b10 g_b10 r_b10 e_b10 a_b10 => ?_)
    refine iv_cVi X k_good k_mf_X9_rightThen k_im_X9_rightThen k_sel_X9_rightThen k_ml_X11_343 ft_X9 hB a_b10 sh_9 (As := []) (c_X9_rightThen l D tys base G b10 g_b10 r_b10 a_b10) ⟨rfl, rfl⟩ ⟨Nat.le_of_ble_eq_true rfl, Nat.le_of_ble_eq_true rfl⟩ ⟨Nat.le_of_ble_eq_true rfl, Nat.le_of_ble_eq_true rfl⟩ rfl rfl hl.1 (Nat.le_of_ble_eq_true rfl) dX11_right_48 (fun x11 G9 H locs hq hB => ?_)
    obtain ⟨hm, i_x11⟩ := hq
    obtain ⟨G12, hG9⟩ : ∃ g, g = G9 := ⟨_, rfl⟩
    rw [← hG9] at hm hB
    have hM := hM.stp hm (by decide)
    have a_h0 := hm.at a_h0 (by decide)
    exact iv_iret X hr hlocks hB ⟨hM, (i_x11.wk (by decide))⟩ dX11_right_51
  skip
  refine lv_tableOut (tgt := 52) hx hb dX11_right_1 (by have := i_x_0.1; have := i_x_0.2; omega) (by decide) ?_
  refine lv_iconst (v := (-1)) hx hb dX11_right_52 (by decide) ?_
  exact iv_iret X hr hlocks hB ⟨hM, (q_n1.wk (by decide))⟩ dX11_right_53
theorem dX5_howManySound_0 : decode cX5_howManySound 0 = .ok (.iconst 0, 1) := by decide +kernel
theorem dX5_howManySound_1 : decode cX5_howManySound 1 = .ok (.istore_n 2, 1) := by decide +kernel
theorem dX5_howManySound_2 : decode cX5_howManySound 2 = .ok (.iconst 0, 1) := by decide +kernel
theorem dX5_howManySound_3 : decode cX5_howManySound 3 = .ok (.istore_n 3, 1) := by decide +kernel
theorem dX5_howManySound_4 : decode cX5_howManySound 4 = .ok (.iload_n 3, 1) := by decide +kernel
theorem dX5_howManySound_5 : decode cX5_howManySound 5 = .ok (.aload_n 0, 1) := by decide +kernel
theorem dX5_howManySound_6 : decode cX5_howManySound 6 = .ok (.getfield 61, 3) := by decide +kernel
theorem dX5_howManySound_9 : decode cX5_howManySound 9 = .ok (.if_icmp .ge 21, 3) := by decide +kernel
theorem dX5_howManySound_12 : decode cX5_howManySound 12 = .ok (.aload_n 0, 1) := by decide +kernel
theorem dX5_howManySound_13 : decode cX5_howManySound 13 = .ok (.iload_n 3, 1) := by decide +kernel
theorem dX5_howManySound_14 : decode cX5_howManySound 14 = .ok (.iload_n 1, 1) := by decide +kernel
theorem dX5_howManySound_15 : decode cX5_howManySound 15 = .ok (.invokevirtual 99, 3) := by decide +kernel
theorem dX5_howManySound_18 : decode cX5_howManySound 18 = .ok (.ifCond .eq 6, 3) := by decide +kernel
theorem dX5_howManySound_21 : decode cX5_howManySound 21 = .ok (.iinc 2 1, 3) := by decide +kernel
theorem dX5_howManySound_24 : decode cX5_howManySound 24 = .ok (.iinc 3 1, 3) := by decide +kernel
theorem dX5_howManySound_27 : decode cX5_howManySound 27 = .ok (.goto (-23), 3) := by decide +kernel
theorem dX5_howManySound_30 : decode cX5_howManySound 30 = .ok (.iload_n 2, 1) := by decide +kernel
theorem dX5_howManySound_31 : decode cX5_howManySound 31 = .ok (.ireturn, 1) := by decide +kernel
set_option maxHeartbeats 4000000 in
set_option maxRecDepth 100000 in
theorem c_X5_howManySound (l : Launch) (D : va_G) (tys : List (ClassId × FieldType)) (base : Nat) (G : iv_G) (h0 : Nat) (g_h0 : Nat → Int32) (r_h0 : Nat → Nat) (a_h0 : G h0 = some (5, g_h0, r_h0)) (x_0 : Int32) (i_x_0 : iv_R 0 23 x_0) : Met l yX5_howManySound (Cond.code yX5_howManySound cX5_howManySound 4 (some .int) :: iv_W0) ({ frames := 3, cells := 0, slots := 0, locals := 64 }) (iv_Pc iv_sh D classes tys base G [.ref h0, .int x_0]) (iv_Qi iv_sh D classes tys base (fun v G' => G = G' ∧ iv_R (-2147483648) 2147483647 v)) 0 0 (iv_A base) := by
  refine iv_head (by decide) (Nat.le_of_ble_eq_true rfl) ?_
  intro p e s m args below meth c ls X hr hlocks hname hB hl
  have X := X
  have hx := X.1.1
  have hb := X.1.2.1
  have hl : lv_has ls 4 [(0, .ref h0), (1, .int x_0)] := hl
  refine lv_iconst (v := 0) hx hb dX5_howManySound_0 (by decide) ?_
  refine lv_istore_n (lv' := [(2, .int 0), (0, .ref h0), (1, .int x_0)]) hx hb dX5_howManySound_1 rfl hl (by decide) rfl (fun ls hl => ?_)
  refine lv_iconst (v := 0) hx hb dX5_howManySound_2 (by decide) ?_
  refine lv_istore_n (lv' := [(3, .int 0), (2, .int 0), (0, .ref h0), (1, .int x_0)]) hx hb dX5_howManySound_3 rfl hl (by decide) rfl (fun ls hl => ?_)
  have L_4 : ∀ (n_4 : Nat) (H : Heap) (locs : List Loc) (hB : iv_B iv_sh D classes tys base G s.heap H locs) (x1 : Int32) (i_x1 : iv_R (-2147483648) 2147483647 x1) (x2 : Int32) (i_x2 : iv_R 0 10 x2) (hn_4 : (11 - x2.toInt).toNat < n_4) (ls : Array Slot) (hl : lv_has ls 4 [(3, .int x2), (2, .int x1), (0, .ref h0), (1, .int x_0)]), W p l e ({ frames := 3, cells := 0, slots := 0, locals := 64 } : Room) s m args below meth c H locs 0 0 (MQ below (iv_Qi iv_sh D classes tys base (fun v G' => G = G' ∧ iv_R (-2147483648) 2147483647 v)) args s 0 0 (iv_A base)) (F0 m 4 ls []) := by
    intro n_4
    induction n_4 with
    | zero => intro H locs hB x1 i_x1 x2 i_x2 hn_4 ls hl; exact absurd hn_4 (Nat.not_lt_zero _)
    | succ n_4 ih_4 =>
      intro H locs hB x1 i_x1 x2 i_x2 hn_4 ls hl
      refine lv_iload_n hx hb dX5_howManySound_4 rfl (lv_at hl 0 rfl) ?_
      refine lv_aload_n hx hb dX5_howManySound_5 rfl (lv_at hl 2 rfl) ?_
      refine iv_geti X ft_X5 hB a_h0 sh_5 1 (by decide) rfl k_fl_X5_61 dX5_howManySound_6 (fun x3 e_x3 i_x3 => ?_)
      refine lv_icmp_ge (tgt := 30) hx hb dX5_howManySound_9 (by decide) (fun c4 => ?_) (fun c4 => ?_)
      · skip
        refine lv_iload_n hx hb dX5_howManySound_30 rfl (lv_at hl 1 rfl) ?_
        exact iv_iret X hr hlocks hB ⟨rfl, i_x1⟩ dX5_howManySound_31
      · skip
        have i4_x2 : iv_R 0 9 x2 := (i_x2.cutHi (n := 9) (iv_lt_r (iv_nle c4) i_x3 (by decide)))
        have i5_x3 : iv_R 1 10 x3 := (i_x3.cutLo (n := 1) (iv_lt_l (iv_nle c4) i_x2 (by decide)))
        refine lv_aload_n hx hb dX5_howManySound_12 rfl (lv_at hl 2 rfl) ?_
        refine lv_iload_n hx hb dX5_howManySound_13 rfl (lv_at hl 0 rfl) ?_
        refine lv_iload_n hx hb dX5_howManySound_14 rfl (lv_at hl 3 rfl) ?_
        refine iv_cVi X k_good k_mf_X5_soundsAt k_im_X5_soundsAt k_sel_X5_soundsAt k_ml_X5_99 ft_X5 hB a_h0 sh_5 (As := [.int x2, .int x_0]) (c_X5_soundsAt l D tys base G h0 g_h0 r_h0 a_h0 x2 i4_x2 x_0 i_x_0) ⟨rfl, rfl⟩ ⟨Nat.le_of_ble_eq_true rfl, Nat.le_of_ble_eq_true rfl⟩ ⟨Nat.le_of_ble_eq_true rfl, Nat.le_of_ble_eq_true rfl⟩ rfl rfl hl.1 (Nat.le_of_ble_eq_true rfl) dX5_howManySound_15 (fun x7 G9 H locs hq hB => ?_)
        obtain ⟨rfl, i_x7⟩ := hq
        refine lv_if_eq (tgt := 24) hx hb dX5_howManySound_18 (by decide) (fun c8 => ?_) (fun c8 => ?_)
        · skip
          have i8_x7 : iv_R 0 0 x7 := (i_x7.cutHi (n := 0) (iv_eq_r c8 q_0).2)
          refine iv_iinc hx hb i4_x2 (lo := 1) (hi := 10) (by decide) dX5_howManySound_24 hl (k := 0) rfl (by decide) (fun x10 ls e_x10 i_x10 hl => ?_)
          have hl : lv_has ls 4 [(3, .int x10), (2, .int x1), (0, .ref h0), (1, .int x_0)] := hl
          refine lv_goto (tgt := 4) hx hb dX5_howManySound_27 (by decide) ?_
          exact ih_4 _ _ hB x1 i_x1 x10 (i_x10.wk (by decide)) (iv_mup (c := 1) i_x2 (by decide) (by decide) (by omega) hn_4) _ (lv_sub hl [0, 1, 2, 3] rfl)
        · skip
          have i10_x7 : iv_R 1 1 x7 := iv_ne_lo c8 i_x7 q_0 (by decide)
          obtain ⟨x12, e_x12⟩ : ∃ y : Int32, y = x1 + Int32.ofInt 1 := ⟨_, rfl⟩
          refine lv_iinc (v := x12) (lv' := [(2, .int x12), (3, .int x2), (0, .ref h0), (1, .int x_0)]) hx hb dX5_howManySound_21 hl (k := 1) rfl e_x12.symm (by decide) rfl (fun ls hl => ?_)
          have i_x12 := iv_R.all x12
          refine iv_iinc hx hb i4_x2 (lo := 1) (hi := 10) (by decide) dX5_howManySound_24 hl (k := 1) rfl (by decide) (fun x13 ls e_x13 i_x13 hl => ?_)
          have hl : lv_has ls 4 [(3, .int x13), (2, .int x12), (0, .ref h0), (1, .int x_0)] := hl
          refine lv_goto (tgt := 4) hx hb dX5_howManySound_27 (by decide) ?_
          exact ih_4 _ _ hB x12 i_x12 x13 (i_x13.wk (by decide)) (iv_mup (c := 1) i_x2 (by decide) (by decide) (by omega) hn_4) _ (lv_sub hl [0, 1, 2, 3] rfl)
  exact L_4 _ _ _ hB 0 (q_0.wk (by decide)) 0 (q_0.wk (by decide)) (Nat.lt_succ_self _) _ (lv_sub hl [0, 1, 2, 3] rfl)
theorem dX11_ropes_0 : decode cX11_ropes 0 = .ok (.iconst 0, 1) := by decide +kernel
theorem dX11_ropes_1 : decode cX11_ropes 1 = .ok (.istore_n 2, 1) := by decide +kernel
theorem dX11_ropes_2 : decode cX11_ropes 2 = .ok (.iconst (-1), 1) := by decide +kernel
theorem dX11_ropes_3 : decode cX11_ropes 3 = .ok (.istore_n 3, 1) := by decide +kernel
theorem dX11_ropes_4 : decode cX11_ropes 4 = .ok (.iconst 0, 1) := by decide +kernel
theorem dX11_ropes_5 : decode cX11_ropes 5 = .ok (.istore 4, 2) := by decide +kernel
theorem dX11_ropes_7 : decode cX11_ropes 7 = .ok (.iload 4, 2) := by decide +kernel
theorem dX11_ropes_9 : decode cX11_ropes 9 = .ok (.bipush 24, 2) := by decide +kernel
theorem dX11_ropes_11 : decode cX11_ropes 11 = .ok (.if_icmp .ge 32, 3) := by decide +kernel
theorem dX11_ropes_14 : decode cX11_ropes 14 = .ok (.aload_n 0, 1) := by decide +kernel
theorem dX11_ropes_15 : decode cX11_ropes 15 = .ok (.getfield 12, 3) := by decide +kernel
theorem dX11_ropes_18 : decode cX11_ropes 18 = .ok (.iload 4, 2) := by decide +kernel
theorem dX11_ropes_20 : decode cX11_ropes 20 = .ok (.invokevirtual 285, 3) := by decide +kernel
theorem dX11_ropes_23 : decode cX11_ropes 23 = .ok (.istore 5, 2) := by decide +kernel
theorem dX11_ropes_25 : decode cX11_ropes 25 = .ok (.iload 5, 2) := by decide +kernel
theorem dX11_ropes_27 : decode cX11_ropes 27 = .ok (.iload_n 2, 1) := by decide +kernel
theorem dX11_ropes_28 : decode cX11_ropes 28 = .ok (.if_icmp .le 9, 3) := by decide +kernel
theorem dX11_ropes_31 : decode cX11_ropes 31 = .ok (.iload 5, 2) := by decide +kernel
theorem dX11_ropes_33 : decode cX11_ropes 33 = .ok (.istore_n 2, 1) := by decide +kernel
theorem dX11_ropes_34 : decode cX11_ropes 34 = .ok (.iload 4, 2) := by decide +kernel
theorem dX11_ropes_36 : decode cX11_ropes 36 = .ok (.istore_n 3, 1) := by decide +kernel
theorem dX11_ropes_37 : decode cX11_ropes 37 = .ok (.iinc 4 1, 3) := by decide +kernel
theorem dX11_ropes_40 : decode cX11_ropes 40 = .ok (.goto (-33), 3) := by decide +kernel
theorem dX11_ropes_43 : decode cX11_ropes 43 = .ok (.iload_n 1, 1) := by decide +kernel
theorem dX11_ropes_44 : decode cX11_ropes 44 = .ok (.iload_n 3, 1) := by decide +kernel
theorem dX11_ropes_45 : decode cX11_ropes 45 = .ok (.iload_n 2, 1) := by decide +kernel
theorem dX11_ropes_46 : decode cX11_ropes 46 = .ok (.invokestatic 282, 3) := by decide +kernel
theorem dX11_ropes_49 : decode cX11_ropes 49 = .ok (.ireturn, 1) := by decide +kernel
set_option maxHeartbeats 4000000 in
set_option maxRecDepth 100000 in
theorem c_X11_ropes (l : Launch) (D : va_G) (tys : List (ClassId × FieldType)) (base : Nat) (G : iv_G) (h0 : Nat) (g_h0 : Nat → Int32) (r_h0 : Nat → Nat) (a_h0 : G h0 = some (11, g_h0, r_h0)) (x_0 : Int32) (i_x_0 : iv_R (-2147483648) 2147483647 x_0) : Met l yX11_ropes (Cond.code yX11_ropes cX11_ropes 6 (some .int) :: iv_W0) ({ frames := 4, cells := 0, slots := 0, locals := 87 }) (iv_Pc iv_sh D classes tys base G [.ref h0, .int x_0]) (iv_Qi iv_sh D classes tys base (fun v G' => G = G' ∧ iv_R (-2147483648) 2147483647 v)) 0 0 (iv_A base) := by
  refine iv_head (by decide) (Nat.le_of_ble_eq_true rfl) ?_
  intro p e s m args below meth c ls X hr hlocks hname hB hl
  have X := X
  have hx := X.1.1
  have hb := X.1.2.1
  have hl : lv_has ls 6 [(0, .ref h0), (1, .int x_0)] := hl
  refine lv_iconst (v := 0) hx hb dX11_ropes_0 (by decide) ?_
  refine lv_istore_n (lv' := [(2, .int 0), (0, .ref h0), (1, .int x_0)]) hx hb dX11_ropes_1 rfl hl (by decide) rfl (fun ls hl => ?_)
  refine lv_iconst (v := (-1)) hx hb dX11_ropes_2 (by decide) ?_
  refine lv_istore_n (lv' := [(3, .int (-1)), (2, .int 0), (0, .ref h0), (1, .int x_0)]) hx hb dX11_ropes_3 rfl hl (by decide) rfl (fun ls hl => ?_)
  refine lv_iconst (v := 0) hx hb dX11_ropes_4 (by decide) ?_
  refine lv_istore (lv' := [(4, .int 0), (3, .int (-1)), (2, .int 0), (0, .ref h0), (1, .int x_0)]) hx hb dX11_ropes_5 hl (by decide) rfl (fun ls hl => ?_)
  have L_7 : ∀ (n_7 : Nat) (H : Heap) (locs : List Loc) (hB : iv_B iv_sh D classes tys base G s.heap H locs) (x1 : Int32) (i_x1 : iv_R 0 2147483647 x1) (x2 : Int32) (i_x2 : iv_R (-1) 23 x2) (x3 : Int32) (i_x3 : iv_R 0 24 x3) (hn_7 : (25 - x3.toInt).toNat < n_7) (ls : Array Slot) (hl : lv_has ls 6 [(4, .int x3), (3, .int x2), (2, .int x1), (0, .ref h0), (1, .int x_0)]), W p l e ({ frames := 4, cells := 0, slots := 0, locals := 87 } : Room) s m args below meth c H locs 0 0 (MQ below (iv_Qi iv_sh D classes tys base (fun v G' => G = G' ∧ iv_R (-2147483648) 2147483647 v)) args s 0 0 (iv_A base)) (F0 m 7 ls []) := by
    intro n_7
    induction n_7 with
    | zero => intro H locs hB x1 i_x1 x2 i_x2 x3 i_x3 hn_7 ls hl; exact absurd hn_7 (Nat.not_lt_zero _)
    | succ n_7 ih_7 =>
      intro H locs hB x1 i_x1 x2 i_x2 x3 i_x3 hn_7 ls hl
      refine lv_iload hx hb dX11_ropes_7 (lv_at hl 0 rfl) ?_
      refine lv_bipush (v := 24) hx hb dX11_ropes_9 (by decide) ?_
      refine lv_icmp_ge (tgt := 43) hx hb dX11_ropes_11 (by decide) (fun c4 => ?_) (fun c4 => ?_)
      · skip
        have i4_x3 : iv_R 24 24 x3 := (i_x3.cutLo (n := 24) (iv_le_l c4 q_24))
        refine lv_iload_n hx hb dX11_ropes_43 rfl (lv_at hl 4 rfl) ?_
        refine lv_iload_n hx hb dX11_ropes_44 rfl (lv_at hl 1 rfl) ?_
        refine lv_iload_n hx hb dX11_ropes_45 rfl (lv_at hl 2 rfl) ?_
        refine iv_cSi X k_good k_mf_X11_chosen k_st_X11_chosen k_ml_X11_282 hB (As := [.int x_0, .int x2, .int x1]) (c_X11_chosen l D tys base G x_0 i_x_0 x2 (i_x2.wk (by decide)) x1 (i_x1.wk (by decide))) ⟨rfl, rfl⟩ ⟨Nat.le_of_ble_eq_true rfl, Nat.le_of_ble_eq_true rfl⟩ ⟨Nat.le_of_ble_eq_true rfl, Nat.le_of_ble_eq_true rfl⟩ rfl rfl hl.1 (Nat.le_of_ble_eq_true rfl) dX11_ropes_46 (fun x6 G9 H locs hq hB => ?_)
        obtain ⟨rfl, i_x6⟩ := hq
        exact iv_iret X hr hlocks hB ⟨rfl, i_x6⟩ dX11_ropes_49
      · skip
        have i6_x3 : iv_R 0 23 x3 := (i_x3.cutHi (n := 23) (iv_lt_r (iv_nle c4) q_24 (by decide)))
        refine lv_aload_n hx hb dX11_ropes_14 rfl (lv_at hl 3 rfl) ?_
        refine iv_getr X ft_X11 hB a_h0 sh_11 0 (by decide) rfl k_fl_X11_12 dX11_ropes_15 (fun b8 g_b8 r_b8 e_b8 a_b8 => ?_)
        refine lv_iload hx hb dX11_ropes_18 (lv_at hl 0 rfl) ?_
        refine iv_cVi X k_good k_mf_X5_howManySound k_im_X5_howManySound k_sel_X5_howManySound k_ml_X11_285 ft_X5 hB a_b8 sh_5 (As := [.int x3]) (c_X5_howManySound l D tys base G b8 g_b8 r_b8 a_b8 x3 i6_x3) ⟨rfl, rfl⟩ ⟨Nat.le_of_ble_eq_true rfl, Nat.le_of_ble_eq_true rfl⟩ ⟨Nat.le_of_ble_eq_true rfl, Nat.le_of_ble_eq_true rfl⟩ rfl rfl hl.1 (Nat.le_of_ble_eq_true rfl) dX11_ropes_20 (fun x9 G9 H locs hq hB => ?_)
        obtain ⟨rfl, i_x9⟩ := hq
        refine lv_istore (lv' := [(5, .int x9), (4, .int x3), (3, .int x2), (2, .int x1), (0, .ref h0), (1, .int x_0)]) hx hb dX11_ropes_23 hl (by decide) rfl (fun ls hl => ?_)
        refine lv_iload hx hb dX11_ropes_25 (lv_at hl 0 rfl) ?_
        refine lv_iload_n hx hb dX11_ropes_27 rfl (lv_at hl 3 rfl) ?_
        refine lv_icmp_le (tgt := 37) hx hb dX11_ropes_28 (by decide) (fun c10 => ?_) (fun c10 => ?_)
        · skip
          refine iv_iinc hx hb i6_x3 (lo := 1) (hi := 24) (by decide) dX11_ropes_37 hl (k := 1) rfl (by decide) (fun x11 ls e_x11 i_x11 hl => ?_)
          have hl : lv_has ls 6 [(4, .int x11), (5, .int x9), (3, .int x2), (2, .int x1), (0, .ref h0), (1, .int x_0)] := hl
          refine lv_goto (tgt := 7) hx hb dX11_ropes_40 (by decide) ?_
          exact ih_7 _ _ hB x1 i_x1 x2 i_x2 x11 (i_x11.wk (by decide)) (iv_mup (c := 1) i_x3 (by decide) (by decide) (by omega) hn_7) _ (lv_sub hl [0, 2, 3, 4, 5] rfl)
        · skip
          have i11_x1 : iv_R 0 2147483646 x1 := (i_x1.cutHi (n := 2147483646) (iv_lt_r (iv_nle c10) i_x9 (by decide)))
          have i12_x9 : iv_R 1 2147483647 x9 := (i_x9.cutLo (n := 1) (iv_lt_l (iv_nle c10) i_x1 (by decide)))
          refine lv_iload hx hb dX11_ropes_31 (lv_at hl 0 rfl) ?_
          refine lv_istore_n (lv' := [(2, .int x9), (5, .int x9), (4, .int x3), (3, .int x2), (0, .ref h0), (1, .int x_0)]) hx hb dX11_ropes_33 rfl hl (by decide) rfl (fun ls hl => ?_)
          refine lv_iload hx hb dX11_ropes_34 (lv_at hl 2 rfl) ?_
          refine lv_istore_n (lv' := [(3, .int x3), (2, .int x9), (5, .int x9), (4, .int x3), (0, .ref h0), (1, .int x_0)]) hx hb dX11_ropes_36 rfl hl (by decide) rfl (fun ls hl => ?_)
          refine iv_iinc hx hb i6_x3 (lo := 1) (hi := 24) (by decide) dX11_ropes_37 hl (k := 3) rfl (by decide) (fun x14 ls e_x14 i_x14 hl => ?_)
          have hl : lv_has ls 6 [(4, .int x14), (3, .int x3), (2, .int x9), (5, .int x9), (0, .ref h0), (1, .int x_0)] := hl
          refine lv_goto (tgt := 7) hx hb dX11_ropes_40 (by decide) ?_
          exact ih_7 _ _ hB x9 (i12_x9.wk (by decide)) x3 (i6_x3.wk (by decide)) x14 (i_x14.wk (by decide)) (iv_mup (c := 1) i_x3 (by decide) (by decide) (by omega) hn_7) _ (lv_sub hl [0, 1, 2, 4, 5] rfl)
  exact L_7 _ _ _ hB 0 (q_0.wk (by decide)) (-1) (q_n1.wk (by decide)) 0 (q_0.wk (by decide)) (Nat.lt_succ_self _) _ (lv_sub hl [0, 1, 2, 3, 4] rfl)
theorem dX4_hourOf_0 : decode cX4_hourOf 0 = .ok (.iload_n 1, 1) := by decide +kernel
theorem dX4_hourOf_1 : decode cX4_hourOf 1 = .ok (.iconst 0, 1) := by decide +kernel
theorem dX4_hourOf_2 : decode cX4_hourOf 2 = .ok (.bipush 9, 2) := by decide +kernel
theorem dX4_hourOf_4 : decode cX4_hourOf 4 = .ok (.invokestatic 29, 3) := by decide +kernel
theorem dX4_hourOf_7 : decode cX4_hourOf 7 = .ok (.ifCond .eq 12, 3) := by decide +kernel
theorem dX4_hourOf_10 : decode cX4_hourOf 10 = .ok (.aload_n 0, 1) := by decide +kernel
theorem dX4_hourOf_11 : decode cX4_hourOf 11 = .ok (.getfield 9, 3) := by decide +kernel
theorem dX4_hourOf_14 : decode cX4_hourOf 14 = .ok (.iload_n 1, 1) := by decide +kernel
theorem dX4_hourOf_15 : decode cX4_hourOf 15 = .ok (.iaload, 1) := by decide +kernel
theorem dX4_hourOf_16 : decode cX4_hourOf 16 = .ok (.goto 4, 3) := by decide +kernel
theorem dX4_hourOf_19 : decode cX4_hourOf 19 = .ok (.iconst (-1), 1) := by decide +kernel
theorem dX4_hourOf_20 : decode cX4_hourOf 20 = .ok (.ireturn, 1) := by decide +kernel
set_option maxHeartbeats 4000000 in
set_option maxRecDepth 100000 in
theorem c_X4_hourOf (l : Launch) (D : va_G) (tys : List (ClassId × FieldType)) (base : Nat) (G : iv_G) (h0 : Nat) (g_h0 : Nat → Int32) (r_h0 : Nat → Nat) (a_h0 : G h0 = some (4, g_h0, r_h0)) (x_0 : Int32) (i_x_0 : iv_R (-2147483648) 2147483647 x_0) : Met l yX4_hourOf (Cond.code yX4_hourOf cX4_hourOf 2 (some .int) :: iv_W0) ({ frames := 1, cells := 0, slots := 0, locals := 22 }) (iv_Pc iv_sh D classes tys base G [.ref h0, .int x_0]) (iv_Qi iv_sh D classes tys base (fun v G' => G = G' ∧ iv_R (-2147483648) 2147483647 v)) 0 0 (iv_A base) := by
  refine iv_head (by decide) (Nat.le_of_ble_eq_true rfl) ?_
  intro p e s m args below meth c ls X hr hlocks hname hB hl
  have X := X
  have hx := X.1.1
  have hb := X.1.2.1
  have hl : lv_has ls 2 [(0, .ref h0), (1, .int x_0)] := hl
  refine lv_iload_n hx hb dX4_hourOf_0 rfl (lv_at hl 1 rfl) ?_
  refine lv_iconst (v := 0) hx hb dX4_hourOf_1 (by decide) ?_
  refine lv_bipush (v := 9) hx hb dX4_hourOf_2 (by decide) ?_
  refine iv_cSNi X k_good k_mf_X11_isWithin k_st_X11_isWithin (k_mn_X4_29 X.2.2) hB (As := [.int x_0, .int 0, .int 9]) (c_X11_isWithin l D tys base G x_0 i_x_0 0 (q_0.wk (by decide)) 9 (q_9.wk (by decide))) ⟨rfl, rfl⟩ ⟨Nat.le_of_ble_eq_true rfl, Nat.le_of_ble_eq_true rfl⟩ ⟨Nat.le_of_ble_eq_true rfl, Nat.le_of_ble_eq_true rfl⟩ rfl rfl hl.1 (Nat.le_of_ble_eq_true rfl) dX4_hourOf_4 (fun x1 G9 H locs hq hB => ?_)
  obtain ⟨rfl, i_x1, hp2⟩ := hq
  have k3 : ¬ x1 = 0 → iv_R 0 9 x_0 := fun h => ⟨iv_max i_x_0.1 (Int.le_trans q_0.1 (hp2.1 h).1) (by decide), iv_min i_x_0.2 (Int.le_trans (hp2.1 h).2 q_9.2) (by decide)⟩
  refine lv_if_eq (tgt := 19) hx hb dX4_hourOf_7 (by decide) (fun c4 => ?_) (fun c4 => ?_)
  · skip
    have i4_x1 : iv_R 0 0 x1 := (i_x1.cutHi (n := 0) (iv_eq_r c4 q_0).2)
    refine lv_iconst (v := (-1)) hx hb dX4_hourOf_19 (by decide) ?_
    exact iv_iret X hr hlocks hB ⟨rfl, (q_n1.wk (by decide))⟩ dX4_hourOf_20
  · skip
    have i5_x1 : iv_R 1 1 x1 := iv_ne_lo c4 i_x1 q_0 (by decide)
    have i6_x_0 : iv_R 0 9 x_0 := ((i_x_0.cutLo (n := 0) (k3 c4).1).cutHi (n := 9) (k3 c4).2)
    refine lv_aload_n hx hb dX4_hourOf_10 rfl (lv_at hl 0 rfl) ?_
    refine iv_getr X ft_X4 hB a_h0 sh_4 1 (by decide) rfl k_fl_X4_9 dX4_hourOf_11 (fun b8 g_b8 r_b8 e_b8 a_b8 => ?_)
    refine lv_iload_n hx hb dX4_hourOf_14 rfl (lv_at hl 1 rfl) ?_
    refine iv_ald X hB a_b8 sh_31 (iv_in i6_x_0 (by decide)) dX4_hourOf_15 (fun x9 e_x9 i_x9 => ?_)
    refine lv_goto (tgt := 20) hx hb dX4_hourOf_16 (by decide) ?_
    exact iv_iret X hr hlocks hB ⟨rfl, i_x9⟩ dX4_hourOf_20
theorem dX4_canSit_0 : decode cX4_canSit 0 = .ok (.iconst 0, 1) := by decide +kernel
theorem dX4_canSit_1 : decode cX4_canSit 1 = .ok (.istore 4, 2) := by decide +kernel
theorem dX4_canSit_3 : decode cX4_canSit 3 = .ok (.iload 4, 2) := by decide +kernel
theorem dX4_canSit_5 : decode cX4_canSit 5 = .ok (.iload_n 0, 1) := by decide +kernel
theorem dX4_canSit_6 : decode cX4_canSit 6 = .ok (.if_icmp .ge 29, 3) := by decide +kernel
theorem dX4_canSit_9 : decode cX4_canSit 9 = .ok (.aload_n 3, 1) := by decide +kernel
theorem dX4_canSit_10 : decode cX4_canSit 10 = .ok (.iload 4, 2) := by decide +kernel
theorem dX4_canSit_12 : decode cX4_canSit 12 = .ok (.iaload, 1) := by decide +kernel
theorem dX4_canSit_13 : decode cX4_canSit 13 = .ok (.iload_n 1, 1) := by decide +kernel
theorem dX4_canSit_14 : decode cX4_canSit 14 = .ok (.if_icmp .ne 15, 3) := by decide +kernel
theorem dX4_canSit_17 : decode cX4_canSit 17 = .ok (.aload_n 2, 1) := by decide +kernel
theorem dX4_canSit_18 : decode cX4_canSit 18 = .ok (.iload_n 0, 1) := by decide +kernel
theorem dX4_canSit_19 : decode cX4_canSit 19 = .ok (.iload 4, 2) := by decide +kernel
theorem dX4_canSit_21 : decode cX4_canSit 21 = .ok (.invokevirtual 53, 3) := by decide +kernel
theorem dX4_canSit_24 : decode cX4_canSit 24 = .ok (.ifCond .eq 5, 3) := by decide +kernel
theorem dX4_canSit_27 : decode cX4_canSit 27 = .ok (.iconst 0, 1) := by decide +kernel
theorem dX4_canSit_28 : decode cX4_canSit 28 = .ok (.ireturn, 1) := by decide +kernel
theorem dX4_canSit_29 : decode cX4_canSit 29 = .ok (.iinc 4 1, 3) := by decide +kernel
theorem dX4_canSit_32 : decode cX4_canSit 32 = .ok (.goto (-29), 3) := by decide +kernel
theorem dX4_canSit_35 : decode cX4_canSit 35 = .ok (.iconst 1, 1) := by decide +kernel
theorem dX4_canSit_36 : decode cX4_canSit 36 = .ok (.ireturn, 1) := by decide +kernel
set_option maxHeartbeats 4000000 in
set_option maxRecDepth 100000 in
theorem c_X4_canSit (l : Launch) (D : va_G) (tys : List (ClassId × FieldType)) (base : Nat) (G : iv_G) (x_0 : Int32) (i_x_0 : iv_R 0 9 x_0) (x_1 : Int32) (i_x_1 : iv_R 0 9 x_1) (h3 : Nat) (g_h3 : Nat → Int32) (r_h3 : Nat → Nat) (a_h3 : G h3 = some (5, g_h3, r_h3)) (h4 : Nat) (g_h4 : Nat → Int32) (r_h4 : Nat → Nat) (a_h4 : G h4 = some (31, g_h4, r_h4)) : Met l yX4_canSit (Cond.code yX4_canSit cX4_canSit 5 (some .boolean) :: iv_W0) ({ frames := 2, cells := 0, slots := 0, locals := 35 }) (iv_Pc iv_sh D classes tys base G [.int x_0, .int x_1, .ref h3, .ref h4]) (iv_Qi iv_sh D classes tys base (fun v G' => G = G' ∧ iv_R 0 1 v ∧ (v = 0 → iv_R 1 9 x_0))) 0 0 (iv_A base) := by
  refine iv_head (by decide) (Nat.le_of_ble_eq_true rfl) ?_
  intro p e s m args below meth c ls X hr hlocks hname hB hl
  have X := X
  have hx := X.1.1
  have hb := X.1.2.1
  have hl : lv_has ls 5 [(0, .int x_0), (1, .int x_1), (2, .ref h3), (3, .ref h4)] := hl
  refine lv_iconst (v := 0) hx hb dX4_canSit_0 (by decide) ?_
  refine lv_istore (lv' := [(4, .int 0), (0, .int x_0), (1, .int x_1), (2, .ref h3), (3, .ref h4)]) hx hb dX4_canSit_1 hl (by decide) rfl (fun ls hl => ?_)
  have L_3 : ∀ (n_3 : Nat) (H : Heap) (locs : List Loc) (hB : iv_B iv_sh D classes tys base G s.heap H locs) (x1 : Int32) (i_x1 : iv_R 0 9 x1) (hn_3 : (10 - x1.toInt).toNat < n_3) (ls : Array Slot) (hl : lv_has ls 5 [(4, .int x1), (0, .int x_0), (1, .int x_1), (2, .ref h3), (3, .ref h4)]), W p l e ({ frames := 2, cells := 0, slots := 0, locals := 35 } : Room) s m args below meth c H locs 0 0 (MQ below (iv_Qi iv_sh D classes tys base (fun v G' => G = G' ∧ iv_R 0 1 v ∧ (v = 0 → iv_R 1 9 x_0))) args s 0 0 (iv_A base)) (F0 m 3 ls []) := by
    intro n_3
    induction n_3 with
    | zero => intro H locs hB x1 i_x1 hn_3 ls hl; exact absurd hn_3 (Nat.not_lt_zero _)
    | succ n_3 ih_3 =>
      intro H locs hB x1 i_x1 hn_3 ls hl
      refine lv_iload hx hb dX4_canSit_3 (lv_at hl 0 rfl) ?_
      refine lv_iload_n hx hb dX4_canSit_5 rfl (lv_at hl 1 rfl) ?_
      refine lv_icmp_ge (tgt := 35) hx hb dX4_canSit_6 (by decide) (fun c2 => ?_) (fun c2 => ?_)
      · skip
        refine lv_iconst (v := 1) hx hb dX4_canSit_35 (by decide) ?_
        exact iv_zret X hr hlocks hB (q_1.wk (by decide)) ⟨rfl, (q_1.wk (by decide)), fun h => absurd h (iv_nz q_1 (by decide))⟩ dX4_canSit_36
      · skip
        have i2_x1 : iv_R 0 8 x1 := (i_x1.cutHi (n := 8) (iv_lt_r (iv_nle c2) i_x_0 (by decide)))
        have i3_x_0 : iv_R 1 9 x_0 := (i_x_0.cutLo (n := 1) (iv_lt_l (iv_nle c2) i_x1 (by decide)))
        refine lv_aload_n hx hb dX4_canSit_9 rfl (lv_at hl 4 rfl) ?_
        refine lv_iload hx hb dX4_canSit_10 (lv_at hl 0 rfl) ?_
        refine iv_ald X hB a_h4 sh_31 (iv_in i2_x1 (by decide)) dX4_canSit_12 (fun x5 e_x5 i_x5 => ?_)
        refine lv_iload_n hx hb dX4_canSit_13 rfl (lv_at hl 2 rfl) ?_
        refine lv_icmp_ne (tgt := 29) hx hb dX4_canSit_14 (by decide) (fun c6 => ?_) (fun c6 => ?_)
        · skip
          refine iv_iinc hx hb i2_x1 (lo := 1) (hi := 9) (by decide) dX4_canSit_29 hl (k := 0) rfl (by decide) (fun x7 ls e_x7 i_x7 hl => ?_)
          have hl : lv_has ls 5 [(4, .int x7), (0, .int x_0), (1, .int x_1), (2, .ref h3), (3, .ref h4)] := hl
          refine lv_goto (tgt := 3) hx hb dX4_canSit_32 (by decide) ?_
          exact ih_3 _ _ hB x7 (i_x7.wk (by decide)) (iv_mup (c := 1) i_x1 (by decide) (by decide) (by omega) hn_3) _ (lv_sub hl [0, 1, 2, 3, 4] rfl)
        · skip
          have i7_x5 : iv_R 0 9 x5 := ((i_x5.cutLo (n := 0) (iv_eq_r c6 i_x_1).1).cutHi (n := 9) (iv_eq_r c6 i_x_1).2)
          refine lv_aload_n hx hb dX4_canSit_17 rfl (lv_at hl 3 rfl) ?_
          refine lv_iload_n hx hb dX4_canSit_18 rfl (lv_at hl 1 rfl) ?_
          refine lv_iload hx hb dX4_canSit_19 (lv_at hl 0 rfl) ?_
          refine iv_cVi X k_good k_mf_X5_areNear k_im_X5_areNear k_sel_X5_areNear k_ml_X4_53 ft_X5 hB a_h3 sh_5 (As := [.int x_0, .int x1]) (c_X5_areNear l D tys base G h3 g_h3 r_h3 a_h3 x_0 (i3_x_0.wk (by decide)) x1 (i2_x1.wk (by decide))) ⟨rfl, rfl⟩ ⟨Nat.le_of_ble_eq_true rfl, Nat.le_of_ble_eq_true rfl⟩ ⟨Nat.le_of_ble_eq_true rfl, Nat.le_of_ble_eq_true rfl⟩ rfl rfl hl.1 (Nat.le_of_ble_eq_true rfl) dX4_canSit_21 (fun x9 G9 H locs hq hB => ?_)
          obtain ⟨rfl, i_x9⟩ := hq
          refine lv_if_eq (tgt := 29) hx hb dX4_canSit_24 (by decide) (fun c10 => ?_) (fun c10 => ?_)
          · skip
            have i10_x9 : iv_R 0 0 x9 := (i_x9.cutHi (n := 0) (iv_eq_r c10 q_0).2)
            refine iv_iinc hx hb i2_x1 (lo := 1) (hi := 9) (by decide) dX4_canSit_29 hl (k := 0) rfl (by decide) (fun x12 ls e_x12 i_x12 hl => ?_)
            have hl : lv_has ls 5 [(4, .int x12), (0, .int x_0), (1, .int x_1), (2, .ref h3), (3, .ref h4)] := hl
            refine lv_goto (tgt := 3) hx hb dX4_canSit_32 (by decide) ?_
            exact ih_3 _ _ hB x12 (i_x12.wk (by decide)) (iv_mup (c := 1) i_x1 (by decide) (by decide) (by omega) hn_3) _ (lv_sub hl [0, 1, 2, 3, 4] rfl)
          · skip
            have i12_x9 : iv_R 1 1 x9 := iv_ne_lo c10 i_x9 q_0 (by decide)
            refine lv_iconst (v := 0) hx hb dX4_canSit_27 (by decide) ?_
            exact iv_zret X hr hlocks hB (q_0.wk (by decide)) ⟨rfl, (q_0.wk (by decide)), fun _ => i3_x_0⟩ dX4_canSit_28
  exact L_3 _ _ _ hB 0 (q_0.wk (by decide)) (Nat.lt_succ_self _) _ (lv_sub hl [0, 1, 2, 3, 4] rfl)
