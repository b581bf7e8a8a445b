theorem dX12_undo_0 : decode cX12_undo 0 = .ok (.aload_n 0, 1) := by decide +kernel
theorem dX12_undo_1 : decode cX12_undo 1 = .ok (.getfield 60, 3) := by decide +kernel
theorem dX12_undo_4 : decode cX12_undo 4 = .ok (.ifCond .ne 5, 3) := by decide +kernel
theorem dX12_undo_7 : decode cX12_undo 7 = .ok (.iconst 0, 1) := by decide +kernel
theorem dX12_undo_8 : decode cX12_undo 8 = .ok (.ireturn, 1) := by decide +kernel
theorem dX12_undo_9 : decode cX12_undo 9 = .ok (.aload_n 0, 1) := by decide +kernel
theorem dX12_undo_10 : decode cX12_undo 10 = .ok (.dup, 1) := by decide +kernel
theorem dX12_undo_11 : decode cX12_undo 11 = .ok (.getfield 60, 3) := by decide +kernel
theorem dX12_undo_14 : decode cX12_undo 14 = .ok (.iconst 1, 1) := by decide +kernel
theorem dX12_undo_15 : decode cX12_undo 15 = .ok (.isub, 1) := by decide +kernel
theorem dX12_undo_16 : decode cX12_undo 16 = .ok (.putfield 60, 3) := by decide +kernel
theorem dX12_undo_19 : decode cX12_undo 19 = .ok (.iconst 0, 1) := by decide +kernel
theorem dX12_undo_20 : decode cX12_undo 20 = .ok (.istore_n 1, 1) := by decide +kernel
theorem dX12_undo_21 : decode cX12_undo 21 = .ok (.iload_n 1, 1) := by decide +kernel
theorem dX12_undo_22 : decode cX12_undo 22 = .ok (.sipush 146, 3) := by decide +kernel
theorem dX12_undo_25 : decode cX12_undo 25 = .ok (.if_icmp .ge 30, 3) := by decide +kernel
theorem dX12_undo_28 : decode cX12_undo 28 = .ok (.aload_n 0, 1) := by decide +kernel
theorem dX12_undo_29 : decode cX12_undo 29 = .ok (.getfield 7, 3) := by decide +kernel
theorem dX12_undo_32 : decode cX12_undo 32 = .ok (.iload_n 1, 1) := by decide +kernel
theorem dX12_undo_33 : decode cX12_undo 33 = .ok (.aload_n 0, 1) := by decide +kernel
theorem dX12_undo_34 : decode cX12_undo 34 = .ok (.getfield 16, 3) := by decide +kernel
theorem dX12_undo_37 : decode cX12_undo 37 = .ok (.sipush 146, 3) := by decide +kernel
theorem dX12_undo_40 : decode cX12_undo 40 = .ok (.aload_n 0, 1) := by decide +kernel
theorem dX12_undo_41 : decode cX12_undo 41 = .ok (.getfield 60, 3) := by decide +kernel
theorem dX12_undo_44 : decode cX12_undo 44 = .ok (.imul, 1) := by decide +kernel
theorem dX12_undo_45 : decode cX12_undo 45 = .ok (.iload_n 1, 1) := by decide +kernel
theorem dX12_undo_46 : decode cX12_undo 46 = .ok (.iadd, 1) := by decide +kernel
theorem dX12_undo_47 : decode cX12_undo 47 = .ok (.iaload, 1) := by decide +kernel
theorem dX12_undo_48 : decode cX12_undo 48 = .ok (.iastore, 1) := by decide +kernel
theorem dX12_undo_49 : decode cX12_undo 49 = .ok (.iinc 1 1, 3) := by decide +kernel
theorem dX12_undo_52 : decode cX12_undo 52 = .ok (.goto (-31), 3) := by decide +kernel
theorem dX12_undo_55 : decode cX12_undo 55 = .ok (.iconst 1, 1) := by decide +kernel
theorem dX12_undo_56 : decode cX12_undo 56 = .ok (.ireturn, 1) := by decide +kernel
set_option maxHeartbeats 4000000 in
set_option maxRecDepth 100000 in
theorem c_X12_undo (l : Launch) (D : va_G) (tys : List (ClassId × FieldType)) (base : Nat) (G : iv_G) (h0 : Nat) (g_h0 : Nat → Int32) (r_h0 : Nat → Nat) (a_h0 : G h0 = some (12, g_h0, r_h0)) : Met l yX12_undo (Cond.code yX12_undo cX12_undo 2 (some .boolean) :: iv_W0) ({ frames := 0, cells := 0, slots := 0, locals := 0 }) (iv_Pc iv_sh D classes tys base G [.ref h0]) (iv_Qi iv_sh D classes tys base (fun v G' => iv_Md [12, 60] G G' ∧ iv_R 0 1 v)) 0 0 (iv_A base) := by
  refine iv_head (by decide) (Nat.le_of_ble_eq_true rfl) ?_
  intro p e s m args below meth c ls X hr hlocks hname hB hl
  have X := X
  have hx := X.1.1
  have hb := X.1.2.1
  have hM : iv_Md [12, 60] G G := iv_Md.rf
  have hl : lv_has ls 2 [(0, .ref h0)] := hl
  refine lv_aload_n hx hb dX12_undo_0 rfl (lv_at hl 0 rfl) ?_
  refine iv_geti X ft_X12 hB a_h0 sh_12 3 (by decide) rfl k_fl_X12_60 dX12_undo_1 (fun x1 e_x1 i_x1 => ?_)
  refine lv_if_ne (tgt := 9) hx hb dX12_undo_4 (by decide) (fun c2 => ?_) (fun c2 => ?_)
  · skip
    have i2_x1 : iv_R 1 6 x1 := iv_ne_lo c2 i_x1 q_0 (by decide)
    refine lv_aload_n hx hb dX12_undo_9 rfl (lv_at hl 0 rfl) ?_
    refine lv_dup hx hb dX12_undo_10 rfl ?_
    refine iv_geti0 X ft_X12 hB a_h0 sh_12 3 (by decide) rfl k_fl_X12_60 dX12_undo_11 e_x1 ?_
    refine lv_iconst (v := 1) hx hb dX12_undo_14 (by decide) ?_
    refine iv_isub hx hb i2_x1 q_1 (lo := 0) (hi := 5) (by decide) dX12_undo_15 (fun x4 e_x4 i_x4 => ?_)
    have e_x4 : x4.toInt = x1.toInt - 1 := e_x4
    refine iv_puti X ft_X12 hB a_h0 sh_12 3 (by decide) rfl rfl k_fl_X12_60 rfl (i_x4.wk (by decide)) rfl rfl dX12_undo_16 (fun H locs hB => ?_)
    have hm := iv_Md.put (x := x4) a_h0 (j := 3) (by decide) (by decide)
    have h9 := iv_up_eq (G := G) (a := h0) (k := (12, upd g_h0 3 x4, r_h0))
    generalize iv_up G h0 _ = G5 at hB hm h9
    have hM := hM.stp hm (by decide)
    generalize hgn_g6 : upd g_h0 _ _ = g6 at h9
    have a_h0 := h9
    have e9_g6 : x4 = g6 3 := by rw [← hgn_g6]; simp [upd]
    refine lv_iconst (v := 0) hx hb dX12_undo_19 (by decide) ?_
    refine lv_istore_n (lv' := [(1, .int 0), (0, .ref h0)]) hx hb dX12_undo_20 rfl hl (by decide) rfl (fun ls hl => ?_)
    have L_21 : ∀ (n_21 : Nat) (G10 : iv_G) (hM : iv_Md [12, 60] G G10) (H : Heap) (locs : List Loc) (hB : iv_B iv_sh D classes tys base G10 s.heap H locs) (g8 : Nat → Int32) (r9 : Nat → Nat) (a_h0 : G10 h0 = some (12, g8, r9)) (n_g8 : iv_R 0 5 (g8 3)) (x7 : Int32) (i_x7 : iv_R 0 255 x7) (hn_21 : (256 - x7.toInt).toNat < n_21) (ls : Array Slot) (hl : lv_has ls 2 [(1, .int x7), (0, .ref h0)]), W p l e ({ frames := 0, cells := 0, slots := 0, locals := 0 } : Room) s m args below meth c H locs 0 0 (MQ below (iv_Qi iv_sh D classes tys base (fun v G' => iv_Md [12, 60] G G' ∧ iv_R 0 1 v)) args s 0 0 (iv_A base)) (F0 m 21 ls []) := by
      intro n_21
      induction n_21 with
      | zero => intro G10 hM H locs hB g8 r9 a_h0 n_g8 x7 i_x7 hn_21 ls hl; exact absurd hn_21 (Nat.not_lt_zero _)
      | succ n_21 ih_21 =>
        intro G10 hM H locs hB g8 r9 a_h0 n_g8 x7 i_x7 hn_21 ls hl
        refine lv_iload_n hx hb dX12_undo_21 rfl (lv_at hl 0 rfl) ?_
        refine lv_sipush (v := 146) hx hb dX12_undo_22 (by decide) ?_
        refine lv_icmp_ge (tgt := 55) hx hb dX12_undo_25 (by decide) (fun c11 => ?_) (fun c11 => ?_)
        · skip
          have i11_x7 : iv_R 146 255 x7 := (i_x7.cutLo (n := 146) (iv_le_l c11 q_146))
          refine lv_iconst (v := 1) hx hb dX12_undo_55 (by decide) ?_
          exact iv_zret X hr hlocks hB (q_1.wk (by decide)) ⟨hM, (q_1.wk (by decide))⟩ dX12_undo_56
        · skip
          have i12_x7 : iv_R 0 145 x7 := (i_x7.cutHi (n := 145) (iv_lt_r (iv_nle c11) q_146 (by decide)))
          refine lv_aload_n hx hb dX12_undo_28 rfl (lv_at hl 1 rfl) ?_
          refine iv_getr X ft_X12 hB a_h0 sh_12 0 (by decide) rfl k_fl_X12_7 dX12_undo_29 (fun b14 g_b14 r_b14 e_b14 a_b14 => ?_)
          refine lv_iload_n hx hb dX12_undo_32 rfl (lv_at hl 0 rfl) ?_
          refine lv_aload_n hx hb dX12_undo_33 rfl (lv_at hl 1 rfl) ?_
          refine iv_getr X ft_X12 hB a_h0 sh_12 2 (by decide) rfl k_fl_X12_16 dX12_undo_34 (fun b15 g_b15 r_b15 e_b15 a_b15 => ?_)
          refine lv_sipush (v := 146) hx hb dX12_undo_37 (by decide) ?_
          refine lv_aload_n hx hb dX12_undo_40 rfl (lv_at hl 1 rfl) ?_
          refine iv_geti X ft_X12 hB a_h0 sh_12 3 (by decide) rfl k_fl_X12_60 dX12_undo_41 (fun x16 e_x16 i_x16 => ?_)
          have i16_x16 : iv_R 0 5 x16 := by rw [e_x16]; exact n_g8
          refine iv_imul hx hb q_146 i16_x16 (lo := 0) (hi := 730) (by decide) dX12_undo_44 (fun x18 e_x18 i_x18 => ?_)
          have e_x18 : x18.toInt = 146 * x16.toInt := e_x18
          refine lv_iload_n hx hb dX12_undo_45 rfl (lv_at hl 0 rfl) ?_
          refine iv_iadd hx hb i_x18 i12_x7 (lo := 0) (hi := 875) (by decide) dX12_undo_46 (fun x19 e_x19 i_x19 => ?_)
          refine iv_aldP X hB a_b15 sh_62 (iv_in i_x19 (by decide)) dX12_undo_47 (fun hP => ?_)
          refine lv_topi (fun x20 e_x20 => ?_)
          have i_x20 := iv_R.all x20
          have hb_x20 : iv_R (iv_wb (x19.toNatClampNeg % 146)).1 (iv_wb (x19.toNatClampNeg % 146)).2 x20 := by rw [e_x20]; exact hP _ (iv_inN (iv_in i_x19 (by decide)))
          refine iv_astP X hB a_b14 sh_60 (iv_in i12_x7 (by decide)) (fun h => iv_wP.up7 h i12_x7 (by decide) (by have q0 := i12_x7.1; have r0 := i12_x7.2; have q1 := i_x19.1; have r1 := i_x19.2; have q2 := i_x18.1; have r2 := i_x18.2; have q3 := i16_x16.1; have r3 := i16_x16.2; have q4 := i12_x7.1; have r4 := i12_x7.2; have w1 : x7.toNatClampNeg = x7.toInt.toNat := rfl; have w2 : x19.toNatClampNeg = x19.toInt.toNat := rfl; have w3 : x7.toNatClampNeg % 146 = x19.toNatClampNeg % 146 := (by omega); rw [w3]; exact hb_x20)) dX12_undo_48 (fun H locs hB => ?_)
          have hm := iv_Md.put (x := x20) a_b14 (j := x7.toNatClampNeg) (iv_n146 i12_x7 (by decide)) (fun h => absurd h (by decide))
          have h9 := iv_up_eq (G := G10) (a := b14) (k := (60, upd g_b14 x7.toNatClampNeg x20, r_b14))
          generalize iv_up G10 b14 _ = G21 at hB hm h9
          have hM := hM.stp hm (by decide)
          generalize hgn_g22 : upd g_b14 _ _ = g22 at h9
          have a_h0 := hm.at a_h0 (by decide)
          have a_b14 := h9
          refine iv_iinc hx hb i12_x7 (lo := 1) (hi := 146) (by decide) dX12_undo_49 hl (k := 0) rfl (by decide) (fun x23 ls e_x23 i_x23 hl => ?_)
          have hl : lv_has ls 2 [(1, .int x23), (0, .ref h0)] := hl
          refine lv_goto (tgt := 21) hx hb dX12_undo_52 (by decide) ?_
          exact ih_21 G21 hM _ _ hB g8 r9 a_h0 n_g8 x23 (i_x23.wk (by decide)) (iv_mup (c := 1) i_x7 (by decide) (by decide) (by omega) hn_21) _ (lv_sub hl [0, 1] rfl)
    exact L_21 _ G5 hM _ _ hB g6 r_h0 a_h0 (by rw [← e9_g6]; exact i_x4) 0 (q_0.wk (by decide)) (Nat.lt_succ_self _) _ (lv_sub hl [0, 1] rfl)
  · skip
    have i23_x1 : iv_R 0 0 x1 := (i_x1.cutHi (n := 0) (iv_eq_r c2 q_0).2)
    refine lv_iconst (v := 0) hx hb dX12_undo_7 (by decide) ?_
    exact iv_zret X hr hlocks hB (q_0.wk (by decide)) ⟨hM, (q_0.wk (by decide))⟩ dX12_undo_8
