theorem dX12_silence_0 : decode cX12_silence 0 = .ok (.iload_n 1, 1) := by decide +kernel
theorem dX12_silence_1 : decode cX12_silence 1 = .ok (.iconst 0, 1) := by decide +kernel
theorem dX12_silence_2 : decode cX12_silence 2 = .ok (.iconst 1, 1) := by decide +kernel
theorem dX12_silence_3 : decode cX12_silence 3 = .ok (.invokestatic 56, 3) := by decide +kernel
theorem dX12_silence_6 : decode cX12_silence 6 = .ok (.ifCond .ne 5, 3) := by decide +kernel
theorem dX12_silence_9 : decode cX12_silence 9 = .ok (.iconst (-1), 1) := by decide +kernel
theorem dX12_silence_10 : decode cX12_silence 10 = .ok (.ireturn, 1) := by decide +kernel
theorem dX12_silence_11 : decode cX12_silence 11 = .ok (.iconst 0, 1) := by decide +kernel
theorem dX12_silence_12 : decode cX12_silence 12 = .ok (.istore_n 2, 1) := by decide +kernel
theorem dX12_silence_13 : decode cX12_silence 13 = .ok (.iconst (-1), 1) := by decide +kernel
theorem dX12_silence_14 : decode cX12_silence 14 = .ok (.istore_n 3, 1) := by decide +kernel
theorem dX12_silence_15 : decode cX12_silence 15 = .ok (.iconst 0, 1) := by decide +kernel
theorem dX12_silence_16 : decode cX12_silence 16 = .ok (.istore 4, 2) := by decide +kernel
theorem dX12_silence_18 : decode cX12_silence 18 = .ok (.iload 4, 2) := by decide +kernel
theorem dX12_silence_20 : decode cX12_silence 20 = .ok (.bipush 24, 2) := by decide +kernel
theorem dX12_silence_22 : decode cX12_silence 22 = .ok (.if_icmp .ge 32, 3) := by decide +kernel
theorem dX12_silence_25 : decode cX12_silence 25 = .ok (.aload_n 0, 1) := by decide +kernel
theorem dX12_silence_26 : decode cX12_silence 26 = .ok (.iload 4, 2) := by decide +kernel
theorem dX12_silence_28 : decode cX12_silence 28 = .ok (.invokevirtual 377, 3) := by decide +kernel
theorem dX12_silence_31 : decode cX12_silence 31 = .ok (.istore 5, 2) := by decide +kernel
theorem dX12_silence_33 : decode cX12_silence 33 = .ok (.iload 5, 2) := by decide +kernel
theorem dX12_silence_35 : decode cX12_silence 35 = .ok (.iload_n 2, 1) := by decide +kernel
theorem dX12_silence_36 : decode cX12_silence 36 = .ok (.if_icmp .gt 6, 3) := by decide +kernel
theorem dX12_silence_39 : decode cX12_silence 39 = .ok (.goto 9, 3) := by decide +kernel
theorem dX12_silence_42 : decode cX12_silence 42 = .ok (.iload 5, 2) := by decide +kernel
theorem dX12_silence_44 : decode cX12_silence 44 = .ok (.istore_n 2, 1) := by decide +kernel
theorem dX12_silence_45 : decode cX12_silence 45 = .ok (.iload 4, 2) := by decide +kernel
theorem dX12_silence_47 : decode cX12_silence 47 = .ok (.istore_n 3, 1) := by decide +kernel
theorem dX12_silence_48 : decode cX12_silence 48 = .ok (.iinc 4 1, 3) := by decide +kernel
theorem dX12_silence_51 : decode cX12_silence 51 = .ok (.goto (-33), 3) := by decide +kernel
theorem dX12_silence_54 : decode cX12_silence 54 = .ok (.iload_n 1, 1) := by decide +kernel
theorem dX12_silence_55 : decode cX12_silence 55 = .ok (.ifCond .ne 7, 3) := by decide +kernel
theorem dX12_silence_58 : decode cX12_silence 58 = .ok (.iload_n 2, 1) := by decide +kernel
theorem dX12_silence_59 : decode cX12_silence 59 = .ok (.goto 4, 3) := by decide +kernel
theorem dX12_silence_62 : decode cX12_silence 62 = .ok (.iload_n 3, 1) := by decide +kernel
theorem dX12_silence_63 : decode cX12_silence 63 = .ok (.ireturn, 1) := by decide +kernel
set_option maxHeartbeats 4000000 in
set_option maxRecDepth 100000 in
theorem c_X12_silence (l : Launch) (D : va_G) (tys : List (ClassId × FieldType)) (base : Nat) (G : iv_G) (h0 : Nat) (g_h0 : Nat → Int32) (r_h0 : Nat → Nat) (a_h0 : G h0 = some (12, g_h0, r_h0)) (x_0 : Int32) (i_x_0 : iv_R (-2147483648) 2147483647 x_0) : Met l yX12_silence (Cond.code yX12_silence cX12_silence 6 (some .int) :: iv_W0) ({ frames := 5, cells := 0, slots := 0, locals := 111 }) (iv_Pc iv_sh D classes tys base G [.ref h0, .int x_0]) (iv_Qi iv_sh D classes tys base (fun v G' => G = G' ∧ iv_R (-1) 24 v)) 0 0 (iv_A base) := by
  refine iv_head (by decide) (Nat.le_of_ble_eq_true rfl) ?_
  intro p e s m args below meth c ls X hr hlocks hname hB hl
  have X := X
  have hx := X.1.1
  have hb := X.1.2.1
  have hl : lv_has ls 6 [(0, .ref h0), (1, .int x_0)] := hl
  refine lv_iload_n hx hb dX12_silence_0 rfl (lv_at hl 1 rfl) ?_
  refine lv_iconst (v := 0) hx hb dX12_silence_1 (by decide) ?_
  refine lv_iconst (v := 1) hx hb dX12_silence_2 (by decide) ?_
  refine iv_cSi X k_good k_mf_X12_isIn k_st_X12_isIn k_ml_X12_56 hB (As := [.int x_0, .int 0, .int 1]) (c_X12_isIn l D tys base G x_0 i_x_0 0 (q_0.wk (by decide)) 1 (q_1.wk (by decide))) ⟨rfl, rfl⟩ ⟨Nat.le_of_ble_eq_true rfl, Nat.le_of_ble_eq_true rfl⟩ ⟨Nat.le_of_ble_eq_true rfl, Nat.le_of_ble_eq_true rfl⟩ rfl rfl hl.1 (Nat.le_of_ble_eq_true rfl) dX12_silence_3 (fun x1 G9 H locs hq hB => ?_)
  obtain ⟨rfl, i_x1, hp2⟩ := hq
  have k3 : ¬ x1 = 0 → iv_R 0 1 x_0 := fun h => ⟨iv_max i_x_0.1 (Int.le_trans q_0.1 (hp2.1 h).1) (by decide), iv_min i_x_0.2 (Int.le_trans (hp2.1 h).2 q_1.2) (by decide)⟩
  refine lv_if_ne (tgt := 11) hx hb dX12_silence_6 (by decide) (fun c4 => ?_) (fun c4 => ?_)
  · skip
    have i4_x1 : iv_R 1 1 x1 := iv_ne_lo c4 i_x1 q_0 (by decide)
    have i5_x_0 : iv_R 0 1 x_0 := ((i_x_0.cutLo (n := 0) (k3 c4).1).cutHi (n := 1) (k3 c4).2)
    refine lv_iconst (v := 0) hx hb dX12_silence_11 (by decide) ?_
    refine lv_istore_n (lv' := [(2, .int 0), (0, .ref h0), (1, .int x_0)]) hx hb dX12_silence_12 rfl hl (by decide) rfl (fun ls hl => ?_)
    refine lv_iconst (v := (-1)) hx hb dX12_silence_13 (by decide) ?_
    refine lv_istore_n (lv' := [(3, .int (-1)), (2, .int 0), (0, .ref h0), (1, .int x_0)]) hx hb dX12_silence_14 rfl hl (by decide) rfl (fun ls hl => ?_)
    refine lv_iconst (v := 0) hx hb dX12_silence_15 (by decide) ?_
    refine lv_istore (lv' := [(4, .int 0), (3, .int (-1)), (2, .int 0), (0, .ref h0), (1, .int x_0)]) hx hb dX12_silence_16 hl (by decide) rfl (fun ls hl => ?_)
    have L_18 : ∀ (n_18 : Nat) (H : Heap) (locs : List Loc) (hB : iv_B iv_sh D classes tys base G s.heap H locs) (x7 : Int32) (i_x7 : iv_R 0 24 x7) (x8 : Int32) (i_x8 : iv_R (-1) 23 x8) (x9 : Int32) (i_x9 : iv_R 0 24 x9) (hn_18 : (25 - x9.toInt).toNat < n_18) (ls : Array Slot) (hl : lv_has ls 6 [(4, .int x9), (3, .int x8), (2, .int x7), (0, .ref h0), (1, .int x_0)]), W p l e ({ frames := 5, cells := 0, slots := 0, locals := 111 } : Room) s m args below meth c H locs 0 0 (MQ below (iv_Qi iv_sh D classes tys base (fun v G' => G = G' ∧ iv_R (-1) 24 v)) args s 0 0 (iv_A base)) (F0 m 18 ls []) := by
      intro n_18
      induction n_18 with
      | zero => intro H locs hB x7 i_x7 x8 i_x8 x9 i_x9 hn_18 ls hl; exact absurd hn_18 (Nat.not_lt_zero _)
      | succ n_18 ih_18 =>
        intro H locs hB x7 i_x7 x8 i_x8 x9 i_x9 hn_18 ls hl
        refine lv_iload hx hb dX12_silence_18 (lv_at hl 0 rfl) ?_
        refine lv_bipush (v := 24) hx hb dX12_silence_20 (by decide) ?_
        refine lv_icmp_ge (tgt := 54) hx hb dX12_silence_22 (by decide) (fun c10 => ?_) (fun c10 => ?_)
        · skip
          have i10_x9 : iv_R 24 24 x9 := (i_x9.cutLo (n := 24) (iv_le_l c10 q_24))
          refine lv_iload_n hx hb dX12_silence_54 rfl (lv_at hl 4 rfl) ?_
          refine lv_if_ne (tgt := 62) hx hb dX12_silence_55 (by decide) (fun c12 => ?_) (fun c12 => ?_)
          · skip
            have i12_x_0 : iv_R 1 1 x_0 := iv_ne_lo c12 i5_x_0 q_0 (by decide)
            refine lv_iload_n hx hb dX12_silence_62 rfl (lv_at hl 1 rfl) ?_
            exact iv_iret X hr hlocks hB ⟨rfl, (i_x8.wk (by decide))⟩ dX12_silence_63
          · skip
            have i13_x_0 : iv_R 0 0 x_0 := (i5_x_0.cutHi (n := 0) (iv_eq_r c12 q_0).2)
            refine lv_iload_n hx hb dX12_silence_58 rfl (lv_at hl 2 rfl) ?_
            refine lv_goto (tgt := 63) hx hb dX12_silence_59 (by decide) ?_
            exact iv_iret X hr hlocks hB ⟨rfl, (i_x7.wk (by decide))⟩ dX12_silence_63
        · skip
          have i14_x9 : iv_R 0 23 x9 := (i_x9.cutHi (n := 23) (iv_lt_r (iv_nle c10) q_24 (by decide)))
          refine lv_aload_n hx hb dX12_silence_25 rfl (lv_at hl 3 rfl) ?_
          refine lv_iload hx hb dX12_silence_26 (lv_at hl 0 rfl) ?_
          refine iv_cVi X k_good k_mf_X12_silentFrom k_im_X12_silentFrom k_sel_X12_silentFrom k_ml_X12_377 ft_X12 hB a_h0 sh_12 (As := [.int x9]) (c_X12_silentFrom l D tys base G h0 g_h0 r_h0 a_h0 x9 i14_x9) ⟨rfl, rfl⟩ ⟨Nat.le_of_ble_eq_true rfl, Nat.le_of_ble_eq_true rfl⟩ ⟨Nat.le_of_ble_eq_true rfl, Nat.le_of_ble_eq_true rfl⟩ rfl rfl hl.1 (Nat.le_of_ble_eq_true rfl) dX12_silence_28 (fun x16 G9 H locs hq hB => ?_)
          obtain ⟨rfl, i_x16⟩ := hq
          refine lv_istore (lv' := [(5, .int x16), (4, .int x9), (3, .int x8), (2, .int x7), (0, .ref h0), (1, .int x_0)]) hx hb dX12_silence_31 hl (by decide) rfl (fun ls hl => ?_)
          refine lv_iload hx hb dX12_silence_33 (lv_at hl 0 rfl) ?_
          refine lv_iload_n hx hb dX12_silence_35 rfl (lv_at hl 3 rfl) ?_
          refine lv_icmp_gt (tgt := 42) hx hb dX12_silence_36 (by decide) (fun c17 => ?_) (fun c17 => ?_)
          · skip
            have i17_x7 : iv_R 0 23 x7 := (i_x7.cutHi (n := 23) (iv_lt_r c17 i_x16 (by decide)))
            have i18_x16 : iv_R 1 24 x16 := (i_x16.cutLo (n := 1) (iv_lt_l c17 i_x7 (by decide)))
            refine lv_iload hx hb dX12_silence_42 (lv_at hl 0 rfl) ?_
            refine lv_istore_n (lv' := [(2, .int x16), (5, .int x16), (4, .int x9), (3, .int x8), (0, .ref h0), (1, .int x_0)]) hx hb dX12_silence_44 rfl hl (by decide) rfl (fun ls hl => ?_)
            refine lv_iload hx hb dX12_silence_45 (lv_at hl 2 rfl) ?_
            refine lv_istore_n (lv' := [(3, .int x9), (2, .int x16), (5, .int x16), (4, .int x9), (0, .ref h0), (1, .int x_0)]) hx hb dX12_silence_47 rfl hl (by decide) rfl (fun ls hl => ?_)
            refine iv_iinc hx hb i14_x9 (lo := 1) (hi := 24) (by decide) dX12_silence_48 hl (k := 3) rfl (by decide) (fun x20 ls e_x20 i_x20 hl => ?_)
            have hl : lv_has ls 6 [(4, .int x20), (3, .int x9), (2, .int x16), (5, .int x16), (0, .ref h0), (1, .int x_0)] := hl
            refine lv_goto (tgt := 18) hx hb dX12_silence_51 (by decide) ?_
            exact ih_18 _ _ hB x16 (i18_x16.wk (by decide)) x9 (i14_x9.wk (by decide)) x20 (i_x20.wk (by decide)) (iv_mup (c := 1) i_x9 (by decide) (by decide) (by omega) hn_18) _ (lv_sub hl [0, 1, 2, 4, 5] rfl)
          · skip
            refine lv_goto (tgt := 48) hx hb dX12_silence_39 (by decide) ?_
            refine iv_iinc hx hb i14_x9 (lo := 1) (hi := 24) (by decide) dX12_silence_48 hl (k := 1) rfl (by decide) (fun x21 ls e_x21 i_x21 hl => ?_)
            have hl : lv_has ls 6 [(4, .int x21), (5, .int x16), (3, .int x8), (2, .int x7), (0, .ref h0), (1, .int x_0)] := hl
            refine lv_goto (tgt := 18) hx hb dX12_silence_51 (by decide) ?_
            exact ih_18 _ _ hB x7 i_x7 x8 i_x8 x21 (i_x21.wk (by decide)) (iv_mup (c := 1) i_x9 (by decide) (by decide) (by omega) hn_18) _ (lv_sub hl [0, 2, 3, 4, 5] rfl)
    exact L_18 _ _ _ hB 0 (q_0.wk (by decide)) (-1) (q_n1.wk (by decide)) 0 (q_0.wk (by decide)) (Nat.lt_succ_self _) _ (lv_sub hl [0, 1, 2, 3, 4] rfl)
  · skip
    have i21_x1 : iv_R 0 0 x1 := (i_x1.cutHi (n := 0) (iv_eq_r c4 q_0).2)
    refine lv_iconst (v := (-1)) hx hb dX12_silence_9 (by decide) ?_
    exact iv_iret X hr hlocks hB ⟨rfl, (q_n1.wk (by decide))⟩ dX12_silence_10
theorem dX12_soundingOf_0 : decode cX12_soundingOf 0 = .ok (.iconst 0, 1) := by decide +kernel
theorem dX12_soundingOf_1 : decode cX12_soundingOf 1 = .ok (.istore_n 2, 1) := by decide +kernel
theorem dX12_soundingOf_2 : decode cX12_soundingOf 2 = .ok (.iconst 0, 1) := by decide +kernel
theorem dX12_soundingOf_3 : decode cX12_soundingOf 3 = .ok (.istore_n 3, 1) := by decide +kernel
theorem dX12_soundingOf_4 : decode cX12_soundingOf 4 = .ok (.iload_n 3, 1) := by decide +kernel
theorem dX12_soundingOf_5 : decode cX12_soundingOf 5 = .ok (.bipush 24, 2) := by decide +kernel
theorem dX12_soundingOf_7 : decode cX12_soundingOf 7 = .ok (.if_icmp .ge 28, 3) := by decide +kernel
theorem dX12_soundingOf_10 : decode cX12_soundingOf 10 = .ok (.iload_n 2, 1) := by decide +kernel
theorem dX12_soundingOf_11 : decode cX12_soundingOf 11 = .ok (.aload_n 0, 1) := by decide +kernel
theorem dX12_soundingOf_12 : decode cX12_soundingOf 12 = .ok (.iload_n 1, 1) := by decide +kernel
theorem dX12_soundingOf_13 : decode cX12_soundingOf 13 = .ok (.iload_n 3, 1) := by decide +kernel
theorem dX12_soundingOf_14 : decode cX12_soundingOf 14 = .ok (.invokevirtual 302, 3) := by decide +kernel
theorem dX12_soundingOf_17 : decode cX12_soundingOf 17 = .ok (.ifCond .eq 9, 3) := by decide +kernel
theorem dX12_soundingOf_20 : decode cX12_soundingOf 20 = .ok (.iconst 1, 1) := by decide +kernel
theorem dX12_soundingOf_21 : decode cX12_soundingOf 21 = .ok (.iload_n 3, 1) := by decide +kernel
theorem dX12_soundingOf_22 : decode cX12_soundingOf 22 = .ok (.ishl, 1) := by decide +kernel
theorem dX12_soundingOf_23 : decode cX12_soundingOf 23 = .ok (.goto 4, 3) := by decide +kernel
theorem dX12_soundingOf_26 : decode cX12_soundingOf 26 = .ok (.iconst 0, 1) := by decide +kernel
theorem dX12_soundingOf_27 : decode cX12_soundingOf 27 = .ok (.ior, 1) := by decide +kernel
theorem dX12_soundingOf_28 : decode cX12_soundingOf 28 = .ok (.istore_n 2, 1) := by decide +kernel
theorem dX12_soundingOf_29 : decode cX12_soundingOf 29 = .ok (.iinc 3 1, 3) := by decide +kernel
theorem dX12_soundingOf_32 : decode cX12_soundingOf 32 = .ok (.goto (-28), 3) := by decide +kernel
theorem dX12_soundingOf_35 : decode cX12_soundingOf 35 = .ok (.iload_n 2, 1) := by decide +kernel
theorem dX12_soundingOf_36 : decode cX12_soundingOf 36 = .ok (.ireturn, 1) := by decide +kernel
set_option maxHeartbeats 4000000 in
set_option maxRecDepth 100000 in
theorem c_X12_soundingOf (l : Launch) (D : va_G) (tys : List (ClassId × FieldType)) (base : Nat) (G : iv_G) (h0 : Nat) (g_h0 : Nat → Int32) (r_h0 : Nat → Nat) (a_h0 : G h0 = some (12, g_h0, r_h0)) (x_0 : Int32) (i_x_0 : iv_R 0 9 x_0) : Met l yX12_soundingOf (Cond.code yX12_soundingOf cX12_soundingOf 4 (some .int) :: iv_W0) ({ frames := 3, cells := 0, slots := 0, locals := 67 }) (iv_Pc iv_sh D classes tys base G [.ref h0, .int x_0]) (iv_Qi iv_sh D classes tys base (fun v G' => G = G' ∧ iv_R 0 2147483647 v)) 0 0 (iv_A base) := by
  refine iv_head (by decide) (Nat.le_of_ble_eq_true rfl) ?_
  intro p e s m args below meth c ls X hr hlocks hname hB hl
  have X := X
  have hx := X.1.1
  have hb := X.1.2.1
  have hl : lv_has ls 4 [(0, .ref h0), (1, .int x_0)] := hl
  refine lv_iconst (v := 0) hx hb dX12_soundingOf_0 (by decide) ?_
  refine lv_istore_n (lv' := [(2, .int 0), (0, .ref h0), (1, .int x_0)]) hx hb dX12_soundingOf_1 rfl hl (by decide) rfl (fun ls hl => ?_)
  refine lv_iconst (v := 0) hx hb dX12_soundingOf_2 (by decide) ?_
  refine lv_istore_n (lv' := [(3, .int 0), (2, .int 0), (0, .ref h0), (1, .int x_0)]) hx hb dX12_soundingOf_3 rfl hl (by decide) rfl (fun ls hl => ?_)
  have L_4 : ∀ (n_4 : Nat) (H : Heap) (locs : List Loc) (hB : iv_B iv_sh D classes tys base G s.heap H locs) (x1 : Int32) (i_x1 : iv_R 0 2147483647 x1) (x2 : Int32) (i_x2 : iv_R 0 24 x2) (hn_4 : (25 - x2.toInt).toNat < n_4) (ls : Array Slot) (hl : lv_has ls 4 [(3, .int x2), (2, .int x1), (0, .ref h0), (1, .int x_0)]), W p l e ({ frames := 3, cells := 0, slots := 0, locals := 67 } : Room) s m args below meth c H locs 0 0 (MQ below (iv_Qi iv_sh D classes tys base (fun v G' => G = G' ∧ iv_R 0 2147483647 v)) args s 0 0 (iv_A base)) (F0 m 4 ls []) := by
    intro n_4
    induction n_4 with
    | zero => intro H locs hB x1 i_x1 x2 i_x2 hn_4 ls hl; exact absurd hn_4 (Nat.not_lt_zero _)
    | succ n_4 ih_4 =>
      intro H locs hB x1 i_x1 x2 i_x2 hn_4 ls hl
      refine lv_iload_n hx hb dX12_soundingOf_4 rfl (lv_at hl 0 rfl) ?_
      refine lv_bipush (v := 24) hx hb dX12_soundingOf_5 (by decide) ?_
      refine lv_icmp_ge (tgt := 35) hx hb dX12_soundingOf_7 (by decide) (fun c3 => ?_) (fun c3 => ?_)
      · skip
        have i3_x2 : iv_R 24 24 x2 := (i_x2.cutLo (n := 24) (iv_le_l c3 q_24))
        refine lv_iload_n hx hb dX12_soundingOf_35 rfl (lv_at hl 1 rfl) ?_
        exact iv_iret X hr hlocks hB ⟨rfl, i_x1⟩ dX12_soundingOf_36
      · skip
        have i4_x2 : iv_R 0 23 x2 := (i_x2.cutHi (n := 23) (iv_lt_r (iv_nle c3) q_24 (by decide)))
        refine lv_iload_n hx hb dX12_soundingOf_10 rfl (lv_at hl 1 rfl) ?_
        refine lv_aload_n hx hb dX12_soundingOf_11 rfl (lv_at hl 2 rfl) ?_
        refine lv_iload_n hx hb dX12_soundingOf_12 rfl (lv_at hl 3 rfl) ?_
        refine lv_iload_n hx hb dX12_soundingOf_13 rfl (lv_at hl 0 rfl) ?_
        refine iv_cVi X k_good k_mf_X12_sounds k_im_X12_sounds k_sel_X12_sounds k_ml_X12_302 ft_X12 hB a_h0 sh_12 (As := [.int x_0, .int x2]) (c_X12_sounds l D tys base G h0 g_h0 r_h0 a_h0 x_0 i_x_0 x2 i4_x2) ⟨rfl, rfl⟩ ⟨Nat.le_of_ble_eq_true rfl, Nat.le_of_ble_eq_true rfl⟩ ⟨Nat.le_of_ble_eq_true rfl, Nat.le_of_ble_eq_true rfl⟩ rfl rfl hl.1 (Nat.le_of_ble_eq_true rfl) dX12_soundingOf_14 (fun x6 G9 H locs hq hB => ?_)
        obtain ⟨rfl, i_x6⟩ := hq
        refine lv_if_eq (tgt := 26) hx hb dX12_soundingOf_17 (by decide) (fun c7 => ?_) (fun c7 => ?_)
        · skip
          have i7_x6 : iv_R 0 0 x6 := (i_x6.cutHi (n := 0) (iv_eq_r c7 q_0).2)
          refine lv_iconst (v := 0) hx hb dX12_soundingOf_26 (by decide) ?_
          refine iv_ior hx hb i_x1 q_0 (k := 31) (hi := 2147483647) (by decide) dX12_soundingOf_27 (fun x9 e_x9 i_x9 => ?_)
          refine lv_istore_n (lv' := [(2, .int x9), (3, .int x2), (0, .ref h0), (1, .int x_0)]) hx hb dX12_soundingOf_28 rfl hl (by decide) rfl (fun ls hl => ?_)
          refine iv_iinc hx hb i4_x2 (lo := 1) (hi := 24) (by decide) dX12_soundingOf_29 hl (k := 1) rfl (by decide) (fun x10 ls e_x10 i_x10 hl => ?_)
          have hl : lv_has ls 4 [(3, .int x10), (2, .int x9), (0, .ref h0), (1, .int x_0)] := hl
          refine lv_goto (tgt := 4) hx hb dX12_soundingOf_32 (by decide) ?_
          exact ih_4 _ _ hB x9 i_x9 x10 (i_x10.wk (by decide)) (iv_mup (c := 1) i_x2 (by decide) (by decide) (by omega) hn_4) _ (lv_sub hl [0, 1, 2, 3] rfl)
        · skip
          have i10_x6 : iv_R 1 1 x6 := iv_ne_lo c7 i_x6 q_0 (by decide)
          refine lv_iconst (v := 1) hx hb dX12_soundingOf_20 (by decide) ?_
          refine lv_iload_n hx hb dX12_soundingOf_21 rfl (lv_at hl 0 rfl) ?_
          refine iv_shl1 hx hb i4_x2 (lo := 1) (hi := 8388608) (by decide) dX12_soundingOf_22 (fun x12 e_x12 i_x12 => ?_)
          refine lv_goto (tgt := 27) hx hb dX12_soundingOf_23 (by decide) ?_
          refine iv_ior hx hb i_x1 i_x12 (k := 31) (hi := 2147483647) (by decide) dX12_soundingOf_27 (fun x13 e_x13 i_x13 => ?_)
          refine lv_istore_n (lv' := [(2, .int x13), (3, .int x2), (0, .ref h0), (1, .int x_0)]) hx hb dX12_soundingOf_28 rfl hl (by decide) rfl (fun ls hl => ?_)
          refine iv_iinc hx hb i4_x2 (lo := 1) (hi := 24) (by decide) dX12_soundingOf_29 hl (k := 1) rfl (by decide) (fun x14 ls e_x14 i_x14 hl => ?_)
          have hl : lv_has ls 4 [(3, .int x14), (2, .int x13), (0, .ref h0), (1, .int x_0)] := hl
          refine lv_goto (tgt := 4) hx hb dX12_soundingOf_32 (by decide) ?_
          exact ih_4 _ _ hB x13 i_x13 x14 (i_x14.wk (by decide)) (iv_mup (c := 1) i_x2 (by decide) (by decide) (by omega) hn_4) _ (lv_sub hl [0, 1, 2, 3] rfl)
  exact L_4 _ _ _ hB 0 (q_0.wk (by decide)) 0 (q_0.wk (by decide)) (Nat.lt_succ_self _) _ (lv_sub hl [0, 1, 2, 3] rfl)
theorem dX12_state_0 : decode cX12_state 0 = .ok (.aload_n 0, 1) := by decide +kernel
theorem dX12_state_1 : decode cX12_state 1 = .ok (.getfield 7, 3) := by decide +kernel
theorem dX12_state_4 : decode cX12_state 4 = .ok (.iconst 2, 1) := by decide +kernel
theorem dX12_state_5 : decode cX12_state 5 = .ok (.iaload, 1) := by decide +kernel
theorem dX12_state_6 : decode cX12_state 6 = .ok (.istore_n 2, 1) := by decide +kernel
theorem dX12_state_7 : decode cX12_state 7 = .ok (.aload_n 0, 1) := by decide +kernel
theorem dX12_state_8 : decode cX12_state 8 = .ok (.getfield 7, 3) := by decide +kernel
theorem dX12_state_11 : decode cX12_state 11 = .ok (.iconst 2, 1) := by decide +kernel
theorem dX12_state_12 : decode cX12_state 12 = .ok (.iload_n 1, 1) := by decide +kernel
theorem dX12_state_13 : decode cX12_state 13 = .ok (.iastore, 1) := by decide +kernel
theorem dX12_state_14 : decode cX12_state 14 = .ok (.aload_n 0, 1) := by decide +kernel
theorem dX12_state_15 : decode cX12_state 15 = .ok (.invokevirtual 63, 3) := by decide +kernel
theorem dX12_state_18 : decode cX12_state 18 = .ok (.iload_n 2, 1) := by decide +kernel
theorem dX12_state_19 : decode cX12_state 19 = .ok (.ireturn, 1) := by decide +kernel
set_option maxHeartbeats 4000000 in
set_option maxRecDepth 100000 in
theorem c_X12_state (l : Launch) (D : va_G) (tys : List (ClassId × FieldType)) (base : Nat) (G : iv_G) (h0 : Nat) (g_h0 : Nat → Int32) (r_h0 : Nat → Nat) (a_h0 : G h0 = some (12, g_h0, r_h0)) (x_0 : Int32) (i_x_0 : iv_R (-2147483648) 2147483647 x_0) : Met l yX12_state (Cond.code yX12_state cX12_state 3 (some .int) :: iv_W0) ({ frames := 1, cells := 0, slots := 0, locals := 20 }) (iv_Pc iv_sh D classes tys base G [.ref h0, .int x_0]) (iv_Qi iv_sh D classes tys base (fun v G' => iv_Md [12, 60] G G' ∧ iv_R (-2147483648) 2147483647 v)) 0 0 (iv_A base) := by
  refine iv_head (by decide) (Nat.le_of_ble_eq_true rfl) ?_
  intro p e s m args below meth c ls X hr hlocks hname hB hl
  have X := X
  have hx := X.1.1
  have hb := X.1.2.1
  have hM : iv_Md [12, 60] G G := iv_Md.rf
  have hl : lv_has ls 3 [(0, .ref h0), (1, .int x_0)] := hl
  refine lv_aload_n hx hb dX12_state_0 rfl (lv_at hl 0 rfl) ?_
  refine iv_getr X ft_X12 hB a_h0 sh_12 0 (by decide) rfl k_fl_X12_7 dX12_state_1 (fun b1 g_b1 r_b1 e_b1 a_b1 => ?_)
  refine lv_iconst (v := 2) hx hb dX12_state_4 (by decide) ?_
  refine iv_wald_c X hB a_b1 q_2 (by decide) (lo := (-2147483648)) (hi' := 2147483647) (by decide) dX12_state_5 (fun x2 e_x2 i_x2 => ?_)
  refine lv_istore_n (lv' := [(2, .int x2), (0, .ref h0), (1, .int x_0)]) hx hb dX12_state_6 rfl hl (by decide) rfl (fun ls hl => ?_)
  refine lv_aload_n hx hb dX12_state_7 rfl (lv_at hl 1 rfl) ?_
  refine iv_getr0 X ft_X12 hB a_h0 sh_12 0 (by decide) rfl k_fl_X12_7 dX12_state_8 e_b1 ?_
  refine lv_iconst (v := 2) hx hb dX12_state_11 (by decide) ?_
  refine lv_iload_n hx hb dX12_state_12 rfl (lv_at hl 2 rfl) ?_
  refine iv_wast_c X hB a_b1 q_2 (by decide) (lo := (-2147483648)) (hi' := 2147483647) (by decide) i_x_0 dX12_state_13 (fun H locs hB => ?_)
  have hm := iv_Md.put (x := x_0) a_b1 (j := 2) (by decide) (fun h => absurd h (by decide))
  have h9 := iv_up_eq (G := G) (a := b1) (k := (60, upd g_b1 2 x_0, r_b1))
  generalize iv_up G b1 _ = G3 at hB hm h9
  have hM := hM.stp hm (by decide)
  generalize hgn_g4 : upd g_b1 _ _ = g4 at h9
  have a_h0 := hm.at a_h0 (by decide)
  have a_b1 := h9
  have e5 : x_0 = g4 2 := by rw [← hgn_g4]; simp [upd]
  refine lv_aload_n hx hb dX12_state_14 rfl (lv_at hl 1 rfl) ?_
  refine iv_cVv X k_good k_mf_X12_forgets k_im_X12_forgets k_sel_X12_forgets k_ml_X12_63 ft_X12 hB a_h0 sh_12 (As := []) (c_X12_forgets l D tys base G3 h0 g_h0 r_h0 a_h0) ⟨rfl, rfl⟩ ⟨Nat.le_of_ble_eq_true rfl, Nat.le_of_ble_eq_true rfl⟩ ⟨Nat.le_of_ble_eq_true rfl, Nat.le_of_ble_eq_true rfl⟩ rfl rfl hl.1 (Nat.le_of_ble_eq_true rfl) dX12_state_15 (fun G9 H locs hq hB => ?_)
  have hm := hq
  obtain ⟨G6, hG9⟩ : ∃ g, g = G9 := ⟨_, rfl⟩
  rw [← hG9] at hm hB
  have hM := hM.stp hm (by decide)
  obtain ⟨g7, r8, a_h0, f_g7⟩ := hm.ex a_h0
  have e9 : b1 = r8 0 := e_b1.trans (f_g7.1 0 (fun h => absurd (show (12 : Nat) = 5 from h) (by decide))).symm
  have a_b1 := hm.at a_b1 (by decide)
  refine lv_iload_n hx hb dX12_state_18 rfl (lv_at hl 0 rfl) ?_
  exact iv_iret X hr hlocks hB ⟨hM, i_x2⟩ dX12_state_19
theorem dX12_turn_0 : decode cX12_turn 0 = .ok (.iload_n 1, 1) := by decide +kernel
theorem dX12_turn_1 : decode cX12_turn 1 = .ok (.iconst (-1), 1) := by decide +kernel
theorem dX12_turn_2 : decode cX12_turn 2 = .ok (.if_icmp .ne 18, 3) := by decide +kernel
theorem dX12_turn_5 : decode cX12_turn 5 = .ok (.aload_n 0, 1) := by decide +kernel
theorem dX12_turn_6 : decode cX12_turn 6 = .ok (.getfield 7, 3) := by decide +kernel
theorem dX12_turn_9 : decode cX12_turn 9 = .ok (.sipush 152, 3) := by decide +kernel
theorem dX12_turn_12 : decode cX12_turn 12 = .ok (.iconst 0, 1) := by decide +kernel
theorem dX12_turn_13 : decode cX12_turn 13 = .ok (.iastore, 1) := by decide +kernel
theorem dX12_turn_14 : decode cX12_turn 14 = .ok (.aload_n 0, 1) := by decide +kernel
theorem dX12_turn_15 : decode cX12_turn 15 = .ok (.invokevirtual 63, 3) := by decide +kernel
theorem dX12_turn_18 : decode cX12_turn 18 = .ok (.iconst 0, 1) := by decide +kernel
theorem dX12_turn_19 : decode cX12_turn 19 = .ok (.ireturn, 1) := by decide +kernel
theorem dX12_turn_20 : decode cX12_turn 20 = .ok (.aload_n 0, 1) := by decide +kernel
theorem dX12_turn_21 : decode cX12_turn 21 = .ok (.iload_n 1, 1) := by decide +kernel
theorem dX12_turn_22 : decode cX12_turn 22 = .ok (.invokevirtual 338, 3) := by decide +kernel
theorem dX12_turn_25 : decode cX12_turn 25 = .ok (.ifCond .eq 30, 3) := by decide +kernel
theorem dX12_turn_28 : decode cX12_turn 28 = .ok (.iload_n 2, 1) := by decide +kernel
theorem dX12_turn_29 : decode cX12_turn 29 = .ok (.invokestatic 371, 3) := by decide +kernel
theorem dX12_turn_32 : decode cX12_turn 32 = .ok (.ifCond .eq 23, 3) := by decide +kernel
theorem dX12_turn_35 : decode cX12_turn 35 = .ok (.iload_n 3, 1) := by decide +kernel
theorem dX12_turn_36 : decode cX12_turn 36 = .ok (.invokestatic 68, 3) := by decide +kernel
theorem dX12_turn_39 : decode cX12_turn 39 = .ok (.ifCond .eq 16, 3) := by decide +kernel
theorem dX12_turn_42 : decode cX12_turn 42 = .ok (.aload_n 0, 1) := by decide +kernel
theorem dX12_turn_43 : decode cX12_turn 43 = .ok (.getfield 7, 3) := by decide +kernel
theorem dX12_turn_46 : decode cX12_turn 46 = .ok (.sipush 152, 3) := by decide +kernel
theorem dX12_turn_49 : decode cX12_turn 49 = .ok (.iaload, 1) := by decide +kernel
theorem dX12_turn_50 : decode cX12_turn 50 = .ok (.bipush 12, 2) := by decide +kernel
theorem dX12_turn_52 : decode cX12_turn 52 = .ok (.if_icmp .ne 5, 3) := by decide +kernel
theorem dX12_turn_55 : decode cX12_turn 55 = .ok (.iconst (-1), 1) := by decide +kernel
theorem dX12_turn_56 : decode cX12_turn 56 = .ok (.ireturn, 1) := by decide +kernel
theorem dX12_turn_57 : decode cX12_turn 57 = .ok (.sipush 153, 3) := by decide +kernel
theorem dX12_turn_60 : decode cX12_turn 60 = .ok (.iconst 3, 1) := by decide +kernel
theorem dX12_turn_61 : decode cX12_turn 61 = .ok (.aload_n 0, 1) := by decide +kernel
theorem dX12_turn_62 : decode cX12_turn 62 = .ok (.getfield 7, 3) := by decide +kernel
theorem dX12_turn_65 : decode cX12_turn 65 = .ok (.sipush 152, 3) := by decide +kernel
theorem dX12_turn_68 : decode cX12_turn 68 = .ok (.iaload, 1) := by decide +kernel
theorem dX12_turn_69 : decode cX12_turn 69 = .ok (.imul, 1) := by decide +kernel
theorem dX12_turn_70 : decode cX12_turn 70 = .ok (.iadd, 1) := by decide +kernel
theorem dX12_turn_71 : decode cX12_turn 71 = .ok (.istore 4, 2) := by decide +kernel
theorem dX12_turn_73 : decode cX12_turn 73 = .ok (.aload_n 0, 1) := by decide +kernel
theorem dX12_turn_74 : decode cX12_turn 74 = .ok (.getfield 7, 3) := by decide +kernel
theorem dX12_turn_77 : decode cX12_turn 77 = .ok (.iload 4, 2) := by decide +kernel
theorem dX12_turn_79 : decode cX12_turn 79 = .ok (.iload_n 1, 1) := by decide +kernel
theorem dX12_turn_80 : decode cX12_turn 80 = .ok (.iastore, 1) := by decide +kernel
theorem dX12_turn_81 : decode cX12_turn 81 = .ok (.aload_n 0, 1) := by decide +kernel
theorem dX12_turn_82 : decode cX12_turn 82 = .ok (.getfield 7, 3) := by decide +kernel
theorem dX12_turn_85 : decode cX12_turn 85 = .ok (.iload 4, 2) := by decide +kernel
theorem dX12_turn_87 : decode cX12_turn 87 = .ok (.iconst 1, 1) := by decide +kernel
theorem dX12_turn_88 : decode cX12_turn 88 = .ok (.iadd, 1) := by decide +kernel
theorem dX12_turn_89 : decode cX12_turn 89 = .ok (.iload_n 2, 1) := by decide +kernel
theorem dX12_turn_90 : decode cX12_turn 90 = .ok (.iastore, 1) := by decide +kernel
theorem dX12_turn_91 : decode cX12_turn 91 = .ok (.aload_n 0, 1) := by decide +kernel
theorem dX12_turn_92 : decode cX12_turn 92 = .ok (.getfield 7, 3) := by decide +kernel
theorem dX12_turn_95 : decode cX12_turn 95 = .ok (.iload 4, 2) := by decide +kernel
theorem dX12_turn_97 : decode cX12_turn 97 = .ok (.iconst 2, 1) := by decide +kernel
theorem dX12_turn_98 : decode cX12_turn 98 = .ok (.iadd, 1) := by decide +kernel
theorem dX12_turn_99 : decode cX12_turn 99 = .ok (.iload_n 3, 1) := by decide +kernel
theorem dX12_turn_100 : decode cX12_turn 100 = .ok (.iastore, 1) := by decide +kernel
theorem dX12_turn_101 : decode cX12_turn 101 = .ok (.aload_n 0, 1) := by decide +kernel
theorem dX12_turn_102 : decode cX12_turn 102 = .ok (.getfield 7, 3) := by decide +kernel
theorem dX12_turn_105 : decode cX12_turn 105 = .ok (.sipush 152, 3) := by decide +kernel
theorem dX12_turn_108 : decode cX12_turn 108 = .ok (.dup2, 1) := by decide +kernel
theorem dX12_turn_109 : decode cX12_turn 109 = .ok (.iaload, 1) := by decide +kernel
theorem dX12_turn_110 : decode cX12_turn 110 = .ok (.iconst 1, 1) := by decide +kernel
theorem dX12_turn_111 : decode cX12_turn 111 = .ok (.iadd, 1) := by decide +kernel
theorem dX12_turn_112 : decode cX12_turn 112 = .ok (.iastore, 1) := by decide +kernel
theorem dX12_turn_113 : decode cX12_turn 113 = .ok (.aload_n 0, 1) := by decide +kernel
theorem dX12_turn_114 : decode cX12_turn 114 = .ok (.invokevirtual 63, 3) := by decide +kernel
theorem dX12_turn_117 : decode cX12_turn 117 = .ok (.aload_n 0, 1) := by decide +kernel
theorem dX12_turn_118 : decode cX12_turn 118 = .ok (.getfield 7, 3) := by decide +kernel
theorem dX12_turn_121 : decode cX12_turn 121 = .ok (.sipush 152, 3) := by decide +kernel
theorem dX12_turn_124 : decode cX12_turn 124 = .ok (.iaload, 1) := by decide +kernel
theorem dX12_turn_125 : decode cX12_turn 125 = .ok (.ireturn, 1) := by decide +kernel
set_option maxHeartbeats 4000000 in
set_option maxRecDepth 100000 in
theorem c_X12_turn (l : Launch) (D : va_G) (tys : List (ClassId × FieldType)) (base : Nat) (G : iv_G) (h0 : Nat) (g_h0 : Nat → Int32) (r_h0 : Nat → Nat) (a_h0 : G h0 = some (12, g_h0, r_h0)) (x_0 : Int32) (i_x_0 : iv_R (-2147483648) 2147483647 x_0) (x_1 : Int32) (i_x_1 : iv_R (-2147483648) 2147483647 x_1) (x_2 : Int32) (i_x_2 : iv_R (-2147483648) 2147483647 x_2) : Met l yX12_turn (Cond.code yX12_turn cX12_turn 5 (some .int) :: iv_W0) ({ frames := 2, cells := 0, slots := 0, locals := 43 }) (iv_Pc iv_sh D classes tys base G [.ref h0, .int x_0, .int x_1, .int x_2]) (iv_Qi iv_sh D classes tys base (fun v G' => iv_Md [12, 60] G G' ∧ iv_R (-1) 12 v)) 0 0 (iv_A base) := by
  refine iv_head (by decide) (Nat.le_of_ble_eq_true rfl) ?_
  intro p e s m args below meth c ls X hr hlocks hname hB hl
  have X := X
  have hx := X.1.1
  have hb := X.1.2.1
  have hM : iv_Md [12, 60] G G := iv_Md.rf
  have hl : lv_has ls 5 [(0, .ref h0), (1, .int x_0), (2, .int x_1), (3, .int x_2)] := hl
  refine lv_iload_n hx hb dX12_turn_0 rfl (lv_at hl 1 rfl) ?_
  refine lv_iconst (v := (-1)) hx hb dX12_turn_1 (by decide) ?_
  refine lv_icmp_ne (tgt := 20) hx hb dX12_turn_2 (by decide) (fun c1 => ?_) (fun c1 => ?_)
  · skip
    refine lv_aload_n hx hb dX12_turn_20 rfl (lv_at hl 0 rfl) ?_
    refine lv_iload_n hx hb dX12_turn_21 rfl (lv_at hl 1 rfl) ?_
    refine iv_cVi X k_good k_mf_X12_isChild k_im_X12_isChild k_sel_X12_isChild k_ml_X12_338 ft_X12 hB a_h0 sh_12 (As := [.int x_0]) (c_X12_isChild l D tys base G h0 g_h0 r_h0 a_h0 x_0 i_x_0) ⟨rfl, rfl⟩ ⟨Nat.le_of_ble_eq_true rfl, Nat.le_of_ble_eq_true rfl⟩ ⟨Nat.le_of_ble_eq_true rfl, Nat.le_of_ble_eq_true rfl⟩ rfl rfl hl.1 (Nat.le_of_ble_eq_true rfl) dX12_turn_22 (fun x2 G9 H locs hq hB => ?_)
    obtain ⟨rfl, i_x2, hp3⟩ := hq
    refine lv_if_eq (tgt := 55) hx hb dX12_turn_25 (by decide) (fun c4 => ?_) (fun c4 => ?_)
    · skip
      have i4_x2 : iv_R 0 0 x2 := (i_x2.cutHi (n := 0) (iv_eq_r c4 q_0).2)
      refine lv_iconst (v := (-1)) hx hb dX12_turn_55 (by decide) ?_
      exact iv_iret X hr hlocks hB ⟨hM, (q_n1.wk (by decide))⟩ dX12_turn_56
    · skip
      have i5_x2 : iv_R 1 1 x2 := iv_ne_lo c4 i_x2 q_0 (by decide)
      have i6_x_0 : iv_R 0 19 x_0 := ((i_x_0.cutLo (n := 0) (hp3 c4).1).cutHi (n := 19) (hp3 c4).2)
      refine lv_iload_n hx hb dX12_turn_28 rfl (lv_at hl 2 rfl) ?_
      refine iv_cSi X k_good k_mf_X12_isHour k_st_X12_isHour k_ml_X12_371 hB (As := [.int x_1]) (c_X12_isHour l D tys base G x_1 i_x_1) ⟨rfl, rfl⟩ ⟨Nat.le_of_ble_eq_true rfl, Nat.le_of_ble_eq_true rfl⟩ ⟨Nat.le_of_ble_eq_true rfl, Nat.le_of_ble_eq_true rfl⟩ rfl rfl hl.1 (Nat.le_of_ble_eq_true rfl) dX12_turn_29 (fun x8 G9 H locs hq hB => ?_)
      obtain ⟨rfl, i_x8, hp9⟩ := hq
      refine lv_if_eq (tgt := 55) hx hb dX12_turn_32 (by decide) (fun c10 => ?_) (fun c10 => ?_)
      · skip
        have i10_x8 : iv_R 0 0 x8 := (i_x8.cutHi (n := 0) (iv_eq_r c10 q_0).2)
        refine lv_iconst (v := (-1)) hx hb dX12_turn_55 (by decide) ?_
        exact iv_iret X hr hlocks hB ⟨hM, (q_n1.wk (by decide))⟩ dX12_turn_56
      · skip
        have i11_x8 : iv_R 1 1 x8 := iv_ne_lo c10 i_x8 q_0 (by decide)
        have i12_x_1 : iv_R 0 23 x_1 := ((i_x_1.cutLo (n := 0) (hp9 c10).1).cutHi (n := 23) (hp9 c10).2)
        refine lv_iload_n hx hb dX12_turn_35 rfl (lv_at hl 3 rfl) ?_
        refine iv_cSi X k_good k_mf_X12_isTower k_st_X12_isTower k_ml_X12_68 hB (As := [.int x_2]) (c_X12_isTower l D tys base G x_2 i_x_2) ⟨rfl, rfl⟩ ⟨Nat.le_of_ble_eq_true rfl, Nat.le_of_ble_eq_true rfl⟩ ⟨Nat.le_of_ble_eq_true rfl, Nat.le_of_ble_eq_true rfl⟩ rfl rfl hl.1 (Nat.le_of_ble_eq_true rfl) dX12_turn_36 (fun x14 G9 H locs hq hB => ?_)
        obtain ⟨rfl, i_x14, hp15⟩ := hq
        refine lv_if_eq (tgt := 55) hx hb dX12_turn_39 (by decide) (fun c16 => ?_) (fun c16 => ?_)
        · skip
          have i16_x14 : iv_R 0 0 x14 := (i_x14.cutHi (n := 0) (iv_eq_r c16 q_0).2)
          refine lv_iconst (v := (-1)) hx hb dX12_turn_55 (by decide) ?_
          exact iv_iret X hr hlocks hB ⟨hM, (q_n1.wk (by decide))⟩ dX12_turn_56
        · skip
          have i17_x14 : iv_R 1 1 x14 := iv_ne_lo c16 i_x14 q_0 (by decide)
          have i18_x_2 : iv_R 0 3 x_2 := ((i_x_2.cutLo (n := 0) (hp15 c16).1).cutHi (n := 3) (hp15 c16).2)
          refine lv_aload_n hx hb dX12_turn_42 rfl (lv_at hl 0 rfl) ?_
          refine iv_getr X ft_X12 hB a_h0 sh_12 0 (by decide) rfl k_fl_X12_7 dX12_turn_43 (fun b20 g_b20 r_b20 e_b20 a_b20 => ?_)
          refine lv_sipush (v := 152) hx hb dX12_turn_46 (by decide) ?_
          refine iv_wald_c X hB a_b20 q_152 (by decide) (lo := 0) (hi' := 12) (by decide) dX12_turn_49 (fun x21 e_x21 i_x21 => ?_)
          refine lv_bipush (v := 12) hx hb dX12_turn_50 (by decide) ?_
          refine lv_icmp_ne (tgt := 57) hx hb dX12_turn_52 (by decide) (fun c22 => ?_) (fun c22 => ?_)
          · skip
            have i22_x21 : iv_R 0 11 x21 := iv_ne_hi c22 i_x21 q_12 (by decide)
            refine lv_sipush (v := 153) hx hb dX12_turn_57 (by decide) ?_
            refine lv_iconst (v := 3) hx hb dX12_turn_60 (by decide) ?_
            refine lv_aload_n hx hb dX12_turn_61 rfl (lv_at hl 0 rfl) ?_
            refine iv_getr0 X ft_X12 hB a_h0 sh_12 0 (by decide) rfl k_fl_X12_7 dX12_turn_62 e_b20 ?_
            refine lv_sipush (v := 152) hx hb dX12_turn_65 (by decide) ?_
            refine iv_wald_c X hB a_b20 q_152 (by decide) (lo := 0) (hi' := 12) (by decide) dX12_turn_68 (fun x24 e_x24 k_x24 => ?_)
            obtain rfl : x21 = x24 := e_x21.trans e_x24.symm
            refine iv_imul hx hb q_3 i22_x21 (lo := 0) (hi := 33) (by decide) dX12_turn_69 (fun x25 e_x25 i_x25 => ?_)
            refine iv_iadd hx hb q_153 i_x25 (lo := 153) (hi := 186) (by decide) dX12_turn_70 (fun x26 e_x26 i_x26 => ?_)
            refine lv_istore (lv' := [(4, .int x26), (0, .ref h0), (1, .int x_0), (2, .int x_1), (3, .int x_2)]) hx hb dX12_turn_71 hl (by decide) rfl (fun ls hl => ?_)
            refine lv_aload_n hx hb dX12_turn_73 rfl (lv_at hl 1 rfl) ?_
            refine iv_getr0 X ft_X12 hB a_h0 sh_12 0 (by decide) rfl k_fl_X12_7 dX12_turn_74 e_b20 ?_
            refine lv_iload hx hb dX12_turn_77 (lv_at hl 0 rfl) ?_
            refine lv_iload_n hx hb dX12_turn_79 rfl (lv_at hl 2 rfl) ?_
            refine iv_wast_f X hB a_b20 i_x26 (by decide) dX12_turn_80 (fun H locs hB => ?_)
            have hm := iv_Md.put (x := x_0) a_b20 (j := x26.toNatClampNeg) (iv_n146 i_x26 (by decide)) (fun h => absurd h (by decide))
            have h9 := iv_up_eq (G := G) (a := b20) (k := (60, upd g_b20 x26.toNatClampNeg x_0, r_b20))
            generalize iv_up G b20 _ = G27 at hB hm h9
            have hM := hM.stp hm (by decide)
            generalize hgn_g28 : upd g_b20 _ _ = g28 at h9
            have a_h0 := hm.at a_h0 (by decide)
            have a_b20 := h9
            have e29 : x21 = g28 152 := by rw [← hgn_g28]; exact e_x21.trans (iv_updne (iv_neN i_x26 (by decide)))
            refine lv_aload_n hx hb dX12_turn_81 rfl (lv_at hl 1 rfl) ?_
            refine iv_getr0 X ft_X12 hB a_h0 sh_12 0 (by decide) rfl k_fl_X12_7 dX12_turn_82 e_b20 ?_
            refine lv_iload hx hb dX12_turn_85 (lv_at hl 0 rfl) ?_
            refine lv_iconst (v := 1) hx hb dX12_turn_87 (by decide) ?_
            refine iv_iadd hx hb i_x26 q_1 (lo := 154) (hi := 187) (by decide) dX12_turn_88 (fun x30 e_x30 i_x30 => ?_)
            refine lv_iload_n hx hb dX12_turn_89 rfl (lv_at hl 3 rfl) ?_
            refine iv_wast_f X hB a_b20 i_x30 (by decide) dX12_turn_90 (fun H locs hB => ?_)
            have hm := iv_Md.put (x := x_1) a_b20 (j := x30.toNatClampNeg) (iv_n146 i_x30 (by decide)) (fun h => absurd h (by decide))
            have h9 := iv_up_eq (G := G27) (a := b20) (k := (60, upd g28 x30.toNatClampNeg x_1, r_b20))
            generalize iv_up G27 b20 _ = G31 at hB hm h9
            have hM := hM.stp hm (by decide)
            generalize hgn_g32 : upd g28 _ _ = g32 at h9
            have a_h0 := hm.at a_h0 (by decide)
            have a_b20 := h9
            have e33 : x21 = g32 152 := by rw [← hgn_g32]; exact e29.trans (iv_updne (iv_neN i_x30 (by decide)))
            refine lv_aload_n hx hb dX12_turn_91 rfl (lv_at hl 1 rfl) ?_
            refine iv_getr0 X ft_X12 hB a_h0 sh_12 0 (by decide) rfl k_fl_X12_7 dX12_turn_92 e_b20 ?_
            refine lv_iload hx hb dX12_turn_95 (lv_at hl 0 rfl) ?_
            refine lv_iconst (v := 2) hx hb dX12_turn_97 (by decide) ?_
            refine iv_iadd hx hb i_x26 q_2 (lo := 155) (hi := 188) (by decide) dX12_turn_98 (fun x34 e_x34 i_x34 => ?_)
            refine lv_iload_n hx hb dX12_turn_99 rfl (lv_at hl 4 rfl) ?_
            refine iv_wast_f X hB a_b20 i_x34 (by decide) dX12_turn_100 (fun H locs hB => ?_)
            have hm := iv_Md.put (x := x_2) a_b20 (j := x34.toNatClampNeg) (iv_n146 i_x34 (by decide)) (fun h => absurd h (by decide))
            have h9 := iv_up_eq (G := G31) (a := b20) (k := (60, upd g32 x34.toNatClampNeg x_2, r_b20))
            generalize iv_up G31 b20 _ = G35 at hB hm h9
            have hM := hM.stp hm (by decide)
            generalize hgn_g36 : upd g32 _ _ = g36 at h9
            have a_h0 := hm.at a_h0 (by decide)
            have a_b20 := h9
            have e37 : x21 = g36 152 := by rw [← hgn_g36]; exact e33.trans (iv_updne (iv_neN i_x34 (by decide)))
            refine lv_aload_n hx hb dX12_turn_101 rfl (lv_at hl 1 rfl) ?_
            refine iv_getr0 X ft_X12 hB a_h0 sh_12 0 (by decide) rfl k_fl_X12_7 dX12_turn_102 e_b20 ?_
            refine lv_sipush (v := 152) hx hb dX12_turn_105 (by decide) ?_
            refine lv_dup2_11 hx hb dX12_turn_108 rfl rfl ?_
            refine iv_wald_c X hB a_b20 q_152 (by decide) (lo := 0) (hi' := 12) (by decide) dX12_turn_109 (fun x38 e_x38 k_x38 => ?_)
            obtain rfl : x21 = x38 := e37.trans e_x38.symm
            refine lv_iconst (v := 1) hx hb dX12_turn_110 (by decide) ?_
            refine iv_iadd hx hb i22_x21 q_1 (lo := 1) (hi := 12) (by decide) dX12_turn_111 (fun x39 e_x39 i_x39 => ?_)
            refine iv_wast_c X hB a_b20 q_152 (by decide) (lo := 0) (hi' := 12) (by decide) (i_x39.wk (by decide)) dX12_turn_112 (fun H locs hB => ?_)
            have hm := iv_Md.put (x := x39) a_b20 (j := 152) (by decide) (fun h => absurd h (by decide))
            have h9 := iv_up_eq (G := G35) (a := b20) (k := (60, upd g36 152 x39, r_b20))
            generalize iv_up G35 b20 _ = G40 at hB hm h9
            have hM := hM.stp hm (by decide)
            generalize hgn_g41 : upd g36 _ _ = g41 at h9
            have a_h0 := hm.at a_h0 (by decide)
            have a_b20 := h9
            have e42 : x39 = g41 152 := by rw [← hgn_g41]; simp [upd]
            refine lv_aload_n hx hb dX12_turn_113 rfl (lv_at hl 1 rfl) ?_
            refine iv_cVv X k_good k_mf_X12_forgets k_im_X12_forgets k_sel_X12_forgets k_ml_X12_63 ft_X12 hB a_h0 sh_12 (As := []) (c_X12_forgets l D tys base G40 h0 g_h0 r_h0 a_h0) ⟨rfl, rfl⟩ ⟨Nat.le_of_ble_eq_true rfl, Nat.le_of_ble_eq_true rfl⟩ ⟨Nat.le_of_ble_eq_true rfl, Nat.le_of_ble_eq_true rfl⟩ rfl rfl hl.1 (Nat.le_of_ble_eq_true rfl) dX12_turn_114 (fun G9 H locs hq hB => ?_)
            have hm := hq
            obtain ⟨G43, hG9⟩ : ∃ g, g = G9 := ⟨_, rfl⟩
            rw [← hG9] at hm hB
            have hM := hM.stp hm (by decide)
            obtain ⟨g44, r45, a_h0, f_g44⟩ := hm.ex a_h0
            have e46 : b20 = r45 0 := e_b20.trans (f_g44.1 0 (fun h => absurd (show (12 : Nat) = 5 from h) (by decide))).symm
            have a_b20 := hm.at a_b20 (by decide)
            refine lv_aload_n hx hb dX12_turn_117 rfl (lv_at hl 1 rfl) ?_
            refine iv_getr0 X ft_X12 hB a_h0 sh_12 0 (by decide) rfl k_fl_X12_7 dX12_turn_118 e46 ?_
            refine lv_sipush (v := 152) hx hb dX12_turn_121 (by decide) ?_
            refine iv_wald_c X hB a_b20 q_152 (by decide) (lo := 0) (hi' := 12) (by decide) dX12_turn_124 (fun x47 e_x47 k_x47 => ?_)
            obtain rfl : x39 = x47 := e42.trans e_x47.symm
            exact iv_iret X hr hlocks hB ⟨hM, (i_x39.wk (by decide))⟩ dX12_turn_125
          · skip
            have i47_x21 : iv_R 12 12 x21 := (i_x21.cutLo (n := 12) (iv_eq_r c22 q_12).1)
            refine lv_iconst (v := (-1)) hx hb dX12_turn_55 (by decide) ?_
            exact iv_iret X hr hlocks hB ⟨hM, (q_n1.wk (by decide))⟩ dX12_turn_56
  · skip
    have i48_x_0 : iv_R (-1) (-1) x_0 := ((i_x_0.cutLo (n := (-1)) (iv_eq_r c1 q_n1).1).cutHi (n := (-1)) (iv_eq_r c1 q_n1).2)
    refine lv_aload_n hx hb dX12_turn_5 rfl (lv_at hl 0 rfl) ?_
    refine iv_getr X ft_X12 hB a_h0 sh_12 0 (by decide) rfl k_fl_X12_7 dX12_turn_6 (fun b50 g_b50 r_b50 e_b50 a_b50 => ?_)
    refine lv_sipush (v := 152) hx hb dX12_turn_9 (by decide) ?_
    refine lv_iconst (v := 0) hx hb dX12_turn_12 (by decide) ?_
    refine iv_wast_c X hB a_b50 q_152 (by decide) (lo := 0) (hi' := 12) (by decide) (q_0.wk (by decide)) dX12_turn_13 (fun H locs hB => ?_)
    have hm := iv_Md.put (x := 0) a_b50 (j := 152) (by decide) (fun h => absurd h (by decide))
    have h9 := iv_up_eq (G := G) (a := b50) (k := (60, upd g_b50 152 0, r_b50))
    generalize iv_up G b50 _ = G51 at hB hm h9
    have hM := hM.stp hm (by decide)
    generalize hgn_g52 : upd g_b50 _ _ = g52 at h9
    have a_h0 := hm.at a_h0 (by decide)
    have a_b50 := h9
    have e53 : 0 = g52 152 := by rw [← hgn_g52]; simp [upd]
    refine lv_aload_n hx hb dX12_turn_14 rfl (lv_at hl 0 rfl) ?_
    refine iv_cVv X k_good k_mf_X12_forgets k_im_X12_forgets k_sel_X12_forgets k_ml_X12_63 ft_X12 hB a_h0 sh_12 (As := []) (c_X12_forgets l D tys base G51 h0 g_h0 r_h0 a_h0) ⟨rfl, rfl⟩ ⟨Nat.le_of_ble_eq_true rfl, Nat.le_of_ble_eq_true rfl⟩ ⟨Nat.le_of_ble_eq_true rfl, Nat.le_of_ble_eq_true rfl⟩ rfl rfl hl.1 (Nat.le_of_ble_eq_true rfl) dX12_turn_15 (fun G9 H locs hq hB => ?_)
    have hm := hq
    obtain ⟨G54, hG9⟩ : ∃ g, g = G9 := ⟨_, rfl⟩
    rw [← hG9] at hm hB
    have hM := hM.stp hm (by decide)
    obtain ⟨g55, r56, a_h0, f_g55⟩ := hm.ex a_h0
    have e57 : b50 = r56 0 := e_b50.trans (f_g55.1 0 (fun h => absurd (show (12 : Nat) = 5 from h) (by decide))).symm
    have a_b50 := hm.at a_b50 (by decide)
    refine lv_iconst (v := 0) hx hb dX12_turn_18 (by decide) ?_
    exact iv_iret X hr hlocks hB ⟨hM, (q_0.wk (by decide))⟩ dX12_turn_19
