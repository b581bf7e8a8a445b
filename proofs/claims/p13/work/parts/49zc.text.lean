set_option maxHeartbeats 4000000 in
set_option maxRecDepth 100000 in
theorem f_X11_text (l : Launch) (D : va_G) (tys : List (ClassId × FieldType)) (base : Nat) (G : iv_G) (h0 : Nat) (g_h0 : Nat → Int32) (r_h0 : Nat → Nat) (a_h0 : G h0 = some (11, g_h0, r_h0)) (x_0 : Int32) (i_x_0 : iv_R (-2147483648) 2147483647 x_0) (hty : iv_ty tys) (gt : Nat → Int32) (rt9 : Nat → Nat) (ht : G (r_h0 4) = some (45, gt, rt9)) (n : Nat) (h5 : (g_h0 5).toInt = (n : Int)) (hby : ∀ i, i < n → iv_R 0 255 (gt i)) (nn0 : Nat) (gb : Nat → Int32) (rb9 : Nat → Nat) (hb5 : G (r_h0 0) = some (5, gb, rb9)) (hbn : (gb 1).toInt = (nn0 : Int)) : Met l yX11_text (Cond.code yX11_text cX11_text 4 (some .int) :: iv_W0) ({ frames := 36, cells := 7, slots := 896, locals := 836 }) (iv_Pc iv_sh D classes tys base G [.ref h0, .int x_0]) (iv_Qi iv_sh D classes tys base (fun v G' => iv_MdT [5, 6, 7, 11, 21, 34, 35, 36, 37, 38, 42, 43, 44] G G' ∧ iv_R (-1) 20 v ∧ (∀ (g' : Nat → Int32) (r' : Nat → Nat), G' h0 = some (11, g', r') → g' 5 = 0) ∧ ((¬ iv_R 0 2 x_0 → v = -1 ∧ ∀ (g' : Nat → Int32) (r' : Nat → Nat), G' (r_h0 6) = some (7, g', r') → g' 6 = 0 ∧ g' 7 = -1) ∧ (iv_R 0 2 x_0 → ∃ gk gv gp : Nat → Int32, tk_R (tk_T gt n) n (tk_k gk) (tk_k gv) (tk_k gp) ∧ ((∃ j l : Nat, tk_cf x_0.toInt.toNat nn0 (tk_k gk) (tk_k gv) j = .fin l ∧ v.toInt = (l : Int) ∧ ∀ (g' : Nat → Int32) (r' : Nat → Nat), G' (r_h0 6) = some (7, g', r') → g' 6 = 0 ∧ g' 7 = -1) ∨ (∃ i k : Nat, tk_F x_0.toInt.toNat nn0 (tk_k gk) (tk_k gv) i k ∧ v = -1 ∧ ∀ (g' : Nat → Int32) (r' : Nat → Nat), G' (r_h0 6) = some (7, g', r') → (g' 6).toInt = (k : Int) ∧ (g' 7).toInt = tk_k gp i)))))) 7 896 (iv_A base) := by
  refine iv_head (by decide) (Nat.le_of_ble_eq_true rfl) ?_
  intro p e s m args below meth c ls X hr hlocks hname hB hl
  have X := X
  have hx := X.1.1
  have hb := X.1.2.1
  have hM : iv_MdT [5, 6, 7, 11, 21, 34, 35, 36, 37, 38, 42, 43, 44] G G := iv_MdT.rf
  have hl : lv_has ls 4 [(0, .ref h0), (1, .int x_0)] := hl
  refine lv_aload_n hx hb dX11_text_0 rfl (lv_at hl 0 rfl) ?_
  refine iv_geti X ft_X11 hB a_h0 sh_11 5 (by decide) rfl k_fl_X11_172 dX11_text_1 (fun x1 e_x1 i_x1 => ?_)
  refine lv_istore_n (lv' := [(2, .int x1), (0, .ref h0), (1, .int x_0)]) hx hb dX11_text_4 rfl hl (by decide) rfl (fun ls hl => ?_)
  refine lv_aload_n hx hb dX11_text_5 rfl (lv_at hl 1 rfl) ?_
  refine lv_iconst (v := 0) hx hb dX11_text_6 (by decide) ?_
  refine iv_puti X ft_X11 hB a_h0 sh_11 5 (by decide) rfl rfl k_fl_X11_172 rfl (q_0.wk (by decide)) rfl rfl dX11_text_7 (fun H locs hB => ?_)
  have hm := iv_MdT.put (x := 0) a_h0 (j := 5) (by decide)
  have h9 := iv_up_eq (G := G) (a := h0) (k := (11, upd g_h0 5 0, r_h0))
  generalize iv_up G h0 _ = G2 at hB hm h9
  have hM := hM.stp hm (by decide)
  generalize hgn_g3 : upd g_h0 _ _ = g3 at h9
  have a_h0 := h9
  have e9_g3 : 0 = g3 5 := by rw [← hgn_g3]; simp [upd]
  have ht2 := hm.at ht (by decide)
  have hb2 := hm.at hb5 (by decide)
  have hx1n : x1.toInt.toNat = n := by rw [e_x1]; omega
  refine lv_iload_n hx hb dX11_text_10 rfl (lv_at hl 2 rfl) ?_
  refine lv_iconst (v := 0) hx hb dX11_text_11 (by decide) ?_
  refine lv_iconst (v := 2) hx hb dX11_text_12 (by decide) ?_
  refine iv_cSi X k_good k_mf_X11_isWithin k_st_X11_isWithin k_ml_X11_83 hB (As := [.int x_0, .int 0, .int 2]) (c_X11_isWithin l D tys base G2 x_0 i_x_0 0 (q_0.wk (by decide)) 2 (q_2.wk (by decide))) ⟨rfl, rfl⟩ ⟨Nat.le_of_ble_eq_true rfl, Nat.le_of_ble_eq_true rfl⟩ ⟨Nat.le_of_ble_eq_true rfl, Nat.le_of_ble_eq_true rfl⟩ rfl rfl hl.1 (Nat.le_of_ble_eq_true rfl) dX11_text_13 (fun x4 G9 H locs hq hB => ?_)
  obtain ⟨rfl, i_x4, hp5⟩ := hq
  have k6 : ¬ x4 = 0 → iv_R 0 2 x_0 := fun h => ⟨iv_max i_x_0.1 (Int.le_trans q_0.1 (hp5.1 h).1) (by decide), iv_min i_x_0.2 (Int.le_trans (hp5.1 h).2 q_2.2) (by decide)⟩
  refine lv_if_ne (tgt := 28) hx hb dX11_text_16 (by decide) (fun c7 => ?_) (fun c7 => ?_)
  · skip
    have i7_x4 : iv_R 1 1 x4 := iv_ne_lo c7 i_x4 q_0 (by decide)
    have i8_x_0 : iv_R 0 2 x_0 := ((i_x_0.cutLo (n := 0) (k6 c7).1).cutHi (n := 2) (k6 c7).2)
    refine lv_iload_n hx hb dX11_text_28 rfl (lv_at hl 2 rfl) ?_
    refine lv_if_ne (tgt := 54) hx hb dX11_text_29 (by decide) (fun c10 => ?_) (fun c10 => ?_)
    · skip
      have i10_x_0 : iv_R 1 2 x_0 := iv_ne_lo c10 i8_x_0 q_0 (by decide)
      refine lv_aload_n hx hb dX11_text_54 rfl (lv_at hl 1 rfl) ?_
      refine iv_getr X ft_X11 hB a_h0 sh_11 6 (by decide) rfl k_fl_X11_33 dX11_text_55 (fun b12 g_b12 r_b12 e_b12 a_b12 => ?_)
      refine lv_aload_n hx hb dX11_text_58 rfl (lv_at hl 1 rfl) ?_
      refine iv_getr X ft_X11 hB a_h0 sh_11 4 (by decide) rfl k_fl_X11_26 dX11_text_59 (fun b13 g_b13 r_b13 e_b13 a_b13 => ?_)
      have hg9 : g_b13 = gt := iv_samew ht2 e_b13 a_b13
      refine lv_iload_n hx hb dX11_text_62 rfl (lv_at hl 0 rfl) ?_
      refine lv_iload_n hx hb dX11_text_63 rfl (lv_at hl 2 rfl) ?_
      refine lv_iconst (v := 1) hx hb dX11_text_64 (by decide) ?_
      refine lv_icmp_ne (tgt := 72) hx hb dX11_text_65 (by decide) (fun c14 => ?_) (fun c14 => ?_)
      · skip
        have i14_x_0 : iv_R 2 2 x_0 := iv_ne_lo c14 i10_x_0 q_1 (by decide)
        refine lv_iconst (v := 0) hx hb dX11_text_72 (by decide) ?_
        refine iv_cVi X k_good k_mf_X7_readLaw k_im_X7_readLaw k_sel_X7_readLaw k_ml_X11_186 ft_X7 hB a_b12 sh_7 (As := [.ref b13, .int x1, .int 0]) (a_X7_readLaw l D tys base G2 b12 g_b12 r_b12 a_b12 b13 g_b13 r_b13 a_b13 x1 i_x1 0 (q_0.wk (by decide)) (by rw [hg9, hx1n]; exact hby) x_0.toInt.toNat nn0 ⟨fun _ => by have w1 := i14_x_0.1; have w2 := i14_x_0.2; omega, fun h => absurd rfl h⟩) ⟨rfl, rfl⟩ ⟨Nat.le_of_ble_eq_true rfl, Nat.le_of_ble_eq_true rfl⟩ ⟨Nat.le_of_ble_eq_true rfl, Nat.le_of_ble_eq_true rfl⟩ rfl rfl hl.1 (Nat.le_of_ble_eq_true rfl) dX11_text_73 (fun x16 G9 H locs hq hB => ?_)
        obtain ⟨hm, i_x16, xp17, xm⟩ := hq
        obtain ⟨G18, hG9⟩ : ∃ g, g = G9 := ⟨_, rfl⟩
        rw [← hG9] at hm hB xp17 xm
        rw [hg9, hx1n] at xm
        obtain ⟨gk, gv, gp, hRt, XS, XF⟩ := xm
        obtain ⟨g9, r9, a_b9, -⟩ := hm.ex a_b12
        have hM := hM.stp (iv_MdT.of0 hm) (by decide)
        have a_h0 := hm.at a_h0 (by decide)
        refine lv_istore_n (lv' := [(3, .int x16), (2, .int x1), (0, .ref h0), (1, .int x_0)]) hx hb dX11_text_76 rfl hl (by decide) rfl (fun ls hl => ?_)
        refine lv_iload_n hx hb dX11_text_77 rfl (lv_at hl 0 rfl) ?_
        refine lv_if_ne (tgt := 83) hx hb dX11_text_78 (by decide) (fun c19 => ?_) (fun c19 => ?_)
        · skip
          have i19_x16 : iv_R 1 1 x16 := iv_ne_lo c19 i_x16 q_0 (by decide)
          refine lv_iload_n hx hb dX11_text_83 rfl (lv_at hl 3 rfl) ?_
          refine lv_if_ne (tgt := 94) hx hb dX11_text_84 (by decide) (fun c21 => ?_) (fun c21 => ?_)
          · skip
            refine lv_aload_n hx hb dX11_text_94 rfl (lv_at hl 2 rfl) ?_
            refine lv_iload_n hx hb dX11_text_95 rfl (lv_at hl 3 rfl) ?_
            refine lv_iconst (v := 1) hx hb dX11_text_96 (by decide) ?_
            refine lv_icmp_ne (tgt := 104) hx hb dX11_text_97 (by decide) (fun c22 => ?_) (fun c22 => ?_)
            · skip
              refine lv_iconst (v := 0) hx hb dX11_text_104 (by decide) ?_
              refine iv_cVvA X k_good k_mf_X11_takeLaw k_im_X11_takeLaw k_sel_X11_takeLaw k_ml_X11_193 ft_X11 hB a_h0 sh_11 (As := [.int 0]) (c_X11_takeLaw l D tys base G18 h0 g3 r_h0 a_h0 0 (q_0.wk (by decide)) hty (by rw [← e_b12]; exact xp17 c19)) ⟨rfl, rfl⟩ ⟨Nat.le_of_ble_eq_true rfl, Nat.le_of_ble_eq_true rfl⟩ ⟨Nat.le_of_ble_eq_true rfl, Nat.le_of_ble_eq_true rfl⟩ rfl rfl hl.1 (Nat.le_of_ble_eq_true rfl) dX11_text_105 (fun G9 H locs hq hB => ?_)
              have hm := hq
              obtain ⟨G23, hG9⟩ : ∃ g, g = G9 := ⟨_, rfl⟩
              rw [← hG9] at hm hB
              have hM := hM.stp (iv_MdT.of hm) (by decide)
              have a_h0 := hm.at a_h0 (by decide)
              refine lv_aload_n hx hb dX11_text_108 rfl (lv_at hl 2 rfl) ?_
              refine iv_getr X ft_X11 hB a_h0 sh_11 6 (by decide) rfl k_fl_X11_33 dX11_text_109 (fun b24 g_b24 r_b24 e_b24 a_b24 => ?_)
              refine iv_geti X ft_X7 hB a_b24 sh_7 8 (by decide) rfl k_fl_X11_197 dX11_text_112 (fun x25 e_x25 i_x25 => ?_)
              refine W.widen (k := 7) (n := 896) (Nat.le_of_ble_eq_true rfl) (Nat.le_of_ble_eq_true rfl) ?_
              exact iv_iret X hr hlocks hB ⟨hM, (i_x25.wk (by decide)), fun g9 r9 h9 => by have h8 := a_h0.symm.trans h9; cases h8; exact e9_g3.symm, (⟨fun h => absurd i8_x_0 h, fun _ => ⟨gk, gv, gp, hRt, Or.inl (by obtain ⟨j, l9, h1, h2⟩ := XS c19; have w := h2 _ _ a_b9; exact ⟨j, l9, h1, by rw [e_x25, iv_samew (hm.at a_b9 (by decide)) (e_b24.trans e_b12.symm) a_b24]; exact w.1, fun g8 r8 h8 => by rw [← e_b12] at h8; cases (hm.at a_b9 (by decide)).symm.trans h8; exact w.2⟩)⟩⟩)⟩ dX11_text_115
            · skip
              exact absurd c22 c14
          · skip
            exact absurd c21 c10
        · skip
          have i25_x16 : iv_R 0 0 x16 := (i_x16.cutHi (n := 0) (iv_eq_r c19 q_0).2)
          refine lv_iconst (v := (-1)) hx hb dX11_text_81 (by decide) ?_
          refine W.widen (k := 7) (n := 896) (Nat.le_of_ble_eq_true rfl) (Nat.le_of_ble_eq_true rfl) ?_
          exact iv_iret X hr hlocks hB ⟨hM, (q_n1.wk (by decide)), fun g9 r9 h9 => by have h8 := a_h0.symm.trans h9; cases h8; exact e9_g3.symm, (⟨fun h => absurd i8_x_0 h, fun _ => ⟨gk, gv, gp, hRt, Or.inr (by obtain ⟨i, k, h1, g7, r7, w1, w2, w3⟩ := XF c19; exact ⟨i, k, h1, rfl, fun g8 r8 h8 => by rw [← e_b12] at h8; cases w1.symm.trans h8; exact ⟨w2, congrArg Int32.toInt w3⟩⟩)⟩⟩)⟩ dX11_text_82
      · skip
        have i26_x_0 : iv_R 1 1 x_0 := (i10_x_0.cutHi (n := 1) (iv_eq_r c14 q_1).2)
        refine lv_iconst (v := 1) hx hb dX11_text_68 (by decide) ?_
        refine lv_goto (tgt := 73) hx hb dX11_text_69 (by decide) ?_
        refine iv_cVi X k_good k_mf_X7_readLaw k_im_X7_readLaw k_sel_X7_readLaw k_ml_X11_186 ft_X7 hB a_b12 sh_7 (As := [.ref b13, .int x1, .int 1]) (a_X7_readLaw l D tys base G2 b12 g_b12 r_b12 a_b12 b13 g_b13 r_b13 a_b13 x1 i_x1 1 (q_1.wk (by decide)) (by rw [hg9, hx1n]; exact hby) x_0.toInt.toNat nn0 ⟨fun h => absurd h (by decide), fun _ => by have w1 := i26_x_0.1; have w2 := i26_x_0.2; omega⟩) ⟨rfl, rfl⟩ ⟨Nat.le_of_ble_eq_true rfl, Nat.le_of_ble_eq_true rfl⟩ ⟨Nat.le_of_ble_eq_true rfl, Nat.le_of_ble_eq_true rfl⟩ rfl rfl hl.1 (Nat.le_of_ble_eq_true rfl) dX11_text_73 (fun x28 G9 H locs hq hB => ?_)
        obtain ⟨hm, i_x28, xp29, xm⟩ := hq
        obtain ⟨G30, hG9⟩ : ∃ g, g = G9 := ⟨_, rfl⟩
        rw [← hG9] at hm hB xp29 xm
        rw [hg9, hx1n] at xm
        obtain ⟨gk, gv, gp, hRt, XS, XF⟩ := xm
        obtain ⟨g9, r9, a_b9, -⟩ := hm.ex a_b12
        have hM := hM.stp (iv_MdT.of0 hm) (by decide)
        have a_h0 := hm.at a_h0 (by decide)
        refine lv_istore_n (lv' := [(3, .int x28), (2, .int x1), (0, .ref h0), (1, .int x_0)]) hx hb dX11_text_76 rfl hl (by decide) rfl (fun ls hl => ?_)
        refine lv_iload_n hx hb dX11_text_77 rfl (lv_at hl 0 rfl) ?_
        refine lv_if_ne (tgt := 83) hx hb dX11_text_78 (by decide) (fun c31 => ?_) (fun c31 => ?_)
        · skip
          have i31_x28 : iv_R 1 1 x28 := iv_ne_lo c31 i_x28 q_0 (by decide)
          refine lv_iload_n hx hb dX11_text_83 rfl (lv_at hl 3 rfl) ?_
          refine lv_if_ne (tgt := 94) hx hb dX11_text_84 (by decide) (fun c33 => ?_) (fun c33 => ?_)
          · skip
            refine lv_aload_n hx hb dX11_text_94 rfl (lv_at hl 2 rfl) ?_
            refine lv_iload_n hx hb dX11_text_95 rfl (lv_at hl 3 rfl) ?_
            refine lv_iconst (v := 1) hx hb dX11_text_96 (by decide) ?_
            refine lv_icmp_ne (tgt := 104) hx hb dX11_text_97 (by decide) (fun c34 => ?_) (fun c34 => ?_)
            · skip
              exact (iv_ne_lo c34 i26_x_0 q_1 (a' := 2) (by decide)).no (by decide)
            · skip
              refine lv_iconst (v := 1) hx hb dX11_text_100 (by decide) ?_
              refine lv_goto (tgt := 105) hx hb dX11_text_101 (by decide) ?_
              refine iv_cVvA X k_good k_mf_X11_takeLaw k_im_X11_takeLaw k_sel_X11_takeLaw k_ml_X11_193 ft_X11 hB a_h0 sh_11 (As := [.int 1]) (c_X11_takeLaw l D tys base G30 h0 g3 r_h0 a_h0 1 (q_1.wk (by decide)) hty (by rw [← e_b12]; exact xp29 c31)) ⟨rfl, rfl⟩ ⟨Nat.le_of_ble_eq_true rfl, Nat.le_of_ble_eq_true rfl⟩ ⟨Nat.le_of_ble_eq_true rfl, Nat.le_of_ble_eq_true rfl⟩ rfl rfl hl.1 (Nat.le_of_ble_eq_true rfl) dX11_text_105 (fun G9 H locs hq hB => ?_)
              have hm := hq
              obtain ⟨G35, hG9⟩ : ∃ g, g = G9 := ⟨_, rfl⟩
              rw [← hG9] at hm hB
              have hM := hM.stp (iv_MdT.of hm) (by decide)
              have a_h0 := hm.at a_h0 (by decide)
              refine lv_aload_n hx hb dX11_text_108 rfl (lv_at hl 2 rfl) ?_
              refine iv_getr X ft_X11 hB a_h0 sh_11 6 (by decide) rfl k_fl_X11_33 dX11_text_109 (fun b36 g_b36 r_b36 e_b36 a_b36 => ?_)
              refine iv_geti X ft_X7 hB a_b36 sh_7 8 (by decide) rfl k_fl_X11_197 dX11_text_112 (fun x37 e_x37 i_x37 => ?_)
              refine W.widen (k := 7) (n := 896) (Nat.le_of_ble_eq_true rfl) (Nat.le_of_ble_eq_true rfl) ?_
              exact iv_iret X hr hlocks hB ⟨hM, (i_x37.wk (by decide)), fun g9 r9 h9 => by have h8 := a_h0.symm.trans h9; cases h8; exact e9_g3.symm, (⟨fun h => absurd i8_x_0 h, fun _ => ⟨gk, gv, gp, hRt, Or.inl (by obtain ⟨j, l9, h1, h2⟩ := XS c31; have w := h2 _ _ a_b9; exact ⟨j, l9, h1, by rw [e_x37, iv_samew (hm.at a_b9 (by decide)) (e_b36.trans e_b12.symm) a_b36]; exact w.1, fun g8 r8 h8 => by rw [← e_b12] at h8; cases (hm.at a_b9 (by decide)).symm.trans h8; exact w.2⟩)⟩⟩)⟩ dX11_text_115
          · skip
            exact absurd c33 c10
        · skip
          have i37_x28 : iv_R 0 0 x28 := (i_x28.cutHi (n := 0) (iv_eq_r c31 q_0).2)
          refine lv_iconst (v := (-1)) hx hb dX11_text_81 (by decide) ?_
          refine W.widen (k := 7) (n := 896) (Nat.le_of_ble_eq_true rfl) (Nat.le_of_ble_eq_true rfl) ?_
          exact iv_iret X hr hlocks hB ⟨hM, (q_n1.wk (by decide)), fun g9 r9 h9 => by have h8 := a_h0.symm.trans h9; cases h8; exact e9_g3.symm, (⟨fun h => absurd i8_x_0 h, fun _ => ⟨gk, gv, gp, hRt, Or.inr (by obtain ⟨i, k, h1, g7, r7, w1, w2, w3⟩ := XF c31; exact ⟨i, k, h1, rfl, fun g8 r8 h8 => by rw [← e_b12] at h8; cases w1.symm.trans h8; exact ⟨w2, congrArg Int32.toInt w3⟩⟩)⟩⟩)⟩ dX11_text_82
    · skip
      have i38_x_0 : iv_R 0 0 x_0 := (i8_x_0.cutHi (n := 0) (iv_eq_r c10 q_0).2)
      refine lv_aload_n hx hb dX11_text_32 rfl (lv_at hl 1 rfl) ?_
      refine iv_getr X ft_X11 hB a_h0 sh_11 6 (by decide) rfl k_fl_X11_33 dX11_text_33 (fun b40 g_b40 r_b40 e_b40 a_b40 => ?_)
      refine lv_aload_n hx hb dX11_text_36 rfl (lv_at hl 1 rfl) ?_
      refine iv_getr X ft_X11 hB a_h0 sh_11 4 (by decide) rfl k_fl_X11_26 dX11_text_37 (fun b41 g_b41 r_b41 e_b41 a_b41 => ?_)
      have hg9 : g_b41 = gt := iv_samew ht2 e_b41 a_b41
      refine lv_iload_n hx hb dX11_text_40 rfl (lv_at hl 0 rfl) ?_
      refine lv_aload_n hx hb dX11_text_41 rfl (lv_at hl 1 rfl) ?_
      refine iv_getr X ft_X11 hB a_h0 sh_11 0 (by decide) rfl k_fl_X11_12 dX11_text_42 (fun b42 g_b42 r_b42 e_b42 a_b42 => ?_)
      have hgP : g_b42 = gb := iv_samew hb2 e_b42 a_b42
      refine iv_geti X ft_X5 hB a_b42 sh_5 1 (by decide) rfl k_fl_X11_90 dX11_text_45 (fun x43 e_x43 i_x43 => ?_)
      refine iv_cVi X k_good k_mf_X7_readHours k_im_X7_readHours k_sel_X7_readHours k_ml_X11_182 ft_X7 hB a_b40 sh_7 (As := [.ref b41, .int x1, .int x43]) (a_X7_readHours l D tys base G2 b40 g_b40 r_b40 a_b40 b41 g_b41 r_b41 a_b41 x1 i_x1 x43 i_x43 (by rw [hg9, hx1n]; exact hby) nn0 (by rw [e_x43, hgP]; exact hbn)) ⟨rfl, rfl⟩ ⟨Nat.le_of_ble_eq_true rfl, Nat.le_of_ble_eq_true rfl⟩ ⟨Nat.le_of_ble_eq_true rfl, Nat.le_of_ble_eq_true rfl⟩ rfl rfl hl.1 (Nat.le_of_ble_eq_true rfl) dX11_text_48 (fun x44 G9 H locs hq hB => ?_)
      obtain ⟨hm, i_x44, xm⟩ := hq
      obtain ⟨G45, hG9⟩ : ∃ g, g = G9 := ⟨_, rfl⟩
      rw [← hG9] at hm hB xm
      rw [hg9, hx1n] at xm
      obtain ⟨gk, gv, gp, hRt, XS, XF⟩ := xm
      obtain ⟨g9, r9, a_b9, -⟩ := hm.ex a_b40
      have ex0 : x_0.toInt.toNat = 0 := by have w1 := i38_x_0.1; have w2 := i38_x_0.2; omega
      have hM := hM.stp (iv_MdT.of0 hm) (by decide)
      have a_h0 := hm.at a_h0 (by decide)
      refine lv_goto (tgt := 76) hx hb dX11_text_51 (by decide) ?_
      refine lv_istore_n (lv' := [(3, .int x44), (2, .int x1), (0, .ref h0), (1, .int x_0)]) hx hb dX11_text_76 rfl hl (by decide) rfl (fun ls hl => ?_)
      refine lv_iload_n hx hb dX11_text_77 rfl (lv_at hl 0 rfl) ?_
      refine lv_if_ne (tgt := 83) hx hb dX11_text_78 (by decide) (fun c46 => ?_) (fun c46 => ?_)
      · skip
        have i46_x44 : iv_R 1 1 x44 := iv_ne_lo c46 i_x44 q_0 (by decide)
        refine lv_iload_n hx hb dX11_text_83 rfl (lv_at hl 3 rfl) ?_
        refine lv_if_ne (tgt := 94) hx hb dX11_text_84 (by decide) (fun c48 => ?_) (fun c48 => ?_)
        · skip
          exact (iv_ne_lo c48 i38_x_0 q_0 (a' := 1) (by decide)).no (by decide)
        · skip
          refine lv_aload_n hx hb dX11_text_87 rfl (lv_at hl 2 rfl) ?_
          refine iv_cVv X k_good k_mf_X11_takeHours k_im_X11_takeHours k_sel_X11_takeHours k_ml_X11_190 ft_X11 hB a_h0 sh_11 (As := []) (c_X11_takeHours l D tys base G45 h0 g3 r_h0 a_h0) ⟨rfl, rfl⟩ ⟨Nat.le_of_ble_eq_true rfl, Nat.le_of_ble_eq_true rfl⟩ ⟨Nat.le_of_ble_eq_true rfl, Nat.le_of_ble_eq_true rfl⟩ rfl rfl hl.1 (Nat.le_of_ble_eq_true rfl) dX11_text_88 (fun G9 H locs hq hB => ?_)
          have hm := hq
          obtain ⟨G49, hG9⟩ : ∃ g, g = G9 := ⟨_, rfl⟩
          rw [← hG9] at hm hB
          have hM := hM.stp (iv_MdT.of hm) (by decide)
          have a_h0 := hm.at a_h0 (by decide)
          refine lv_goto (tgt := 108) hx hb dX11_text_91 (by decide) ?_
          refine lv_aload_n hx hb dX11_text_108 rfl (lv_at hl 2 rfl) ?_
          refine iv_getr X ft_X11 hB a_h0 sh_11 6 (by decide) rfl k_fl_X11_33 dX11_text_109 (fun b50 g_b50 r_b50 e_b50 a_b50 => ?_)
          refine iv_geti X ft_X7 hB a_b50 sh_7 8 (by decide) rfl k_fl_X11_197 dX11_text_112 (fun x51 e_x51 i_x51 => ?_)
          refine W.widen (k := 7) (n := 896) (Nat.le_of_ble_eq_true rfl) (Nat.le_of_ble_eq_true rfl) ?_
          exact iv_iret X hr hlocks hB ⟨hM, (i_x51.wk (by decide)), fun g9 r9 h9 => by have h8 := a_h0.symm.trans h9; cases h8; exact e9_g3.symm, (⟨fun h => absurd i8_x_0 h, fun _ => ⟨gk, gv, gp, hRt, Or.inl (by obtain ⟨j, l9, h1, h2⟩ := XS c46; have w := h2 _ _ a_b9; exact ⟨j, l9, by rw [ex0]; exact h1, by rw [e_x51, iv_samew (hm.at a_b9 (by decide)) (e_b50.trans e_b40.symm) a_b50]; exact w.1, fun g8 r8 h8 => by rw [← e_b40] at h8; cases (hm.at a_b9 (by decide)).symm.trans h8; exact w.2⟩)⟩⟩)⟩ dX11_text_115
      · skip
        have i51_x44 : iv_R 0 0 x44 := (i_x44.cutHi (n := 0) (iv_eq_r c46 q_0).2)
        refine lv_iconst (v := (-1)) hx hb dX11_text_81 (by decide) ?_
        refine W.widen (k := 7) (n := 896) (Nat.le_of_ble_eq_true rfl) (Nat.le_of_ble_eq_true rfl) ?_
        exact iv_iret X hr hlocks hB ⟨hM, (q_n1.wk (by decide)), fun g9 r9 h9 => by have h8 := a_h0.symm.trans h9; cases h8; exact e9_g3.symm, (⟨fun h => absurd i8_x_0 h, fun _ => ⟨gk, gv, gp, hRt, Or.inr (by obtain ⟨i, k, h1, g7, r7, w1, w2, w3⟩ := XF c46; exact ⟨i, k, by rw [ex0]; exact h1, rfl, fun g8 r8 h8 => by rw [← e_b40] at h8; cases w1.symm.trans h8; exact ⟨w2, congrArg Int32.toInt w3⟩⟩)⟩⟩)⟩ dX11_text_82
  · skip
    have i52_x4 : iv_R 0 0 x4 := (i_x4.cutHi (n := 0) (iv_eq_r c7 q_0).2)
    refine lv_aload_n hx hb dX11_text_19 rfl (lv_at hl 1 rfl) ?_
    refine iv_getr X ft_X11 hB a_h0 sh_11 6 (by decide) rfl k_fl_X11_33 dX11_text_20 (fun b54 g_b54 r_b54 e_b54 a_b54 => ?_)
    refine iv_cVv X k_good k_mf_X7_forgetFault k_im_X7_forgetFault k_sel_X7_forgetFault k_ml_X11_179 ft_X7 hB a_b54 sh_7 (As := []) (e_X7_forgetFault l D tys base G2 b54 g_b54 r_b54 a_b54) ⟨rfl, rfl⟩ ⟨Nat.le_of_ble_eq_true rfl, Nat.le_of_ble_eq_true rfl⟩ ⟨Nat.le_of_ble_eq_true rfl, Nat.le_of_ble_eq_true rfl⟩ rfl rfl hl.1 (Nat.le_of_ble_eq_true rfl) dX11_text_23 (fun G9 H locs hq hB => ?_)
    obtain ⟨hm, xm⟩ := hq
    obtain ⟨G55, hG9⟩ : ∃ g, g = G9 := ⟨_, rfl⟩
    rw [← hG9] at hm hB xm
    have hM := hM.stp (iv_MdT.of hm) (by decide)
    have a_h0 := hm.at a_h0 (by decide)
    refine lv_iconst (v := (-1)) hx hb dX11_text_26 (by decide) ?_
    refine W.widen (k := 7) (n := 896) (Nat.le_of_ble_eq_true rfl) (Nat.le_of_ble_eq_true rfl) ?_
    exact iv_iret X hr hlocks hB ⟨hM, (q_n1.wk (by decide)), fun g9 r9 h9 => by have h8 := a_h0.symm.trans h9; cases h8; exact e9_g3.symm, (⟨fun _ => ⟨rfl, fun g8 r8 h8 => by rw [← e_b54] at h8; exact xm _ _ h8⟩, fun h => absurd h (fun h => by have w := hp5.2 c7; have w1 := h.1; have w2 := h.2; have z0 : (0 : Int32).toInt = 0 := rfl; have z2 : (2 : Int32).toInt = 2 := rfl; omega)⟩)⟩ dX11_text_27
set_option maxHeartbeats 4000000 in
set_option maxRecDepth 100000 in
theorem f_X12_fault (l : Launch) (D : va_G) (tys : List (ClassId × FieldType)) (base : Nat) (G : iv_G) (h0 : Nat) (g_h0 : Nat → Int32) (r_h0 : Nat → Nat) (a_h0 : G h0 = some (12, g_h0, r_h0)) (x_0 : Int32) (i_x_0 : iv_R (-2147483648) 2147483647 x_0) : Met l yX12_fault (Cond.code yX12_fault cX12_fault 2 (some .int) :: iv_W0) ({ frames := 0, cells := 0, slots := 0, locals := 0 }) (iv_Pc iv_sh D classes tys base G [.ref h0, .int x_0]) (iv_Qi iv_sh D classes tys base (fun v G' => G = G' ∧ iv_R (-2147483648) 2147483647 v ∧ ((x_0.toInt = 0 → v = g_h0 22) ∧ (x_0.toInt = 1 → v = g_h0 24) ∧ (¬ x_0.toInt = 0 → ¬ x_0.toInt = 1 → v = -1)))) 0 0 (iv_A base) := by
  refine iv_head (by decide) (Nat.le_of_ble_eq_true rfl) ?_
  intro p e s m args below meth c ls X hr hlocks hname hB hl
  have X := X
  have hx := X.1.1
  have hb := X.1.2.1
  have hl : lv_has ls 2 [(0, .ref h0), (1, .int x_0)] := hl
  refine lv_iload_n hx hb dX12_fault_0 rfl (lv_at hl 1 rfl) ?_
  refine lv_if_ne (tgt := 11) hx hb dX12_fault_1 (by decide) (fun c1 => ?_) (fun c1 => ?_)
  · skip
    refine lv_iload_n hx hb dX12_fault_11 rfl (lv_at hl 1 rfl) ?_
    refine lv_iconst (v := 1) hx hb dX12_fault_12 (by decide) ?_
    refine lv_icmp_ne (tgt := 23) hx hb dX12_fault_13 (by decide) (fun c2 => ?_) (fun c2 => ?_)
    · skip
      refine lv_iconst (v := (-1)) hx hb dX12_fault_23 (by decide) ?_
      exact iv_iret X hr hlocks hB ⟨rfl, (q_n1.wk (by decide)), (⟨fun h => absurd (Int32.toInt_inj.mp h) c1, fun h => absurd (Int32.toInt_inj.mp h) c2, fun _ _ => rfl⟩)⟩ dX12_fault_24
    · skip
      have i2_x_0 : iv_R 1 1 x_0 := ((i_x_0.cutLo (n := 1) (iv_eq_r c2 q_1).1).cutHi (n := 1) (iv_eq_r c2 q_1).2)
      refine lv_aload_n hx hb dX12_fault_16 rfl (lv_at hl 0 rfl) ?_
      refine iv_geti X ft_X12 hB a_h0 sh_12 24 (by decide) rfl k_fl_X12_37 dX12_fault_17 (fun x4 e_x4 i_x4 => ?_)
      refine lv_goto (tgt := 24) hx hb dX12_fault_20 (by decide) ?_
      exact iv_iret X hr hlocks hB ⟨rfl, i_x4, (⟨fun h => absurd (Int32.toInt_inj.mp h) c1, fun _ => e_x4, fun _ h => absurd (congrArg Int32.toInt c2) h⟩)⟩ dX12_fault_24
  · skip
    have i4_x_0 : iv_R 0 0 x_0 := ((i_x_0.cutLo (n := 0) (iv_eq_r c1 q_0).1).cutHi (n := 0) (iv_eq_r c1 q_0).2)
    refine lv_aload_n hx hb dX12_fault_4 rfl (lv_at hl 0 rfl) ?_
    refine iv_geti X ft_X12 hB a_h0 sh_12 22 (by decide) rfl k_fl_X12_250 dX12_fault_5 (fun x6 e_x6 i_x6 => ?_)
    refine lv_goto (tgt := 24) hx hb dX12_fault_8 (by decide) ?_
    exact iv_iret X hr hlocks hB ⟨rfl, i_x6, (⟨fun _ => e_x6, fun h => absurd (h.symm.trans (congrArg Int32.toInt c1)) (by decide), fun h => absurd (congrArg Int32.toInt c1) h⟩)⟩ dX12_fault_24
set_option maxHeartbeats 4000000 in
set_option maxRecDepth 100000 in
theorem f_X11_fault (l : Launch) (D : va_G) (tys : List (ClassId × FieldType)) (base : Nat) (G : iv_G) (h0 : Nat) (g_h0 : Nat → Int32) (r_h0 : Nat → Nat) (a_h0 : G h0 = some (11, g_h0, r_h0)) (x_0 : Int32) (i_x_0 : iv_R (-2147483648) 2147483647 x_0) : Met l yX11_fault (Cond.code yX11_fault cX11_fault 2 (some .int) :: iv_W0) ({ frames := 0, cells := 0, slots := 0, locals := 0 }) (iv_Pc iv_sh D classes tys base G [.ref h0, .int x_0]) (iv_Qi iv_sh D classes tys base (fun v G' => G = G' ∧ iv_R (-2147483648) 2147483647 v ∧ ((x_0.toInt = 0 → ∀ (g' : Nat → Int32) (r' : Nat → Nat), G' (r_h0 6) = some (7, g', r') → v = g' 6) ∧ (x_0.toInt = 1 → ∀ (g' : Nat → Int32) (r' : Nat → Nat), G' (r_h0 6) = some (7, g', r') → v = g' 7) ∧ (¬ x_0.toInt = 0 → ¬ x_0.toInt = 1 → v = -1)))) 0 0 (iv_A base) := by
  refine iv_head (by decide) (Nat.le_of_ble_eq_true rfl) ?_
  intro p e s m args below meth c ls X hr hlocks hname hB hl
  have X := X
  have hx := X.1.1
  have hb := X.1.2.1
  have hl : lv_has ls 2 [(0, .ref h0), (1, .int x_0)] := hl
  refine lv_iload_n hx hb dX11_fault_0 rfl (lv_at hl 1 rfl) ?_
  by_cases w1 : x_0.toInt = 0
  · skip
    refine lv_lookup (off := 27) (tgt := 28) hx hb dX11_fault_1 (by decide) (by rw [w1]; (try rfl)) (by decide) ?_
    have w1i : iv_R 0 0 x_0 := iv_lit w1
    refine lv_aload_n hx hb dX11_fault_28 rfl (lv_at hl 0 rfl) ?_
    refine iv_getr X ft_X11 hB a_h0 sh_11 6 (by decide) rfl k_fl_X11_33 dX11_fault_29 (fun b2 g_b2 r_b2 e_b2 a_b2 => ?_)
    refine iv_geti X ft_X7 hB a_b2 sh_7 6 (by decide) rfl k_fl_X11_238 dX11_fault_32 (fun x3 e_x3 i_x3 => ?_)
    exact iv_iret X hr hlocks hB ⟨rfl, i_x3, (⟨fun _ g8 r8 h8 => by rw [← e_b2] at h8; cases a_b2.symm.trans h8; exact e_x3, fun h => absurd (h.symm.trans w1) (by decide), fun h => absurd w1 h⟩)⟩ dX11_fault_35
  skip
  by_cases w4 : x_0.toInt = 1
  · skip
    refine lv_lookup (off := 35) (tgt := 36) hx hb dX11_fault_1 (by decide) (by rw [w4]; (try rfl)) (by decide) ?_
    have w4i : iv_R 1 1 x_0 := iv_lit w4
    refine lv_aload_n hx hb dX11_fault_36 rfl (lv_at hl 0 rfl) ?_
    refine iv_getr X ft_X11 hB a_h0 sh_11 6 (by decide) rfl k_fl_X11_33 dX11_fault_37 (fun b5 g_b5 r_b5 e_b5 a_b5 => ?_)
    refine iv_geti X ft_X7 hB a_b5 sh_7 7 (by decide) rfl k_fl_X11_241 dX11_fault_40 (fun x6 e_x6 i_x6 => ?_)
    exact iv_iret X hr hlocks hB ⟨rfl, i_x6, (⟨fun h => absurd h w1, fun _ g8 r8 h8 => by rw [← e_b5] at h8; cases a_b5.symm.trans h8; exact e_x6, fun _ h => absurd w4 h⟩)⟩ dX11_fault_43
  skip
  refine lv_lookup (off := 43) (tgt := 44) hx hb dX11_fault_1 (by decide) (by simp [Op.lookupswitch.offset, List.find?, w1, Ne.symm w1, w4, Ne.symm w4]) (by decide) ?_
  refine lv_iconst (v := (-1)) hx hb dX11_fault_44 (by decide) ?_
  exact iv_iret X hr hlocks hB ⟨rfl, (q_n1.wk (by decide)), (⟨fun h => absurd h w1, fun h => absurd h w4, fun _ _ => rfl⟩)⟩ dX11_fault_45
