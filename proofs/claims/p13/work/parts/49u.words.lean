theorem tm_is.of {gt : Nat → Int32} {a b : Int32} {s : Nat} (ha : 0 ≤ a.toInt) (hb : 0 ≤ b.toInt) : tm_is gt b.toInt.toNat a.toInt.toNat s ↔ a.toInt - b.toInt = ((iv_len.getD s 0 : Nat) : Int) ∧ ∀ j, j < iv_len.getD s 0 → gt (b.toInt.toNat + j) = (iv_byt.getD s []).getD j 0 &&& 255 := by
  unfold tm_is
  constructor
  · rintro ⟨h1, h2⟩
    exact ⟨by omega, h2⟩
  · rintro ⟨h1, h2⟩
    exact ⟨by omega, h2⟩
set_option maxHeartbeats 4000000 in
set_option maxRecDepth 100000 in
theorem f_X12_is (l : Launch) (D : va_G) (tys : List (ClassId × FieldType)) (base : Nat) (G : iv_G) (h0 : Nat) (g_h0 : Nat → Int32) (r_h0 : Nat → Nat) (a_h0 : G h0 = some (12, g_h0, r_h0)) (s1 : Nat) (hs1 : s1 < 23) (gt : Nat → Int32) (rt : Nat → Nat) (ht : G (r_h0 8) = some (66, gt, rt)) : Met l yX12_is (Cond.code yX12_is cX12_is 4 (some .boolean) :: iv_W0) ({ frames := 4, cells := 0, slots := 0, locals := 85 }) (iv_Pc iv_sh D classes tys base G [.ref h0, .ref (D.2 100 s1)]) (iv_Qi iv_sh D classes tys base (fun v G' => G = G' ∧ iv_R 0 1 v ∧ (¬ v = 0 ↔ tm_is gt (g_h0 18).toInt.toNat (g_h0 16).toInt.toNat s1))) 0 0 (iv_A base) := by
  refine iv_head (by decide) (Nat.le_of_ble_eq_true rfl) ?_
  intro p e s m args below meth c ls X hr hlocks hname hB hl
  have X := X
  have hx := X.1.1
  have hb := X.1.2.1
  have hl : lv_has ls 4 [(0, .ref h0), (1, .ref (D.2 100 s1))] := hl
  refine lv_aload_n hx hb dX12_is_0 rfl (lv_at hl 0 rfl) ?_
  refine iv_geti X ft_X12 hB a_h0 sh_12 16 (by decide) rfl k_fl_X12_85 dX12_is_1 (fun x1 e_x1 i_x1 => ?_)
  refine lv_aload_n hx hb dX12_is_4 rfl (lv_at hl 0 rfl) ?_
  refine iv_geti X ft_X12 hB a_h0 sh_12 18 (by decide) rfl k_fl_X12_88 dX12_is_5 (fun x2 e_x2 i_x2 => ?_)
  refine iv_isub hx hb i_x1 i_x2 (lo := (-400)) (hi := 400) (by decide) dX12_is_8 (fun x3 e_x3 i_x3 => ?_)
  refine lv_aload_n hx hb dX12_is_9 rfl (lv_at hl 1 rfl) ?_
  refine iv_cKi X k_good k_mf_J0_length_8abf5 k_im_J0_length_8abf5 k_sel_J0_length_8abf5 k_ml_X12_91 hs1 rfl hB (As := []) (c_J0_length_8abf5 l D tys base G s1 hs1) ⟨rfl, rfl⟩ ⟨Nat.le_of_ble_eq_true rfl, Nat.le_of_ble_eq_true rfl⟩ ⟨Nat.le_of_ble_eq_true rfl, Nat.le_of_ble_eq_true rfl⟩ rfl rfl hl.1 (Nat.le_of_ble_eq_true rfl) dX12_is_10 (fun x4 G9 H locs hq hB => ?_)
  obtain ⟨rfl, i_x4, e_x4⟩ := hq
  refine lv_icmp_ne (tgt := 20) hx hb dX12_is_13 (by decide) (fun c5 => ?_) (fun c5 => ?_)
  · skip
    refine lv_iconst (v := 0) hx hb dX12_is_20 (by decide) ?_
    refine lv_istore_n (lv' := [(2, .int 0), (0, .ref h0), (1, .ref (D.2 100 s1))]) hx hb dX12_is_21 rfl hl (by decide) rfl (fun ls hl => ?_)
    refine lv_iconst (v := 0) hx hb dX12_is_22 (by decide) ?_
    refine lv_istore_n (lv' := [(3, .int 0), (2, .int 0), (0, .ref h0), (1, .ref (D.2 100 s1))]) hx hb dX12_is_23 rfl hl (by decide) rfl (fun ls hl => ?_)
    have L_24 : ∀ (n_24 : Nat) (H : Heap) (locs : List Loc) (hB : iv_B iv_sh D classes tys base G s.heap H locs) (x6 : Int32) (i_x6 : iv_R 0 1 x6) (x7 : Int32) (i_x7 : iv_R 0 255 x7) (hn_24 : (256 - x7.toInt).toNat < n_24) (inv_24 : x7.toInt ≤ ((iv_len.getD s1 0 : Nat) : Int) ∧ (¬ x6 = 0 ↔ (g_h0 16).toInt - (g_h0 18).toInt = ((iv_len.getD s1 0 : Nat) : Int) ∧ ∀ j, j < x7.toInt.toNat → gt ((g_h0 18).toInt.toNat + j) = (iv_byt.getD s1 []).getD j 0 &&& 255)) (ls : Array Slot) (hl : lv_has ls 4 [(3, .int x7), (2, .int x6), (0, .ref h0), (1, .ref (D.2 100 s1))]), W p l e ({ frames := 4, cells := 0, slots := 0, locals := 85 } : Room) s m args below meth c H locs 0 0 (MQ below (iv_Qi iv_sh D classes tys base (fun v G' => G = G' ∧ iv_R 0 1 v ∧ (¬ v = 0 ↔ tm_is gt (g_h0 18).toInt.toNat (g_h0 16).toInt.toNat s1))) args s 0 0 (iv_A base)) (F0 m 24 ls []) := by
      intro n_24
      induction n_24 with
      | zero => intro H locs hB x6 i_x6 x7 i_x7 hn_24 inv_24 ls hl; exact absurd hn_24 (Nat.not_lt_zero _)
      | succ n_24 ih_24 =>
        intro H locs hB x6 i_x6 x7 i_x7 hn_24 inv_24 ls hl
        refine lv_iload_n hx hb dX12_is_24 rfl (lv_at hl 0 rfl) ?_
        refine lv_aload_n hx hb dX12_is_25 rfl (lv_at hl 3 rfl) ?_
        refine iv_cKi X k_good k_mf_J0_length_8abf5 k_im_J0_length_8abf5 k_sel_J0_length_8abf5 k_ml_X12_91 hs1 rfl hB (As := []) (c_J0_length_8abf5 l D tys base G s1 hs1) ⟨rfl, rfl⟩ ⟨Nat.le_of_ble_eq_true rfl, Nat.le_of_ble_eq_true rfl⟩ ⟨Nat.le_of_ble_eq_true rfl, Nat.le_of_ble_eq_true rfl⟩ rfl rfl hl.1 (Nat.le_of_ble_eq_true rfl) dX12_is_26 (fun x8 G9 H locs hq hB => ?_)
        obtain ⟨rfl, i_x8, e_x8⟩ := hq
        refine lv_icmp_ge (tgt := 67) hx hb dX12_is_29 (by decide) (fun c9 => ?_) (fun c9 => ?_)
        · skip
          refine lv_iload_n hx hb dX12_is_67 rfl (lv_at hl 1 rfl) ?_
          exact iv_zret X hr hlocks hB i_x6 ⟨rfl, i_x6, (by have hk : x7.toInt.toNat = iv_len.getD s1 0 := (by have w := inv_24.1; have w1 := Int32.le_iff_toInt_le.mp c9; have w2 := i_x7.1; omega); have w := inv_24.2; rw [hk] at w; exact w.trans (tm_is.of (show 0 ≤ (g_h0 16).toInt by have w := i_x1.1; rw [e_x1] at w; exact w) (show 0 ≤ (g_h0 18).toInt by have w := i_x2.1; rw [e_x2] at w; exact w)).symm)⟩ dX12_is_68
        · skip
          have i9_x7 : iv_R 0 254 x7 := (i_x7.cutHi (n := 254) (iv_lt_r (iv_nle c9) i_x8 (by decide)))
          have i10_x8 : iv_R 1 255 x8 := (i_x8.cutLo (n := 1) (iv_lt_l (iv_nle c9) i_x7 (by decide)))
          refine lv_iload_n hx hb dX12_is_32 rfl (lv_at hl 1 rfl) ?_
          refine lv_if_eq (tgt := 67) hx hb dX12_is_33 (by decide) (fun c12 => ?_) (fun c12 => ?_)
          · skip
            have i12_x6 : iv_R 0 0 x6 := (i_x6.cutHi (n := 0) (iv_eq_r c12 q_0).2)
            refine lv_iload_n hx hb dX12_is_67 rfl (lv_at hl 1 rfl) ?_
            exact iv_zret X hr hlocks hB (i12_x6.wk (by decide)) ⟨rfl, (i12_x6.wk (by decide)), ⟨fun h => absurd c12 h, fun h => inv_24.2.mpr ⟨((tm_is.of (show 0 ≤ (g_h0 16).toInt by have w := i_x1.1; rw [e_x1] at w; exact w) (show 0 ≤ (g_h0 18).toInt by have w := i_x2.1; rw [e_x2] at w; exact w)).mp h).1, fun j hj => ((tm_is.of (show 0 ≤ (g_h0 16).toInt by have w := i_x1.1; rw [e_x1] at w; exact w) (show 0 ≤ (g_h0 18).toInt by have w := i_x2.1; rw [e_x2] at w; exact w)).mp h).2 j (by have w := inv_24.1; have w2 := i_x7.1; omega)⟩⟩⟩ dX12_is_68
          · skip
            have i13_x6 : iv_R 1 1 x6 := iv_ne_lo c12 i_x6 q_0 (by decide)
            refine lv_aload_n hx hb dX12_is_36 rfl (lv_at hl 2 rfl) ?_
            refine iv_getr X ft_X12 hB a_h0 sh_12 8 (by decide) rfl k_fl_X12_28 dX12_is_37 (fun b15 g_b15 r_b15 e_b15 a_b15 => ?_)
            refine lv_aload_n hx hb dX12_is_40 rfl (lv_at hl 2 rfl) ?_
            refine iv_geti0 X ft_X12 hB a_h0 sh_12 18 (by decide) rfl k_fl_X12_88 dX12_is_41 e_x2 ?_
            refine lv_iload_n hx hb dX12_is_44 rfl (lv_at hl 0 rfl) ?_
            refine iv_iadd hx hb i_x2 i9_x7 (lo := 0) (hi := 654) (by decide) dX12_is_45 (fun x16 e_x16 i_x16 => ?_)
            refine iv_ald X hB a_b15 sh_66 (iv_inU i_x16 (by decide) (by have w1 := (inv_24.2.mp (by assumption)).1; have w2 := iv_ltU (iv_nle c9) (Int.le_of_eq e_x8); have w3 := i_x1.2; rw [e_x1] at w3; have w4 : x2.toInt = (g_h0 18).toInt := congrArg Int32.toInt e_x2; omega)) dX12_is_46 (fun x17 e_x17 i_x17 => ?_)
            refine lv_aload_n hx hb dX12_is_47 rfl (lv_at hl 3 rfl) ?_
            refine lv_iload_n hx hb dX12_is_48 rfl (lv_at hl 0 rfl) ?_
            refine iv_cKi X k_good k_mf_J0_charAt_5068e k_im_J0_charAt_5068e k_sel_J0_charAt_5068e k_ml_X12_97 hs1 rfl hB (As := [.int x7]) (e_J0_charAt_5068e l D tys base G s1 hs1 x7 i9_x7 (iv_ltU (iv_nle c9) (Int.le_of_eq e_x8))) ⟨rfl, rfl⟩ ⟨Nat.le_of_ble_eq_true rfl, Nat.le_of_ble_eq_true rfl⟩ ⟨Nat.le_of_ble_eq_true rfl, Nat.le_of_ble_eq_true rfl⟩ rfl rfl hl.1 (Nat.le_of_ble_eq_true rfl) dX12_is_49 (fun x18 G9 H locs hq hB => ?_)
            obtain ⟨rfl, i_x18, ec_x18⟩ := hq
            have hlt := mt Int32.le_iff_toInt_le.mpr c9
            have hxa : x17 = gt ((g_h0 18).toInt.toNat + x7.toInt.toNat) := by have w : x17 = g_b15 x16.toInt.toNat := e_x17; rw [w, iv_samew ht e_b15 a_b15]; congr 1; have w1 : x16.toInt = x2.toInt + x7.toInt := e_x16; have w3 : x2.toInt = (g_h0 18).toInt := congrArg Int32.toInt e_x2; have w4 := i_x2.1; have w5 := i_x7.1; omega
            refine lv_icmp_ne (tgt := 59) hx hb dX12_is_52 (by decide) (fun c19 => ?_) (fun c19 => ?_)
            · skip
              refine lv_iconst (v := 0) hx hb dX12_is_59 (by decide) ?_
              refine lv_istore_n (lv' := [(2, .int 0), (3, .int x7), (0, .ref h0), (1, .ref (D.2 100 s1))]) hx hb dX12_is_60 rfl hl (by decide) rfl (fun ls hl => ?_)
              refine iv_iinc hx hb i9_x7 (lo := 1) (hi := 255) (by decide) dX12_is_61 hl (k := 1) rfl (by decide) (fun x20 ls e_x20 i_x20 hl => ?_)
              have hl : lv_has ls 4 [(3, .int x20), (2, .int 0), (0, .ref h0), (1, .ref (D.2 100 s1))] := hl
              refine lv_goto (tgt := 24) hx hb dX12_is_64 (by decide) ?_
              exact ih_24 _ _ hB 0 (q_0.wk (by decide)) x20 (i_x20.wk (by decide)) (iv_mup (c := 1) i_x7 (by decide) (by decide) (by omega) hn_24) (⟨by have w : x20.toInt = x7.toInt + 1 := e_x20; omega, ⟨fun h => absurd rfl h, fun h => absurd (hxa.trans ((h.2 _ (by have w : x20.toInt = x7.toInt + 1 := e_x20; have w2 := i_x7.1; omega)).trans ec_x18.symm)) c19⟩⟩) _ (lv_sub hl [0, 1, 2, 3] rfl)
            · skip
              refine lv_iconst (v := 1) hx hb dX12_is_55 (by decide) ?_
              refine lv_goto (tgt := 60) hx hb dX12_is_56 (by decide) ?_
              refine lv_istore_n (lv' := [(2, .int 1), (3, .int x7), (0, .ref h0), (1, .ref (D.2 100 s1))]) hx hb dX12_is_60 rfl hl (by decide) rfl (fun ls hl => ?_)
              refine iv_iinc hx hb i9_x7 (lo := 1) (hi := 255) (by decide) dX12_is_61 hl (k := 1) rfl (by decide) (fun x21 ls e_x21 i_x21 hl => ?_)
              have hl : lv_has ls 4 [(3, .int x21), (2, .int 1), (0, .ref h0), (1, .ref (D.2 100 s1))] := hl
              refine lv_goto (tgt := 24) hx hb dX12_is_64 (by decide) ?_
              exact ih_24 _ _ hB 1 (q_1.wk (by decide)) x21 (i_x21.wk (by decide)) (iv_mup (c := 1) i_x7 (by decide) (by decide) (by omega) hn_24) (⟨by have w : x21.toInt = x7.toInt + 1 := e_x21; omega, ⟨fun _ => ⟨(inv_24.2.mp (by assumption)).1, fun j hj => by rcases Nat.lt_or_ge j x7.toInt.toNat with q | q; exact (inv_24.2.mp (by assumption)).2 j q; rw [show j = x7.toInt.toNat from by (have w : x21.toInt = x7.toInt + 1 := e_x21; have w2 := i_x7.1; omega), ← hxa, ← ec_x18]; exact c19⟩, fun _ => by decide⟩⟩) _ (lv_sub hl [0, 1, 2, 3] rfl)
    exact L_24 _ _ _ hB 0 (q_0.wk (by decide)) 0 (q_0.wk (by decide)) (Nat.lt_succ_self _) (⟨Int.natCast_nonneg _, ⟨fun h => absurd rfl h, fun h => absurd (Int32.toInt_inj.mp (by have w2 : x1.toInt = (g_h0 16).toInt := congrArg Int32.toInt e_x1; have w3 : x2.toInt = (g_h0 18).toInt := congrArg Int32.toInt e_x2; have w4 := h.1; omega)) c5⟩⟩) _ (lv_sub hl [0, 1, 2, 3] rfl)
  · skip
    have i21_x3 : iv_R 0 255 x3 := ((i_x3.cutLo (n := 0) (iv_eq_r c5 i_x4).1).cutHi (n := 255) (iv_eq_r c5 i_x4).2)
    refine lv_iconst (v := 1) hx hb dX12_is_16 (by decide) ?_
    refine lv_goto (tgt := 21) hx hb dX12_is_17 (by decide) ?_
    refine lv_istore_n (lv' := [(2, .int 1), (0, .ref h0), (1, .ref (D.2 100 s1))]) hx hb dX12_is_21 rfl hl (by decide) rfl (fun ls hl => ?_)
    refine lv_iconst (v := 0) hx hb dX12_is_22 (by decide) ?_
    refine lv_istore_n (lv' := [(3, .int 0), (2, .int 1), (0, .ref h0), (1, .ref (D.2 100 s1))]) hx hb dX12_is_23 rfl hl (by decide) rfl (fun ls hl => ?_)
    have L_24 : ∀ (n_24 : Nat) (H : Heap) (locs : List Loc) (hB : iv_B iv_sh D classes tys base G s.heap H locs) (x23 : Int32) (i_x23 : iv_R 0 1 x23) (x24 : Int32) (i_x24 : iv_R 0 255 x24) (hn_24 : (256 - x24.toInt).toNat < n_24) (inv_24 : x24.toInt ≤ ((iv_len.getD s1 0 : Nat) : Int) ∧ (¬ x23 = 0 ↔ (g_h0 16).toInt - (g_h0 18).toInt = ((iv_len.getD s1 0 : Nat) : Int) ∧ ∀ j, j < x24.toInt.toNat → gt ((g_h0 18).toInt.toNat + j) = (iv_byt.getD s1 []).getD j 0 &&& 255)) (ls : Array Slot) (hl : lv_has ls 4 [(3, .int x24), (2, .int x23), (0, .ref h0), (1, .ref (D.2 100 s1))]), W p l e ({ frames := 4, cells := 0, slots := 0, locals := 85 } : Room) s m args below meth c H locs 0 0 (MQ below (iv_Qi iv_sh D classes tys base (fun v G' => G = G' ∧ iv_R 0 1 v ∧ (¬ v = 0 ↔ tm_is gt (g_h0 18).toInt.toNat (g_h0 16).toInt.toNat s1))) args s 0 0 (iv_A base)) (F0 m 24 ls []) := by
      intro n_24
      induction n_24 with
      | zero => intro H locs hB x23 i_x23 x24 i_x24 hn_24 inv_24 ls hl; exact absurd hn_24 (Nat.not_lt_zero _)
      | succ n_24 ih_24 =>
        intro H locs hB x23 i_x23 x24 i_x24 hn_24 inv_24 ls hl
        refine lv_iload_n hx hb dX12_is_24 rfl (lv_at hl 0 rfl) ?_
        refine lv_aload_n hx hb dX12_is_25 rfl (lv_at hl 3 rfl) ?_
        refine iv_cKi X k_good k_mf_J0_length_8abf5 k_im_J0_length_8abf5 k_sel_J0_length_8abf5 k_ml_X12_91 hs1 rfl hB (As := []) (c_J0_length_8abf5 l D tys base G s1 hs1) ⟨rfl, rfl⟩ ⟨Nat.le_of_ble_eq_true rfl, Nat.le_of_ble_eq_true rfl⟩ ⟨Nat.le_of_ble_eq_true rfl, Nat.le_of_ble_eq_true rfl⟩ rfl rfl hl.1 (Nat.le_of_ble_eq_true rfl) dX12_is_26 (fun x25 G9 H locs hq hB => ?_)
        obtain ⟨rfl, i_x25, e_x25⟩ := hq
        refine lv_icmp_ge (tgt := 67) hx hb dX12_is_29 (by decide) (fun c26 => ?_) (fun c26 => ?_)
        · skip
          refine lv_iload_n hx hb dX12_is_67 rfl (lv_at hl 1 rfl) ?_
          exact iv_zret X hr hlocks hB i_x23 ⟨rfl, i_x23, (by have hk : x24.toInt.toNat = iv_len.getD s1 0 := (by have w := inv_24.1; have w1 := Int32.le_iff_toInt_le.mp c26; have w2 := i_x24.1; omega); have w := inv_24.2; rw [hk] at w; exact w.trans (tm_is.of (show 0 ≤ (g_h0 16).toInt by have w := i_x1.1; rw [e_x1] at w; exact w) (show 0 ≤ (g_h0 18).toInt by have w := i_x2.1; rw [e_x2] at w; exact w)).symm)⟩ dX12_is_68
        · skip
          have i26_x24 : iv_R 0 254 x24 := (i_x24.cutHi (n := 254) (iv_lt_r (iv_nle c26) i_x25 (by decide)))
          have i27_x25 : iv_R 1 255 x25 := (i_x25.cutLo (n := 1) (iv_lt_l (iv_nle c26) i_x24 (by decide)))
          refine lv_iload_n hx hb dX12_is_32 rfl (lv_at hl 1 rfl) ?_
          refine lv_if_eq (tgt := 67) hx hb dX12_is_33 (by decide) (fun c29 => ?_) (fun c29 => ?_)
          · skip
            have i29_x23 : iv_R 0 0 x23 := (i_x23.cutHi (n := 0) (iv_eq_r c29 q_0).2)
            refine lv_iload_n hx hb dX12_is_67 rfl (lv_at hl 1 rfl) ?_
            exact iv_zret X hr hlocks hB (i29_x23.wk (by decide)) ⟨rfl, (i29_x23.wk (by decide)), ⟨fun h => absurd c29 h, fun h => inv_24.2.mpr ⟨((tm_is.of (show 0 ≤ (g_h0 16).toInt by have w := i_x1.1; rw [e_x1] at w; exact w) (show 0 ≤ (g_h0 18).toInt by have w := i_x2.1; rw [e_x2] at w; exact w)).mp h).1, fun j hj => ((tm_is.of (show 0 ≤ (g_h0 16).toInt by have w := i_x1.1; rw [e_x1] at w; exact w) (show 0 ≤ (g_h0 18).toInt by have w := i_x2.1; rw [e_x2] at w; exact w)).mp h).2 j (by have w := inv_24.1; have w2 := i_x24.1; omega)⟩⟩⟩ dX12_is_68
          · skip
            have i30_x23 : iv_R 1 1 x23 := iv_ne_lo c29 i_x23 q_0 (by decide)
            refine lv_aload_n hx hb dX12_is_36 rfl (lv_at hl 2 rfl) ?_
            refine iv_getr X ft_X12 hB a_h0 sh_12 8 (by decide) rfl k_fl_X12_28 dX12_is_37 (fun b32 g_b32 r_b32 e_b32 a_b32 => ?_)
            refine lv_aload_n hx hb dX12_is_40 rfl (lv_at hl 2 rfl) ?_
            refine iv_geti0 X ft_X12 hB a_h0 sh_12 18 (by decide) rfl k_fl_X12_88 dX12_is_41 e_x2 ?_
            refine lv_iload_n hx hb dX12_is_44 rfl (lv_at hl 0 rfl) ?_
            refine iv_iadd hx hb i_x2 i26_x24 (lo := 0) (hi := 654) (by decide) dX12_is_45 (fun x33 e_x33 i_x33 => ?_)
            refine iv_ald X hB a_b32 sh_66 (iv_inU i_x33 (by decide) (by have w1 := (inv_24.2.mp (by assumption)).1; have w2 := iv_ltU (iv_nle c26) (Int.le_of_eq e_x25); have w3 := i_x1.2; rw [e_x1] at w3; have w4 : x2.toInt = (g_h0 18).toInt := congrArg Int32.toInt e_x2; omega)) dX12_is_46 (fun x34 e_x34 i_x34 => ?_)
            refine lv_aload_n hx hb dX12_is_47 rfl (lv_at hl 3 rfl) ?_
            refine lv_iload_n hx hb dX12_is_48 rfl (lv_at hl 0 rfl) ?_
            refine iv_cKi X k_good k_mf_J0_charAt_5068e k_im_J0_charAt_5068e k_sel_J0_charAt_5068e k_ml_X12_97 hs1 rfl hB (As := [.int x24]) (e_J0_charAt_5068e l D tys base G s1 hs1 x24 i26_x24 (iv_ltU (iv_nle c26) (Int.le_of_eq e_x25))) ⟨rfl, rfl⟩ ⟨Nat.le_of_ble_eq_true rfl, Nat.le_of_ble_eq_true rfl⟩ ⟨Nat.le_of_ble_eq_true rfl, Nat.le_of_ble_eq_true rfl⟩ rfl rfl hl.1 (Nat.le_of_ble_eq_true rfl) dX12_is_49 (fun x35 G9 H locs hq hB => ?_)
            obtain ⟨rfl, i_x35, ec_x35⟩ := hq
            have hlt := mt Int32.le_iff_toInt_le.mpr c26
            have hxa : x34 = gt ((g_h0 18).toInt.toNat + x24.toInt.toNat) := by have w : x34 = g_b32 x33.toInt.toNat := e_x34; rw [w, iv_samew ht e_b32 a_b32]; congr 1; have w1 : x33.toInt = x2.toInt + x24.toInt := e_x33; have w3 : x2.toInt = (g_h0 18).toInt := congrArg Int32.toInt e_x2; have w4 := i_x2.1; have w5 := i_x24.1; omega
            refine lv_icmp_ne (tgt := 59) hx hb dX12_is_52 (by decide) (fun c36 => ?_) (fun c36 => ?_)
            · skip
              refine lv_iconst (v := 0) hx hb dX12_is_59 (by decide) ?_
              refine lv_istore_n (lv' := [(2, .int 0), (3, .int x24), (0, .ref h0), (1, .ref (D.2 100 s1))]) hx hb dX12_is_60 rfl hl (by decide) rfl (fun ls hl => ?_)
              refine iv_iinc hx hb i26_x24 (lo := 1) (hi := 255) (by decide) dX12_is_61 hl (k := 1) rfl (by decide) (fun x37 ls e_x37 i_x37 hl => ?_)
              have hl : lv_has ls 4 [(3, .int x37), (2, .int 0), (0, .ref h0), (1, .ref (D.2 100 s1))] := hl
              refine lv_goto (tgt := 24) hx hb dX12_is_64 (by decide) ?_
              exact ih_24 _ _ hB 0 (q_0.wk (by decide)) x37 (i_x37.wk (by decide)) (iv_mup (c := 1) i_x24 (by decide) (by decide) (by omega) hn_24) (⟨by have w : x37.toInt = x24.toInt + 1 := e_x37; omega, ⟨fun h => absurd rfl h, fun h => absurd (hxa.trans ((h.2 _ (by have w : x37.toInt = x24.toInt + 1 := e_x37; have w2 := i_x24.1; omega)).trans ec_x35.symm)) c36⟩⟩) _ (lv_sub hl [0, 1, 2, 3] rfl)
            · skip
              refine lv_iconst (v := 1) hx hb dX12_is_55 (by decide) ?_
              refine lv_goto (tgt := 60) hx hb dX12_is_56 (by decide) ?_
              refine lv_istore_n (lv' := [(2, .int 1), (3, .int x24), (0, .ref h0), (1, .ref (D.2 100 s1))]) hx hb dX12_is_60 rfl hl (by decide) rfl (fun ls hl => ?_)
              refine iv_iinc hx hb i26_x24 (lo := 1) (hi := 255) (by decide) dX12_is_61 hl (k := 1) rfl (by decide) (fun x38 ls e_x38 i_x38 hl => ?_)
              have hl : lv_has ls 4 [(3, .int x38), (2, .int 1), (0, .ref h0), (1, .ref (D.2 100 s1))] := hl
              refine lv_goto (tgt := 24) hx hb dX12_is_64 (by decide) ?_
              exact ih_24 _ _ hB 1 (q_1.wk (by decide)) x38 (i_x38.wk (by decide)) (iv_mup (c := 1) i_x24 (by decide) (by decide) (by omega) hn_24) (⟨by have w : x38.toInt = x24.toInt + 1 := e_x38; omega, ⟨fun _ => ⟨(inv_24.2.mp (by assumption)).1, fun j hj => by rcases Nat.lt_or_ge j x24.toInt.toNat with q | q; exact (inv_24.2.mp (by assumption)).2 j q; rw [show j = x24.toInt.toNat from by (have w : x38.toInt = x24.toInt + 1 := e_x38; have w2 := i_x24.1; omega), ← hxa, ← ec_x35]; exact c36⟩, fun _ => by decide⟩⟩) _ (lv_sub hl [0, 1, 2, 3] rfl)
    exact L_24 _ _ _ hB 1 (q_1.wk (by decide)) 0 (q_0.wk (by decide)) (Nat.lt_succ_self _) (⟨Int.natCast_nonneg _, ⟨fun _ => ⟨by have w1 : x3.toInt = x4.toInt := congrArg Int32.toInt c5; have w2 : x1.toInt = (g_h0 16).toInt := congrArg Int32.toInt e_x1; have w3 : x2.toInt = (g_h0 18).toInt := congrArg Int32.toInt e_x2; omega, fun j hj => absurd hj (Nat.not_lt_zero j)⟩, fun _ => by decide⟩⟩) _ (lv_sub hl [0, 1, 2, 3] rfl)
set_option maxHeartbeats 4000000 in
set_option maxRecDepth 100000 in
theorem f_X12_ringWord (l : Launch) (D : va_G) (tys : List (ClassId × FieldType)) (base : Nat) (G : iv_G) (h0 : Nat) (g_h0 : Nat → Int32) (r_h0 : Nat → Nat) (a_h0 : G h0 = some (12, g_h0, r_h0)) (gt : Nat → Int32) (rt : Nat → Nat) (ht : G (r_h0 8) = some (66, gt, rt)) (n : Nat) (hn : (g_h0 16).toInt ≤ (n : Int)) : Met l yX12_ringWord (Cond.code yX12_ringWord cX12_ringWord 1 (some .int) :: iv_W0) ({ frames := 5, cells := 0, slots := 0, locals := 108 }) (iv_Pc iv_sh D classes tys base G [.ref h0]) (iv_Qi iv_sh D classes tys base (fun v G' => G = G' ∧ iv_R 1 9 v ∧ (tk_ws (tk_T gt n) (g_h0 18).toInt.toNat (g_h0 16).toInt.toNat [(0, 7), (1, 8), (2, 9)] v.toInt))) 0 0 (iv_A base) := by
  refine iv_head (by decide) (Nat.le_of_ble_eq_true rfl) ?_
  intro p e s m args below meth c ls X hr hlocks hname hB hl
  have X := X
  have hx := X.1.1
  have hb := X.1.2.1
  have hl : lv_has ls 1 [(0, .ref h0)] := hl
  refine lv_aload_n hx hb dX12_ringWord_0 rfl (lv_at hl 0 rfl) ?_
  refine iv_sldc X (i := 2) rfl dX12_ringWord_1 ?_
  refine iv_cVi X k_good k_mf_X12_is k_im_X12_is k_sel_X12_is k_ml_X12_103 ft_X12 hB a_h0 sh_12 (As := [.ref (D.2 100 2)]) (f_X12_is l D tys base G h0 g_h0 r_h0 a_h0 2 (by decide) gt rt ht) ⟨rfl, rfl⟩ ⟨Nat.le_of_ble_eq_true rfl, Nat.le_of_ble_eq_true rfl⟩ ⟨Nat.le_of_ble_eq_true rfl, Nat.le_of_ble_eq_true rfl⟩ rfl rfl hl.1 (Nat.le_of_ble_eq_true rfl) dX12_ringWord_3 (fun x1 G9 H locs hq hB => ?_)
  obtain ⟨rfl, i_x1, ew_x1⟩ := hq
  refine lv_if_eq (tgt := 12) hx hb dX12_ringWord_6 (by decide) (fun c2 => ?_) (fun c2 => ?_)
  · skip
    have i2_x1 : iv_R 0 0 x1 := (i_x1.cutHi (n := 0) (iv_eq_r c2 q_0).2)
    refine lv_aload_n hx hb dX12_ringWord_12 rfl (lv_at hl 0 rfl) ?_
    refine iv_sldc X (i := 3) rfl dX12_ringWord_13 ?_
    refine iv_cVi X k_good k_mf_X12_is k_im_X12_is k_sel_X12_is k_ml_X12_103 ft_X12 hB a_h0 sh_12 (As := [.ref (D.2 100 3)]) (f_X12_is l D tys base G h0 g_h0 r_h0 a_h0 3 (by decide) gt rt ht) ⟨rfl, rfl⟩ ⟨Nat.le_of_ble_eq_true rfl, Nat.le_of_ble_eq_true rfl⟩ ⟨Nat.le_of_ble_eq_true rfl, Nat.le_of_ble_eq_true rfl⟩ rfl rfl hl.1 (Nat.le_of_ble_eq_true rfl) dX12_ringWord_15 (fun x4 G9 H locs hq hB => ?_)
    obtain ⟨rfl, i_x4, ew_x4⟩ := hq
    refine lv_if_eq (tgt := 24) hx hb dX12_ringWord_18 (by decide) (fun c5 => ?_) (fun c5 => ?_)
    · skip
      have i5_x4 : iv_R 0 0 x4 := (i_x4.cutHi (n := 0) (iv_eq_r c5 q_0).2)
      refine lv_aload_n hx hb dX12_ringWord_24 rfl (lv_at hl 0 rfl) ?_
      refine iv_sldc X (i := 4) rfl dX12_ringWord_25 ?_
      refine iv_cVi X k_good k_mf_X12_is k_im_X12_is k_sel_X12_is k_ml_X12_103 ft_X12 hB a_h0 sh_12 (As := [.ref (D.2 100 4)]) (f_X12_is l D tys base G h0 g_h0 r_h0 a_h0 4 (by decide) gt rt ht) ⟨rfl, rfl⟩ ⟨Nat.le_of_ble_eq_true rfl, Nat.le_of_ble_eq_true rfl⟩ ⟨Nat.le_of_ble_eq_true rfl, Nat.le_of_ble_eq_true rfl⟩ rfl rfl hl.1 (Nat.le_of_ble_eq_true rfl) dX12_ringWord_27 (fun x7 G9 H locs hq hB => ?_)
      obtain ⟨rfl, i_x7, ew_x7⟩ := hq
      refine lv_if_eq (tgt := 38) hx hb dX12_ringWord_30 (by decide) (fun c8 => ?_) (fun c8 => ?_)
      · skip
        have i8_x7 : iv_R 0 0 x7 := (i_x7.cutHi (n := 0) (iv_eq_r c8 q_0).2)
        refine lv_iconst (v := 1) hx hb dX12_ringWord_38 (by decide) ?_
        exact iv_iret X hr hlocks hB ⟨rfl, (q_1.wk (by decide)), (tk_ws.cons (mt (ew_x1.trans (tm_is.iff (n := n) (by omega) (by decide) (by decide))).mpr (fun w => w c2)) (tk_ws.cons (mt (ew_x4.trans (tm_is.iff (n := n) (by omega) (by decide) (by decide))).mpr (fun w => w c5)) (tk_ws.cons (mt (ew_x7.trans (tm_is.iff (n := n) (by omega) (by decide) (by decide))).mpr (fun w => w c8)) (tk_ws.nil))))⟩ dX12_ringWord_39
      · skip
        have i9_x7 : iv_R 1 1 x7 := iv_ne_lo c8 i_x7 q_0 (by decide)
        refine lv_bipush (v := 9) hx hb dX12_ringWord_33 (by decide) ?_
        refine lv_goto (tgt := 39) hx hb dX12_ringWord_35 (by decide) ?_
        exact iv_iret X hr hlocks hB ⟨rfl, (q_9.wk (by decide)), (tk_ws.cons (mt (ew_x1.trans (tm_is.iff (n := n) (by omega) (by decide) (by decide))).mpr (fun w => w c2)) (tk_ws.cons (mt (ew_x4.trans (tm_is.iff (n := n) (by omega) (by decide) (by decide))).mpr (fun w => w c5)) (tk_ws.hit ((ew_x7.trans (tm_is.iff (n := n) (by omega) (by decide) (by decide))).mp c8) (by decide) (by decide))))⟩ dX12_ringWord_39
    · skip
      have i10_x4 : iv_R 1 1 x4 := iv_ne_lo c5 i_x4 q_0 (by decide)
      refine lv_bipush (v := 8) hx hb dX12_ringWord_21 (by decide) ?_
      exact iv_iret X hr hlocks hB ⟨rfl, (q_8.wk (by decide)), (tk_ws.cons (mt (ew_x1.trans (tm_is.iff (n := n) (by omega) (by decide) (by decide))).mpr (fun w => w c2)) (tk_ws.hit ((ew_x4.trans (tm_is.iff (n := n) (by omega) (by decide) (by decide))).mp c5) (by decide) (by decide)))⟩ dX12_ringWord_23
  · skip
    have i11_x1 : iv_R 1 1 x1 := iv_ne_lo c2 i_x1 q_0 (by decide)
    refine lv_bipush (v := 7) hx hb dX12_ringWord_9 (by decide) ?_
    exact iv_iret X hr hlocks hB ⟨rfl, (q_7.wk (by decide)), (tk_ws.hit ((ew_x1.trans (tm_is.iff (n := n) (by omega) (by decide) (by decide))).mp c2) (by decide) (by decide))⟩ dX12_ringWord_11
set_option maxHeartbeats 4000000 in
set_option maxRecDepth 100000 in
theorem f_X12_asked (l : Launch) (D : va_G) (tys : List (ClassId × FieldType)) (base : Nat) (G : iv_G) (h0 : Nat) (g_h0 : Nat → Int32) (r_h0 : Nat → Nat) (a_h0 : G h0 = some (12, g_h0, r_h0)) (gt : Nat → Int32) (rt : Nat → Nat) (ht : G (r_h0 8) = some (66, gt, rt)) (n : Nat) (hn : (g_h0 16).toInt ≤ (n : Int)) : Met l yX12_asked (Cond.code yX12_asked cX12_asked 1 (some .int) :: iv_W0) ({ frames := 5, cells := 0, slots := 0, locals := 108 }) (iv_Pc iv_sh D classes tys base G [.ref h0]) (iv_Qi iv_sh D classes tys base (fun v G' => G = G' ∧ iv_R 1 45 v ∧ (tk_ws (tk_T gt n) (g_h0 18).toInt.toNat (g_h0 16).toInt.toNat tm_A v.toInt))) 0 0 (iv_A base) := by
  refine iv_head (by decide) (Nat.le_of_ble_eq_true rfl) ?_
  intro p e s m args below meth c ls X hr hlocks hname hB hl
  have X := X
  have hx := X.1.1
  have hb := X.1.2.1
  have hl : lv_has ls 1 [(0, .ref h0)] := hl
  refine lv_aload_n hx hb dX12_asked_0 rfl (lv_at hl 0 rfl) ?_
  refine iv_sldc X (i := 13) rfl dX12_asked_1 ?_
  refine iv_cVi X k_good k_mf_X12_is k_im_X12_is k_sel_X12_is k_ml_X12_103 ft_X12 hB a_h0 sh_12 (As := [.ref (D.2 100 13)]) (f_X12_is l D tys base G h0 g_h0 r_h0 a_h0 13 (by decide) gt rt ht) ⟨rfl, rfl⟩ ⟨Nat.le_of_ble_eq_true rfl, Nat.le_of_ble_eq_true rfl⟩ ⟨Nat.le_of_ble_eq_true rfl, Nat.le_of_ble_eq_true rfl⟩ rfl rfl hl.1 (Nat.le_of_ble_eq_true rfl) dX12_asked_3 (fun x1 G9 H locs hq hB => ?_)
  obtain ⟨rfl, i_x1, ew_x1⟩ := hq
  refine lv_if_eq (tgt := 12) hx hb dX12_asked_6 (by decide) (fun c2 => ?_) (fun c2 => ?_)
  · skip
    have i2_x1 : iv_R 0 0 x1 := (i_x1.cutHi (n := 0) (iv_eq_r c2 q_0).2)
    refine lv_aload_n hx hb dX12_asked_12 rfl (lv_at hl 0 rfl) ?_
    refine iv_sldc X (i := 14) rfl dX12_asked_13 ?_
    refine iv_cVi X k_good k_mf_X12_is k_im_X12_is k_sel_X12_is k_ml_X12_103 ft_X12 hB a_h0 sh_12 (As := [.ref (D.2 100 14)]) (f_X12_is l D tys base G h0 g_h0 r_h0 a_h0 14 (by decide) gt rt ht) ⟨rfl, rfl⟩ ⟨Nat.le_of_ble_eq_true rfl, Nat.le_of_ble_eq_true rfl⟩ ⟨Nat.le_of_ble_eq_true rfl, Nat.le_of_ble_eq_true rfl⟩ rfl rfl hl.1 (Nat.le_of_ble_eq_true rfl) dX12_asked_15 (fun x4 G9 H locs hq hB => ?_)
    obtain ⟨rfl, i_x4, ew_x4⟩ := hq
    refine lv_if_eq (tgt := 24) hx hb dX12_asked_18 (by decide) (fun c5 => ?_) (fun c5 => ?_)
    · skip
      have i5_x4 : iv_R 0 0 x4 := (i_x4.cutHi (n := 0) (iv_eq_r c5 q_0).2)
      refine lv_aload_n hx hb dX12_asked_24 rfl (lv_at hl 0 rfl) ?_
      refine iv_sldc X (i := 15) rfl dX12_asked_25 ?_
      refine iv_cVi X k_good k_mf_X12_is k_im_X12_is k_sel_X12_is k_ml_X12_103 ft_X12 hB a_h0 sh_12 (As := [.ref (D.2 100 15)]) (f_X12_is l D tys base G h0 g_h0 r_h0 a_h0 15 (by decide) gt rt ht) ⟨rfl, rfl⟩ ⟨Nat.le_of_ble_eq_true rfl, Nat.le_of_ble_eq_true rfl⟩ ⟨Nat.le_of_ble_eq_true rfl, Nat.le_of_ble_eq_true rfl⟩ rfl rfl hl.1 (Nat.le_of_ble_eq_true rfl) dX12_asked_27 (fun x7 G9 H locs hq hB => ?_)
      obtain ⟨rfl, i_x7, ew_x7⟩ := hq
      refine lv_if_eq (tgt := 36) hx hb dX12_asked_30 (by decide) (fun c8 => ?_) (fun c8 => ?_)
      · skip
        have i8_x7 : iv_R 0 0 x7 := (i_x7.cutHi (n := 0) (iv_eq_r c8 q_0).2)
        refine lv_aload_n hx hb dX12_asked_36 rfl (lv_at hl 0 rfl) ?_
        refine iv_sldc X (i := 16) rfl dX12_asked_37 ?_
        refine iv_cVi X k_good k_mf_X12_is k_im_X12_is k_sel_X12_is k_ml_X12_103 ft_X12 hB a_h0 sh_12 (As := [.ref (D.2 100 16)]) (f_X12_is l D tys base G h0 g_h0 r_h0 a_h0 16 (by decide) gt rt ht) ⟨rfl, rfl⟩ ⟨Nat.le_of_ble_eq_true rfl, Nat.le_of_ble_eq_true rfl⟩ ⟨Nat.le_of_ble_eq_true rfl, Nat.le_of_ble_eq_true rfl⟩ rfl rfl hl.1 (Nat.le_of_ble_eq_true rfl) dX12_asked_39 (fun x10 G9 H locs hq hB => ?_)
        obtain ⟨rfl, i_x10, ew_x10⟩ := hq
        refine lv_if_eq (tgt := 48) hx hb dX12_asked_42 (by decide) (fun c11 => ?_) (fun c11 => ?_)
        · skip
          have i11_x10 : iv_R 0 0 x10 := (i_x10.cutHi (n := 0) (iv_eq_r c11 q_0).2)
          refine lv_aload_n hx hb dX12_asked_48 rfl (lv_at hl 0 rfl) ?_
          refine iv_sldc X (i := 17) rfl dX12_asked_49 ?_
          refine iv_cVi X k_good k_mf_X12_is k_im_X12_is k_sel_X12_is k_ml_X12_103 ft_X12 hB a_h0 sh_12 (As := [.ref (D.2 100 17)]) (f_X12_is l D tys base G h0 g_h0 r_h0 a_h0 17 (by decide) gt rt ht) ⟨rfl, rfl⟩ ⟨Nat.le_of_ble_eq_true rfl, Nat.le_of_ble_eq_true rfl⟩ ⟨Nat.le_of_ble_eq_true rfl, Nat.le_of_ble_eq_true rfl⟩ rfl rfl hl.1 (Nat.le_of_ble_eq_true rfl) dX12_asked_51 (fun x13 G9 H locs hq hB => ?_)
          obtain ⟨rfl, i_x13, ew_x13⟩ := hq
          refine lv_if_eq (tgt := 62) hx hb dX12_asked_54 (by decide) (fun c14 => ?_) (fun c14 => ?_)
          · skip
            have i14_x13 : iv_R 0 0 x13 := (i_x13.cutHi (n := 0) (iv_eq_r c14 q_0).2)
            refine lv_iconst (v := 1) hx hb dX12_asked_62 (by decide) ?_
            exact iv_iret X hr hlocks hB ⟨rfl, (q_1.wk (by decide)), (tk_ws.cons (mt (ew_x1.trans (tm_is.iff (n := n) (by omega) (by decide) (by decide))).mpr (fun w => w c2)) (tk_ws.cons (mt (ew_x4.trans (tm_is.iff (n := n) (by omega) (by decide) (by decide))).mpr (fun w => w c5)) (tk_ws.cons (mt (ew_x7.trans (tm_is.iff (n := n) (by omega) (by decide) (by decide))).mpr (fun w => w c8)) (tk_ws.cons (mt (ew_x10.trans (tm_is.iff (n := n) (by omega) (by decide) (by decide))).mpr (fun w => w c11)) (tk_ws.cons (mt (ew_x13.trans (tm_is.iff (n := n) (by omega) (by decide) (by decide))).mpr (fun w => w c14)) (tk_ws.nil))))))⟩ dX12_asked_63
          · skip
            have i15_x13 : iv_R 1 1 x13 := iv_ne_lo c14 i_x13 q_0 (by decide)
            refine lv_bipush (v := 45) hx hb dX12_asked_57 (by decide) ?_
            refine lv_goto (tgt := 63) hx hb dX12_asked_59 (by decide) ?_
            exact iv_iret X hr hlocks hB ⟨rfl, (q_45.wk (by decide)), (tk_ws.cons (mt (ew_x1.trans (tm_is.iff (n := n) (by omega) (by decide) (by decide))).mpr (fun w => w c2)) (tk_ws.cons (mt (ew_x4.trans (tm_is.iff (n := n) (by omega) (by decide) (by decide))).mpr (fun w => w c5)) (tk_ws.cons (mt (ew_x7.trans (tm_is.iff (n := n) (by omega) (by decide) (by decide))).mpr (fun w => w c8)) (tk_ws.cons (mt (ew_x10.trans (tm_is.iff (n := n) (by omega) (by decide) (by decide))).mpr (fun w => w c11)) (tk_ws.hit ((ew_x13.trans (tm_is.iff (n := n) (by omega) (by decide) (by decide))).mp c14) (by decide) (by decide))))))⟩ dX12_asked_63
        · skip
          have i16_x10 : iv_R 1 1 x10 := iv_ne_lo c11 i_x10 q_0 (by decide)
          refine lv_bipush (v := 44) hx hb dX12_asked_45 (by decide) ?_
          exact iv_iret X hr hlocks hB ⟨rfl, (q_44.wk (by decide)), (tk_ws.cons (mt (ew_x1.trans (tm_is.iff (n := n) (by omega) (by decide) (by decide))).mpr (fun w => w c2)) (tk_ws.cons (mt (ew_x4.trans (tm_is.iff (n := n) (by omega) (by decide) (by decide))).mpr (fun w => w c5)) (tk_ws.cons (mt (ew_x7.trans (tm_is.iff (n := n) (by omega) (by decide) (by decide))).mpr (fun w => w c8)) (tk_ws.hit ((ew_x10.trans (tm_is.iff (n := n) (by omega) (by decide) (by decide))).mp c11) (by decide) (by decide)))))⟩ dX12_asked_47
      · skip
        have i17_x7 : iv_R 1 1 x7 := iv_ne_lo c8 i_x7 q_0 (by decide)
        refine lv_bipush (v := 43) hx hb dX12_asked_33 (by decide) ?_
        exact iv_iret X hr hlocks hB ⟨rfl, (q_43.wk (by decide)), (tk_ws.cons (mt (ew_x1.trans (tm_is.iff (n := n) (by omega) (by decide) (by decide))).mpr (fun w => w c2)) (tk_ws.cons (mt (ew_x4.trans (tm_is.iff (n := n) (by omega) (by decide) (by decide))).mpr (fun w => w c5)) (tk_ws.hit ((ew_x7.trans (tm_is.iff (n := n) (by omega) (by decide) (by decide))).mp c8) (by decide) (by decide))))⟩ dX12_asked_35
    · skip
      have i18_x4 : iv_R 1 1 x4 := iv_ne_lo c5 i_x4 q_0 (by decide)
      refine lv_bipush (v := 42) hx hb dX12_asked_21 (by decide) ?_
      exact iv_iret X hr hlocks hB ⟨rfl, (q_42.wk (by decide)), (tk_ws.cons (mt (ew_x1.trans (tm_is.iff (n := n) (by omega) (by decide) (by decide))).mpr (fun w => w c2)) (tk_ws.hit ((ew_x4.trans (tm_is.iff (n := n) (by omega) (by decide) (by decide))).mp c5) (by decide) (by decide)))⟩ dX12_asked_23
  · skip
    have i19_x1 : iv_R 1 1 x1 := iv_ne_lo c2 i_x1 q_0 (by decide)
    refine lv_bipush (v := 41) hx hb dX12_asked_9 (by decide) ?_
    exact iv_iret X hr hlocks hB ⟨rfl, (q_41.wk (by decide)), (tk_ws.hit ((ew_x1.trans (tm_is.iff (n := n) (by omega) (by decide) (by decide))).mp c2) (by decide) (by decide))⟩ dX12_asked_11
set_option maxHeartbeats 4000000 in
set_option maxRecDepth 100000 in
theorem f_X12_soundWord (l : Launch) (D : va_G) (tys : List (ClassId × FieldType)) (base : Nat) (G : iv_G) (h0 : Nat) (g_h0 : Nat → Int32) (r_h0 : Nat → Nat) (a_h0 : G h0 = some (12, g_h0, r_h0)) (gt : Nat → Int32) (rt : Nat → Nat) (ht : G (r_h0 8) = some (66, gt, rt)) (n : Nat) (hn : (g_h0 16).toInt ≤ (n : Int)) : Met l yX12_soundWord (Cond.code yX12_soundWord cX12_soundWord 1 (some .int) :: iv_W0) ({ frames := 6, cells := 0, slots := 0, locals := 128 }) (iv_Pc iv_sh D classes tys base G [.ref h0]) (iv_Qi iv_sh D classes tys base (fun v G' => G = G' ∧ iv_R 1 48 v ∧ (tk_ws (tk_T gt n) (g_h0 18).toInt.toNat (g_h0 16).toInt.toNat tm_S1 v.toInt))) 0 0 (iv_A base) := by
  refine iv_head (by decide) (Nat.le_of_ble_eq_true rfl) ?_
  intro p e s m args below meth c ls X hr hlocks hname hB hl
  have X := X
  have hx := X.1.1
  have hb := X.1.2.1
  have hl : lv_has ls 1 [(0, .ref h0)] := hl
  refine lv_aload_n hx hb dX12_soundWord_0 rfl (lv_at hl 0 rfl) ?_
  refine iv_sldc X (i := 9) rfl dX12_soundWord_1 ?_
  refine iv_cVi X k_good k_mf_X12_is k_im_X12_is k_sel_X12_is k_ml_X12_103 ft_X12 hB a_h0 sh_12 (As := [.ref (D.2 100 9)]) (f_X12_is l D tys base G h0 g_h0 r_h0 a_h0 9 (by decide) gt rt ht) ⟨rfl, rfl⟩ ⟨Nat.le_of_ble_eq_true rfl, Nat.le_of_ble_eq_true rfl⟩ ⟨Nat.le_of_ble_eq_true rfl, Nat.le_of_ble_eq_true rfl⟩ rfl rfl hl.1 (Nat.le_of_ble_eq_true rfl) dX12_soundWord_3 (fun x1 G9 H locs hq hB => ?_)
  obtain ⟨rfl, i_x1, ew_x1⟩ := hq
  refine lv_if_eq (tgt := 12) hx hb dX12_soundWord_6 (by decide) (fun c2 => ?_) (fun c2 => ?_)
  · skip
    have i2_x1 : iv_R 0 0 x1 := (i_x1.cutHi (n := 0) (iv_eq_r c2 q_0).2)
    refine lv_aload_n hx hb dX12_soundWord_12 rfl (lv_at hl 0 rfl) ?_
    refine iv_sldc X (i := 10) rfl dX12_soundWord_13 ?_
    refine iv_cVi X k_good k_mf_X12_is k_im_X12_is k_sel_X12_is k_ml_X12_103 ft_X12 hB a_h0 sh_12 (As := [.ref (D.2 100 10)]) (f_X12_is l D tys base G h0 g_h0 r_h0 a_h0 10 (by decide) gt rt ht) ⟨rfl, rfl⟩ ⟨Nat.le_of_ble_eq_true rfl, Nat.le_of_ble_eq_true rfl⟩ ⟨Nat.le_of_ble_eq_true rfl, Nat.le_of_ble_eq_true rfl⟩ rfl rfl hl.1 (Nat.le_of_ble_eq_true rfl) dX12_soundWord_15 (fun x4 G9 H locs hq hB => ?_)
    obtain ⟨rfl, i_x4, ew_x4⟩ := hq
    refine lv_if_eq (tgt := 24) hx hb dX12_soundWord_18 (by decide) (fun c5 => ?_) (fun c5 => ?_)
    · skip
      have i5_x4 : iv_R 0 0 x4 := (i_x4.cutHi (n := 0) (iv_eq_r c5 q_0).2)
      refine lv_aload_n hx hb dX12_soundWord_24 rfl (lv_at hl 0 rfl) ?_
      refine iv_sldc X (i := 11) rfl dX12_soundWord_25 ?_
      refine iv_cVi X k_good k_mf_X12_is k_im_X12_is k_sel_X12_is k_ml_X12_103 ft_X12 hB a_h0 sh_12 (As := [.ref (D.2 100 11)]) (f_X12_is l D tys base G h0 g_h0 r_h0 a_h0 11 (by decide) gt rt ht) ⟨rfl, rfl⟩ ⟨Nat.le_of_ble_eq_true rfl, Nat.le_of_ble_eq_true rfl⟩ ⟨Nat.le_of_ble_eq_true rfl, Nat.le_of_ble_eq_true rfl⟩ rfl rfl hl.1 (Nat.le_of_ble_eq_true rfl) dX12_soundWord_27 (fun x7 G9 H locs hq hB => ?_)
      obtain ⟨rfl, i_x7, ew_x7⟩ := hq
      refine lv_if_eq (tgt := 36) hx hb dX12_soundWord_30 (by decide) (fun c8 => ?_) (fun c8 => ?_)
      · skip
        have i8_x7 : iv_R 0 0 x7 := (i_x7.cutHi (n := 0) (iv_eq_r c8 q_0).2)
        refine lv_aload_n hx hb dX12_soundWord_36 rfl (lv_at hl 0 rfl) ?_
        refine iv_sldc X (i := 12) rfl dX12_soundWord_37 ?_
        refine iv_cVi X k_good k_mf_X12_is k_im_X12_is k_sel_X12_is k_ml_X12_103 ft_X12 hB a_h0 sh_12 (As := [.ref (D.2 100 12)]) (f_X12_is l D tys base G h0 g_h0 r_h0 a_h0 12 (by decide) gt rt ht) ⟨rfl, rfl⟩ ⟨Nat.le_of_ble_eq_true rfl, Nat.le_of_ble_eq_true rfl⟩ ⟨Nat.le_of_ble_eq_true rfl, Nat.le_of_ble_eq_true rfl⟩ rfl rfl hl.1 (Nat.le_of_ble_eq_true rfl) dX12_soundWord_39 (fun x10 G9 H locs hq hB => ?_)
        obtain ⟨rfl, i_x10, ew_x10⟩ := hq
        refine lv_if_eq (tgt := 50) hx hb dX12_soundWord_42 (by decide) (fun c11 => ?_) (fun c11 => ?_)
        · skip
          have i11_x10 : iv_R 0 0 x10 := (i_x10.cutHi (n := 0) (iv_eq_r c11 q_0).2)
          refine lv_aload_n hx hb dX12_soundWord_50 rfl (lv_at hl 0 rfl) ?_
          refine iv_cVi X k_good k_mf_X12_asked k_im_X12_asked k_sel_X12_asked k_ml_X12_128 ft_X12 hB a_h0 sh_12 (As := []) (f_X12_asked l D tys base G h0 g_h0 r_h0 a_h0 gt rt ht n hn) ⟨rfl, rfl⟩ ⟨Nat.le_of_ble_eq_true rfl, Nat.le_of_ble_eq_true rfl⟩ ⟨Nat.le_of_ble_eq_true rfl, Nat.le_of_ble_eq_true rfl⟩ rfl rfl hl.1 (Nat.le_of_ble_eq_true rfl) dX12_soundWord_51 (fun x13 G9 H locs hq hB => ?_)
          obtain ⟨rfl, i_x13, es_x13⟩ := hq
          exact iv_iret X hr hlocks hB ⟨rfl, (i_x13.wk (by decide)), (tk_ws.cons (mt (ew_x1.trans (tm_is.iff (n := n) (by omega) (by decide) (by decide))).mpr (fun w => w c2)) (tk_ws.cons (mt (ew_x4.trans (tm_is.iff (n := n) (by omega) (by decide) (by decide))).mpr (fun w => w c5)) (tk_ws.cons (mt (ew_x7.trans (tm_is.iff (n := n) (by omega) (by decide) (by decide))).mpr (fun w => w c8)) (tk_ws.cons (mt (ew_x10.trans (tm_is.iff (n := n) (by omega) (by decide) (by decide))).mpr (fun w => w c11)) (es_x13)))))⟩ dX12_soundWord_54
        · skip
          have i13_x10 : iv_R 1 1 x10 := iv_ne_lo c11 i_x10 q_0 (by decide)
          refine lv_bipush (v := 48) hx hb dX12_soundWord_45 (by decide) ?_
          refine lv_goto (tgt := 54) hx hb dX12_soundWord_47 (by decide) ?_
          exact iv_iret X hr hlocks hB ⟨rfl, (q_48.wk (by decide)), (tk_ws.cons (mt (ew_x1.trans (tm_is.iff (n := n) (by omega) (by decide) (by decide))).mpr (fun w => w c2)) (tk_ws.cons (mt (ew_x4.trans (tm_is.iff (n := n) (by omega) (by decide) (by decide))).mpr (fun w => w c5)) (tk_ws.cons (mt (ew_x7.trans (tm_is.iff (n := n) (by omega) (by decide) (by decide))).mpr (fun w => w c8)) (tk_ws.hit ((ew_x10.trans (tm_is.iff (n := n) (by omega) (by decide) (by decide))).mp c11) (by decide) (by decide)))))⟩ dX12_soundWord_54
      · skip
        have i14_x7 : iv_R 1 1 x7 := iv_ne_lo c8 i_x7 q_0 (by decide)
        refine lv_bipush (v := 47) hx hb dX12_soundWord_33 (by decide) ?_
        exact iv_iret X hr hlocks hB ⟨rfl, (q_47.wk (by decide)), (tk_ws.cons (mt (ew_x1.trans (tm_is.iff (n := n) (by omega) (by decide) (by decide))).mpr (fun w => w c2)) (tk_ws.cons (mt (ew_x4.trans (tm_is.iff (n := n) (by omega) (by decide) (by decide))).mpr (fun w => w c5)) (tk_ws.hit ((ew_x7.trans (tm_is.iff (n := n) (by omega) (by decide) (by decide))).mp c8) (by decide) (by decide))))⟩ dX12_soundWord_35
    · skip
      have i15_x4 : iv_R 1 1 x4 := iv_ne_lo c5 i_x4 q_0 (by decide)
      refine lv_bipush (v := 46) hx hb dX12_soundWord_21 (by decide) ?_
      exact iv_iret X hr hlocks hB ⟨rfl, (q_46.wk (by decide)), (tk_ws.cons (mt (ew_x1.trans (tm_is.iff (n := n) (by omega) (by decide) (by decide))).mpr (fun w => w c2)) (tk_ws.hit ((ew_x4.trans (tm_is.iff (n := n) (by omega) (by decide) (by decide))).mp c5) (by decide) (by decide)))⟩ dX12_soundWord_23
  · skip
    have i16_x1 : iv_R 1 1 x1 := iv_ne_lo c2 i_x1 q_0 (by decide)
    refine lv_bipush (v := 20) hx hb dX12_soundWord_9 (by decide) ?_
    exact iv_iret X hr hlocks hB ⟨rfl, (q_20.wk (by decide)), (tk_ws.hit ((ew_x1.trans (tm_is.iff (n := n) (by omega) (by decide) (by decide))).mp c2) (by decide) (by decide))⟩ dX12_soundWord_11
set_option maxHeartbeats 4000000 in
set_option maxRecDepth 100000 in
theorem f_X12_comingWord (l : Launch) (D : va_G) (tys : List (ClassId × FieldType)) (base : Nat) (G : iv_G) (h0 : Nat) (g_h0 : Nat → Int32) (r_h0 : Nat → Nat) (a_h0 : G h0 = some (12, g_h0, r_h0)) (gt : Nat → Int32) (rt : Nat → Nat) (ht : G (r_h0 8) = some (66, gt, rt)) (n : Nat) (hn : (g_h0 16).toInt ≤ (n : Int)) : Met l yX12_comingWord (Cond.code yX12_comingWord cX12_comingWord 1 (some .int) :: iv_W0) ({ frames := 6, cells := 0, slots := 0, locals := 128 }) (iv_Pc iv_sh D classes tys base G [.ref h0]) (iv_Qi iv_sh D classes tys base (fun v G' => G = G' ∧ iv_R 1 51 v ∧ (tk_ws (tk_T gt n) (g_h0 18).toInt.toNat (g_h0 16).toInt.toNat tm_S2 v.toInt))) 0 0 (iv_A base) := by
  refine iv_head (by decide) (Nat.le_of_ble_eq_true rfl) ?_
  intro p e s m args below meth c ls X hr hlocks hname hB hl
  have X := X
  have hx := X.1.1
  have hb := X.1.2.1
  have hl : lv_has ls 1 [(0, .ref h0)] := hl
  refine lv_aload_n hx hb dX12_comingWord_0 rfl (lv_at hl 0 rfl) ?_
  refine iv_sldc X (i := 18) rfl dX12_comingWord_1 ?_
  refine iv_cVi X k_good k_mf_X12_is k_im_X12_is k_sel_X12_is k_ml_X12_103 ft_X12 hB a_h0 sh_12 (As := [.ref (D.2 100 18)]) (f_X12_is l D tys base G h0 g_h0 r_h0 a_h0 18 (by decide) gt rt ht) ⟨rfl, rfl⟩ ⟨Nat.le_of_ble_eq_true rfl, Nat.le_of_ble_eq_true rfl⟩ ⟨Nat.le_of_ble_eq_true rfl, Nat.le_of_ble_eq_true rfl⟩ rfl rfl hl.1 (Nat.le_of_ble_eq_true rfl) dX12_comingWord_3 (fun x1 G9 H locs hq hB => ?_)
  obtain ⟨rfl, i_x1, ew_x1⟩ := hq
  refine lv_if_eq (tgt := 12) hx hb dX12_comingWord_6 (by decide) (fun c2 => ?_) (fun c2 => ?_)
  · skip
    have i2_x1 : iv_R 0 0 x1 := (i_x1.cutHi (n := 0) (iv_eq_r c2 q_0).2)
    refine lv_aload_n hx hb dX12_comingWord_12 rfl (lv_at hl 0 rfl) ?_
    refine iv_sldc X (i := 19) rfl dX12_comingWord_13 ?_
    refine iv_cVi X k_good k_mf_X12_is k_im_X12_is k_sel_X12_is k_ml_X12_103 ft_X12 hB a_h0 sh_12 (As := [.ref (D.2 100 19)]) (f_X12_is l D tys base G h0 g_h0 r_h0 a_h0 19 (by decide) gt rt ht) ⟨rfl, rfl⟩ ⟨Nat.le_of_ble_eq_true rfl, Nat.le_of_ble_eq_true rfl⟩ ⟨Nat.le_of_ble_eq_true rfl, Nat.le_of_ble_eq_true rfl⟩ rfl rfl hl.1 (Nat.le_of_ble_eq_true rfl) dX12_comingWord_15 (fun x4 G9 H locs hq hB => ?_)
    obtain ⟨rfl, i_x4, ew_x4⟩ := hq
    refine lv_if_eq (tgt := 24) hx hb dX12_comingWord_18 (by decide) (fun c5 => ?_) (fun c5 => ?_)
    · skip
      have i5_x4 : iv_R 0 0 x4 := (i_x4.cutHi (n := 0) (iv_eq_r c5 q_0).2)
      refine lv_aload_n hx hb dX12_comingWord_24 rfl (lv_at hl 0 rfl) ?_
      refine iv_sldc X (i := 20) rfl dX12_comingWord_25 ?_
      refine iv_cVi X k_good k_mf_X12_is k_im_X12_is k_sel_X12_is k_ml_X12_103 ft_X12 hB a_h0 sh_12 (As := [.ref (D.2 100 20)]) (f_X12_is l D tys base G h0 g_h0 r_h0 a_h0 20 (by decide) gt rt ht) ⟨rfl, rfl⟩ ⟨Nat.le_of_ble_eq_true rfl, Nat.le_of_ble_eq_true rfl⟩ ⟨Nat.le_of_ble_eq_true rfl, Nat.le_of_ble_eq_true rfl⟩ rfl rfl hl.1 (Nat.le_of_ble_eq_true rfl) dX12_comingWord_27 (fun x7 G9 H locs hq hB => ?_)
      obtain ⟨rfl, i_x7, ew_x7⟩ := hq
      refine lv_if_eq (tgt := 36) hx hb dX12_comingWord_30 (by decide) (fun c8 => ?_) (fun c8 => ?_)
      · skip
        have i8_x7 : iv_R 0 0 x7 := (i_x7.cutHi (n := 0) (iv_eq_r c8 q_0).2)
        refine lv_aload_n hx hb dX12_comingWord_36 rfl (lv_at hl 0 rfl) ?_
        refine iv_sldc X (i := 21) rfl dX12_comingWord_37 ?_
        refine iv_cVi X k_good k_mf_X12_is k_im_X12_is k_sel_X12_is k_ml_X12_103 ft_X12 hB a_h0 sh_12 (As := [.ref (D.2 100 21)]) (f_X12_is l D tys base G h0 g_h0 r_h0 a_h0 21 (by decide) gt rt ht) ⟨rfl, rfl⟩ ⟨Nat.le_of_ble_eq_true rfl, Nat.le_of_ble_eq_true rfl⟩ ⟨Nat.le_of_ble_eq_true rfl, Nat.le_of_ble_eq_true rfl⟩ rfl rfl hl.1 (Nat.le_of_ble_eq_true rfl) dX12_comingWord_39 (fun x10 G9 H locs hq hB => ?_)
        obtain ⟨rfl, i_x10, ew_x10⟩ := hq
        refine lv_if_eq (tgt := 48) hx hb dX12_comingWord_42 (by decide) (fun c11 => ?_) (fun c11 => ?_)
        · skip
          have i11_x10 : iv_R 0 0 x10 := (i_x10.cutHi (n := 0) (iv_eq_r c11 q_0).2)
          refine lv_aload_n hx hb dX12_comingWord_48 rfl (lv_at hl 0 rfl) ?_
          refine iv_sldc X (i := 22) rfl dX12_comingWord_49 ?_
          refine iv_cVi X k_good k_mf_X12_is k_im_X12_is k_sel_X12_is k_ml_X12_103 ft_X12 hB a_h0 sh_12 (As := [.ref (D.2 100 22)]) (f_X12_is l D tys base G h0 g_h0 r_h0 a_h0 22 (by decide) gt rt ht) ⟨rfl, rfl⟩ ⟨Nat.le_of_ble_eq_true rfl, Nat.le_of_ble_eq_true rfl⟩ ⟨Nat.le_of_ble_eq_true rfl, Nat.le_of_ble_eq_true rfl⟩ rfl rfl hl.1 (Nat.le_of_ble_eq_true rfl) dX12_comingWord_51 (fun x13 G9 H locs hq hB => ?_)
          obtain ⟨rfl, i_x13, ew_x13⟩ := hq
          refine lv_if_eq (tgt := 62) hx hb dX12_comingWord_54 (by decide) (fun c14 => ?_) (fun c14 => ?_)
          · skip
            have i14_x13 : iv_R 0 0 x13 := (i_x13.cutHi (n := 0) (iv_eq_r c14 q_0).2)
            refine lv_aload_n hx hb dX12_comingWord_62 rfl (lv_at hl 0 rfl) ?_
            refine iv_cVi X k_good k_mf_X12_asked k_im_X12_asked k_sel_X12_asked k_ml_X12_128 ft_X12 hB a_h0 sh_12 (As := []) (f_X12_asked l D tys base G h0 g_h0 r_h0 a_h0 gt rt ht n hn) ⟨rfl, rfl⟩ ⟨Nat.le_of_ble_eq_true rfl, Nat.le_of_ble_eq_true rfl⟩ ⟨Nat.le_of_ble_eq_true rfl, Nat.le_of_ble_eq_true rfl⟩ rfl rfl hl.1 (Nat.le_of_ble_eq_true rfl) dX12_comingWord_63 (fun x16 G9 H locs hq hB => ?_)
            obtain ⟨rfl, i_x16, es_x16⟩ := hq
            exact iv_iret X hr hlocks hB ⟨rfl, (i_x16.wk (by decide)), (tk_ws.cons (mt (ew_x1.trans (tm_is.iff (n := n) (by omega) (by decide) (by decide))).mpr (fun w => w c2)) (tk_ws.cons (mt (ew_x4.trans (tm_is.iff (n := n) (by omega) (by decide) (by decide))).mpr (fun w => w c5)) (tk_ws.cons (mt (ew_x7.trans (tm_is.iff (n := n) (by omega) (by decide) (by decide))).mpr (fun w => w c8)) (tk_ws.cons (mt (ew_x10.trans (tm_is.iff (n := n) (by omega) (by decide) (by decide))).mpr (fun w => w c11)) (tk_ws.cons (mt (ew_x13.trans (tm_is.iff (n := n) (by omega) (by decide) (by decide))).mpr (fun w => w c14)) (es_x16))))))⟩ dX12_comingWord_66
          · skip
            have i16_x13 : iv_R 1 1 x13 := iv_ne_lo c14 i_x13 q_0 (by decide)
            refine lv_bipush (v := 51) hx hb dX12_comingWord_57 (by decide) ?_
            refine lv_goto (tgt := 66) hx hb dX12_comingWord_59 (by decide) ?_
            exact iv_iret X hr hlocks hB ⟨rfl, (q_51.wk (by decide)), (tk_ws.cons (mt (ew_x1.trans (tm_is.iff (n := n) (by omega) (by decide) (by decide))).mpr (fun w => w c2)) (tk_ws.cons (mt (ew_x4.trans (tm_is.iff (n := n) (by omega) (by decide) (by decide))).mpr (fun w => w c5)) (tk_ws.cons (mt (ew_x7.trans (tm_is.iff (n := n) (by omega) (by decide) (by decide))).mpr (fun w => w c8)) (tk_ws.cons (mt (ew_x10.trans (tm_is.iff (n := n) (by omega) (by decide) (by decide))).mpr (fun w => w c11)) (tk_ws.hit ((ew_x13.trans (tm_is.iff (n := n) (by omega) (by decide) (by decide))).mp c14) (by decide) (by decide))))))⟩ dX12_comingWord_66
        · skip
          have i17_x10 : iv_R 1 1 x10 := iv_ne_lo c11 i_x10 q_0 (by decide)
          refine lv_bipush (v := 50) hx hb dX12_comingWord_45 (by decide) ?_
          exact iv_iret X hr hlocks hB ⟨rfl, (q_50.wk (by decide)), (tk_ws.cons (mt (ew_x1.trans (tm_is.iff (n := n) (by omega) (by decide) (by decide))).mpr (fun w => w c2)) (tk_ws.cons (mt (ew_x4.trans (tm_is.iff (n := n) (by omega) (by decide) (by decide))).mpr (fun w => w c5)) (tk_ws.cons (mt (ew_x7.trans (tm_is.iff (n := n) (by omega) (by decide) (by decide))).mpr (fun w => w c8)) (tk_ws.hit ((ew_x10.trans (tm_is.iff (n := n) (by omega) (by decide) (by decide))).mp c11) (by decide) (by decide)))))⟩ dX12_comingWord_47
      · skip
        have i18_x7 : iv_R 1 1 x7 := iv_ne_lo c8 i_x7 q_0 (by decide)
        refine lv_bipush (v := 49) hx hb dX12_comingWord_33 (by decide) ?_
        exact iv_iret X hr hlocks hB ⟨rfl, (q_49.wk (by decide)), (tk_ws.cons (mt (ew_x1.trans (tm_is.iff (n := n) (by omega) (by decide) (by decide))).mpr (fun w => w c2)) (tk_ws.cons (mt (ew_x4.trans (tm_is.iff (n := n) (by omega) (by decide) (by decide))).mpr (fun w => w c5)) (tk_ws.hit ((ew_x7.trans (tm_is.iff (n := n) (by omega) (by decide) (by decide))).mp c8) (by decide) (by decide))))⟩ dX12_comingWord_35
    · skip
      have i19_x4 : iv_R 1 1 x4 := iv_ne_lo c5 i_x4 q_0 (by decide)
      refine lv_bipush (v := 22) hx hb dX12_comingWord_21 (by decide) ?_
      exact iv_iret X hr hlocks hB ⟨rfl, (q_22.wk (by decide)), (tk_ws.cons (mt (ew_x1.trans (tm_is.iff (n := n) (by omega) (by decide) (by decide))).mpr (fun w => w c2)) (tk_ws.hit ((ew_x4.trans (tm_is.iff (n := n) (by omega) (by decide) (by decide))).mp c5) (by decide) (by decide)))⟩ dX12_comingWord_23
  · skip
    have i20_x1 : iv_R 1 1 x1 := iv_ne_lo c2 i_x1 q_0 (by decide)
    refine lv_bipush (v := 21) hx hb dX12_comingWord_9 (by decide) ?_
    exact iv_iret X hr hlocks hB ⟨rfl, (q_21.wk (by decide)), (tk_ws.hit ((ew_x1.trans (tm_is.iff (n := n) (by omega) (by decide) (by decide))).mp c2) (by decide) (by decide))⟩ dX12_comingWord_11
set_option maxHeartbeats 4000000 in
set_option maxRecDepth 100000 in
theorem f_X12_word (l : Launch) (D : va_G) (tys : List (ClassId × FieldType)) (base : Nat) (G : iv_G) (h0 : Nat) (g_h0 : Nat → Int32) (r_h0 : Nat → Nat) (a_h0 : G h0 = some (12, g_h0, r_h0)) (gt : Nat → Int32) (rt : Nat → Nat) (ht : G (r_h0 8) = some (66, gt, rt)) (n : Nat) (hn : (g_h0 16).toInt ≤ (n : Int)) (rr0 : Nat) (hr0 : (g_h0 11).toInt = (rr0 : Int)) (hr3 : rr0 < 3) : Met l yX12_word (Cond.code yX12_word cX12_word 1 (some .int) :: iv_W0) ({ frames := 7, cells := 0, slots := 0, locals := 148 }) (iv_Pc iv_sh D classes tys base G [.ref h0]) (iv_Qi iv_sh D classes tys base (fun v G' => G = G' ∧ iv_R 1 51 v ∧ (tk_ws (tk_T gt n) (g_h0 18).toInt.toNat (g_h0 16).toInt.toNat (tm_S rr0) v.toInt))) 0 0 (iv_A base) := by
  refine iv_head (by decide) (Nat.le_of_ble_eq_true rfl) ?_
  intro p e s m args below meth c ls X hr hlocks hname hB hl
  have X := X
  have hx := X.1.1
  have hb := X.1.2.1
  have hl : lv_has ls 1 [(0, .ref h0)] := hl
  refine lv_aload_n hx hb dX12_word_0 rfl (lv_at hl 0 rfl) ?_
  refine iv_geti X ft_X12 hB a_h0 sh_12 11 (by decide) rfl k_fl_X12_141 dX12_word_1 (fun x1 e_x1 i_x1 => ?_)
  refine lv_if_ne (tgt := 12) hx hb dX12_word_4 (by decide) (fun c2 => ?_) (fun c2 => ?_)
  · skip
    refine lv_aload_n hx hb dX12_word_12 rfl (lv_at hl 0 rfl) ?_
    refine iv_sldc X (i := 5) rfl dX12_word_13 ?_
    refine iv_cVi X k_good k_mf_X12_is k_im_X12_is k_sel_X12_is k_ml_X12_103 ft_X12 hB a_h0 sh_12 (As := [.ref (D.2 100 5)]) (f_X12_is l D tys base G h0 g_h0 r_h0 a_h0 5 (by decide) gt rt ht) ⟨rfl, rfl⟩ ⟨Nat.le_of_ble_eq_true rfl, Nat.le_of_ble_eq_true rfl⟩ ⟨Nat.le_of_ble_eq_true rfl, Nat.le_of_ble_eq_true rfl⟩ rfl rfl hl.1 (Nat.le_of_ble_eq_true rfl) dX12_word_15 (fun x3 G9 H locs hq hB => ?_)
    obtain ⟨rfl, i_x3, ew_x3⟩ := hq
    refine lv_if_eq (tgt := 23) hx hb dX12_word_18 (by decide) (fun c4 => ?_) (fun c4 => ?_)
    · skip
      have i4_x3 : iv_R 0 0 x3 := (i_x3.cutHi (n := 0) (iv_eq_r c4 q_0).2)
      refine lv_aload_n hx hb dX12_word_23 rfl (lv_at hl 0 rfl) ?_
      refine iv_sldc X (i := 6) rfl dX12_word_24 ?_
      refine iv_cVi X k_good k_mf_X12_is k_im_X12_is k_sel_X12_is k_ml_X12_103 ft_X12 hB a_h0 sh_12 (As := [.ref (D.2 100 6)]) (f_X12_is l D tys base G h0 g_h0 r_h0 a_h0 6 (by decide) gt rt ht) ⟨rfl, rfl⟩ ⟨Nat.le_of_ble_eq_true rfl, Nat.le_of_ble_eq_true rfl⟩ ⟨Nat.le_of_ble_eq_true rfl, Nat.le_of_ble_eq_true rfl⟩ rfl rfl hl.1 (Nat.le_of_ble_eq_true rfl) dX12_word_26 (fun x6 G9 H locs hq hB => ?_)
      obtain ⟨rfl, i_x6, ew_x6⟩ := hq
      refine lv_if_eq (tgt := 34) hx hb dX12_word_29 (by decide) (fun c7 => ?_) (fun c7 => ?_)
      · skip
        have i7_x6 : iv_R 0 0 x6 := (i_x6.cutHi (n := 0) (iv_eq_r c7 q_0).2)
        refine lv_aload_n hx hb dX12_word_34 rfl (lv_at hl 0 rfl) ?_
        refine iv_sldc X (i := 7) rfl dX12_word_35 ?_
        refine iv_cVi X k_good k_mf_X12_is k_im_X12_is k_sel_X12_is k_ml_X12_103 ft_X12 hB a_h0 sh_12 (As := [.ref (D.2 100 7)]) (f_X12_is l D tys base G h0 g_h0 r_h0 a_h0 7 (by decide) gt rt ht) ⟨rfl, rfl⟩ ⟨Nat.le_of_ble_eq_true rfl, Nat.le_of_ble_eq_true rfl⟩ ⟨Nat.le_of_ble_eq_true rfl, Nat.le_of_ble_eq_true rfl⟩ rfl rfl hl.1 (Nat.le_of_ble_eq_true rfl) dX12_word_37 (fun x9 G9 H locs hq hB => ?_)
        obtain ⟨rfl, i_x9, ew_x9⟩ := hq
        refine lv_if_eq (tgt := 45) hx hb dX12_word_40 (by decide) (fun c10 => ?_) (fun c10 => ?_)
        · skip
          have i10_x9 : iv_R 0 0 x9 := (i_x9.cutHi (n := 0) (iv_eq_r c10 q_0).2)
          refine lv_aload_n hx hb dX12_word_45 rfl (lv_at hl 0 rfl) ?_
          refine iv_sldc X (i := 8) rfl dX12_word_46 ?_
          refine iv_cVi X k_good k_mf_X12_is k_im_X12_is k_sel_X12_is k_ml_X12_103 ft_X12 hB a_h0 sh_12 (As := [.ref (D.2 100 8)]) (f_X12_is l D tys base G h0 g_h0 r_h0 a_h0 8 (by decide) gt rt ht) ⟨rfl, rfl⟩ ⟨Nat.le_of_ble_eq_true rfl, Nat.le_of_ble_eq_true rfl⟩ ⟨Nat.le_of_ble_eq_true rfl, Nat.le_of_ble_eq_true rfl⟩ rfl rfl hl.1 (Nat.le_of_ble_eq_true rfl) dX12_word_48 (fun x12 G9 H locs hq hB => ?_)
          obtain ⟨rfl, i_x12, ew_x12⟩ := hq
          refine lv_if_eq (tgt := 57) hx hb dX12_word_51 (by decide) (fun c13 => ?_) (fun c13 => ?_)
          · skip
            have i13_x12 : iv_R 0 0 x12 := (i_x12.cutHi (n := 0) (iv_eq_r c13 q_0).2)
            refine lv_aload_n hx hb dX12_word_57 rfl (lv_at hl 0 rfl) ?_
            refine iv_geti0 X ft_X12 hB a_h0 sh_12 11 (by decide) rfl k_fl_X12_141 dX12_word_58 e_x1 ?_
            refine lv_iconst (v := 1) hx hb dX12_word_61 (by decide) ?_
            refine lv_icmp_ne (tgt := 72) hx hb dX12_word_62 (by decide) (fun c15 => ?_) (fun c15 => ?_)
            · skip
              refine lv_aload_n hx hb dX12_word_72 rfl (lv_at hl 0 rfl) ?_
              refine iv_cVi X k_good k_mf_X12_comingWord k_im_X12_comingWord k_sel_X12_comingWord k_ml_X12_158 ft_X12 hB a_h0 sh_12 (As := []) (f_X12_comingWord l D tys base G h0 g_h0 r_h0 a_h0 gt rt ht n hn) ⟨rfl, rfl⟩ ⟨Nat.le_of_ble_eq_true rfl, Nat.le_of_ble_eq_true rfl⟩ ⟨Nat.le_of_ble_eq_true rfl, Nat.le_of_ble_eq_true rfl⟩ rfl rfl hl.1 (Nat.le_of_ble_eq_true rfl) dX12_word_73 (fun x16 G9 H locs hq hB => ?_)
              obtain ⟨rfl, i_x16, es_x16⟩ := hq
              exact iv_iret X hr hlocks hB ⟨rfl, i_x16, (by have e : rr0 = 2 := (by have w := congrArg Int32.toInt e_x1; have z0 : (0 : Int32).toInt = 0 := rfl; have z1 : (1 : Int32).toInt = 1 := rfl; have w2 := mt Int32.toInt_inj.mp c15; have w3 := mt Int32.toInt_inj.mp c2; omega); subst e; exact tk_ws.cons (mt (ew_x3.trans (tm_is.iff (n := n) (by omega) (by decide) (by decide))).mpr (fun w => w c4)) (tk_ws.cons (mt (ew_x6.trans (tm_is.iff (n := n) (by omega) (by decide) (by decide))).mpr (fun w => w c7)) (tk_ws.cons (mt (ew_x9.trans (tm_is.iff (n := n) (by omega) (by decide) (by decide))).mpr (fun w => w c10)) (tk_ws.cons (mt (ew_x12.trans (tm_is.iff (n := n) (by omega) (by decide) (by decide))).mpr (fun w => w c13)) (es_x16)))))⟩ dX12_word_76
            · skip
              have i16_x1 : iv_R 1 1 x1 := ((i_x1.cutLo (n := 1) (iv_eq_r c15 q_1).1).cutHi (n := 1) (iv_eq_r c15 q_1).2)
              refine lv_aload_n hx hb dX12_word_65 rfl (lv_at hl 0 rfl) ?_
              refine iv_cVi X k_good k_mf_X12_soundWord k_im_X12_soundWord k_sel_X12_soundWord k_ml_X12_155 ft_X12 hB a_h0 sh_12 (As := []) (f_X12_soundWord l D tys base G h0 g_h0 r_h0 a_h0 gt rt ht n hn) ⟨rfl, rfl⟩ ⟨Nat.le_of_ble_eq_true rfl, Nat.le_of_ble_eq_true rfl⟩ ⟨Nat.le_of_ble_eq_true rfl, Nat.le_of_ble_eq_true rfl⟩ rfl rfl hl.1 (Nat.le_of_ble_eq_true rfl) dX12_word_66 (fun x18 G9 H locs hq hB => ?_)
              obtain ⟨rfl, i_x18, es_x18⟩ := hq
              refine lv_goto (tgt := 76) hx hb dX12_word_69 (by decide) ?_
              exact iv_iret X hr hlocks hB ⟨rfl, (i_x18.wk (by decide)), (by have e : rr0 = 1 := (by have w := congrArg Int32.toInt e_x1; have z0 : (0 : Int32).toInt = 0 := rfl; have z1 : (1 : Int32).toInt = 1 := rfl; have w2 := congrArg Int32.toInt c15; omega); subst e; exact tk_ws.cons (mt (ew_x3.trans (tm_is.iff (n := n) (by omega) (by decide) (by decide))).mpr (fun w => w c4)) (tk_ws.cons (mt (ew_x6.trans (tm_is.iff (n := n) (by omega) (by decide) (by decide))).mpr (fun w => w c7)) (tk_ws.cons (mt (ew_x9.trans (tm_is.iff (n := n) (by omega) (by decide) (by decide))).mpr (fun w => w c10)) (tk_ws.cons (mt (ew_x12.trans (tm_is.iff (n := n) (by omega) (by decide) (by decide))).mpr (fun w => w c13)) (es_x18)))))⟩ dX12_word_76
          · skip
            have i18_x12 : iv_R 1 1 x12 := iv_ne_lo c13 i_x12 q_0 (by decide)
            refine lv_bipush (v := 6) hx hb dX12_word_54 (by decide) ?_
            exact iv_iret X hr hlocks hB ⟨rfl, (q_6.wk (by decide)), (by have e : rr0 = 1 ∨ rr0 = 2 := (by have w := congrArg Int32.toInt e_x1; have z0 : (0 : Int32).toInt = 0 := rfl; have z1 : (1 : Int32).toInt = 1 := rfl; have w3 := mt Int32.toInt_inj.mp c2; omega); rcases e with e | e; (subst e; exact tk_ws.cons (mt (ew_x3.trans (tm_is.iff (n := n) (by omega) (by decide) (by decide))).mpr (fun w => w c4)) (tk_ws.cons (mt (ew_x6.trans (tm_is.iff (n := n) (by omega) (by decide) (by decide))).mpr (fun w => w c7)) (tk_ws.cons (mt (ew_x9.trans (tm_is.iff (n := n) (by omega) (by decide) (by decide))).mpr (fun w => w c10)) (tk_ws.hit ((ew_x12.trans (tm_is.iff (n := n) (by omega) (by decide) (by decide))).mp c13) (by decide) (by decide))))); (subst e; exact tk_ws.cons (mt (ew_x3.trans (tm_is.iff (n := n) (by omega) (by decide) (by decide))).mpr (fun w => w c4)) (tk_ws.cons (mt (ew_x6.trans (tm_is.iff (n := n) (by omega) (by decide) (by decide))).mpr (fun w => w c7)) (tk_ws.cons (mt (ew_x9.trans (tm_is.iff (n := n) (by omega) (by decide) (by decide))).mpr (fun w => w c10)) (tk_ws.hit ((ew_x12.trans (tm_is.iff (n := n) (by omega) (by decide) (by decide))).mp c13) (by decide) (by decide))))))⟩ dX12_word_56
        · skip
          have i19_x9 : iv_R 1 1 x9 := iv_ne_lo c10 i_x9 q_0 (by decide)
          refine lv_iconst (v := 5) hx hb dX12_word_43 (by decide) ?_
          exact iv_iret X hr hlocks hB ⟨rfl, (q_5.wk (by decide)), (by have e : rr0 = 1 ∨ rr0 = 2 := (by have w := congrArg Int32.toInt e_x1; have z0 : (0 : Int32).toInt = 0 := rfl; have z1 : (1 : Int32).toInt = 1 := rfl; have w3 := mt Int32.toInt_inj.mp c2; omega); rcases e with e | e; (subst e; exact tk_ws.cons (mt (ew_x3.trans (tm_is.iff (n := n) (by omega) (by decide) (by decide))).mpr (fun w => w c4)) (tk_ws.cons (mt (ew_x6.trans (tm_is.iff (n := n) (by omega) (by decide) (by decide))).mpr (fun w => w c7)) (tk_ws.hit ((ew_x9.trans (tm_is.iff (n := n) (by omega) (by decide) (by decide))).mp c10) (by decide) (by decide)))); (subst e; exact tk_ws.cons (mt (ew_x3.trans (tm_is.iff (n := n) (by omega) (by decide) (by decide))).mpr (fun w => w c4)) (tk_ws.cons (mt (ew_x6.trans (tm_is.iff (n := n) (by omega) (by decide) (by decide))).mpr (fun w => w c7)) (tk_ws.hit ((ew_x9.trans (tm_is.iff (n := n) (by omega) (by decide) (by decide))).mp c10) (by decide) (by decide)))))⟩ dX12_word_44
      · skip
        have i20_x6 : iv_R 1 1 x6 := iv_ne_lo c7 i_x6 q_0 (by decide)
        refine lv_iconst (v := 4) hx hb dX12_word_32 (by decide) ?_
        exact iv_iret X hr hlocks hB ⟨rfl, (q_4.wk (by decide)), (by have e : rr0 = 1 ∨ rr0 = 2 := (by have w := congrArg Int32.toInt e_x1; have z0 : (0 : Int32).toInt = 0 := rfl; have z1 : (1 : Int32).toInt = 1 := rfl; have w3 := mt Int32.toInt_inj.mp c2; omega); rcases e with e | e; (subst e; exact tk_ws.cons (mt (ew_x3.trans (tm_is.iff (n := n) (by omega) (by decide) (by decide))).mpr (fun w => w c4)) (tk_ws.hit ((ew_x6.trans (tm_is.iff (n := n) (by omega) (by decide) (by decide))).mp c7) (by decide) (by decide))); (subst e; exact tk_ws.cons (mt (ew_x3.trans (tm_is.iff (n := n) (by omega) (by decide) (by decide))).mpr (fun w => w c4)) (tk_ws.hit ((ew_x6.trans (tm_is.iff (n := n) (by omega) (by decide) (by decide))).mp c7) (by decide) (by decide))))⟩ dX12_word_33
    · skip
      have i21_x3 : iv_R 1 1 x3 := iv_ne_lo c4 i_x3 q_0 (by decide)
      refine lv_iconst (v := 3) hx hb dX12_word_21 (by decide) ?_
      exact iv_iret X hr hlocks hB ⟨rfl, (q_3.wk (by decide)), (by have e : rr0 = 1 ∨ rr0 = 2 := (by have w := congrArg Int32.toInt e_x1; have z0 : (0 : Int32).toInt = 0 := rfl; have z1 : (1 : Int32).toInt = 1 := rfl; have w3 := mt Int32.toInt_inj.mp c2; omega); rcases e with e | e; (subst e; exact tk_ws.hit ((ew_x3.trans (tm_is.iff (n := n) (by omega) (by decide) (by decide))).mp c4) (by decide) (by decide)); (subst e; exact tk_ws.hit ((ew_x3.trans (tm_is.iff (n := n) (by omega) (by decide) (by decide))).mp c4) (by decide) (by decide)))⟩ dX12_word_22
  · skip
    have i22_x1 : iv_R 0 0 x1 := ((i_x1.cutLo (n := 0) (iv_eq_r c2 q_0).1).cutHi (n := 0) (iv_eq_r c2 q_0).2)
    refine lv_aload_n hx hb dX12_word_7 rfl (lv_at hl 0 rfl) ?_
    refine iv_cVi X k_good k_mf_X12_ringWord k_im_X12_ringWord k_sel_X12_ringWord k_ml_X12_144 ft_X12 hB a_h0 sh_12 (As := []) (f_X12_ringWord l D tys base G h0 g_h0 r_h0 a_h0 gt rt ht n hn) ⟨rfl, rfl⟩ ⟨Nat.le_of_ble_eq_true rfl, Nat.le_of_ble_eq_true rfl⟩ ⟨Nat.le_of_ble_eq_true rfl, Nat.le_of_ble_eq_true rfl⟩ rfl rfl hl.1 (Nat.le_of_ble_eq_true rfl) dX12_word_8 (fun x24 G9 H locs hq hB => ?_)
    obtain ⟨rfl, i_x24, es_x24⟩ := hq
    exact iv_iret X hr hlocks hB ⟨rfl, (i_x24.wk (by decide)), (by have e : rr0 = 0 := (by have w := congrArg Int32.toInt e_x1; have z0 : (0 : Int32).toInt = 0 := rfl; have z1 : (1 : Int32).toInt = 1 := rfl; have w2 := congrArg Int32.toInt c2; omega); subst e; exact es_x24)⟩ dX12_word_11
