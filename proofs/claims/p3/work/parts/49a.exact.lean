/-- an answer of 0 or 1 that says P -/
theorem lx_eq {v w : Int32} {P : Prop} (h1 : iv_R 0 1 v) (h2 : iv_R 0 1 w) (a : ¬ v = 0 ↔ P) (b : ¬ w = 0 ↔ P) : v = w := by
  by_cases hp : P
  · have q1 : ¬ v.toInt = 0 := fun q => (a.mpr hp) (Int32.toInt_inj.mp q)
    have q2 : ¬ w.toInt = 0 := fun q => (b.mpr hp) (Int32.toInt_inj.mp q)
    have a1 := h1.1; have a2 := h1.2; have b1 := h2.1; have b2 := h2.2
    exact Int32.toInt_inj.mp (by omega)
  · have q1 : v = 0 := Classical.byContradiction (fun q => hp (a.mp q))
    have q2 : w = 0 := Classical.byContradiction (fun q => hp (b.mp q))
    rw [q1, q2]
def lx_far (a b v : Int32) : Prop := iv_R 0 3 a ∧ iv_R 0 3 b ∧ a ≠ b ∧ iv_R 0 99 v
set_option maxHeartbeats 4000000 in
set_option maxRecDepth 100000 in
theorem e_X11_isTower (l : Launch) (D : va_G) (tys : List (ClassId × FieldType)) (base : Nat) (G : iv_G) (x_0 : Int32) (i_x_0 : iv_R (-2147483648) 2147483647 x_0) : Met l yX11_isTower (Cond.code yX11_isTower cX11_isTower 1 (some .boolean) :: iv_W0) ({ frames := 1, cells := 0, slots := 0, locals := 22 }) (iv_Pc iv_sh D classes tys base G [.int x_0]) (iv_Qi iv_sh D classes tys base (fun v G' => G = G' ∧ iv_R 0 1 v ∧ (¬ v = 0 → iv_R 0 3 x_0) ∧ (v = 0 → ¬ iv_R 0 3 x_0))) 0 0 (iv_A base) := by
  refine iv_head (by decide) (Nat.le_of_ble_eq_true rfl) ?_
  intro p e s m args below meth c ls X hr hlocks hname hB hl
  have X := X
  have hx := X.1.1
  have hb := X.1.2.1
  have hl : lv_has ls 1 [(0, .int x_0)] := hl
  refine lv_iload_n hx hb dX11_isTower_0 rfl (lv_at hl 0 rfl) ?_
  refine lv_iconst (v := 0) hx hb dX11_isTower_1 (by decide) ?_
  refine lv_iconst (v := 3) hx hb dX11_isTower_2 (by decide) ?_
  refine iv_cSi X k_good k_mf_X11_isWithin k_st_X11_isWithin k_ml_X11_83 hB (As := [.int x_0, .int 0, .int 3]) (c_X11_isWithin l D tys base G x_0 i_x_0 0 (q_0.wk (by decide)) 3 (q_3.wk (by decide))) ⟨rfl, rfl⟩ ⟨Nat.le_of_ble_eq_true rfl, Nat.le_of_ble_eq_true rfl⟩ ⟨Nat.le_of_ble_eq_true rfl, Nat.le_of_ble_eq_true rfl⟩ rfl rfl hl.1 (Nat.le_of_ble_eq_true rfl) dX11_isTower_3 (fun x1 G9 H locs hq hB => ?_)
  obtain ⟨rfl, i_x1, hp2⟩ := hq
  have k3 : ¬ x1 = 0 → iv_R 0 3 x_0 := fun h => ⟨iv_max i_x_0.1 (Int.le_trans q_0.1 (hp2.1 h).1) (by decide), iv_min i_x_0.2 (Int.le_trans (hp2.1 h).2 q_3.2) (by decide)⟩
  exact iv_zret X hr hlocks hB i_x1 ⟨rfl, i_x1, fun h => (k3 h).wk (by decide), fun h h9 => by have w1 := hp2.2 h; have e0 : (0 : Int32).toInt = 0 := rfl; have e3 : (3 : Int32).toInt = 3 := rfl; have w2 := h9.1; have w3 := h9.2; omega⟩ dX11_isTower_6
set_option maxHeartbeats 4000000 in
set_option maxRecDepth 100000 in
theorem e_X11_far (l : Launch) (D : va_G) (tys : List (ClassId × FieldType)) (base : Nat) (G : iv_G) (h0 : Nat) (g_h0 : Nat → Int32) (r_h0 : Nat → Nat) (a_h0 : G h0 = some (11, g_h0, r_h0)) (x_0 : Int32) (i_x_0 : iv_R (-2147483648) 2147483647 x_0) (x_1 : Int32) (i_x_1 : iv_R (-2147483648) 2147483647 x_1) (x_2 : Int32) (i_x_2 : iv_R (-2147483648) 2147483647 x_2) : Met l yX11_far (Cond.code yX11_far cX11_far 4 (some .boolean) :: iv_W0) ({ frames := 2, cells := 0, slots := 0, locals := 42 }) (iv_Pc iv_sh D classes tys base G [.ref h0, .int x_0, .int x_1, .int x_2]) (iv_Qi iv_sh D classes tys base (fun v G' => iv_Md [6, 20] G G' ∧ iv_R 0 1 v ∧ (¬ v = 0 ↔ lx_far x_0 x_1 x_2))) 0 0 (iv_A base) := by
  refine iv_head (by decide) (Nat.le_of_ble_eq_true rfl) ?_
  intro p e s m args below meth c ls X hr hlocks hname hB hl
  have X := X
  have hx := X.1.1
  have hb := X.1.2.1
  have hM : iv_Md [6, 20] G G := iv_Md.rf
  have hl : lv_has ls 4 [(0, .ref h0), (1, .int x_0), (2, .int x_1), (3, .int x_2)] := hl
  refine lv_iload_n hx hb dX11_far_0 rfl (lv_at hl 1 rfl) ?_
  refine iv_cSi X k_good k_mf_X11_isTower k_st_X11_isTower k_ml_X11_79 hB (As := [.int x_0]) (e_X11_isTower l D tys base G x_0 i_x_0) ⟨rfl, rfl⟩ ⟨Nat.le_of_ble_eq_true rfl, Nat.le_of_ble_eq_true rfl⟩ ⟨Nat.le_of_ble_eq_true rfl, Nat.le_of_ble_eq_true rfl⟩ rfl rfl hl.1 (Nat.le_of_ble_eq_true rfl) dX11_far_1 (fun x1 G9 H locs hq hB => ?_)
  obtain ⟨rfl, i_x1, hp2⟩ := hq
  refine lv_if_eq (tgt := 29) hx hb dX11_far_4 (by decide) (fun c3 => ?_) (fun c3 => ?_)
  · skip
    have i3_x1 : iv_R 0 0 x1 := (i_x1.cutHi (n := 0) (iv_eq_r c3 q_0).2)
    refine lv_iconst (v := 0) hx hb dX11_far_29 (by decide) ?_
    exact iv_zret X hr hlocks hB (q_0.wk (by decide)) ⟨hM, (q_0.wk (by decide)), fun h => absurd (iv_z q_0) h, fun h => absurd h.1 (hp2.2 c3)⟩ dX11_far_30
  · skip
    have i4_x1 : iv_R 1 1 x1 := iv_ne_lo c3 i_x1 q_0 (by decide)
    have i5_x_0 : iv_R 0 3 x_0 := ((i_x_0.cutLo (n := 0) (hp2.1 c3).1).cutHi (n := 3) (hp2.1 c3).2)
    refine lv_iload_n hx hb dX11_far_7 rfl (lv_at hl 2 rfl) ?_
    refine iv_cSi X k_good k_mf_X11_isTower k_st_X11_isTower k_ml_X11_79 hB (As := [.int x_1]) (e_X11_isTower l D tys base G x_1 i_x_1) ⟨rfl, rfl⟩ ⟨Nat.le_of_ble_eq_true rfl, Nat.le_of_ble_eq_true rfl⟩ ⟨Nat.le_of_ble_eq_true rfl, Nat.le_of_ble_eq_true rfl⟩ rfl rfl hl.1 (Nat.le_of_ble_eq_true rfl) dX11_far_8 (fun x7 G9 H locs hq hB => ?_)
    obtain ⟨rfl, i_x7, hp8⟩ := hq
    refine lv_if_eq (tgt := 29) hx hb dX11_far_11 (by decide) (fun c9 => ?_) (fun c9 => ?_)
    · skip
      have i9_x7 : iv_R 0 0 x7 := (i_x7.cutHi (n := 0) (iv_eq_r c9 q_0).2)
      refine lv_iconst (v := 0) hx hb dX11_far_29 (by decide) ?_
      exact iv_zret X hr hlocks hB (q_0.wk (by decide)) ⟨hM, (q_0.wk (by decide)), fun h => absurd (iv_z q_0) h, fun h => absurd h.2.1 (hp8.2 c9)⟩ dX11_far_30
    · skip
      have i10_x7 : iv_R 1 1 x7 := iv_ne_lo c9 i_x7 q_0 (by decide)
      have i11_x_1 : iv_R 0 3 x_1 := ((i_x_1.cutLo (n := 0) (hp8.1 c9).1).cutHi (n := 3) (hp8.1 c9).2)
      refine lv_iload_n hx hb dX11_far_14 rfl (lv_at hl 1 rfl) ?_
      refine lv_iload_n hx hb dX11_far_15 rfl (lv_at hl 2 rfl) ?_
      refine lv_icmp_eq (tgt := 29) hx hb dX11_far_16 (by decide) (fun c13 => ?_) (fun c13 => ?_)
      · skip
        refine lv_iconst (v := 0) hx hb dX11_far_29 (by decide) ?_
        exact iv_zret X hr hlocks hB (q_0.wk (by decide)) ⟨hM, (q_0.wk (by decide)), fun h => absurd (iv_z q_0) h, fun h => absurd c13 h.2.2.1⟩ dX11_far_30
      · skip
        refine lv_iload_n hx hb dX11_far_19 rfl (lv_at hl 3 rfl) ?_
        refine lv_iconst (v := 0) hx hb dX11_far_20 (by decide) ?_
        refine lv_bipush (v := 99) hx hb dX11_far_21 (by decide) ?_
        refine iv_cSi X k_good k_mf_X11_isWithin k_st_X11_isWithin k_ml_X11_83 hB (As := [.int x_2, .int 0, .int 99]) (c_X11_isWithin l D tys base G x_2 i_x_2 0 (q_0.wk (by decide)) 99 (q_99.wk (by decide))) ⟨rfl, rfl⟩ ⟨Nat.le_of_ble_eq_true rfl, Nat.le_of_ble_eq_true rfl⟩ ⟨Nat.le_of_ble_eq_true rfl, Nat.le_of_ble_eq_true rfl⟩ rfl rfl hl.1 (Nat.le_of_ble_eq_true rfl) dX11_far_23 (fun x14 G9 H locs hq hB => ?_)
        obtain ⟨rfl, i_x14, hp15⟩ := hq
        have k16 : ¬ x14 = 0 → iv_R 0 99 x_2 := fun h => ⟨iv_max i_x_2.1 (Int.le_trans q_0.1 (hp15.1 h).1) (by decide), iv_min i_x_2.2 (Int.le_trans (hp15.1 h).2 q_99.2) (by decide)⟩
        refine lv_if_ne (tgt := 31) hx hb dX11_far_26 (by decide) (fun c17 => ?_) (fun c17 => ?_)
        · skip
          have i17_x14 : iv_R 1 1 x14 := iv_ne_lo c17 i_x14 q_0 (by decide)
          have i18_x_2 : iv_R 0 99 x_2 := ((i_x_2.cutLo (n := 0) (k16 c17).1).cutHi (n := 99) (k16 c17).2)
          refine lv_aload_n hx hb dX11_far_31 rfl (lv_at hl 0 rfl) ?_
          refine iv_getr X ft_X11 hB a_h0 sh_11 0 (by decide) rfl k_fl_X11_12 dX11_far_32 (fun b20 g_b20 r_b20 e_b20 a_b20 => ?_)
          refine iv_getr X ft_X5 hB a_b20 sh_5 2 (by decide) rfl k_fl_X11_87 dX11_far_35 (fun b21 g_b21 r_b21 e_b21 a_b21 => ?_)
          refine lv_iload_n hx hb dX11_far_38 rfl (lv_at hl 1 rfl) ?_
          refine lv_iconst (v := 4) hx hb dX11_far_39 (by decide) ?_
          refine iv_imul hx hb i5_x_0 q_4 (lo := 0) (hi := 12) (by decide) dX11_far_40 (fun x22 e_x22 i_x22 => ?_)
          refine lv_iload_n hx hb dX11_far_41 rfl (lv_at hl 2 rfl) ?_
          refine iv_iadd hx hb i_x22 i11_x_1 (lo := 0) (hi := 15) (by decide) dX11_far_42 (fun x23 e_x23 i_x23 => ?_)
          refine lv_iload_n hx hb dX11_far_43 rfl (lv_at hl 3 rfl) ?_
          refine iv_ast X hB a_b21 sh_20 (iv_in i_x23 (by decide)) (i18_x_2.wk (by decide)) dX11_far_44 (fun H locs hB => ?_)
          have hm := iv_Md.ast (j := x23.toNatClampNeg) (x := x_2) a_b21 rfl (by decide)
          have h9 := iv_up_eq (G := G) (a := b21) (k := (20, upd g_b21 x23.toNatClampNeg x_2, r_b21))
          generalize iv_up G b21 _ = G24 at hB hm h9
          have hM := hM.stp hm (by decide)
          have a_h0 := hm.at a_h0 (by decide)
          refine lv_aload_n hx hb dX11_far_45 rfl (lv_at hl 0 rfl) ?_
          refine iv_getr X ft_X11 hB a_h0 sh_11 0 (by decide) rfl k_fl_X11_12 dX11_far_46 (fun b26 g_b26 r_b26 e_b26 a_b26 => ?_)
          refine iv_getr X ft_X5 hB a_b26 sh_5 2 (by decide) rfl k_fl_X11_87 dX11_far_49 (fun b27 g_b27 r_b27 e_b27 a_b27 => ?_)
          refine lv_iload_n hx hb dX11_far_52 rfl (lv_at hl 2 rfl) ?_
          refine lv_iconst (v := 4) hx hb dX11_far_53 (by decide) ?_
          refine iv_imul hx hb i11_x_1 q_4 (lo := 0) (hi := 12) (by decide) dX11_far_54 (fun x28 e_x28 i_x28 => ?_)
          refine lv_iload_n hx hb dX11_far_55 rfl (lv_at hl 1 rfl) ?_
          refine iv_iadd hx hb i_x28 i5_x_0 (lo := 0) (hi := 15) (by decide) dX11_far_56 (fun x29 e_x29 i_x29 => ?_)
          refine lv_iload_n hx hb dX11_far_57 rfl (lv_at hl 3 rfl) ?_
          refine iv_ast X hB a_b27 sh_20 (iv_in i_x29 (by decide)) (i18_x_2.wk (by decide)) dX11_far_58 (fun H locs hB => ?_)
          have hm := iv_Md.ast (j := x29.toNatClampNeg) (x := x_2) a_b27 rfl (by decide)
          have h9 := iv_up_eq (G := G24) (a := b27) (k := (20, upd g_b27 x29.toNatClampNeg x_2, r_b27))
          generalize iv_up G24 b27 _ = G30 at hB hm h9
          have hM := hM.stp hm (by decide)
          have a_h0 := hm.at a_h0 (by decide)
          refine lv_aload_n hx hb dX11_far_59 rfl (lv_at hl 0 rfl) ?_
          refine iv_getr X ft_X11 hB a_h0 sh_11 3 (by decide) rfl k_fl_X11_22 dX11_far_60 (fun b32 g_b32 r_b32 e_b32 a_b32 => ?_)
          refine iv_cVv X k_good k_mf_X6_forget k_im_X6_forget k_sel_X6_forget k_ml_X11_76 ft_X6 hB a_b32 sh_6 (As := []) (c_X6_forget l D tys base G30 b32 g_b32 r_b32 a_b32) ⟨rfl, rfl⟩ ⟨Nat.le_of_ble_eq_true rfl, Nat.le_of_ble_eq_true rfl⟩ ⟨Nat.le_of_ble_eq_true rfl, Nat.le_of_ble_eq_true rfl⟩ rfl rfl hl.1 (Nat.le_of_ble_eq_true rfl) dX11_far_63 (fun G9 H locs hq hB => ?_)
          have hm := hq
          obtain ⟨G33, hG9⟩ : ∃ g, g = G9 := ⟨_, rfl⟩
          rw [← hG9] at hm hB
          have hM := hM.stp hm (by decide)
          have a_h0 := hm.at a_h0 (by decide)
          refine lv_iconst (v := 1) hx hb dX11_far_66 (by decide) ?_
          exact iv_zret X hr hlocks hB (q_1.wk (by decide)) ⟨hM, (q_1.wk (by decide)), fun _ => ⟨i5_x_0, i11_x_1, c13, i18_x_2⟩, fun _ h => absurd h (by decide)⟩ dX11_far_67
        · skip
          have i33_x14 : iv_R 0 0 x14 := (i_x14.cutHi (n := 0) (iv_eq_r c17 q_0).2)
          refine lv_iconst (v := 0) hx hb dX11_far_29 (by decide) ?_
          exact iv_zret X hr hlocks hB (q_0.wk (by decide)) ⟨hM, (q_0.wk (by decide)), fun h => absurd (iv_z q_0) h, fun h => by have w1 := hp15.2 c17; have e0 : (0 : Int32).toInt = 0 := rfl; have e3 : (99 : Int32).toInt = 99 := rfl; have w2 := h.2.2.2.1; have w3 := h.2.2.2.2; omega⟩ dX11_far_30
set_option maxHeartbeats 4000000 in
set_option maxRecDepth 100000 in
theorem e_X12_isTower (l : Launch) (D : va_G) (tys : List (ClassId × FieldType)) (base : Nat) (G : iv_G) (x_0 : Int32) (i_x_0 : iv_R (-2147483648) 2147483647 x_0) : Met l yX12_isTower (Cond.code yX12_isTower cX12_isTower 1 (some .boolean) :: iv_W0) ({ frames := 1, cells := 0, slots := 0, locals := 22 }) (iv_Pc iv_sh D classes tys base G [.int x_0]) (iv_Qi iv_sh D classes tys base (fun v G' => G = G' ∧ iv_R 0 1 v ∧ (¬ v = 0 → iv_R 0 3 x_0) ∧ (v = 0 → ¬ iv_R 0 3 x_0))) 0 0 (iv_A base) := by
  refine iv_head (by decide) (Nat.le_of_ble_eq_true rfl) ?_
  intro p e s m args below meth c ls X hr hlocks hname hB hl
  have X := X
  have hx := X.1.1
  have hb := X.1.2.1
  have hl : lv_has ls 1 [(0, .int x_0)] := hl
  refine lv_iload_n hx hb dX12_isTower_0 rfl (lv_at hl 0 rfl) ?_
  refine lv_iconst (v := 0) hx hb dX12_isTower_1 (by decide) ?_
  refine lv_iconst (v := 3) hx hb dX12_isTower_2 (by decide) ?_
  refine iv_cSi X k_good k_mf_X12_isIn k_st_X12_isIn k_ml_X12_56 hB (As := [.int x_0, .int 0, .int 3]) (c_X12_isIn l D tys base G x_0 i_x_0 0 (q_0.wk (by decide)) 3 (q_3.wk (by decide))) ⟨rfl, rfl⟩ ⟨Nat.le_of_ble_eq_true rfl, Nat.le_of_ble_eq_true rfl⟩ ⟨Nat.le_of_ble_eq_true rfl, Nat.le_of_ble_eq_true rfl⟩ rfl rfl hl.1 (Nat.le_of_ble_eq_true rfl) dX12_isTower_3 (fun x1 G9 H locs hq hB => ?_)
  obtain ⟨rfl, i_x1, hp2⟩ := hq
  have k3 : ¬ x1 = 0 → iv_R 0 3 x_0 := fun h => ⟨iv_max i_x_0.1 (Int.le_trans q_0.1 (hp2.1 h).1) (by decide), iv_min i_x_0.2 (Int.le_trans (hp2.1 h).2 q_3.2) (by decide)⟩
  exact iv_zret X hr hlocks hB i_x1 ⟨rfl, i_x1, fun h => (k3 h).wk (by decide), fun h h9 => by have w1 := hp2.2 h; have e0 : (0 : Int32).toInt = 0 := rfl; have e3 : (3 : Int32).toInt = 3 := rfl; have w2 := h9.1; have w3 := h9.2; omega⟩ dX12_isTower_6
set_option maxHeartbeats 4000000 in
set_option maxRecDepth 100000 in
theorem e_X12_far (l : Launch) (D : va_G) (tys : List (ClassId × FieldType)) (base : Nat) (G : iv_G) (h0 : Nat) (g_h0 : Nat → Int32) (r_h0 : Nat → Nat) (a_h0 : G h0 = some (12, g_h0, r_h0)) (x_0 : Int32) (i_x_0 : iv_R (-2147483648) 2147483647 x_0) (x_1 : Int32) (i_x_1 : iv_R (-2147483648) 2147483647 x_1) (x_2 : Int32) (i_x_2 : iv_R (-2147483648) 2147483647 x_2) : Met l yX12_far (Cond.code yX12_far cX12_far 4 (some .boolean) :: iv_W0) ({ frames := 2, cells := 0, slots := 0, locals := 42 }) (iv_Pc iv_sh D classes tys base G [.ref h0, .int x_0, .int x_1, .int x_2]) (iv_Qi iv_sh D classes tys base (fun v G' => iv_Md [12, 60] G G' ∧ iv_R 0 1 v ∧ (¬ v = 0 ↔ lx_far x_0 x_1 x_2))) 0 0 (iv_A base) := by
  refine iv_head (by decide) (Nat.le_of_ble_eq_true rfl) ?_
  intro p e s m args below meth c ls X hr hlocks hname hB hl
  have X := X
  have hx := X.1.1
  have hb := X.1.2.1
  have hM : iv_Md [12, 60] G G := iv_Md.rf
  have hl : lv_has ls 4 [(0, .ref h0), (1, .int x_0), (2, .int x_1), (3, .int x_2)] := hl
  refine lv_iload_n hx hb dX12_far_0 rfl (lv_at hl 1 rfl) ?_
  refine iv_cSi X k_good k_mf_X12_isTower k_st_X12_isTower k_ml_X12_68 hB (As := [.int x_0]) (e_X12_isTower l D tys base G x_0 i_x_0) ⟨rfl, rfl⟩ ⟨Nat.le_of_ble_eq_true rfl, Nat.le_of_ble_eq_true rfl⟩ ⟨Nat.le_of_ble_eq_true rfl, Nat.le_of_ble_eq_true rfl⟩ rfl rfl hl.1 (Nat.le_of_ble_eq_true rfl) dX12_far_1 (fun x1 G9 H locs hq hB => ?_)
  obtain ⟨rfl, i_x1, hp2⟩ := hq
  refine lv_if_eq (tgt := 29) hx hb dX12_far_4 (by decide) (fun c3 => ?_) (fun c3 => ?_)
  · skip
    have i3_x1 : iv_R 0 0 x1 := (i_x1.cutHi (n := 0) (iv_eq_r c3 q_0).2)
    refine lv_iconst (v := 0) hx hb dX12_far_29 (by decide) ?_
    exact iv_zret X hr hlocks hB (q_0.wk (by decide)) ⟨hM, (q_0.wk (by decide)), fun h => absurd (iv_z q_0) h, fun h => absurd h.1 (hp2.2 c3)⟩ dX12_far_30
  · skip
    have i4_x1 : iv_R 1 1 x1 := iv_ne_lo c3 i_x1 q_0 (by decide)
    have i5_x_0 : iv_R 0 3 x_0 := ((i_x_0.cutLo (n := 0) (hp2.1 c3).1).cutHi (n := 3) (hp2.1 c3).2)
    refine lv_iload_n hx hb dX12_far_7 rfl (lv_at hl 2 rfl) ?_
    refine iv_cSi X k_good k_mf_X12_isTower k_st_X12_isTower k_ml_X12_68 hB (As := [.int x_1]) (e_X12_isTower l D tys base G x_1 i_x_1) ⟨rfl, rfl⟩ ⟨Nat.le_of_ble_eq_true rfl, Nat.le_of_ble_eq_true rfl⟩ ⟨Nat.le_of_ble_eq_true rfl, Nat.le_of_ble_eq_true rfl⟩ rfl rfl hl.1 (Nat.le_of_ble_eq_true rfl) dX12_far_8 (fun x7 G9 H locs hq hB => ?_)
    obtain ⟨rfl, i_x7, hp8⟩ := hq
    refine lv_if_eq (tgt := 29) hx hb dX12_far_11 (by decide) (fun c9 => ?_) (fun c9 => ?_)
    · skip
      have i9_x7 : iv_R 0 0 x7 := (i_x7.cutHi (n := 0) (iv_eq_r c9 q_0).2)
      refine lv_iconst (v := 0) hx hb dX12_far_29 (by decide) ?_
      exact iv_zret X hr hlocks hB (q_0.wk (by decide)) ⟨hM, (q_0.wk (by decide)), fun h => absurd (iv_z q_0) h, fun h => absurd h.2.1 (hp8.2 c9)⟩ dX12_far_30
    · skip
      have i10_x7 : iv_R 1 1 x7 := iv_ne_lo c9 i_x7 q_0 (by decide)
      have i11_x_1 : iv_R 0 3 x_1 := ((i_x_1.cutLo (n := 0) (hp8.1 c9).1).cutHi (n := 3) (hp8.1 c9).2)
      refine lv_iload_n hx hb dX12_far_14 rfl (lv_at hl 1 rfl) ?_
      refine lv_iload_n hx hb dX12_far_15 rfl (lv_at hl 2 rfl) ?_
      refine lv_icmp_eq (tgt := 29) hx hb dX12_far_16 (by decide) (fun c13 => ?_) (fun c13 => ?_)
      · skip
        refine lv_iconst (v := 0) hx hb dX12_far_29 (by decide) ?_
        exact iv_zret X hr hlocks hB (q_0.wk (by decide)) ⟨hM, (q_0.wk (by decide)), fun h => absurd (iv_z q_0) h, fun h => absurd c13 h.2.2.1⟩ dX12_far_30
      · skip
        refine lv_iload_n hx hb dX12_far_19 rfl (lv_at hl 3 rfl) ?_
        refine lv_iconst (v := 0) hx hb dX12_far_20 (by decide) ?_
        refine lv_bipush (v := 99) hx hb dX12_far_21 (by decide) ?_
        refine iv_cSi X k_good k_mf_X12_isIn k_st_X12_isIn k_ml_X12_56 hB (As := [.int x_2, .int 0, .int 99]) (c_X12_isIn l D tys base G x_2 i_x_2 0 (q_0.wk (by decide)) 99 (q_99.wk (by decide))) ⟨rfl, rfl⟩ ⟨Nat.le_of_ble_eq_true rfl, Nat.le_of_ble_eq_true rfl⟩ ⟨Nat.le_of_ble_eq_true rfl, Nat.le_of_ble_eq_true rfl⟩ rfl rfl hl.1 (Nat.le_of_ble_eq_true rfl) dX12_far_23 (fun x14 G9 H locs hq hB => ?_)
        obtain ⟨rfl, i_x14, hp15⟩ := hq
        have k16 : ¬ x14 = 0 → iv_R 0 99 x_2 := fun h => ⟨iv_max i_x_2.1 (Int.le_trans q_0.1 (hp15.1 h).1) (by decide), iv_min i_x_2.2 (Int.le_trans (hp15.1 h).2 q_99.2) (by decide)⟩
        refine lv_if_ne (tgt := 31) hx hb dX12_far_26 (by decide) (fun c17 => ?_) (fun c17 => ?_)
        · skip
          have i17_x14 : iv_R 1 1 x14 := iv_ne_lo c17 i_x14 q_0 (by decide)
          have i18_x_2 : iv_R 0 99 x_2 := ((i_x_2.cutLo (n := 0) (k16 c17).1).cutHi (n := 99) (k16 c17).2)
          refine lv_aload_n hx hb dX12_far_31 rfl (lv_at hl 0 rfl) ?_
          refine iv_getr X ft_X12 hB a_h0 sh_12 0 (by decide) rfl k_fl_X12_7 dX12_far_32 (fun b20 g_b20 r_b20 e_b20 a_b20 => ?_)
          refine lv_sipush (v := 190) hx hb dX12_far_35 (by decide) ?_
          refine lv_iconst (v := 4) hx hb dX12_far_38 (by decide) ?_
          refine lv_iload_n hx hb dX12_far_39 rfl (lv_at hl 1 rfl) ?_
          refine iv_imul hx hb q_4 i5_x_0 (lo := 0) (hi := 12) (by decide) dX12_far_40 (fun x21 e_x21 i_x21 => ?_)
          refine iv_iadd hx hb q_190 i_x21 (lo := 190) (hi := 202) (by decide) dX12_far_41 (fun x22 e_x22 i_x22 => ?_)
          refine lv_iload_n hx hb dX12_far_42 rfl (lv_at hl 2 rfl) ?_
          refine iv_iadd hx hb i_x22 i11_x_1 (lo := 190) (hi := 205) (by decide) dX12_far_43 (fun x23 e_x23 i_x23 => ?_)
          refine lv_iload_n hx hb dX12_far_44 rfl (lv_at hl 3 rfl) ?_
          refine iv_wast_f X hB a_b20 i_x23 (by decide) dX12_far_45 (fun H locs hB => ?_)
          have hm := iv_Md.put (x := x_2) a_b20 (j := x23.toNatClampNeg) (iv_n146 i_x23 (by decide)) (fun h => absurd h (by decide))
          have h9 := iv_up_eq (G := G) (a := b20) (k := (60, upd g_b20 x23.toNatClampNeg x_2, r_b20))
          generalize iv_up G b20 _ = G24 at hB hm h9
          have hM := hM.stp hm (by decide)
          generalize hgn_g25 : upd g_b20 _ _ = g25 at h9
          have a_h0 := hm.at a_h0 (by decide)
          have a_b20 := h9
          refine lv_aload_n hx hb dX12_far_46 rfl (lv_at hl 0 rfl) ?_
          refine iv_getr0 X ft_X12 hB a_h0 sh_12 0 (by decide) rfl k_fl_X12_7 dX12_far_47 e_b20 ?_
          refine lv_sipush (v := 190) hx hb dX12_far_50 (by decide) ?_
          refine lv_iconst (v := 4) hx hb dX12_far_53 (by decide) ?_
          refine lv_iload_n hx hb dX12_far_54 rfl (lv_at hl 2 rfl) ?_
          refine iv_imul hx hb q_4 i11_x_1 (lo := 0) (hi := 12) (by decide) dX12_far_55 (fun x26 e_x26 i_x26 => ?_)
          refine iv_iadd hx hb q_190 i_x26 (lo := 190) (hi := 202) (by decide) dX12_far_56 (fun x27 e_x27 i_x27 => ?_)
          refine lv_iload_n hx hb dX12_far_57 rfl (lv_at hl 1 rfl) ?_
          refine iv_iadd hx hb i_x27 i5_x_0 (lo := 190) (hi := 205) (by decide) dX12_far_58 (fun x28 e_x28 i_x28 => ?_)
          refine lv_iload_n hx hb dX12_far_59 rfl (lv_at hl 3 rfl) ?_
          refine iv_wast_f X hB a_b20 i_x28 (by decide) dX12_far_60 (fun H locs hB => ?_)
          have hm := iv_Md.put (x := x_2) a_b20 (j := x28.toNatClampNeg) (iv_n146 i_x28 (by decide)) (fun h => absurd h (by decide))
          have h9 := iv_up_eq (G := G24) (a := b20) (k := (60, upd g25 x28.toNatClampNeg x_2, r_b20))
          generalize iv_up G24 b20 _ = G29 at hB hm h9
          have hM := hM.stp hm (by decide)
          generalize hgn_g30 : upd g25 _ _ = g30 at h9
          have a_h0 := hm.at a_h0 (by decide)
          have a_b20 := h9
          refine lv_aload_n hx hb dX12_far_61 rfl (lv_at hl 0 rfl) ?_
          refine iv_cVv X k_good k_mf_X12_forgets k_im_X12_forgets k_sel_X12_forgets k_ml_X12_63 ft_X12 hB a_h0 sh_12 (As := []) (c_X12_forgets l D tys base G29 h0 g_h0 r_h0 a_h0) ⟨rfl, rfl⟩ ⟨Nat.le_of_ble_eq_true rfl, Nat.le_of_ble_eq_true rfl⟩ ⟨Nat.le_of_ble_eq_true rfl, Nat.le_of_ble_eq_true rfl⟩ rfl rfl hl.1 (Nat.le_of_ble_eq_true rfl) dX12_far_62 (fun G9 H locs hq hB => ?_)
          have hm := hq
          obtain ⟨G31, hG9⟩ : ∃ g, g = G9 := ⟨_, rfl⟩
          rw [← hG9] at hm hB
          have hM := hM.stp hm (by decide)
          obtain ⟨g32, r33, a_h0, f_g32⟩ := hm.ex a_h0
          have e34 : b20 = r33 0 := e_b20.trans (f_g32.1 0 (fun h => absurd (show (12 : Nat) = 5 from h) (by decide))).symm
          have a_b20 := hm.at a_b20 (by decide)
          refine lv_iconst (v := 1) hx hb dX12_far_65 (by decide) ?_
          exact iv_zret X hr hlocks hB (q_1.wk (by decide)) ⟨hM, (q_1.wk (by decide)), fun _ => ⟨i5_x_0, i11_x_1, c13, i18_x_2⟩, fun _ h => absurd h (by decide)⟩ dX12_far_66
        · skip
          have i34_x14 : iv_R 0 0 x14 := (i_x14.cutHi (n := 0) (iv_eq_r c17 q_0).2)
          refine lv_iconst (v := 0) hx hb dX12_far_29 (by decide) ?_
          exact iv_zret X hr hlocks hB (q_0.wk (by decide)) ⟨hM, (q_0.wk (by decide)), fun h => absurd (iv_z q_0) h, fun h => by have w1 := hp15.2 c17; have e0 : (0 : Int32).toInt = 0 := rfl; have e3 : (99 : Int32).toInt = 99 := rfl; have w2 := h.2.2.2.1; have w3 := h.2.2.2.2; omega⟩ dX12_far_30
