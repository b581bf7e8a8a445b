theorem iv_samer {G : iv_G} {a b : Nat} {c : Nat} {g g' : Nat → Int32} {r r' : Nat → Nat} (h : G a = some (c, g, r)) (e : b = a) (h' : G b = some (c, g', r')) : r' = r := by
  subst e
  have := h.symm.trans h'
  cases this
  rfl
/-- the reader's tables: kinds, values, places -/
def rx (b : Nat) (gk gv gp : Nat → Int32) (G : iv_G) : Prop := ∃ (gt : Nat → Int32) (rt rk rp rv : Nat → Nat), G b = some (10, gt, rt) ∧ G (rt 0) = some (42, gk, rk) ∧ G (rt 1) = some (43, gp, rp) ∧ G (rt 2) = some (44, gv, rv)
theorem rx.md {b : Nat} {gk gv gp : Nat → Int32} {G G' : iv_G} {rel : iv_K → iv_K → Prop} {S : List Nat} (h : rx b gk gv gp G) (hm : iv_mod rel S G G') (n : 10 ∉ S ∧ 42 ∉ S ∧ 43 ∉ S ∧ 44 ∉ S) : rx b gk gv gp G' := by
  obtain ⟨gt, rt, rk, rp, rv, h1, h2, h3, h4⟩ := h
  exact ⟨gt, rt, rk, rp, rv, hm.at h1 n.1, hm.at h2 n.2.1, hm.at h3 n.2.2.1, hm.at h4 n.2.2.2⟩
/-- the reader stands before token i -/
def rc (gk gv : Nat → Int32) (i : Nat) (g : Nat → Int32) : Prop := (g 1).toInt = (i : Int) ∧ g 2 = gk i ∧ g 3 = gv i
/-- a fault of kind k at token i is told -/
def rf (gp : Nat → Int32) (k i : Nat) (g : Nat → Int32) : Prop := (g 6).toInt = (k : Int) ∧ g 7 = gp i
/-- the reader h0 stands before token i of N over its tables b, reading as os says -/
def rq (os : Int32) (g : Nat → Int32) : Prop := g 4 = os ∧ g 6 = 0 ∧ g 7 = -1
def rs (h0 b : Nat) (gk gv gp : Nat → Int32) (N i : Nat) (os : Int32) (G : iv_G) : Prop := i ≤ N ∧ rx b gk gv gp G ∧ ∃ (g : Nat → Int32) (r : Nat → Nat), G h0 = some (7, g, r) ∧ r 0 = b ∧ rc gk gv i g ∧ rq os g
def rt (h0 : Nat) (gp : Nat → Int32) (k i : Nat) (G : iv_G) : Prop := ∃ (g : Nat → Int32) (r : Nat → Nat), G h0 = some (7, g, r) ∧ rf gp k i g
theorem rs.got {h0 b : Nat} {gk gv gp : Nat → Int32} {N i : Nat} {os : Int32} {G : iv_G} {g : Nat → Int32} {r : Nat → Nat} (h : rs h0 b gk gv gp N i os G) (ha : G h0 = some (7, g, r)) : r 0 = b ∧ rc gk gv i g ∧ rq os g := by
  obtain ⟨-, -, g', r', h1, h2⟩ := h
  cases h1.symm.trans ha
  exact h2
/-- what the reader's emits leave: all but how many signs are used -/
def ke (h0 : Nat) (G G' : iv_G) : Prop := ∀ (g : Nat → Int32) (r : Nat → Nat), G h0 = some (7, g, r) → ∃ g' : Nat → Int32, G' h0 = some (7, g', r) ∧ ∀ j, j ≠ 5 → g' j = g j
theorem ke.rf {h0 : Nat} {G : iv_G} : ke h0 G G := fun g r h => ⟨g, h, fun _ _ => rfl⟩
theorem rs.ke {h0 b : Nat} {gk gv gp : Nat → Int32} {N i : Nat} {os : Int32} {G G' : iv_G} {rel : iv_K → iv_K → Prop} {S : List Nat} (h : rs h0 b gk gv gp N i os G) (k : ke h0 G G') (hm : iv_mod rel S G G') (n : 10 ∉ S ∧ 42 ∉ S ∧ 43 ∉ S ∧ 44 ∉ S) : rs h0 b gk gv gp N i os G' := by
  obtain ⟨h1, h2, g, r, a, h3, h4, h5⟩ := h
  obtain ⟨g', a', e⟩ := k g r a
  exact ⟨h1, h2.md hm n, g', r, a', h3, ⟨by rw [e 1 (by decide)]; exact h4.1, (e 2 (by decide)).trans h4.2.1, (e 3 (by decide)).trans h4.2.2⟩, (e 4 (by decide)).trans h5.1, (e 6 (by decide)).trans h5.2.1, (e 7 (by decide)).trans h5.2.2⟩
theorem rt.ke {h0 : Nat} {gp : Nat → Int32} {k i : Nat} {G G' : iv_G} (h : rt h0 gp k i G) (q : ke h0 G G') : rt h0 gp k i G' := by
  obtain ⟨g, r, a, h1, h2⟩ := h
  obtain ⟨g', a', e⟩ := q g r a
  exact ⟨g', r, a', by rw [e 6 (by decide)]; exact h1, (e 7 (by decide)).trans h2⟩
theorem rc.of {gk gv : Nat → Int32} {i : Nat} {g g' : Nat → Int32} (h : rc gk gv i g) (e : g' 1 = g 1 ∧ g' 2 = g 2 ∧ g' 3 = g 3) : rc gk gv i g' := ⟨by rw [e.1]; exact h.1, e.2.1.trans h.2.1, e.2.2.trans h.2.2⟩
set_option maxHeartbeats 4000000 in
set_option maxRecDepth 100000 in
theorem e_X7_step (l : Launch) (D : va_G) (tys : List (ClassId × FieldType)) (base : Nat) (G : iv_G) (h0 : Nat) (g_h0 : Nat → Int32) (r_h0 : Nat → Nat) (a_h0 : G h0 = some (7, g_h0, r_h0)) (gk gv gp : Nat → Int32) (RX : rx (r_h0 0) gk gv gp G) (i : Nat) (hi : i ≤ 400) (hn : (g_h0 1).toInt = (i : Int) - 1) : Met l yX7_step (Cond.code yX7_step cX7_step 1 none :: iv_W0) ({ frames := 0, cells := 0, slots := 0, locals := 0 }) (iv_Pc iv_sh D classes tys base G [.ref h0]) (iv_Qv iv_sh D classes tys base (fun G' => iv_Md [7] G G' ∧ (∀ (g' : Nat → Int32) (r' : Nat → Nat), G' h0 = some (7, g', r') → iv_R 0 400 (g' 1)) ∧ (∀ (g' : Nat → Int32) (r' : Nat → Nat), G' h0 = some (7, g', r') → rc gk gv i g' ∧ g' 6 = g_h0 6 ∧ g' 7 = g_h0 7))) 0 0 (iv_A base) := by
  refine iv_head (by decide) (Nat.le_of_ble_eq_true rfl) ?_
  intro p e s m args below meth c ls X hr hlocks hname hB hl
  have X := X
  have hx := X.1.1
  have hb := X.1.2.1
  have hM : iv_Md [7] G G := iv_Md.rf
  have hl : lv_has ls 1 [(0, .ref h0)] := hl
  obtain ⟨gt, rt, rk, rp, rv, t10, t42, t43, t44⟩ := RX
  refine lv_aload_n hx hb dX7_step_0 rfl (lv_at hl 0 rfl) ?_
  refine iv_geti X ft_X7 hB a_h0 sh_7 1 (by decide) rfl k_fl_X7_80 dX7_step_1 (fun x1 e_x1 i_x1 => ?_)
  refine lv_sipush (v := 400) hx hb dX7_step_4 (by decide) ?_
  refine lv_icmp_ge (tgt := 20) hx hb dX7_step_7 (by decide) (fun c2 => ?_) (fun c2 => ?_)
  · skip
    exact absurd (Int32.le_iff_toInt_le.mp c2) (by have e4 : (400 : Int32).toInt = 400 := rfl; have w := congrArg Int32.toInt e_x1; rw [e4]; omega)
  · skip
    have i16_x1 : iv_R (-1) 399 x1 := (i_x1.cutHi (n := 399) (iv_lt_r (iv_nle c2) q_400 (by decide)))
    refine lv_aload_n hx hb dX7_step_10 rfl (lv_at hl 0 rfl) ?_
    refine lv_dup hx hb dX7_step_11 rfl ?_
    refine iv_geti0 X ft_X7 hB a_h0 sh_7 1 (by decide) rfl k_fl_X7_80 dX7_step_12 e_x1 ?_
    refine lv_iconst (v := 1) hx hb dX7_step_15 (by decide) ?_
    refine iv_iadd hx hb i16_x1 q_1 (lo := 0) (hi := 400) (by decide) dX7_step_16 (fun x18 e_x18 i_x18 => ?_)
    have e_x18 : x18.toInt = x1.toInt + 1 := e_x18
    have h18 : x18.toInt = (i : Int) := by have w := congrArg Int32.toInt e_x1; omega
    refine iv_puti X ft_X7 hB a_h0 sh_7 1 (by decide) rfl rfl k_fl_X7_80 rfl (i_x18.wk (by decide)) rfl rfl dX7_step_17 (fun H locs hB => ?_)
    have hm := iv_Md.put7 (x := x18) a_h0 (by rw [← e_x1]; omega)
    have h9 := iv_up_eq (G := G) (a := h0) (k := (7, upd g_h0 1 x18, r_h0))
    generalize iv_up G h0 _ = G19 at hB hm h9
    have hM := hM.stp hm (by decide)
    have t10 := hm.at t10 (by decide); have t42 := hm.at t42 (by decide); have t43 := hm.at t43 (by decide); have t44 := hm.at t44 (by decide)
    generalize hgn_g20 : upd g_h0 _ _ = g20 at h9
    have a_h0 := h9
    have e9_g20 : x18 = g20 1 := by rw [← hgn_g20]; simp [upd]
    refine lv_aload_n hx hb dX7_step_20 rfl (lv_at hl 0 rfl) ?_
    refine lv_aload_n hx hb dX7_step_21 rfl (lv_at hl 0 rfl) ?_
    refine iv_getr X ft_X7 hB a_h0 sh_7 0 (by decide) rfl k_fl_X7_12 dX7_step_22 (fun b21 g_b21 r_b21 e_b21 a_b21 => ?_)
    refine iv_getr X ft_X10 hB a_b21 sh_10 0 (by decide) rfl k_fl_X7_86 dX7_step_25 (fun b22 g_b22 r_b22 e_b22 a_b22 => ?_)
    refine lv_aload_n hx hb dX7_step_28 rfl (lv_at hl 0 rfl) ?_
    refine iv_geti0 X ft_X7 hB a_h0 sh_7 1 (by decide) rfl k_fl_X7_80 dX7_step_29 e9_g20 ?_
    refine iv_ald X hB a_b22 sh_42 (iv_in i_x18 (by decide)) dX7_step_32 (fun x23 e_x23 i_x23 => ?_)
    have hi18 : x18.toInt.toNat = i := by have w := congrArg Int32.toInt e_x1; omega
    have hk23 : x23 = gk i := by have w : x23 = g_b22 x18.toInt.toNat := e_x23; rw [iv_samew t42 (e_b22.trans (congrFun (iv_samer t10 e_b21 a_b21) 0)) a_b22, hi18] at w; exact w
    refine iv_puti X ft_X7 hB a_h0 sh_7 2 (by decide) rfl rfl k_fl_X7_53 rfl i_x23 rfl rfl dX7_step_33 (fun H locs hB => ?_)
    have hm := iv_Md.put (x := x23) a_h0 (j := 2) (by decide) (by decide)
    have h9 := iv_up_eq (G := G19) (a := h0) (k := (7, upd g20 2 x23, r_h0))
    generalize iv_up G19 h0 _ = G24 at hB hm h9
    have hM := hM.stp hm (by decide)
    have t10 := hm.at t10 (by decide); have t42 := hm.at t42 (by decide); have t43 := hm.at t43 (by decide); have t44 := hm.at t44 (by decide)
    generalize hgn_g25 : upd g20 _ _ = g25 at h9
    have a_h0 := h9
    have e26 : x18 = g25 1 := by rw [← hgn_g25]; exact e9_g20
    have e9_g25 : x23 = g25 2 := by rw [← hgn_g25]; simp [upd]
    refine lv_aload_n hx hb dX7_step_36 rfl (lv_at hl 0 rfl) ?_
    refine lv_aload_n hx hb dX7_step_37 rfl (lv_at hl 0 rfl) ?_
    refine iv_getr X ft_X7 hB a_h0 sh_7 0 (by decide) rfl k_fl_X7_12 dX7_step_38 (fun b27 g_b27 r_b27 e_b27 a_b27 => ?_)
    refine iv_getr X ft_X10 hB a_b27 sh_10 2 (by decide) rfl k_fl_X7_89 dX7_step_41 (fun b28 g_b28 r_b28 e_b28 a_b28 => ?_)
    refine lv_aload_n hx hb dX7_step_44 rfl (lv_at hl 0 rfl) ?_
    refine iv_geti0 X ft_X7 hB a_h0 sh_7 1 (by decide) rfl k_fl_X7_80 dX7_step_45 e26 ?_
    refine iv_ald X hB a_b28 sh_44 (iv_in i_x18 (by decide)) dX7_step_48 (fun x29 e_x29 i_x29 => ?_)
    have hv29 : x29 = gv i := by have w : x29 = g_b28 x18.toInt.toNat := e_x29; rw [iv_samew t44 (e_b28.trans (congrFun (iv_samer t10 e_b27 a_b27) 2)) a_b28, hi18] at w; exact w
    refine iv_puti X ft_X7 hB a_h0 sh_7 3 (by decide) rfl rfl k_fl_X7_92 rfl i_x29 rfl rfl dX7_step_49 (fun H locs hB => ?_)
    have hm := iv_Md.put (x := x29) a_h0 (j := 3) (by decide) (by decide)
    have h9 := iv_up_eq (G := G24) (a := h0) (k := (7, upd g25 3 x29, r_h0))
    generalize iv_up G24 h0 _ = G30 at hB hm h9
    have hM := hM.stp hm (by decide)
    have t10 := hm.at t10 (by decide); have t42 := hm.at t42 (by decide); have t43 := hm.at t43 (by decide); have t44 := hm.at t44 (by decide)
    generalize hgn_g31 : upd g25 _ _ = g31 at h9
    have a_h0 := h9
    have e32 : x18 = g31 1 := by rw [← hgn_g31]; exact e26
    have e33 : x23 = g31 2 := by rw [← hgn_g31]; exact e9_g25
    have e9_g31 : x29 = g31 3 := by rw [← hgn_g31]; simp [upd]
    exact iv_vret X hr hlocks hB ⟨hM, fun g9 r9 h9 => by have h8 := a_h0.symm.trans h9; cases h8; exact (by rw [← e32]; exact i_x18), (fun g9 r9 h9 => by have h8 := a_h0.symm.trans h9; cases h8; exact ⟨⟨by rw [← e32]; omega, by rw [← e33]; exact hk23, by rw [← e9_g31]; exact hv29⟩, by rw [← hgn_g31, ← hgn_g25, ← hgn_g20]; exact ⟨rfl, rfl⟩⟩)⟩ dX7_step_52
set_option maxHeartbeats 4000000 in
set_option maxRecDepth 100000 in
theorem e_X7_refuse (l : Launch) (D : va_G) (tys : List (ClassId × FieldType)) (base : Nat) (G : iv_G) (h0 : Nat) (g_h0 : Nat → Int32) (r_h0 : Nat → Nat) (a_h0 : G h0 = some (7, g_h0, r_h0)) (n_g_h0 : iv_R 0 400 (g_h0 1)) (x_0 : Int32) (i_x_0 : iv_R 1 3 x_0) (gk gv gp : Nat → Int32) (RX : rx (r_h0 0) gk gv gp G) (i : Nat) (hn : (g_h0 1).toInt = (i : Int)) : Met l yX7_refuse (Cond.code yX7_refuse cX7_refuse 2 (some .boolean) :: iv_W0) ({ frames := 0, cells := 0, slots := 0, locals := 0 }) (iv_Pc iv_sh D classes tys base G [.ref h0, .int x_0]) (iv_Qi iv_sh D classes tys base (fun v G' => iv_Md [7] G G' ∧ iv_R 0 0 v ∧ (∀ (g' : Nat → Int32) (r' : Nat → Nat), G' h0 = some (7, g', r') → rf gp x_0.toInt.toNat i g'))) 0 0 (iv_A base) := by
  refine iv_head (by decide) (Nat.le_of_ble_eq_true rfl) ?_
  intro p e s m args below meth c ls X hr hlocks hname hB hl
  have X := X
  have hx := X.1.1
  have hb := X.1.2.1
  have hM : iv_Md [7] G G := iv_Md.rf
  have hl : lv_has ls 2 [(0, .ref h0), (1, .int x_0)] := hl
  obtain ⟨gt, rt, rk, rp, rv, t10, t42, t43, t44⟩ := RX
  refine lv_aload_n hx hb dX7_refuse_0 rfl (lv_at hl 0 rfl) ?_
  refine lv_iload_n hx hb dX7_refuse_1 rfl (lv_at hl 1 rfl) ?_
  refine iv_puti X ft_X7 hB a_h0 sh_7 6 (by decide) rfl rfl k_fl_X7_41 rfl (i_x_0.wk (by decide)) rfl rfl dX7_refuse_2 (fun H locs hB => ?_)
  have hm := iv_Md.put (x := x_0) a_h0 (j := 6) (by decide) (by decide)
  have h9 := iv_up_eq (G := G) (a := h0) (k := (7, upd g_h0 6 x_0, r_h0))
  generalize iv_up G h0 _ = G1 at hB hm h9
  have hM := hM.stp hm (by decide)
  have t10 := hm.at t10 (by decide); have t42 := hm.at t42 (by decide); have t43 := hm.at t43 (by decide); have t44 := hm.at t44 (by decide)
  generalize hgn_g2 : upd g_h0 _ _ = g2 at h9
  have a_h0 := h9
  have e9_g2 : x_0 = g2 6 := by rw [← hgn_g2]; simp [upd]
  have n_g2 : iv_R 0 400 (g2 1) := by rw [← hgn_g2]; exact n_g_h0
  refine lv_aload_n hx hb dX7_refuse_5 rfl (lv_at hl 0 rfl) ?_
  refine lv_aload_n hx hb dX7_refuse_6 rfl (lv_at hl 0 rfl) ?_
  refine iv_getr X ft_X7 hB a_h0 sh_7 0 (by decide) rfl k_fl_X7_12 dX7_refuse_7 (fun b3 g_b3 r_b3 e_b3 a_b3 => ?_)
  refine iv_getr X ft_X10 hB a_b3 sh_10 1 (by decide) rfl k_fl_X7_95 dX7_refuse_10 (fun b4 g_b4 r_b4 e_b4 a_b4 => ?_)
  refine lv_aload_n hx hb dX7_refuse_13 rfl (lv_at hl 0 rfl) ?_
  refine iv_geti X ft_X7 hB a_h0 sh_7 1 (by decide) rfl k_fl_X7_80 dX7_refuse_14 (fun x5 e_x5 i_x5 => ?_)
  have i5_x5 : iv_R 0 400 x5 := by rw [e_x5]; exact n_g2
  refine iv_ald X hB a_b4 sh_43 (iv_in i5_x5 (by decide)) dX7_refuse_17 (fun x7 e_x7 i_x7 => ?_)
  have h5 : x5.toInt.toNat = i := by have w := congrArg Int32.toInt e_x5; rw [← hgn_g2] at w; have w2 : x5.toInt = (g_h0 1).toInt := w; omega
  have hp7 : x7 = gp i := by have w : x7 = g_b4 x5.toInt.toNat := e_x7; rw [iv_samew t43 (e_b4.trans (congrFun (iv_samer t10 e_b3 a_b3) 1)) a_b4, h5] at w; exact w
  refine iv_puti X ft_X7 hB a_h0 sh_7 7 (by decide) rfl rfl k_fl_X7_18 rfl i_x7 rfl rfl dX7_refuse_18 (fun H locs hB => ?_)
  have hm := iv_Md.put (x := x7) a_h0 (j := 7) (by decide) (by decide)
  have h9 := iv_up_eq (G := G1) (a := h0) (k := (7, upd g2 7 x7, r_h0))
  generalize iv_up G1 h0 _ = G8 at hB hm h9
  have hM := hM.stp hm (by decide)
  have t10 := hm.at t10 (by decide); have t42 := hm.at t42 (by decide); have t43 := hm.at t43 (by decide); have t44 := hm.at t44 (by decide)
  generalize hgn_g9 : upd g2 _ _ = g9 at h9
  have a_h0 := h9
  have e10 : x_0 = g9 6 := by rw [← hgn_g9]; exact e9_g2
  have e11 : x5 = g9 1 := by rw [← hgn_g9]; exact e_x5
  have e9_g9 : x7 = g9 7 := by rw [← hgn_g9]; simp [upd]
  have n_g9 : iv_R 0 400 (g9 1) := by rw [← hgn_g9]; exact n_g2
  refine lv_iconst (v := 0) hx hb dX7_refuse_21 (by decide) ?_
  exact iv_zret X hr hlocks hB (q_0.wk (by decide)) ⟨hM, q_0, (fun g8 r8 h9 => by have h8 := a_h0.symm.trans h9; cases h8; exact ⟨by rw [← e10]; have w := i_x_0.1; omega, by rw [← e9_g9]; exact hp7⟩)⟩ dX7_refuse_22
set_option maxHeartbeats 4000000 in
set_option maxRecDepth 100000 in
theorem e_X7_takes (l : Launch) (D : va_G) (tys : List (ClassId × FieldType)) (base : Nat) (G : iv_G) (h0 : Nat) (g_h0 : Nat → Int32) (r_h0 : Nat → Nat) (a_h0 : G h0 = some (7, g_h0, r_h0)) (n_g_h0 : iv_R 0 400 (g_h0 1)) (x_0 : Int32) (i_x_0 : iv_R 41 130 x_0) (b : Nat) (gk gv gp : Nat → Int32) (N : Nat) (hN : (gk N).toInt = 0) (hN4 : N ≤ 400) (i : Nat) (os : Int32) (RS : rs h0 b gk gv gp N i os G) : Met l yX7_takes (Cond.code yX7_takes cX7_takes 2 (some .boolean) :: iv_W0) ({ frames := 1, cells := 0, slots := 0, locals := 21 }) (iv_Pc iv_sh D classes tys base G [.ref h0, .int x_0]) (iv_Qi iv_sh D classes tys base (fun v G' => iv_Md [7] G G' ∧ iv_R 0 1 v ∧ (¬ v = 0 → g_h0 2 = x_0) ∧ ((¬ v = 0 → gk i = x_0 ∧ i < N ∧ rs h0 b gk gv gp N (i + 1) os G') ∧ (v = 0 → ¬ gk i = x_0 ∧ rt h0 gp 1 i G')))) 0 0 (iv_A base) := by
  refine iv_head (by decide) (Nat.le_of_ble_eq_true rfl) ?_
  intro p e s m args below meth c ls X hr hlocks hname hB hl
  have X := X
  have hx := X.1.1
  have hb := X.1.2.1
  have hM : iv_Md [7] G G := iv_Md.rf
  have hl : lv_has ls 2 [(0, .ref h0), (1, .int x_0)] := hl
  have RB := RS.got a_h0
  have RC := RB.2.1
  have hi := RS.1
  have RX : rx (r_h0 0) gk gv gp G := by rw [RB.1]; exact RS.2.1
  refine lv_aload_n hx hb dX7_takes_0 rfl (lv_at hl 0 rfl) ?_
  refine iv_geti X ft_X7 hB a_h0 sh_7 2 (by decide) rfl k_fl_X7_53 dX7_takes_1 (fun x1 e_x1 i_x1 => ?_)
  refine lv_iload_n hx hb dX7_takes_4 rfl (lv_at hl 1 rfl) ?_
  refine lv_icmp_eq (tgt := 14) hx hb dX7_takes_5 (by decide) (fun c2 => ?_) (fun c2 => ?_)
  · skip
    have i2_x1 : iv_R 41 130 x1 := ((i_x1.cutLo (n := 41) (iv_eq_r c2 i_x_0).1).cutHi (n := 130) (iv_eq_r c2 i_x_0).2)
    have hg9 : gk i = x_0 := RC.2.1.symm.trans (e_x1.symm.trans c2)
    have hlt : i < N := by rcases Nat.lt_or_eq_of_le hi with q | q; exact q; rw [← q, hg9] at hN; have w := i_x_0.1; omega
    refine lv_aload_n hx hb dX7_takes_14 rfl (lv_at hl 0 rfl) ?_
    refine iv_cVv X k_good k_mf_X7_step k_im_X7_step k_sel_X7_step k_ml_X7_83 ft_X7 hB a_h0 sh_7 (As := []) (e_X7_step l D tys base G h0 g_h0 r_h0 a_h0 gk gv gp RX (i + 1) (by omega) (by rw [RC.1]; omega)) ⟨rfl, rfl⟩ ⟨Nat.le_of_ble_eq_true rfl, Nat.le_of_ble_eq_true rfl⟩ ⟨Nat.le_of_ble_eq_true rfl, Nat.le_of_ble_eq_true rfl⟩ rfl rfl hl.1 (Nat.le_of_ble_eq_true rfl) dX7_takes_15 (fun G9 H locs hq hB => ?_)
    obtain ⟨hm, vg, vc⟩ := hq
    obtain ⟨G4, hG9⟩ : ∃ g, g = G9 := ⟨_, rfl⟩
    rw [← hG9] at hm hB vg vc
    have hM := hM.stp hm (by decide)
    obtain ⟨g5, r6, a_h0, f_g5⟩ := hm.ex a_h0
    have n_g5 := iv_nxt hB a_h0 f_g5 n_g_h0
    have vg7 := vg _ _ a_h0
    refine lv_iconst (v := 1) hx hb dX7_takes_18 (by decide) ?_
    exact iv_zret X hr hlocks hB (q_1.wk (by decide)) ⟨hM, (q_1.wk (by decide)), fun _ => (e_x1.symm.trans c2), (⟨fun _ => ⟨hg9, hlt, ⟨hlt, RS.2.1.md hm (by decide), g5, r6, a_h0, (f_g5.1 0 (fun h => absurd (show (7 : Nat) = 5 from h) (by decide))).trans RB.1, (vc _ _ a_h0).1, (f_g5.2.1 4 (show (4 : Nat) ∈ iv_stab 7 from by decide)).trans RB.2.2.1, (vc _ _ a_h0).2.1.trans RB.2.2.2.1, (vc _ _ a_h0).2.2.trans RB.2.2.2.2⟩⟩, fun h => absurd h (by decide)⟩)⟩ dX7_takes_19
  · skip
    refine lv_aload_n hx hb dX7_takes_8 rfl (lv_at hl 0 rfl) ?_
    refine lv_iconst (v := 1) hx hb dX7_takes_9 (by decide) ?_
    refine iv_cVi X k_good k_mf_X7_refuse k_im_X7_refuse k_sel_X7_refuse k_ml_X7_98 ft_X7 hB a_h0 sh_7 (As := [.int 1]) (e_X7_refuse l D tys base G h0 g_h0 r_h0 a_h0 n_g_h0 1 (q_1.wk (by decide)) gk gv gp RX i RC.1) ⟨rfl, rfl⟩ ⟨Nat.le_of_ble_eq_true rfl, Nat.le_of_ble_eq_true rfl⟩ ⟨Nat.le_of_ble_eq_true rfl, Nat.le_of_ble_eq_true rfl⟩ rfl rfl hl.1 (Nat.le_of_ble_eq_true rfl) dX7_takes_10 (fun x8 G9 H locs hq hB => ?_)
    obtain ⟨hm, i_x8, vf⟩ := hq
    obtain ⟨G9, hG9⟩ : ∃ g, g = G9 := ⟨_, rfl⟩
    rw [← hG9] at hm hB vf
    have hM := hM.stp hm (by decide)
    obtain ⟨g10, r11, a_h0, f_g10⟩ := hm.ex a_h0
    have n_g10 := iv_nxt hB a_h0 f_g10 n_g_h0
    exact iv_zret X hr hlocks hB (i_x8.wk (by decide)) ⟨hM, (i_x8.wk (by decide)), fun h => absurd (iv_z i_x8) h, (⟨fun h => absurd (iv_z i_x8) h, fun _ => ⟨fun q => c2 (e_x1.trans (RC.2.1.trans q)), ⟨g10, r11, a_h0, vf _ _ a_h0⟩⟩⟩)⟩ dX7_takes_13
set_option maxHeartbeats 4000000 in
set_option maxRecDepth 100000 in
theorem e_X7_takesNumber (l : Launch) (D : va_G) (tys : List (ClassId × FieldType)) (base : Nat) (G : iv_G) (h0 : Nat) (g_h0 : Nat → Int32) (r_h0 : Nat → Nat) (a_h0 : G h0 = some (7, g_h0, r_h0)) (n_g_h0 : iv_R 0 400 (g_h0 1)) (x_0 : Int32) (i_x_0 : iv_R 0 1 x_0) (x_1 : Int32) (i_x_1 : iv_R (-1) 9999 x_1) (b : Nat) (gk gv gp : Nat → Int32) (N : Nat) (hN : (gk N).toInt = 0) (hN4 : N ≤ 400) (i : Nat) (os : Int32) (RS : rs h0 b gk gv gp N i os G) : Met l yX7_takesNumber (Cond.code yX7_takesNumber cX7_takesNumber 3 (some .boolean) :: iv_W0) ({ frames := 1, cells := 0, slots := 0, locals := 22 }) (iv_Pc iv_sh D classes tys base G [.ref h0, .int x_0, .int x_1]) (iv_Qi iv_sh D classes tys base (fun v G' => iv_Md [7] G G' ∧ iv_R 0 1 v ∧ ((¬ v = 0 → gk i = 2 ∧ x_0.toInt ≤ (gv i).toInt ∧ (gv i).toInt ≤ x_1.toInt ∧ i < N ∧ rs h0 b gk gv gp N (i + 1) os G') ∧ (v = 0 → (¬ gk i = 2 ∧ rt h0 gp 1 i G') ∨ (gk i = 2 ∧ ((gv i).toInt < x_0.toInt ∨ x_1.toInt < (gv i).toInt) ∧ rt h0 gp 2 i G'))))) 0 0 (iv_A base) := by
  refine iv_head (by decide) (Nat.le_of_ble_eq_true rfl) ?_
  intro p e s m args below meth c ls X hr hlocks hname hB hl
  have X := X
  have hx := X.1.1
  have hb := X.1.2.1
  have hM : iv_Md [7] G G := iv_Md.rf
  have hl : lv_has ls 3 [(0, .ref h0), (1, .int x_0), (2, .int x_1)] := hl
  have RB := RS.got a_h0
  have RC := RB.2.1
  have hi := RS.1
  have RX : rx (r_h0 0) gk gv gp G := by rw [RB.1]; exact RS.2.1
  refine lv_aload_n hx hb dX7_takesNumber_0 rfl (lv_at hl 0 rfl) ?_
  refine iv_geti X ft_X7 hB a_h0 sh_7 2 (by decide) rfl k_fl_X7_53 dX7_takesNumber_1 (fun x1 e_x1 i_x1 => ?_)
  refine lv_iconst (v := 2) hx hb dX7_takesNumber_4 (by decide) ?_
  refine lv_icmp_eq (tgt := 14) hx hb dX7_takesNumber_5 (by decide) (fun c2 => ?_) (fun c2 => ?_)
  · skip
    have i2_x1 : iv_R 2 2 x1 := ((i_x1.cutLo (n := 2) (iv_eq_r c2 q_2).1).cutHi (n := 2) (iv_eq_r c2 q_2).2)
    have hg9 : gk i = 2 := RC.2.1.symm.trans (e_x1.symm.trans c2)
    have hlt : i < N := by rcases Nat.lt_or_eq_of_le hi with q | q; exact q; rw [← q, hg9] at hN; exact absurd hN (by decide)
    refine lv_aload_n hx hb dX7_takesNumber_14 rfl (lv_at hl 0 rfl) ?_
    refine iv_geti X ft_X7 hB a_h0 sh_7 3 (by decide) rfl k_fl_X7_92 dX7_takesNumber_15 (fun x4 e_x4 i_x4 => ?_)
    have hv4 : x4 = gv i := e_x4.trans RC.2.2
    refine lv_iload_n hx hb dX7_takesNumber_18 rfl (lv_at hl 1 rfl) ?_
    refine lv_iload_n hx hb dX7_takesNumber_19 rfl (lv_at hl 2 rfl) ?_
    refine iv_cSNi X k_good k_mf_X11_isWithin k_st_X11_isWithin (k_mn_X7_101 X.2.2) hB (As := [.int x4, .int x_0, .int x_1]) (c_X11_isWithin l D tys base G x4 i_x4 x_0 (i_x_0.wk (by decide)) x_1 (i_x_1.wk (by decide))) ⟨rfl, rfl⟩ ⟨Nat.le_of_ble_eq_true rfl, Nat.le_of_ble_eq_true rfl⟩ ⟨Nat.le_of_ble_eq_true rfl, Nat.le_of_ble_eq_true rfl⟩ rfl rfl hl.1 (Nat.le_of_ble_eq_true rfl) dX7_takesNumber_20 (fun x5 G9 H locs hq hB => ?_)
    obtain ⟨rfl, i_x5, hp6⟩ := hq
    have k7 : ¬ x5 = 0 → iv_R 0 9999 x4 := fun h => ⟨iv_max i_x4.1 (Int.le_trans i_x_0.1 (hp6.1 h).1) (by decide), iv_min i_x4.2 (Int.le_trans (hp6.1 h).2 i_x_1.2) (by decide)⟩
    refine lv_if_ne (tgt := 32) hx hb dX7_takesNumber_23 (by decide) (fun c8 => ?_) (fun c8 => ?_)
    · skip
      have i8_x5 : iv_R 1 1 x5 := iv_ne_lo c8 i_x5 q_0 (by decide)
      have i9_x4 : iv_R 0 9999 x4 := ((i_x4.cutLo (n := 0) (k7 c8).1).cutHi (n := 9999) (k7 c8).2)
      refine lv_aload_n hx hb dX7_takesNumber_32 rfl (lv_at hl 0 rfl) ?_
      refine iv_cVv X k_good k_mf_X7_step k_im_X7_step k_sel_X7_step k_ml_X7_83 ft_X7 hB a_h0 sh_7 (As := []) (e_X7_step l D tys base G h0 g_h0 r_h0 a_h0 gk gv gp RX (i + 1) (by omega) (by rw [RC.1]; omega)) ⟨rfl, rfl⟩ ⟨Nat.le_of_ble_eq_true rfl, Nat.le_of_ble_eq_true rfl⟩ ⟨Nat.le_of_ble_eq_true rfl, Nat.le_of_ble_eq_true rfl⟩ rfl rfl hl.1 (Nat.le_of_ble_eq_true rfl) dX7_takesNumber_33 (fun G9 H locs hq hB => ?_)
      obtain ⟨hm, vg, vc⟩ := hq
      obtain ⟨G11, hG9⟩ : ∃ g, g = G9 := ⟨_, rfl⟩
      rw [← hG9] at hm hB vg vc
      have hM := hM.stp hm (by decide)
      obtain ⟨g12, r13, a_h0, f_g12⟩ := hm.ex a_h0
      have n_g12 := iv_nxt hB a_h0 f_g12 n_g_h0
      have vg14 := vg _ _ a_h0
      refine lv_iconst (v := 1) hx hb dX7_takesNumber_36 (by decide) ?_
      exact iv_zret X hr hlocks hB (q_1.wk (by decide)) ⟨hM, (q_1.wk (by decide)), (⟨fun _ => ⟨hg9, by rw [← hv4]; exact (hp6.1 c8).1, by rw [← hv4]; exact (hp6.1 c8).2, hlt, ⟨hlt, RS.2.1.md hm (by decide), g12, r13, a_h0, (f_g12.1 0 (fun h => absurd (show (7 : Nat) = 5 from h) (by decide))).trans RB.1, (vc _ _ a_h0).1, (f_g12.2.1 4 (show (4 : Nat) ∈ iv_stab 7 from by decide)).trans RB.2.2.1, (vc _ _ a_h0).2.1.trans RB.2.2.2.1, (vc _ _ a_h0).2.2.trans RB.2.2.2.2⟩⟩, fun h => absurd h (by decide)⟩)⟩ dX7_takesNumber_37
    · skip
      have i14_x5 : iv_R 0 0 x5 := (i_x5.cutHi (n := 0) (iv_eq_r c8 q_0).2)
      refine lv_aload_n hx hb dX7_takesNumber_26 rfl (lv_at hl 0 rfl) ?_
      refine lv_iconst (v := 2) hx hb dX7_takesNumber_27 (by decide) ?_
      refine iv_cVi X k_good k_mf_X7_refuse k_im_X7_refuse k_sel_X7_refuse k_ml_X7_98 ft_X7 hB a_h0 sh_7 (As := [.int 2]) (e_X7_refuse l D tys base G h0 g_h0 r_h0 a_h0 n_g_h0 2 (q_2.wk (by decide)) gk gv gp RX i RC.1) ⟨rfl, rfl⟩ ⟨Nat.le_of_ble_eq_true rfl, Nat.le_of_ble_eq_true rfl⟩ ⟨Nat.le_of_ble_eq_true rfl, Nat.le_of_ble_eq_true rfl⟩ rfl rfl hl.1 (Nat.le_of_ble_eq_true rfl) dX7_takesNumber_28 (fun x16 G9 H locs hq hB => ?_)
      obtain ⟨hm, i_x16, vf⟩ := hq
      obtain ⟨G17, hG9⟩ : ∃ g, g = G9 := ⟨_, rfl⟩
      rw [← hG9] at hm hB vf
      have hM := hM.stp hm (by decide)
      obtain ⟨g18, r19, a_h0, f_g18⟩ := hm.ex a_h0
      have n_g18 := iv_nxt hB a_h0 f_g18 n_g_h0
      exact iv_zret X hr hlocks hB (i_x16.wk (by decide)) ⟨hM, (i_x16.wk (by decide)), (⟨fun h => absurd (iv_z i_x16) h, fun _ => Or.inr ⟨hg9, by rw [← hv4]; exact hp6.2 c8, ⟨g18, r19, a_h0, vf _ _ a_h0⟩⟩⟩)⟩ dX7_takesNumber_31
  · skip
    refine lv_aload_n hx hb dX7_takesNumber_8 rfl (lv_at hl 0 rfl) ?_
    refine lv_iconst (v := 1) hx hb dX7_takesNumber_9 (by decide) ?_
    refine iv_cVi X k_good k_mf_X7_refuse k_im_X7_refuse k_sel_X7_refuse k_ml_X7_98 ft_X7 hB a_h0 sh_7 (As := [.int 1]) (e_X7_refuse l D tys base G h0 g_h0 r_h0 a_h0 n_g_h0 1 (q_1.wk (by decide)) gk gv gp RX i RC.1) ⟨rfl, rfl⟩ ⟨Nat.le_of_ble_eq_true rfl, Nat.le_of_ble_eq_true rfl⟩ ⟨Nat.le_of_ble_eq_true rfl, Nat.le_of_ble_eq_true rfl⟩ rfl rfl hl.1 (Nat.le_of_ble_eq_true rfl) dX7_takesNumber_10 (fun x20 G9 H locs hq hB => ?_)
    obtain ⟨hm, i_x20, vf⟩ := hq
    obtain ⟨G21, hG9⟩ : ∃ g, g = G9 := ⟨_, rfl⟩
    rw [← hG9] at hm hB vf
    have hM := hM.stp hm (by decide)
    obtain ⟨g22, r23, a_h0, f_g22⟩ := hm.ex a_h0
    have n_g22 := iv_nxt hB a_h0 f_g22 n_g_h0
    exact iv_zret X hr hlocks hB (i_x20.wk (by decide)) ⟨hM, (i_x20.wk (by decide)), (⟨fun h => absurd (iv_z i_x20) h, fun _ => Or.inl ⟨fun q => c2 (e_x1.trans (RC.2.1.trans q)), ⟨g22, r23, a_h0, vf _ _ a_h0⟩⟩⟩)⟩ dX7_takesNumber_13
set_option maxHeartbeats 4000000 in
set_option maxRecDepth 100000 in
theorem e_X7_emit (l : Launch) (D : va_G) (tys : List (ClassId × FieldType)) (base : Nat) (G : iv_G) (h0 : Nat) (g_h0 : Nat → Int32) (r_h0 : Nat → Nat) (a_h0 : G h0 = some (7, g_h0, r_h0)) (x_0 : Int32) (i_x_0 : iv_R 1 148 x_0) (x_1 : Int32) (i_x_1 : iv_R (-2147483648) 2147483647 x_1) : Met l yX7_emit (Cond.code yX7_emit cX7_emit 3 none :: iv_W0) ({ frames := 0, cells := 0, slots := 0, locals := 0 }) (iv_Pc iv_sh D classes tys base G [.ref h0, .int x_0, .int x_1]) (iv_Qv iv_sh D classes tys base (fun G' => iv_Md [7, 37, 38] G G' ∧ (ke h0 G G'))) 0 0 (iv_A base) := by
  refine iv_head (by decide) (Nat.le_of_ble_eq_true rfl) ?_
  intro p e s m args below meth c ls X hr hlocks hname hB hl
  have X := X
  have hx := X.1.1
  have hb := X.1.2.1
  have hM : iv_Md [7, 37, 38] G G := iv_Md.rf
  have hl : lv_has ls 3 [(0, .ref h0), (1, .int x_0), (2, .int x_1)] := hl
  have a_st := a_h0
  refine lv_aload_n hx hb dX7_emit_0 rfl (lv_at hl 0 rfl) ?_
  refine iv_geti X ft_X7 hB a_h0 sh_7 5 (by decide) rfl k_fl_X7_77 dX7_emit_1 (fun x1 e_x1 i_x1 => ?_)
  refine lv_sipush (v := 400) hx hb dX7_emit_4 (by decide) ?_
  refine lv_icmp_ge (tgt := 40) hx hb dX7_emit_7 (by decide) (fun c2 => ?_) (fun c2 => ?_)
  · skip
    have i2_x1 : iv_R 400 400 x1 := (i_x1.cutLo (n := 400) (iv_le_l c2 q_400))
    exact iv_vret X hr hlocks hB ⟨hM, ke.rf⟩ dX7_emit_40
  · skip
    have i3_x1 : iv_R 0 399 x1 := (i_x1.cutHi (n := 399) (iv_lt_r (iv_nle c2) q_400 (by decide)))
    refine lv_aload_n hx hb dX7_emit_10 rfl (lv_at hl 0 rfl) ?_
    refine iv_getr X ft_X7 hB a_h0 sh_7 13 (by decide) rfl k_fl_X7_35 dX7_emit_11 (fun b5 g_b5 r_b5 e_b5 a_b5 => ?_)
    refine lv_aload_n hx hb dX7_emit_14 rfl (lv_at hl 0 rfl) ?_
    refine iv_geti0 X ft_X7 hB a_h0 sh_7 5 (by decide) rfl k_fl_X7_77 dX7_emit_15 e_x1 ?_
    refine lv_iload_n hx hb dX7_emit_18 rfl (lv_at hl 1 rfl) ?_
    refine iv_ast X hB a_b5 sh_37 (iv_in i3_x1 (by decide)) (i_x_0.wk (by decide)) dX7_emit_19 (fun H locs hB => ?_)
    have hm := iv_Md.ast (j := x1.toNatClampNeg) (x := x_0) a_b5 rfl (by decide)
    have h9 := iv_up_eq (G := G) (a := b5) (k := (37, upd g_b5 x1.toNatClampNeg x_0, r_b5))
    generalize iv_up G b5 _ = G6 at hB hm h9
    have hM := hM.stp hm (by decide)
    have a_h0 := hm.at a_h0 (by decide)
    refine lv_aload_n hx hb dX7_emit_20 rfl (lv_at hl 0 rfl) ?_
    refine iv_getr X ft_X7 hB a_h0 sh_7 14 (by decide) rfl k_fl_X7_38 dX7_emit_21 (fun b8 g_b8 r_b8 e_b8 a_b8 => ?_)
    refine lv_aload_n hx hb dX7_emit_24 rfl (lv_at hl 0 rfl) ?_
    refine iv_geti0 X ft_X7 hB a_h0 sh_7 5 (by decide) rfl k_fl_X7_77 dX7_emit_25 e_x1 ?_
    refine lv_iload_n hx hb dX7_emit_28 rfl (lv_at hl 2 rfl) ?_
    refine iv_ast X hB a_b8 sh_38 (iv_in i3_x1 (by decide)) i_x_1 dX7_emit_29 (fun H locs hB => ?_)
    have hm := iv_Md.ast (j := x1.toNatClampNeg) (x := x_1) a_b8 rfl (by decide)
    have h9 := iv_up_eq (G := G6) (a := b8) (k := (38, upd g_b8 x1.toNatClampNeg x_1, r_b8))
    generalize iv_up G6 b8 _ = G9 at hB hm h9
    have hM := hM.stp hm (by decide)
    have a_h0 := hm.at a_h0 (by decide)
    refine lv_aload_n hx hb dX7_emit_30 rfl (lv_at hl 0 rfl) ?_
    refine lv_dup hx hb dX7_emit_31 rfl ?_
    refine iv_geti0 X ft_X7 hB a_h0 sh_7 5 (by decide) rfl k_fl_X7_77 dX7_emit_32 e_x1 ?_
    refine lv_iconst (v := 1) hx hb dX7_emit_35 (by decide) ?_
    refine iv_iadd hx hb i3_x1 q_1 (lo := 1) (hi := 400) (by decide) dX7_emit_36 (fun x11 e_x11 i_x11 => ?_)
    have e_x11 : x11.toInt = x1.toInt + 1 := e_x11
    refine iv_puti X ft_X7 hB a_h0 sh_7 5 (by decide) rfl rfl k_fl_X7_77 rfl (i_x11.wk (by decide)) rfl rfl dX7_emit_37 (fun H locs hB => ?_)
    have hm := iv_Md.put75 (x := x11) a_h0 (by rw [← e_x1]; omega)
    have h9 := iv_up_eq (G := G9) (a := h0) (k := (7, upd g_h0 5 x11, r_h0))
    generalize iv_up G9 h0 _ = G12 at hB hm h9
    have hM := hM.stp hm (by decide)
    generalize hgn_g13 : upd g_h0 _ _ = g13 at h9
    have a_h0 := h9
    have e9_g13 : x11 = g13 5 := by rw [← hgn_g13]; simp [upd]
    exact iv_vret X hr hlocks hB ⟨hM, fun g7 r7 h7 => by cases a_st.symm.trans h7; exact ⟨g13, a_h0, fun j hj => by rw [← hgn_g13]; exact if_neg hj⟩⟩ dX7_emit_40
set_option maxHeartbeats 4000000 in
set_option maxRecDepth 100000 in
theorem e_X7_emitWaiting (l : Launch) (D : va_G) (tys : List (ClassId × FieldType)) (base : Nat) (G : iv_G) (h0 : Nat) (g_h0 : Nat → Int32) (r_h0 : Nat → Nat) (a_h0 : G h0 = some (7, g_h0, r_h0)) (x_0 : Int32) (i_x_0 : iv_R 0 135 x_0) : Met l yX7_emitWaiting (Cond.code yX7_emitWaiting cX7_emitWaiting 2 none :: iv_W0) ({ frames := 1, cells := 0, slots := 0, locals := 22 }) (iv_Pc iv_sh D classes tys base G [.ref h0, .int x_0]) (iv_Qv iv_sh D classes tys base (fun G' => iv_Md [7, 37, 38] G G' ∧ (ke h0 G G'))) 0 0 (iv_A base) := by
  refine iv_head (by decide) (Nat.le_of_ble_eq_true rfl) ?_
  intro p e s m args below meth c ls X hr hlocks hname hB hl
  have X := X
  have hx := X.1.1
  have hb := X.1.2.1
  have hM : iv_Md [7, 37, 38] G G := iv_Md.rf
  have hl : lv_has ls 2 [(0, .ref h0), (1, .int x_0)] := hl
  refine lv_iload_n hx hb dX7_emitWaiting_0 rfl (lv_at hl 1 rfl) ?_
  refine lv_if_eq (tgt := 10) hx hb dX7_emitWaiting_1 (by decide) (fun c1 => ?_) (fun c1 => ?_)
  · skip
    have i1_x_0 : iv_R 0 0 x_0 := (i_x_0.cutHi (n := 0) (iv_eq_r c1 q_0).2)
    exact iv_vret X hr hlocks hB ⟨hM, ke.rf⟩ dX7_emitWaiting_10
  · skip
    have i2_x_0 : iv_R 1 135 x_0 := iv_ne_lo c1 i_x_0 q_0 (by decide)
    refine lv_aload_n hx hb dX7_emitWaiting_4 rfl (lv_at hl 0 rfl) ?_
    refine lv_iload_n hx hb dX7_emitWaiting_5 rfl (lv_at hl 1 rfl) ?_
    refine lv_iconst (v := 0) hx hb dX7_emitWaiting_6 (by decide) ?_
    refine iv_cVv X k_good k_mf_X7_emit k_im_X7_emit k_sel_X7_emit k_ml_X7_125 ft_X7 hB a_h0 sh_7 (As := [.int x_0, .int 0]) (e_X7_emit l D tys base G h0 g_h0 r_h0 a_h0 x_0 (i2_x_0.wk (by decide)) 0 (q_0.wk (by decide))) ⟨rfl, rfl⟩ ⟨Nat.le_of_ble_eq_true rfl, Nat.le_of_ble_eq_true rfl⟩ ⟨Nat.le_of_ble_eq_true rfl, Nat.le_of_ble_eq_true rfl⟩ rfl rfl hl.1 (Nat.le_of_ble_eq_true rfl) dX7_emitWaiting_7 (fun G9 H locs hq hB => ?_)
    obtain ⟨hm, hk⟩ := hq
    obtain ⟨G4, hG9⟩ : ∃ g, g = G9 := ⟨_, rfl⟩
    rw [← hG9] at hm hB hk
    have hM := hM.stp hm (by decide)
    obtain ⟨g5, r6, a_h0, f_g5⟩ := hm.ex a_h0
    exact iv_vret X hr hlocks hB ⟨hM, hk⟩ dX7_emitWaiting_10
set_option maxHeartbeats 4000000 in
set_option maxRecDepth 100000 in
theorem e_X7_isSignOfSums (l : Launch) (D : va_G) (tys : List (ClassId × FieldType)) (base : Nat) (G : iv_G) (x_0 : Int32) (i_x_0 : iv_R (-2147483648) 2147483647 x_0) : Met l yX7_isSignOfSums (Cond.code yX7_isSignOfSums cX7_isSignOfSums 1 (some .boolean) :: iv_W0) ({ frames := 0, cells := 0, slots := 0, locals := 0 }) (iv_Pc iv_sh D classes tys base G [.int x_0]) (iv_Qi iv_sh D classes tys base (fun v G' => G = G' ∧ iv_R 0 1 v ∧ (¬ v = 0 → iv_R 42 47 x_0) ∧ (¬ v = 0 ↔ (x_0.toInt = 43 ∨ x_0.toInt = 45 ∨ x_0.toInt = 42 ∨ x_0.toInt = 47)))) 0 0 (iv_A base) := by
  refine iv_head (by decide) (Nat.le_of_ble_eq_true rfl) ?_
  intro p e s m args below meth c ls X hr hlocks hname hB hl
  have X := X
  have hx := X.1.1
  have hb := X.1.2.1
  have hl : lv_has ls 1 [(0, .int x_0)] := hl
  refine lv_iload_n hx hb dX7_isSignOfSums_0 rfl (lv_at hl 0 rfl) ?_
  refine lv_bipush (v := 43) hx hb dX7_isSignOfSums_1 (by decide) ?_
  refine lv_icmp_eq (tgt := 24) hx hb dX7_isSignOfSums_3 (by decide) (fun c1 => ?_) (fun c1 => ?_)
  · skip
    have i1_x_0 : iv_R 43 43 x_0 := ((i_x_0.cutLo (n := 43) (iv_eq_r c1 q_43).1).cutHi (n := 43) (iv_eq_r c1 q_43).2)
    refine lv_iconst (v := 1) hx hb dX7_isSignOfSums_24 (by decide) ?_
    refine lv_goto (tgt := 29) hx hb dX7_isSignOfSums_25 (by decide) ?_
    exact iv_zret X hr hlocks hB (q_1.wk (by decide)) ⟨rfl, (q_1.wk (by decide)), fun _ => (i1_x_0.wk (by decide)), (⟨fun _ => by have w1 := congrArg Int32.toInt c1; have w2 := i1_x_0.1; have w3 := i1_x_0.2; have e0 : (0 : Int32).toInt = 0 := rfl; have e1 : (1 : Int32).toInt = 1 := rfl; have e43 : (43 : Int32).toInt = 43 := rfl; omega, fun _ => by decide⟩)⟩ dX7_isSignOfSums_29
  · skip
    refine lv_iload_n hx hb dX7_isSignOfSums_6 rfl (lv_at hl 0 rfl) ?_
    refine lv_bipush (v := 45) hx hb dX7_isSignOfSums_7 (by decide) ?_
    refine lv_icmp_eq (tgt := 24) hx hb dX7_isSignOfSums_9 (by decide) (fun c3 => ?_) (fun c3 => ?_)
    · skip
      have i3_x_0 : iv_R 45 45 x_0 := ((i_x_0.cutLo (n := 45) (iv_eq_r c3 q_45).1).cutHi (n := 45) (iv_eq_r c3 q_45).2)
      refine lv_iconst (v := 1) hx hb dX7_isSignOfSums_24 (by decide) ?_
      refine lv_goto (tgt := 29) hx hb dX7_isSignOfSums_25 (by decide) ?_
      exact iv_zret X hr hlocks hB (q_1.wk (by decide)) ⟨rfl, (q_1.wk (by decide)), fun _ => (i3_x_0.wk (by decide)), (⟨fun _ => by have w1 := mt Int32.toInt_inj.mp c1; have w2 := congrArg Int32.toInt c3; have w3 := i3_x_0.1; have w4 := i3_x_0.2; have e0 : (0 : Int32).toInt = 0 := rfl; have e1 : (1 : Int32).toInt = 1 := rfl; have e43 : (43 : Int32).toInt = 43 := rfl; have e45 : (45 : Int32).toInt = 45 := rfl; omega, fun _ => by decide⟩)⟩ dX7_isSignOfSums_29
    · skip
      refine lv_iload_n hx hb dX7_isSignOfSums_12 rfl (lv_at hl 0 rfl) ?_
      refine lv_bipush (v := 42) hx hb dX7_isSignOfSums_13 (by decide) ?_
      refine lv_icmp_eq (tgt := 24) hx hb dX7_isSignOfSums_15 (by decide) (fun c5 => ?_) (fun c5 => ?_)
      · skip
        have i5_x_0 : iv_R 42 42 x_0 := ((i_x_0.cutLo (n := 42) (iv_eq_r c5 q_42).1).cutHi (n := 42) (iv_eq_r c5 q_42).2)
        refine lv_iconst (v := 1) hx hb dX7_isSignOfSums_24 (by decide) ?_
        refine lv_goto (tgt := 29) hx hb dX7_isSignOfSums_25 (by decide) ?_
        exact iv_zret X hr hlocks hB (q_1.wk (by decide)) ⟨rfl, (q_1.wk (by decide)), fun _ => (i5_x_0.wk (by decide)), (⟨fun _ => by have w1 := mt Int32.toInt_inj.mp c1; have w2 := mt Int32.toInt_inj.mp c3; have w3 := congrArg Int32.toInt c5; have w4 := i5_x_0.1; have w5 := i5_x_0.2; have e0 : (0 : Int32).toInt = 0 := rfl; have e1 : (1 : Int32).toInt = 1 := rfl; have e42 : (42 : Int32).toInt = 42 := rfl; have e43 : (43 : Int32).toInt = 43 := rfl; have e45 : (45 : Int32).toInt = 45 := rfl; omega, fun _ => by decide⟩)⟩ dX7_isSignOfSums_29
      · skip
        refine lv_iload_n hx hb dX7_isSignOfSums_18 rfl (lv_at hl 0 rfl) ?_
        refine lv_bipush (v := 47) hx hb dX7_isSignOfSums_19 (by decide) ?_
        refine lv_icmp_ne (tgt := 28) hx hb dX7_isSignOfSums_21 (by decide) (fun c7 => ?_) (fun c7 => ?_)
        · skip
          refine lv_iconst (v := 0) hx hb dX7_isSignOfSums_28 (by decide) ?_
          exact iv_zret X hr hlocks hB (q_0.wk (by decide)) ⟨rfl, (q_0.wk (by decide)), fun h => absurd (iv_z q_0) h, (⟨fun h => absurd rfl h, fun h => by have w1 := mt Int32.toInt_inj.mp c1; have w2 := mt Int32.toInt_inj.mp c3; have w3 := mt Int32.toInt_inj.mp c5; have w4 := mt Int32.toInt_inj.mp c7; have e0 : (0 : Int32).toInt = 0 := rfl; have e1 : (1 : Int32).toInt = 1 := rfl; have e42 : (42 : Int32).toInt = 42 := rfl; have e43 : (43 : Int32).toInt = 43 := rfl; have e45 : (45 : Int32).toInt = 45 := rfl; have e47 : (47 : Int32).toInt = 47 := rfl; omega⟩)⟩ dX7_isSignOfSums_29
        · skip
          have i7_x_0 : iv_R 47 47 x_0 := ((i_x_0.cutLo (n := 47) (iv_eq_r c7 q_47).1).cutHi (n := 47) (iv_eq_r c7 q_47).2)
          refine lv_iconst (v := 1) hx hb dX7_isSignOfSums_24 (by decide) ?_
          refine lv_goto (tgt := 29) hx hb dX7_isSignOfSums_25 (by decide) ?_
          exact iv_zret X hr hlocks hB (q_1.wk (by decide)) ⟨rfl, (q_1.wk (by decide)), fun _ => (i7_x_0.wk (by decide)), (⟨fun _ => by have w1 := mt Int32.toInt_inj.mp c1; have w2 := mt Int32.toInt_inj.mp c3; have w3 := mt Int32.toInt_inj.mp c5; have w4 := congrArg Int32.toInt c7; have w5 := i7_x_0.1; have w6 := i7_x_0.2; have e0 : (0 : Int32).toInt = 0 := rfl; have e1 : (1 : Int32).toInt = 1 := rfl; have e42 : (42 : Int32).toInt = 42 := rfl; have e43 : (43 : Int32).toInt = 43 := rfl; have e45 : (45 : Int32).toInt = 45 := rfl; have e47 : (47 : Int32).toInt = 47 := rfl; omega, fun _ => by decide⟩)⟩ dX7_isSignOfSums_29
set_option maxHeartbeats 4000000 in
set_option maxRecDepth 100000 in
theorem e_X7_readUnit (l : Launch) (D : va_G) (tys : List (ClassId × FieldType)) (base : Nat) (G : iv_G) (h0 : Nat) (g_h0 : Nat → Int32) (r_h0 : Nat → Nat) (a_h0 : G h0 = some (7, g_h0, r_h0)) (n_g_h0 : iv_R 0 400 (g_h0 1)) (b : Nat) (gk gv gp : Nat → Int32) (N : Nat) (hN : (gk N).toInt = 0) (hN4 : N ≤ 400) (i : Nat) (os : Int32) (RS : rs h0 b gk gv gp N i os G) : Met l yX7_readUnit (Cond.code yX7_readUnit cX7_readUnit 3 (some .boolean) :: iv_W0) ({ frames := 1, cells := 0, slots := 0, locals := 22 }) (iv_Pc iv_sh D classes tys base G [.ref h0]) (iv_Qi iv_sh D classes tys base (fun v G' => iv_Md [7, 37, 38] G G' ∧ iv_R 0 1 v ∧ ((¬ v = 0 → (gk i = 2 ∨ (138 ≤ (gk i).toInt ∧ (gk i).toInt ≤ 142) ∨ (os = 0 ∧ 146 ≤ (gk i).toInt ∧ (gk i).toInt ≤ 148) ∨ (¬ os = 0 ∧ 143 ≤ (gk i).toInt ∧ (gk i).toInt ≤ 145)) ∧ i < N ∧ rs h0 b gk gv gp N (i + 1) os G') ∧ (v = 0 → ¬ (gk i = 2 ∨ (138 ≤ (gk i).toInt ∧ (gk i).toInt ≤ 142) ∨ (os = 0 ∧ 146 ≤ (gk i).toInt ∧ (gk i).toInt ≤ 148) ∨ (¬ os = 0 ∧ 143 ≤ (gk i).toInt ∧ (gk i).toInt ≤ 145)) ∧ rt h0 gp 1 i G')))) 0 0 (iv_A base) := by
  refine iv_head (by decide) (Nat.le_of_ble_eq_true rfl) ?_
  intro p e s m args below meth c ls X hr hlocks hname hB hl
  have X := X
  have hx := X.1.1
  have hb := X.1.2.1
  have hM : iv_Md [7, 37, 38] G G := iv_Md.rf
  have hl : lv_has ls 3 [(0, .ref h0)] := hl
  have RB := RS.got a_h0
  have RC := RB.2.1
  have hi := RS.1
  have RX : rx (r_h0 0) gk gv gp G := by rw [RB.1]; exact RS.2.1
  refine lv_aload_n hx hb dX7_readUnit_0 rfl (lv_at hl 0 rfl) ?_
  refine iv_geti X ft_X7 hB a_h0 sh_7 2 (by decide) rfl k_fl_X7_53 dX7_readUnit_1 (fun x1 e_x1 i_x1 => ?_)
  have hx1 : x1 = gk i := e_x1.trans RC.2.1
  refine lv_sipush (v := 138) hx hb dX7_readUnit_4 (by decide) ?_
  refine lv_sipush (v := 142) hx hb dX7_readUnit_7 (by decide) ?_
  refine iv_cSNi X k_good k_mf_X11_isWithin k_st_X11_isWithin (k_mn_X7_101 X.2.2) hB (As := [.int x1, .int 138, .int 142]) (c_X11_isWithin l D tys base G x1 i_x1 138 (q_138.wk (by decide)) 142 (q_142.wk (by decide))) ⟨rfl, rfl⟩ ⟨Nat.le_of_ble_eq_true rfl, Nat.le_of_ble_eq_true rfl⟩ ⟨Nat.le_of_ble_eq_true rfl, Nat.le_of_ble_eq_true rfl⟩ rfl rfl hl.1 (Nat.le_of_ble_eq_true rfl) dX7_readUnit_10 (fun x2 G9 H locs hq hB => ?_)
  obtain ⟨rfl, i_x2, hp3⟩ := hq
  have k4 : ¬ x2 = 0 → iv_R 138 142 x1 := fun h => ⟨iv_max i_x1.1 (Int.le_trans q_138.1 (hp3.1 h).1) (by decide), iv_min i_x1.2 (Int.le_trans (hp3.1 h).2 q_142.2) (by decide)⟩
  refine lv_istore_n (lv' := [(1, .int x2), (0, .ref h0)]) hx hb dX7_readUnit_13 rfl hl (by decide) rfl (fun ls hl => ?_)
  refine lv_aload_n hx hb dX7_readUnit_14 rfl (lv_at hl 1 rfl) ?_
  refine iv_geti X ft_X7 hB a_h0 sh_7 4 (by decide) rfl k_fl_X7_60 dX7_readUnit_15 (fun x5 e_x5 i_x5 => ?_)
  have hx5 : x5 = os := e_x5.trans RB.2.2.1
  refine lv_if_eq (tgt := 37) hx hb dX7_readUnit_18 (by decide) (fun c6 => ?_) (fun c6 => ?_)
  · skip
    have i6_x5 : iv_R 0 0 x5 := (i_x5.cutHi (n := 0) (iv_eq_r c6 q_0).2)
    refine lv_aload_n hx hb dX7_readUnit_37 rfl (lv_at hl 1 rfl) ?_
    refine iv_geti0 X ft_X7 hB a_h0 sh_7 2 (by decide) rfl k_fl_X7_53 dX7_readUnit_38 e_x1 ?_
    refine lv_sipush (v := 146) hx hb dX7_readUnit_41 (by decide) ?_
    refine lv_sipush (v := 148) hx hb dX7_readUnit_44 (by decide) ?_
    refine iv_cSNi X k_good k_mf_X11_isWithin k_st_X11_isWithin (k_mn_X7_101 X.2.2) hB (As := [.int x1, .int 146, .int 148]) (c_X11_isWithin l D tys base G x1 i_x1 146 (q_146.wk (by decide)) 148 (q_148.wk (by decide))) ⟨rfl, rfl⟩ ⟨Nat.le_of_ble_eq_true rfl, Nat.le_of_ble_eq_true rfl⟩ ⟨Nat.le_of_ble_eq_true rfl, Nat.le_of_ble_eq_true rfl⟩ rfl rfl hl.1 (Nat.le_of_ble_eq_true rfl) dX7_readUnit_47 (fun x8 G9 H locs hq hB => ?_)
    obtain ⟨rfl, i_x8, hp9⟩ := hq
    have k10 : ¬ x8 = 0 → iv_R 146 148 x1 := fun h => ⟨iv_max i_x1.1 (Int.le_trans q_146.1 (hp9.1 h).1) (by decide), iv_min i_x1.2 (Int.le_trans (hp9.1 h).2 q_148.2) (by decide)⟩
    refine lv_istore_n (lv' := [(2, .int x8), (1, .int x2), (0, .ref h0)]) hx hb dX7_readUnit_50 rfl hl (by decide) rfl (fun ls hl => ?_)
    refine lv_aload_n hx hb dX7_readUnit_51 rfl (lv_at hl 2 rfl) ?_
    refine iv_geti0 X ft_X7 hB a_h0 sh_7 2 (by decide) rfl k_fl_X7_53 dX7_readUnit_52 e_x1 ?_
    refine lv_iconst (v := 2) hx hb dX7_readUnit_55 (by decide) ?_
    refine lv_icmp_eq (tgt := 73) hx hb dX7_readUnit_56 (by decide) (fun c11 => ?_) (fun c11 => ?_)
    · skip
      have i11_x1 : iv_R 2 2 x1 := ((i_x1.cutLo (n := 2) (iv_eq_r c11 q_2).1).cutHi (n := 2) (iv_eq_r c11 q_2).2)
      refine lv_aload_n hx hb dX7_readUnit_73 rfl (lv_at hl 2 rfl) ?_
      have hU : (gk i = 2 ∨ (138 ≤ (gk i).toInt ∧ (gk i).toInt ≤ 142) ∨ (os = 0 ∧ 146 ≤ (gk i).toInt ∧ (gk i).toInt ≤ 148) ∨ (¬ os = 0 ∧ 143 ≤ (gk i).toInt ∧ (gk i).toInt ≤ 145)) := Or.inl (by rw [← hx1]; exact c11)
      have hlt : i < N := by rcases Nat.lt_or_eq_of_le hi with q | q; exact q; rw [← q] at hN; have e2 : (2 : Int32).toInt = 2 := rfl; rcases hU with w | w | w | w; rw [w, e2] at hN; exact absurd hN (by decide); omega; omega; omega
      refine lv_aload_n hx hb dX7_readUnit_74 rfl (lv_at hl 2 rfl) ?_
      refine iv_geti0 X ft_X7 hB a_h0 sh_7 2 (by decide) rfl k_fl_X7_53 dX7_readUnit_75 e_x1 ?_
      refine lv_aload_n hx hb dX7_readUnit_78 rfl (lv_at hl 2 rfl) ?_
      refine iv_geti X ft_X7 hB a_h0 sh_7 3 (by decide) rfl k_fl_X7_92 dX7_readUnit_79 (fun x13 e_x13 i_x13 => ?_)
      refine iv_cVv X k_good k_mf_X7_emit k_im_X7_emit k_sel_X7_emit k_ml_X7_125 ft_X7 hB a_h0 sh_7 (As := [.int x1, .int x13]) (e_X7_emit l D tys base G h0 g_h0 r_h0 a_h0 x1 (i11_x1.wk (by decide)) x13 i_x13) ⟨rfl, rfl⟩ ⟨Nat.le_of_ble_eq_true rfl, Nat.le_of_ble_eq_true rfl⟩ ⟨Nat.le_of_ble_eq_true rfl, Nat.le_of_ble_eq_true rfl⟩ rfl rfl hl.1 (Nat.le_of_ble_eq_true rfl) dX7_readUnit_82 (fun G9 H locs hq hB => ?_)
      obtain ⟨hm, hk⟩ := hq
      obtain ⟨G14, hG9⟩ : ∃ g, g = G9 := ⟨_, rfl⟩
      rw [← hG9] at hm hB hk
      have hM := hM.stp hm (by decide)
      obtain ⟨g15, r16, a_h0, f_g15⟩ := hm.ex a_h0
      have n_g15 := iv_nxt hB a_h0 f_g15 n_g_h0
      have RS2 := RS.ke hk hm (by decide)
      have RB2 := RS2.got a_h0
      refine lv_aload_n hx hb dX7_readUnit_85 rfl (lv_at hl 2 rfl) ?_
      refine iv_cVv X k_good k_mf_X7_step k_im_X7_step k_sel_X7_step k_ml_X7_83 ft_X7 hB a_h0 sh_7 (As := []) (e_X7_step l D tys base G14 h0 g15 r16 a_h0 gk gv gp (by rw [RB2.1]; exact RS2.2.1) (i + 1) (by omega) (by rw [RB2.2.1.1]; omega)) ⟨rfl, rfl⟩ ⟨Nat.le_of_ble_eq_true rfl, Nat.le_of_ble_eq_true rfl⟩ ⟨Nat.le_of_ble_eq_true rfl, Nat.le_of_ble_eq_true rfl⟩ rfl rfl hl.1 (Nat.le_of_ble_eq_true rfl) dX7_readUnit_86 (fun G9 H locs hq hB => ?_)
      obtain ⟨hm, vg, vc⟩ := hq
      obtain ⟨G17, hG9⟩ : ∃ g, g = G9 := ⟨_, rfl⟩
      rw [← hG9] at hm hB vg vc
      have hM := hM.stp hm (by decide)
      obtain ⟨g18, r19, a_h0, f_g18⟩ := hm.ex a_h0
      have n_g18 := iv_nxt hB a_h0 f_g18 n_g15
      have vg20 := vg _ _ a_h0
      refine lv_iconst (v := 1) hx hb dX7_readUnit_89 (by decide) ?_
      exact iv_zret X hr hlocks hB (q_1.wk (by decide)) ⟨hM, (q_1.wk (by decide)), (⟨fun _ => ⟨hU, hlt, ⟨hlt, RS2.2.1.md hm (by decide), g18, r19, a_h0, (f_g18.1 0 (fun h => absurd (show (7 : Nat) = 5 from h) (by decide))).trans RB2.1, (vc _ _ a_h0).1, (f_g18.2.1 4 (show (4 : Nat) ∈ iv_stab 7 from by decide)).trans RB2.2.2.1, (vc _ _ a_h0).2.1.trans RB2.2.2.2.1, (vc _ _ a_h0).2.2.trans RB2.2.2.2.2⟩⟩, fun h => absurd h (by decide)⟩)⟩ dX7_readUnit_90
    · skip
      refine lv_iload_n hx hb dX7_readUnit_59 rfl (lv_at hl 1 rfl) ?_
      refine lv_if_ne (tgt := 73) hx hb dX7_readUnit_60 (by decide) (fun c21 => ?_) (fun c21 => ?_)
      · skip
        have i21_x2 : iv_R 1 1 x2 := iv_ne_lo c21 i_x2 q_0 (by decide)
        have i22_x1 : iv_R 138 142 x1 := ((i_x1.cutLo (n := 138) (k4 c21).1).cutHi (n := 142) (k4 c21).2)
        refine lv_aload_n hx hb dX7_readUnit_73 rfl (lv_at hl 2 rfl) ?_
        have hU : (gk i = 2 ∨ (138 ≤ (gk i).toInt ∧ (gk i).toInt ≤ 142) ∨ (os = 0 ∧ 146 ≤ (gk i).toInt ∧ (gk i).toInt ≤ 148) ∨ (¬ os = 0 ∧ 143 ≤ (gk i).toInt ∧ (gk i).toInt ≤ 145)) := Or.inr (Or.inl ⟨by rw [← hx1]; exact i22_x1.1, by rw [← hx1]; exact i22_x1.2⟩)
        have hlt : i < N := by rcases Nat.lt_or_eq_of_le hi with q | q; exact q; rw [← q] at hN; have e2 : (2 : Int32).toInt = 2 := rfl; rcases hU with w | w | w | w; rw [w, e2] at hN; exact absurd hN (by decide); omega; omega; omega
        refine lv_aload_n hx hb dX7_readUnit_74 rfl (lv_at hl 2 rfl) ?_
        refine iv_geti0 X ft_X7 hB a_h0 sh_7 2 (by decide) rfl k_fl_X7_53 dX7_readUnit_75 e_x1 ?_
        refine lv_aload_n hx hb dX7_readUnit_78 rfl (lv_at hl 2 rfl) ?_
        refine iv_geti X ft_X7 hB a_h0 sh_7 3 (by decide) rfl k_fl_X7_92 dX7_readUnit_79 (fun x24 e_x24 i_x24 => ?_)
        refine iv_cVv X k_good k_mf_X7_emit k_im_X7_emit k_sel_X7_emit k_ml_X7_125 ft_X7 hB a_h0 sh_7 (As := [.int x1, .int x24]) (e_X7_emit l D tys base G h0 g_h0 r_h0 a_h0 x1 (i22_x1.wk (by decide)) x24 i_x24) ⟨rfl, rfl⟩ ⟨Nat.le_of_ble_eq_true rfl, Nat.le_of_ble_eq_true rfl⟩ ⟨Nat.le_of_ble_eq_true rfl, Nat.le_of_ble_eq_true rfl⟩ rfl rfl hl.1 (Nat.le_of_ble_eq_true rfl) dX7_readUnit_82 (fun G9 H locs hq hB => ?_)
        obtain ⟨hm, hk⟩ := hq
        obtain ⟨G25, hG9⟩ : ∃ g, g = G9 := ⟨_, rfl⟩
        rw [← hG9] at hm hB hk
        have hM := hM.stp hm (by decide)
        obtain ⟨g26, r27, a_h0, f_g26⟩ := hm.ex a_h0
        have n_g26 := iv_nxt hB a_h0 f_g26 n_g_h0
        have RS2 := RS.ke hk hm (by decide)
        have RB2 := RS2.got a_h0
        refine lv_aload_n hx hb dX7_readUnit_85 rfl (lv_at hl 2 rfl) ?_
        refine iv_cVv X k_good k_mf_X7_step k_im_X7_step k_sel_X7_step k_ml_X7_83 ft_X7 hB a_h0 sh_7 (As := []) (e_X7_step l D tys base G25 h0 g26 r27 a_h0 gk gv gp (by rw [RB2.1]; exact RS2.2.1) (i + 1) (by omega) (by rw [RB2.2.1.1]; omega)) ⟨rfl, rfl⟩ ⟨Nat.le_of_ble_eq_true rfl, Nat.le_of_ble_eq_true rfl⟩ ⟨Nat.le_of_ble_eq_true rfl, Nat.le_of_ble_eq_true rfl⟩ rfl rfl hl.1 (Nat.le_of_ble_eq_true rfl) dX7_readUnit_86 (fun G9 H locs hq hB => ?_)
        obtain ⟨hm, vg, vc⟩ := hq
        obtain ⟨G28, hG9⟩ : ∃ g, g = G9 := ⟨_, rfl⟩
        rw [← hG9] at hm hB vg vc
        have hM := hM.stp hm (by decide)
        obtain ⟨g29, r30, a_h0, f_g29⟩ := hm.ex a_h0
        have n_g29 := iv_nxt hB a_h0 f_g29 n_g26
        have vg31 := vg _ _ a_h0
        refine lv_iconst (v := 1) hx hb dX7_readUnit_89 (by decide) ?_
        exact iv_zret X hr hlocks hB (q_1.wk (by decide)) ⟨hM, (q_1.wk (by decide)), (⟨fun _ => ⟨hU, hlt, ⟨hlt, RS2.2.1.md hm (by decide), g29, r30, a_h0, (f_g29.1 0 (fun h => absurd (show (7 : Nat) = 5 from h) (by decide))).trans RB2.1, (vc _ _ a_h0).1, (f_g29.2.1 4 (show (4 : Nat) ∈ iv_stab 7 from by decide)).trans RB2.2.2.1, (vc _ _ a_h0).2.1.trans RB2.2.2.2.1, (vc _ _ a_h0).2.2.trans RB2.2.2.2.2⟩⟩, fun h => absurd h (by decide)⟩)⟩ dX7_readUnit_90
      · skip
        have i31_x2 : iv_R 0 0 x2 := (i_x2.cutHi (n := 0) (iv_eq_r c21 q_0).2)
        refine lv_iload_n hx hb dX7_readUnit_63 rfl (lv_at hl 0 rfl) ?_
        refine lv_if_ne (tgt := 73) hx hb dX7_readUnit_64 (by decide) (fun c33 => ?_) (fun c33 => ?_)
        · skip
          have i33_x8 : iv_R 1 1 x8 := iv_ne_lo c33 i_x8 q_0 (by decide)
          have i34_x1 : iv_R 146 148 x1 := ((i_x1.cutLo (n := 146) (k10 c33).1).cutHi (n := 148) (k10 c33).2)
          refine lv_aload_n hx hb dX7_readUnit_73 rfl (lv_at hl 2 rfl) ?_
          have hU : (gk i = 2 ∨ (138 ≤ (gk i).toInt ∧ (gk i).toInt ≤ 142) ∨ (os = 0 ∧ 146 ≤ (gk i).toInt ∧ (gk i).toInt ≤ 148) ∨ (¬ os = 0 ∧ 143 ≤ (gk i).toInt ∧ (gk i).toInt ≤ 145)) := Or.inr (Or.inr (Or.inl ⟨hx5.symm.trans c6, by rw [← hx1]; exact i34_x1.1, by rw [← hx1]; exact i34_x1.2⟩))
          have hlt : i < N := by rcases Nat.lt_or_eq_of_le hi with q | q; exact q; rw [← q] at hN; have e2 : (2 : Int32).toInt = 2 := rfl; rcases hU with w | w | w | w; rw [w, e2] at hN; exact absurd hN (by decide); omega; omega; omega
          refine lv_aload_n hx hb dX7_readUnit_74 rfl (lv_at hl 2 rfl) ?_
          refine iv_geti0 X ft_X7 hB a_h0 sh_7 2 (by decide) rfl k_fl_X7_53 dX7_readUnit_75 e_x1 ?_
          refine lv_aload_n hx hb dX7_readUnit_78 rfl (lv_at hl 2 rfl) ?_
          refine iv_geti X ft_X7 hB a_h0 sh_7 3 (by decide) rfl k_fl_X7_92 dX7_readUnit_79 (fun x36 e_x36 i_x36 => ?_)
          refine iv_cVv X k_good k_mf_X7_emit k_im_X7_emit k_sel_X7_emit k_ml_X7_125 ft_X7 hB a_h0 sh_7 (As := [.int x1, .int x36]) (e_X7_emit l D tys base G h0 g_h0 r_h0 a_h0 x1 (i34_x1.wk (by decide)) x36 i_x36) ⟨rfl, rfl⟩ ⟨Nat.le_of_ble_eq_true rfl, Nat.le_of_ble_eq_true rfl⟩ ⟨Nat.le_of_ble_eq_true rfl, Nat.le_of_ble_eq_true rfl⟩ rfl rfl hl.1 (Nat.le_of_ble_eq_true rfl) dX7_readUnit_82 (fun G9 H locs hq hB => ?_)
          obtain ⟨hm, hk⟩ := hq
          obtain ⟨G37, hG9⟩ : ∃ g, g = G9 := ⟨_, rfl⟩
          rw [← hG9] at hm hB hk
          have hM := hM.stp hm (by decide)
          obtain ⟨g38, r39, a_h0, f_g38⟩ := hm.ex a_h0
          have n_g38 := iv_nxt hB a_h0 f_g38 n_g_h0
          have RS2 := RS.ke hk hm (by decide)
          have RB2 := RS2.got a_h0
          refine lv_aload_n hx hb dX7_readUnit_85 rfl (lv_at hl 2 rfl) ?_
          refine iv_cVv X k_good k_mf_X7_step k_im_X7_step k_sel_X7_step k_ml_X7_83 ft_X7 hB a_h0 sh_7 (As := []) (e_X7_step l D tys base G37 h0 g38 r39 a_h0 gk gv gp (by rw [RB2.1]; exact RS2.2.1) (i + 1) (by omega) (by rw [RB2.2.1.1]; omega)) ⟨rfl, rfl⟩ ⟨Nat.le_of_ble_eq_true rfl, Nat.le_of_ble_eq_true rfl⟩ ⟨Nat.le_of_ble_eq_true rfl, Nat.le_of_ble_eq_true rfl⟩ rfl rfl hl.1 (Nat.le_of_ble_eq_true rfl) dX7_readUnit_86 (fun G9 H locs hq hB => ?_)
          obtain ⟨hm, vg, vc⟩ := hq
          obtain ⟨G40, hG9⟩ : ∃ g, g = G9 := ⟨_, rfl⟩
          rw [← hG9] at hm hB vg vc
          have hM := hM.stp hm (by decide)
          obtain ⟨g41, r42, a_h0, f_g41⟩ := hm.ex a_h0
          have n_g41 := iv_nxt hB a_h0 f_g41 n_g38
          have vg43 := vg _ _ a_h0
          refine lv_iconst (v := 1) hx hb dX7_readUnit_89 (by decide) ?_
          exact iv_zret X hr hlocks hB (q_1.wk (by decide)) ⟨hM, (q_1.wk (by decide)), (⟨fun _ => ⟨hU, hlt, ⟨hlt, RS2.2.1.md hm (by decide), g41, r42, a_h0, (f_g41.1 0 (fun h => absurd (show (7 : Nat) = 5 from h) (by decide))).trans RB2.1, (vc _ _ a_h0).1, (f_g41.2.1 4 (show (4 : Nat) ∈ iv_stab 7 from by decide)).trans RB2.2.2.1, (vc _ _ a_h0).2.1.trans RB2.2.2.2.1, (vc _ _ a_h0).2.2.trans RB2.2.2.2.2⟩⟩, fun h => absurd h (by decide)⟩)⟩ dX7_readUnit_90
        · skip
          have i43_x8 : iv_R 0 0 x8 := (i_x8.cutHi (n := 0) (iv_eq_r c33 q_0).2)
          refine lv_aload_n hx hb dX7_readUnit_67 rfl (lv_at hl 2 rfl) ?_
          have hNU : ¬ (gk i = 2 ∨ (138 ≤ (gk i).toInt ∧ (gk i).toInt ≤ 142) ∨ (os = 0 ∧ 146 ≤ (gk i).toInt ∧ (gk i).toInt ≤ 148) ∨ (¬ os = 0 ∧ 143 ≤ (gk i).toInt ∧ (gk i).toInt ≤ 145)) := fun w => by
            have z1 := hp3.2 c21
            have z2 := hp9.2 c33
            rw [hx1] at z1 z2
            have e9 := c11
            have k138 : (138 : Int32).toInt = 138 := rfl
            have k142 : (142 : Int32).toInt = 142 := rfl
            have k143 : (143 : Int32).toInt = 143 := rfl
            have k145 : (145 : Int32).toInt = 145 := rfl
            have k146 : (146 : Int32).toInt = 146 := rfl
            have k148 : (148 : Int32).toInt = 148 := rfl
            rcases w with w | w | w | w
            · exact c11 (hx1.trans w)
            · omega
            · first | omega | exact c6 (hx5.trans w.1)
            · first | omega | exact w.1 (hx5.symm.trans c6)
          refine lv_iconst (v := 1) hx hb dX7_readUnit_68 (by decide) ?_
          refine iv_cVi X k_good k_mf_X7_refuse k_im_X7_refuse k_sel_X7_refuse k_ml_X7_98 ft_X7 hB a_h0 sh_7 (As := [.int 1]) (e_X7_refuse l D tys base G h0 g_h0 r_h0 a_h0 n_g_h0 1 (q_1.wk (by decide)) gk gv gp RX i RC.1) ⟨rfl, rfl⟩ ⟨Nat.le_of_ble_eq_true rfl, Nat.le_of_ble_eq_true rfl⟩ ⟨Nat.le_of_ble_eq_true rfl, Nat.le_of_ble_eq_true rfl⟩ rfl rfl hl.1 (Nat.le_of_ble_eq_true rfl) dX7_readUnit_69 (fun x45 G9 H locs hq hB => ?_)
          obtain ⟨hm, i_x45, vf⟩ := hq
          obtain ⟨G46, hG9⟩ : ∃ g, g = G9 := ⟨_, rfl⟩
          rw [← hG9] at hm hB vf
          have hM := hM.stp hm (by decide)
          obtain ⟨g47, r48, a_h0, f_g47⟩ := hm.ex a_h0
          have n_g47 := iv_nxt hB a_h0 f_g47 n_g_h0
          exact iv_zret X hr hlocks hB (i_x45.wk (by decide)) ⟨hM, (i_x45.wk (by decide)), (⟨fun h => absurd (iv_z i_x45) h, fun _ => ⟨hNU, ⟨g47, r48, a_h0, vf _ _ a_h0⟩⟩⟩)⟩ dX7_readUnit_72
  · skip
    have i48_x5 : iv_R 1 1 x5 := iv_ne_lo c6 i_x5 q_0 (by decide)
    refine lv_aload_n hx hb dX7_readUnit_21 rfl (lv_at hl 1 rfl) ?_
    refine iv_geti0 X ft_X7 hB a_h0 sh_7 2 (by decide) rfl k_fl_X7_53 dX7_readUnit_22 e_x1 ?_
    refine lv_sipush (v := 143) hx hb dX7_readUnit_25 (by decide) ?_
    refine lv_sipush (v := 145) hx hb dX7_readUnit_28 (by decide) ?_
    refine iv_cSNi X k_good k_mf_X11_isWithin k_st_X11_isWithin (k_mn_X7_101 X.2.2) hB (As := [.int x1, .int 143, .int 145]) (c_X11_isWithin l D tys base G x1 i_x1 143 (q_143.wk (by decide)) 145 (q_145.wk (by decide))) ⟨rfl, rfl⟩ ⟨Nat.le_of_ble_eq_true rfl, Nat.le_of_ble_eq_true rfl⟩ ⟨Nat.le_of_ble_eq_true rfl, Nat.le_of_ble_eq_true rfl⟩ rfl rfl hl.1 (Nat.le_of_ble_eq_true rfl) dX7_readUnit_31 (fun x50 G9 H locs hq hB => ?_)
    obtain ⟨rfl, i_x50, hp51⟩ := hq
    have k52 : ¬ x50 = 0 → iv_R 143 145 x1 := fun h => ⟨iv_max i_x1.1 (Int.le_trans q_143.1 (hp51.1 h).1) (by decide), iv_min i_x1.2 (Int.le_trans (hp51.1 h).2 q_145.2) (by decide)⟩
    refine lv_goto (tgt := 50) hx hb dX7_readUnit_34 (by decide) ?_
    refine lv_istore_n (lv' := [(2, .int x50), (1, .int x2), (0, .ref h0)]) hx hb dX7_readUnit_50 rfl hl (by decide) rfl (fun ls hl => ?_)
    refine lv_aload_n hx hb dX7_readUnit_51 rfl (lv_at hl 2 rfl) ?_
    refine iv_geti0 X ft_X7 hB a_h0 sh_7 2 (by decide) rfl k_fl_X7_53 dX7_readUnit_52 e_x1 ?_
    refine lv_iconst (v := 2) hx hb dX7_readUnit_55 (by decide) ?_
    refine lv_icmp_eq (tgt := 73) hx hb dX7_readUnit_56 (by decide) (fun c53 => ?_) (fun c53 => ?_)
    · skip
      have i53_x1 : iv_R 2 2 x1 := ((i_x1.cutLo (n := 2) (iv_eq_r c53 q_2).1).cutHi (n := 2) (iv_eq_r c53 q_2).2)
      refine lv_aload_n hx hb dX7_readUnit_73 rfl (lv_at hl 2 rfl) ?_
      have hU : (gk i = 2 ∨ (138 ≤ (gk i).toInt ∧ (gk i).toInt ≤ 142) ∨ (os = 0 ∧ 146 ≤ (gk i).toInt ∧ (gk i).toInt ≤ 148) ∨ (¬ os = 0 ∧ 143 ≤ (gk i).toInt ∧ (gk i).toInt ≤ 145)) := Or.inl (by rw [← hx1]; exact c53)
      have hlt : i < N := by rcases Nat.lt_or_eq_of_le hi with q | q; exact q; rw [← q] at hN; have e2 : (2 : Int32).toInt = 2 := rfl; rcases hU with w | w | w | w; rw [w, e2] at hN; exact absurd hN (by decide); omega; omega; omega
      refine lv_aload_n hx hb dX7_readUnit_74 rfl (lv_at hl 2 rfl) ?_
      refine iv_geti0 X ft_X7 hB a_h0 sh_7 2 (by decide) rfl k_fl_X7_53 dX7_readUnit_75 e_x1 ?_
      refine lv_aload_n hx hb dX7_readUnit_78 rfl (lv_at hl 2 rfl) ?_
      refine iv_geti X ft_X7 hB a_h0 sh_7 3 (by decide) rfl k_fl_X7_92 dX7_readUnit_79 (fun x55 e_x55 i_x55 => ?_)
      refine iv_cVv X k_good k_mf_X7_emit k_im_X7_emit k_sel_X7_emit k_ml_X7_125 ft_X7 hB a_h0 sh_7 (As := [.int x1, .int x55]) (e_X7_emit l D tys base G h0 g_h0 r_h0 a_h0 x1 (i53_x1.wk (by decide)) x55 i_x55) ⟨rfl, rfl⟩ ⟨Nat.le_of_ble_eq_true rfl, Nat.le_of_ble_eq_true rfl⟩ ⟨Nat.le_of_ble_eq_true rfl, Nat.le_of_ble_eq_true rfl⟩ rfl rfl hl.1 (Nat.le_of_ble_eq_true rfl) dX7_readUnit_82 (fun G9 H locs hq hB => ?_)
      obtain ⟨hm, hk⟩ := hq
      obtain ⟨G56, hG9⟩ : ∃ g, g = G9 := ⟨_, rfl⟩
      rw [← hG9] at hm hB hk
      have hM := hM.stp hm (by decide)
      obtain ⟨g57, r58, a_h0, f_g57⟩ := hm.ex a_h0
      have n_g57 := iv_nxt hB a_h0 f_g57 n_g_h0
      have RS2 := RS.ke hk hm (by decide)
      have RB2 := RS2.got a_h0
      refine lv_aload_n hx hb dX7_readUnit_85 rfl (lv_at hl 2 rfl) ?_
      refine iv_cVv X k_good k_mf_X7_step k_im_X7_step k_sel_X7_step k_ml_X7_83 ft_X7 hB a_h0 sh_7 (As := []) (e_X7_step l D tys base G56 h0 g57 r58 a_h0 gk gv gp (by rw [RB2.1]; exact RS2.2.1) (i + 1) (by omega) (by rw [RB2.2.1.1]; omega)) ⟨rfl, rfl⟩ ⟨Nat.le_of_ble_eq_true rfl, Nat.le_of_ble_eq_true rfl⟩ ⟨Nat.le_of_ble_eq_true rfl, Nat.le_of_ble_eq_true rfl⟩ rfl rfl hl.1 (Nat.le_of_ble_eq_true rfl) dX7_readUnit_86 (fun G9 H locs hq hB => ?_)
      obtain ⟨hm, vg, vc⟩ := hq
      obtain ⟨G59, hG9⟩ : ∃ g, g = G9 := ⟨_, rfl⟩
      rw [← hG9] at hm hB vg vc
      have hM := hM.stp hm (by decide)
      obtain ⟨g60, r61, a_h0, f_g60⟩ := hm.ex a_h0
      have n_g60 := iv_nxt hB a_h0 f_g60 n_g57
      have vg62 := vg _ _ a_h0
      refine lv_iconst (v := 1) hx hb dX7_readUnit_89 (by decide) ?_
      exact iv_zret X hr hlocks hB (q_1.wk (by decide)) ⟨hM, (q_1.wk (by decide)), (⟨fun _ => ⟨hU, hlt, ⟨hlt, RS2.2.1.md hm (by decide), g60, r61, a_h0, (f_g60.1 0 (fun h => absurd (show (7 : Nat) = 5 from h) (by decide))).trans RB2.1, (vc _ _ a_h0).1, (f_g60.2.1 4 (show (4 : Nat) ∈ iv_stab 7 from by decide)).trans RB2.2.2.1, (vc _ _ a_h0).2.1.trans RB2.2.2.2.1, (vc _ _ a_h0).2.2.trans RB2.2.2.2.2⟩⟩, fun h => absurd h (by decide)⟩)⟩ dX7_readUnit_90
    · skip
      refine lv_iload_n hx hb dX7_readUnit_59 rfl (lv_at hl 1 rfl) ?_
      refine lv_if_ne (tgt := 73) hx hb dX7_readUnit_60 (by decide) (fun c63 => ?_) (fun c63 => ?_)
      · skip
        have i63_x2 : iv_R 1 1 x2 := iv_ne_lo c63 i_x2 q_0 (by decide)
        have i64_x1 : iv_R 138 142 x1 := ((i_x1.cutLo (n := 138) (k4 c63).1).cutHi (n := 142) (k4 c63).2)
        refine lv_aload_n hx hb dX7_readUnit_73 rfl (lv_at hl 2 rfl) ?_
        have hU : (gk i = 2 ∨ (138 ≤ (gk i).toInt ∧ (gk i).toInt ≤ 142) ∨ (os = 0 ∧ 146 ≤ (gk i).toInt ∧ (gk i).toInt ≤ 148) ∨ (¬ os = 0 ∧ 143 ≤ (gk i).toInt ∧ (gk i).toInt ≤ 145)) := Or.inr (Or.inl ⟨by rw [← hx1]; exact i64_x1.1, by rw [← hx1]; exact i64_x1.2⟩)
        have hlt : i < N := by rcases Nat.lt_or_eq_of_le hi with q | q; exact q; rw [← q] at hN; have e2 : (2 : Int32).toInt = 2 := rfl; rcases hU with w | w | w | w; rw [w, e2] at hN; exact absurd hN (by decide); omega; omega; omega
        refine lv_aload_n hx hb dX7_readUnit_74 rfl (lv_at hl 2 rfl) ?_
        refine iv_geti0 X ft_X7 hB a_h0 sh_7 2 (by decide) rfl k_fl_X7_53 dX7_readUnit_75 e_x1 ?_
        refine lv_aload_n hx hb dX7_readUnit_78 rfl (lv_at hl 2 rfl) ?_
        refine iv_geti X ft_X7 hB a_h0 sh_7 3 (by decide) rfl k_fl_X7_92 dX7_readUnit_79 (fun x66 e_x66 i_x66 => ?_)
        refine iv_cVv X k_good k_mf_X7_emit k_im_X7_emit k_sel_X7_emit k_ml_X7_125 ft_X7 hB a_h0 sh_7 (As := [.int x1, .int x66]) (e_X7_emit l D tys base G h0 g_h0 r_h0 a_h0 x1 (i64_x1.wk (by decide)) x66 i_x66) ⟨rfl, rfl⟩ ⟨Nat.le_of_ble_eq_true rfl, Nat.le_of_ble_eq_true rfl⟩ ⟨Nat.le_of_ble_eq_true rfl, Nat.le_of_ble_eq_true rfl⟩ rfl rfl hl.1 (Nat.le_of_ble_eq_true rfl) dX7_readUnit_82 (fun G9 H locs hq hB => ?_)
        obtain ⟨hm, hk⟩ := hq
        obtain ⟨G67, hG9⟩ : ∃ g, g = G9 := ⟨_, rfl⟩
        rw [← hG9] at hm hB hk
        have hM := hM.stp hm (by decide)
        obtain ⟨g68, r69, a_h0, f_g68⟩ := hm.ex a_h0
        have n_g68 := iv_nxt hB a_h0 f_g68 n_g_h0
        have RS2 := RS.ke hk hm (by decide)
        have RB2 := RS2.got a_h0
        refine lv_aload_n hx hb dX7_readUnit_85 rfl (lv_at hl 2 rfl) ?_
        refine iv_cVv X k_good k_mf_X7_step k_im_X7_step k_sel_X7_step k_ml_X7_83 ft_X7 hB a_h0 sh_7 (As := []) (e_X7_step l D tys base G67 h0 g68 r69 a_h0 gk gv gp (by rw [RB2.1]; exact RS2.2.1) (i + 1) (by omega) (by rw [RB2.2.1.1]; omega)) ⟨rfl, rfl⟩ ⟨Nat.le_of_ble_eq_true rfl, Nat.le_of_ble_eq_true rfl⟩ ⟨Nat.le_of_ble_eq_true rfl, Nat.le_of_ble_eq_true rfl⟩ rfl rfl hl.1 (Nat.le_of_ble_eq_true rfl) dX7_readUnit_86 (fun G9 H locs hq hB => ?_)
        obtain ⟨hm, vg, vc⟩ := hq
        obtain ⟨G70, hG9⟩ : ∃ g, g = G9 := ⟨_, rfl⟩
        rw [← hG9] at hm hB vg vc
        have hM := hM.stp hm (by decide)
        obtain ⟨g71, r72, a_h0, f_g71⟩ := hm.ex a_h0
        have n_g71 := iv_nxt hB a_h0 f_g71 n_g68
        have vg73 := vg _ _ a_h0
        refine lv_iconst (v := 1) hx hb dX7_readUnit_89 (by decide) ?_
        exact iv_zret X hr hlocks hB (q_1.wk (by decide)) ⟨hM, (q_1.wk (by decide)), (⟨fun _ => ⟨hU, hlt, ⟨hlt, RS2.2.1.md hm (by decide), g71, r72, a_h0, (f_g71.1 0 (fun h => absurd (show (7 : Nat) = 5 from h) (by decide))).trans RB2.1, (vc _ _ a_h0).1, (f_g71.2.1 4 (show (4 : Nat) ∈ iv_stab 7 from by decide)).trans RB2.2.2.1, (vc _ _ a_h0).2.1.trans RB2.2.2.2.1, (vc _ _ a_h0).2.2.trans RB2.2.2.2.2⟩⟩, fun h => absurd h (by decide)⟩)⟩ dX7_readUnit_90
      · skip
        have i73_x2 : iv_R 0 0 x2 := (i_x2.cutHi (n := 0) (iv_eq_r c63 q_0).2)
        refine lv_iload_n hx hb dX7_readUnit_63 rfl (lv_at hl 0 rfl) ?_
        refine lv_if_ne (tgt := 73) hx hb dX7_readUnit_64 (by decide) (fun c75 => ?_) (fun c75 => ?_)
        · skip
          have i75_x50 : iv_R 1 1 x50 := iv_ne_lo c75 i_x50 q_0 (by decide)
          have i76_x1 : iv_R 143 145 x1 := ((i_x1.cutLo (n := 143) (k52 c75).1).cutHi (n := 145) (k52 c75).2)
          refine lv_aload_n hx hb dX7_readUnit_73 rfl (lv_at hl 2 rfl) ?_
          have hU : (gk i = 2 ∨ (138 ≤ (gk i).toInt ∧ (gk i).toInt ≤ 142) ∨ (os = 0 ∧ 146 ≤ (gk i).toInt ∧ (gk i).toInt ≤ 148) ∨ (¬ os = 0 ∧ 143 ≤ (gk i).toInt ∧ (gk i).toInt ≤ 145)) := Or.inr (Or.inr (Or.inr ⟨fun q => c6 (hx5.trans q), by rw [← hx1]; exact i76_x1.1, by rw [← hx1]; exact i76_x1.2⟩))
          have hlt : i < N := by rcases Nat.lt_or_eq_of_le hi with q | q; exact q; rw [← q] at hN; have e2 : (2 : Int32).toInt = 2 := rfl; rcases hU with w | w | w | w; rw [w, e2] at hN; exact absurd hN (by decide); omega; omega; omega
          refine lv_aload_n hx hb dX7_readUnit_74 rfl (lv_at hl 2 rfl) ?_
          refine iv_geti0 X ft_X7 hB a_h0 sh_7 2 (by decide) rfl k_fl_X7_53 dX7_readUnit_75 e_x1 ?_
          refine lv_aload_n hx hb dX7_readUnit_78 rfl (lv_at hl 2 rfl) ?_
          refine iv_geti X ft_X7 hB a_h0 sh_7 3 (by decide) rfl k_fl_X7_92 dX7_readUnit_79 (fun x78 e_x78 i_x78 => ?_)
          refine iv_cVv X k_good k_mf_X7_emit k_im_X7_emit k_sel_X7_emit k_ml_X7_125 ft_X7 hB a_h0 sh_7 (As := [.int x1, .int x78]) (e_X7_emit l D tys base G h0 g_h0 r_h0 a_h0 x1 (i76_x1.wk (by decide)) x78 i_x78) ⟨rfl, rfl⟩ ⟨Nat.le_of_ble_eq_true rfl, Nat.le_of_ble_eq_true rfl⟩ ⟨Nat.le_of_ble_eq_true rfl, Nat.le_of_ble_eq_true rfl⟩ rfl rfl hl.1 (Nat.le_of_ble_eq_true rfl) dX7_readUnit_82 (fun G9 H locs hq hB => ?_)
          obtain ⟨hm, hk⟩ := hq
          obtain ⟨G79, hG9⟩ : ∃ g, g = G9 := ⟨_, rfl⟩
          rw [← hG9] at hm hB hk
          have hM := hM.stp hm (by decide)
          obtain ⟨g80, r81, a_h0, f_g80⟩ := hm.ex a_h0
          have n_g80 := iv_nxt hB a_h0 f_g80 n_g_h0
          have RS2 := RS.ke hk hm (by decide)
          have RB2 := RS2.got a_h0
          refine lv_aload_n hx hb dX7_readUnit_85 rfl (lv_at hl 2 rfl) ?_
          refine iv_cVv X k_good k_mf_X7_step k_im_X7_step k_sel_X7_step k_ml_X7_83 ft_X7 hB a_h0 sh_7 (As := []) (e_X7_step l D tys base G79 h0 g80 r81 a_h0 gk gv gp (by rw [RB2.1]; exact RS2.2.1) (i + 1) (by omega) (by rw [RB2.2.1.1]; omega)) ⟨rfl, rfl⟩ ⟨Nat.le_of_ble_eq_true rfl, Nat.le_of_ble_eq_true rfl⟩ ⟨Nat.le_of_ble_eq_true rfl, Nat.le_of_ble_eq_true rfl⟩ rfl rfl hl.1 (Nat.le_of_ble_eq_true rfl) dX7_readUnit_86 (fun G9 H locs hq hB => ?_)
          obtain ⟨hm, vg, vc⟩ := hq
          obtain ⟨G82, hG9⟩ : ∃ g, g = G9 := ⟨_, rfl⟩
          rw [← hG9] at hm hB vg vc
          have hM := hM.stp hm (by decide)
          obtain ⟨g83, r84, a_h0, f_g83⟩ := hm.ex a_h0
          have n_g83 := iv_nxt hB a_h0 f_g83 n_g80
          have vg85 := vg _ _ a_h0
          refine lv_iconst (v := 1) hx hb dX7_readUnit_89 (by decide) ?_
          exact iv_zret X hr hlocks hB (q_1.wk (by decide)) ⟨hM, (q_1.wk (by decide)), (⟨fun _ => ⟨hU, hlt, ⟨hlt, RS2.2.1.md hm (by decide), g83, r84, a_h0, (f_g83.1 0 (fun h => absurd (show (7 : Nat) = 5 from h) (by decide))).trans RB2.1, (vc _ _ a_h0).1, (f_g83.2.1 4 (show (4 : Nat) ∈ iv_stab 7 from by decide)).trans RB2.2.2.1, (vc _ _ a_h0).2.1.trans RB2.2.2.2.1, (vc _ _ a_h0).2.2.trans RB2.2.2.2.2⟩⟩, fun h => absurd h (by decide)⟩)⟩ dX7_readUnit_90
        · skip
          have i85_x50 : iv_R 0 0 x50 := (i_x50.cutHi (n := 0) (iv_eq_r c75 q_0).2)
          refine lv_aload_n hx hb dX7_readUnit_67 rfl (lv_at hl 2 rfl) ?_
          have hNU : ¬ (gk i = 2 ∨ (138 ≤ (gk i).toInt ∧ (gk i).toInt ≤ 142) ∨ (os = 0 ∧ 146 ≤ (gk i).toInt ∧ (gk i).toInt ≤ 148) ∨ (¬ os = 0 ∧ 143 ≤ (gk i).toInt ∧ (gk i).toInt ≤ 145)) := fun w => by
            have z1 := hp3.2 c63
            have z2 := hp51.2 c75
            rw [hx1] at z1 z2
            have e9 := c53
            have k138 : (138 : Int32).toInt = 138 := rfl
            have k142 : (142 : Int32).toInt = 142 := rfl
            have k143 : (143 : Int32).toInt = 143 := rfl
            have k145 : (145 : Int32).toInt = 145 := rfl
            have k146 : (146 : Int32).toInt = 146 := rfl
            have k148 : (148 : Int32).toInt = 148 := rfl
            rcases w with w | w | w | w
            · exact c53 (hx1.trans w)
            · omega
            · first | omega | exact c6 (hx5.trans w.1)
            · first | omega | exact w.1 (hx5.symm.trans c6)
          refine lv_iconst (v := 1) hx hb dX7_readUnit_68 (by decide) ?_
          refine iv_cVi X k_good k_mf_X7_refuse k_im_X7_refuse k_sel_X7_refuse k_ml_X7_98 ft_X7 hB a_h0 sh_7 (As := [.int 1]) (e_X7_refuse l D tys base G h0 g_h0 r_h0 a_h0 n_g_h0 1 (q_1.wk (by decide)) gk gv gp RX i RC.1) ⟨rfl, rfl⟩ ⟨Nat.le_of_ble_eq_true rfl, Nat.le_of_ble_eq_true rfl⟩ ⟨Nat.le_of_ble_eq_true rfl, Nat.le_of_ble_eq_true rfl⟩ rfl rfl hl.1 (Nat.le_of_ble_eq_true rfl) dX7_readUnit_69 (fun x87 G9 H locs hq hB => ?_)
          obtain ⟨hm, i_x87, vf⟩ := hq
          obtain ⟨G88, hG9⟩ : ∃ g, g = G9 := ⟨_, rfl⟩
          rw [← hG9] at hm hB vf
          have hM := hM.stp hm (by decide)
          obtain ⟨g89, r90, a_h0, f_g89⟩ := hm.ex a_h0
          have n_g89 := iv_nxt hB a_h0 f_g89 n_g_h0
          exact iv_zret X hr hlocks hB (i_x87.wk (by decide)) ⟨hM, (i_x87.wk (by decide)), (⟨fun h => absurd (iv_z i_x87) h, fun _ => ⟨hNU, ⟨g89, r90, a_h0, vf _ _ a_h0⟩⟩⟩)⟩ dX7_readUnit_72
