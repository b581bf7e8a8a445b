/-- a parish as the class's peals see it: NEAR, how many bells, their pitches -/
def cw (q : Nat) (A : Nat → Nat) (u : Nat → Int32) (m n : Int32) (G : iv_G) : Prop := (iv_kc 5 3 q m G ∧ iv_kc 5 1 q n G) ∧ (∀ i, i < 10 → iv_bA q i (A i) G) ∧ (∀ i, i < 10 → iv_kc 1 1 (A i) (u i) G) ∧ ∀ i, i < 10 → iv_R 0 47 (u i)
theorem cw.md {q : Nat} {A : Nat → Nat} {u : Nat → Int32} {m n : Int32} {S : List Nat} {G G' : iv_G} (h : cw q A u m n G) (hm : iv_Md S G G') : cw q A u m n G' := ⟨⟨h.1.1.T (iv_MdT.of hm) (by decide), h.1.2.T (iv_MdT.of hm) (by decide)⟩, fun i hi => (h.2.1 i hi).O (iv_MdT.of hm), fun i hi => (h.2.2.1 i hi).T (iv_MdT.of hm) (by decide), h.2.2.2⟩
theorem cw_abs {a b x z : Int32} (ra : iv_R 0 47 a) (rb : iv_R 0 47 b) (hx : x = a - b) (hz : z = if 0 ≤ x then x else 0 - x) : z.toInt = iv_pa a b := by
  have a1 := ra.1
  have a2 := ra.2
  have b1 := rb.1
  have b2 := rb.2
  have e0 : (0 : Int32).toInt = 0 := rfl
  have ex : x.toInt = a.toInt - b.toInt := by rw [hx]; exact iv_ti_sub (by omega) (by omega)
  unfold iv_pa
  by_cases h : 0 ≤ x
  · have h' := Int32.le_iff_toInt_le.mp h
    rw [hz, if_pos h, if_neg (by omega), ex]
  · have h' : ¬ (0 : Int32).toInt ≤ x.toInt := fun q => h (Int32.le_iff_toInt_le.mpr q)
    have en : (0 - x).toInt = - x.toInt := by rw [iv_ti_sub (by omega) (by omega)]; omega
    rw [hz, if_neg h, if_pos (by omega), en]
    omega
theorem cp_sym {a b : Int32} : iv_pa a b = iv_pa b a := by
  unfold iv_pa
  by_cases h : a.toInt < b.toInt
  · rw [if_pos h, if_neg (by omega)]
  · by_cases h2 : b.toInt < a.toInt
    · rw [if_neg h, if_pos h2]
    · rw [if_neg h, if_neg h2]
      omega
theorem cp_bN : ∀ S : Fin 1024, ∀ i : Fin 10, ((S.val.toInt32.toUInt32 >>> (i.val.toInt32.toUInt32 &&& Int32.toUInt32 31)).toInt32 &&& 1).toInt = ((S.val / 2 ^ i.val % 2 : Nat) : Int) := by decide +kernel
theorem cp_bit {x i a b : Int32} (hx : iv_R 0 1023 x) (hi : iv_R 0 9 i) (ha : a = (x.toUInt32 >>> (i.toUInt32 &&& Int32.toUInt32 31)).toInt32) (hb : b = a &&& 1) : b.toInt = ((x.toInt.toNat / 2 ^ i.toInt.toNat % 2 : Nat) : Int) := by
  have h1 := hx.1
  have h2 := hx.2
  have h3 := hi.1
  have h4 := hi.2
  have e := cp_bN ⟨x.toInt.toNat, by omega⟩ ⟨i.toInt.toNat, by omega⟩
  have e : ((x.toInt.toNat.toInt32.toUInt32 >>> (i.toInt.toNat.toInt32.toUInt32 &&& Int32.toUInt32 31)).toInt32 &&& 1).toInt = _ := e
  rw [iv_nIx hx (by decide), iv_nIx hi (by decide)] at e
  rw [hb, ha]
  exact e
/-- next may follow last, if it is still to come -/
def cp_CF (gp u : Nat → Int32) (m : Int32) (i : Nat) (L : Int) (R : Nat) : Prop := R / 2 ^ i % 2 = 1 ∧ (L = -1 ∨ ¬ iv_pa (u (gp L.toNat).toInt.toNat) (u (gp i).toInt.toNat) < m.toInt)
noncomputable def cp_sm (gp u : Nat → Int32) (m : Int32) (gy : Nat → Int32) (R : Nat) (L : Int) : Nat → Int32
  | 0 => 0
  | i + 1 => @ite Int32 (cp_CF gp u m i L R) (Classical.propDecidable _) (cp_sm gp u m gy R L i + gy ((R ^^^ 2 ^ i) * 8 + i)) (cp_sm gp u m gy R L i)
theorem cp_sm.no {gp u : Nat → Int32} {m : Int32} {gy : Nat → Int32} {R i : Nat} {L : Int} (h : ¬ cp_CF gp u m i L R) : cp_sm gp u m gy R L (i + 1) = cp_sm gp u m gy R L i := if_neg h
theorem cp_sm.ok {gp u : Nat → Int32} {m : Int32} {gy : Nat → Int32} {R i : Nat} {L : Int} (h : cp_CF gp u m i L R) : cp_sm gp u m gy R L (i + 1) = cp_sm gp u m gy R L i + gy ((R ^^^ 2 ^ i) * 8 + i) := if_pos h
theorem cp_sm_upd {gp u : Nat → Int32} {m : Int32} {gy : Nat → Int32} {R q : Nat} {L : Int} {n : Int32} : ∀ k, (∀ i, i < k → cp_CF gp u m i L R → (R ^^^ 2 ^ i) * 8 + i ≠ q) → cp_sm gp u m (upd gy q n) R L k = cp_sm gp u m gy R L k := by
  intro k
  induction k with
  | zero => intro _; rfl
  | succ k ih =>
    intro h
    have ih := ih (fun i hi hc => h i (by omega) hc)
    by_cases hc : cp_CF gp u m k L R
    · rw [cp_sm.ok hc, cp_sm.ok hc, ih]
      congr 1
      exact if_neg (h k (by omega) hc)
    · rw [cp_sm.no hc, cp_sm.no hc, ih]
noncomputable def cp_val (gp u : Nat → Int32) (m : Int32) (gy : Nat → Int32) (s R : Nat) (L : Int) : Int32 := if R = 0 then 1 else cp_sm gp u m gy R L s
theorem cp_bX1 : ∀ S : Fin 256, ∀ i : Fin 8, (S.val.toInt32 ^^^ (2 ^ i.val).toInt32).toInt = ((S.val ^^^ 2 ^ i.val : Nat) : Int) := by decide +kernel
theorem cp_bX2 : ∀ S : Fin 256, ∀ i : Fin 8, S.val / 2 ^ i.val % 2 = 1 → (S.val ^^^ 2 ^ i.val) + 1 ≤ S.val := by decide +kernel
theorem cp_xor {x y z i : Int32} (hx : iv_R 0 255 x) (hi : iv_R 0 7 i) (hy : y.toInt = 2 ^ i.toInt.toNat) (hz : z = x ^^^ y) : z.toInt = ((x.toInt.toNat ^^^ 2 ^ i.toInt.toNat : Nat) : Int) := by
  have h1 := hx.1
  have h2 := hx.2
  have h3 := hi.1
  have h4 := hi.2
  have e := cp_bX1 ⟨x.toInt.toNat, by omega⟩ ⟨i.toInt.toNat, by omega⟩
  have e : (x.toInt.toNat.toInt32 ^^^ (2 ^ i.toInt.toNat).toInt32).toInt = _ := e
  rw [iv_nIx hx (by decide)] at e
  have hp : (2 : Nat) ^ i.toInt.toNat ≤ 2 ^ 7 := Nat.pow_le_pow_right (by decide) (by omega)
  have ey : (2 ^ i.toInt.toNat).toInt32 = y := by
    refine Int32.toInt_inj.mp ((nI_toInt (by omega)).trans ?_)
    rw [hy]
    exact Int.natCast_pow 2 _
  rw [ey] at e
  rw [hz]
  exact e
theorem cp_CF.dec {gp u : Nat → Int32} {m : Int32} {i R : Nat} {L : Int} (h : cp_CF gp u m i L R) (hR : R < 256) (hi : i < 8) : (R ^^^ 2 ^ i) + 1 ≤ R := cp_bX2 ⟨R, hR⟩ ⟨i, hi⟩ h.1
set_option maxHeartbeats 4000000 in
set_option maxRecDepth 100000 in
theorem e_X5_areNear (l : Launch) (D : va_G) (tys : List (ClassId × FieldType)) (base : Nat) (G : iv_G) (h0 : Nat) (g_h0 : Nat → Int32) (r_h0 : Nat → Nat) (a_h0 : G h0 = some (5, g_h0, r_h0)) (x_0 : Int32) (i_x_0 : iv_R 0 9 x_0) (x_1 : Int32) (i_x_1 : iv_R 0 9 x_1) (A : Nat → Nat) (u : Nat → Int32) (cm cn : Int32) (Wc : cw h0 A u cm cn G) : Met l yX5_areNear (Cond.code yX5_areNear cX5_areNear 3 (some .boolean) :: iv_W0) ({ frames := 1, cells := 0, slots := 0, locals := 13 }) (iv_Pc iv_sh D classes tys base G [.ref h0, .int x_0, .int x_1]) (iv_Qi iv_sh D classes tys base (fun v G' => G = G' ∧ iv_R 0 1 v ∧ (¬ v = 0 ↔ iv_pa (u x_0.toInt.toNat) (u x_1.toInt.toNat) < cm.toInt))) 0 0 (iv_A base) := by
  refine iv_head (by decide) (Nat.le_of_ble_eq_true rfl) ?_
  intro p e s m args below meth c ls X hr hlocks hname hB hl
  have X := X
  have hx := X.1.1
  have hb := X.1.2.1
  have hl : lv_has ls 3 [(0, .ref h0), (1, .int x_0), (2, .int x_1)] := hl
  refine lv_aload_n hx hb dX5_areNear_0 rfl (lv_at hl 0 rfl) ?_
  refine iv_getr X ft_X5 hB a_h0 sh_5 0 (by decide) rfl k_fl_X5_11 dX5_areNear_1 (fun b1 g_b1 r_b1 e_b1 a_b1 => ?_)
  refine lv_iload_n hx hb dX5_areNear_4 rfl (lv_at hl 1 rfl) ?_
  refine iv_aald X hB a_b1 sh_40 (iv_in i_x_0 (by decide)) dX5_areNear_5 (fun b2 g_b2 r_b2 e_b2 a_b2 => ?_)
  have hib2 : x_0.toInt.toNat < 10 := by have w1 := i_x_0.2; omega
  have hb2 : b2 = A x_0.toInt.toNat := iv_bA.eq (G := G) (q := h0) (i := x_0.toInt.toNat) ⟨_, _, _, _, a_h0, (by rw [← e_b1]; exact a_b1), e_b2⟩ (Wc.2.1 _ hib2)
  refine iv_geti X ft_X1 hB a_b2 sh_1 1 (by decide) rfl k_fl_X5_109 dX5_areNear_6 (fun x3 e_x3 i_x3 => ?_)
  have hux3 : x3 = u x_0.toInt.toNat := e_x3.trans ((Wc.2.2.1 _ hib2).val (by rw [← hb2]; exact a_b2))
  refine lv_aload_n hx hb dX5_areNear_9 rfl (lv_at hl 0 rfl) ?_
  refine iv_getr0 X ft_X5 hB a_h0 sh_5 0 (by decide) rfl k_fl_X5_11 dX5_areNear_10 e_b1 ?_
  refine lv_iload_n hx hb dX5_areNear_13 rfl (lv_at hl 2 rfl) ?_
  refine iv_aald X hB a_b1 sh_40 (iv_in i_x_1 (by decide)) dX5_areNear_14 (fun b4 g_b4 r_b4 e_b4 a_b4 => ?_)
  have hib4 : x_1.toInt.toNat < 10 := by have w1 := i_x_1.2; omega
  have hb4 : b4 = A x_1.toInt.toNat := iv_bA.eq (G := G) (q := h0) (i := x_1.toInt.toNat) ⟨_, _, _, _, a_h0, (by rw [← e_b1]; exact a_b1), e_b4⟩ (Wc.2.1 _ hib4)
  refine iv_geti X ft_X1 hB a_b4 sh_1 1 (by decide) rfl k_fl_X5_109 dX5_areNear_15 (fun x5 e_x5 i_x5 => ?_)
  have hux5 : x5 = u x_1.toInt.toNat := e_x5.trans ((Wc.2.2.1 _ hib4).val (by rw [← hb4]; exact a_b4))
  refine lv_isub hx hb dX5_areNear_18 ?_
  refine lv_topi (fun x6 e_x6 => ?_)
  have i_x6 := iv_R.all x6
  refine iv_mabs X hl.1 k_mm_X5_112 ⟨Nat.le_of_ble_eq_true rfl, Nat.le_of_ble_eq_true rfl⟩ ⟨Nat.le_of_ble_eq_true rfl, Nat.le_of_ble_eq_true rfl⟩ dX5_areNear_19 (fun x7 e_x7 i_x7 => ?_)
  have hab := cw_abs (by rw [hux3]; exact Wc.2.2.2 _ hib2) (by rw [hux5]; exact Wc.2.2.2 _ hib4) e_x6 e_x7
  rw [hux3, hux5] at hab
  refine lv_aload_n hx hb dX5_areNear_22 rfl (lv_at hl 0 rfl) ?_
  refine iv_geti X ft_X5 hB a_h0 sh_5 3 (by decide) rfl k_fl_X5_21 dX5_areNear_23 (fun x8 e_x8 i_x8 => ?_)
  have hm8 := congrArg Int32.toInt (e_x8.trans (Wc.1.1.val a_h0))
  refine lv_icmp_ge (tgt := 33) hx hb dX5_areNear_26 (by decide) (fun c9 => ?_) (fun c9 => ?_)
  · skip
    refine lv_iconst (v := 0) hx hb dX5_areNear_33 (by decide) ?_
    exact iv_zret X hr hlocks hB (q_0.wk (by decide)) ⟨rfl, (q_0.wk (by decide)), (⟨fun h => absurd rfl h, fun h => by have w1 := Int32.le_iff_toInt_le.mp c9; omega⟩)⟩ dX5_areNear_34
  · skip
    have i9_x7 : iv_R (-2147483648) 2147483646 x7 := (i_x7.cutHi (n := 2147483646) (iv_lt_r (iv_nle c9) i_x8 (by decide)))
    have i10_x8 : iv_R (-2147483647) 2147483647 x8 := (i_x8.cutLo (n := (-2147483647)) (iv_lt_l (iv_nle c9) i_x7 (by decide)))
    refine lv_iconst (v := 1) hx hb dX5_areNear_29 (by decide) ?_
    refine lv_goto (tgt := 34) hx hb dX5_areNear_30 (by decide) ?_
    exact iv_zret X hr hlocks hB (q_1.wk (by decide)) ⟨rfl, (q_1.wk (by decide)), (⟨fun _ => by have w1 := mt Int32.le_iff_toInt_le.mpr c9; omega, fun _ => by decide⟩)⟩ dX5_areNear_34
set_option maxHeartbeats 4000000 in
set_option maxRecDepth 100000 in
theorem e_X4_canFollow (l : Launch) (D : va_G) (tys : List (ClassId × FieldType)) (base : Nat) (G : iv_G) (h0 : Nat) (g_h0 : Nat → Int32) (r_h0 : Nat → Nat) (a_h0 : G h0 = some (4, g_h0, r_h0)) (x_0 : Int32) (i_x_0 : iv_R 0 255 x_0) (x_1 : Int32) (i_x_1 : iv_R (-1) 7 x_1) (x_2 : Int32) (i_x_2 : iv_R 0 7 x_2) (A : Nat → Nat) (u : Nat → Int32) (cm cn : Int32) (Wc : cw (r_h0 0) A u cm cn G) (gp : Nat → Int32) (rp : Nat → Nat) (h_gp0 : G (r_h0 2) = some (32, gp, rp)) : Met l yX4_canFollow (Cond.code yX4_canFollow cX4_canFollow 4 (some .boolean) :: iv_W0) ({ frames := 2, cells := 0, slots := 0, locals := 35 }) (iv_Pc iv_sh D classes tys base G [.ref h0, .int x_0, .int x_1, .int x_2]) (iv_Qi iv_sh D classes tys base (fun v G' => G = G' ∧ iv_R 0 1 v ∧ (¬ v = 0 ↔ cp_CF gp u cm x_2.toInt.toNat x_1.toInt x_0.toInt.toNat))) 0 0 (iv_A base) := by
  refine iv_head (by decide) (Nat.le_of_ble_eq_true rfl) ?_
  intro p e s m args below meth c ls X hr hlocks hname hB hl
  have X := X
  have hx := X.1.1
  have hb := X.1.2.1
  have hl : lv_has ls 4 [(0, .ref h0), (1, .int x_0), (2, .int x_1), (3, .int x_2)] := hl
  refine lv_iload_n hx hb dX4_canFollow_0 rfl (lv_at hl 1 rfl) ?_
  refine lv_iload_n hx hb dX4_canFollow_1 rfl (lv_at hl 3 rfl) ?_
  refine lv_iushr hx hb dX4_canFollow_2 rfl ?_
  refine lv_topi (fun x1 e_x1 => ?_)
  have i_x1 := iv_R.all x1
  refine lv_iconst (v := 1) hx hb dX4_canFollow_3 (by decide) ?_
  refine iv_iand_r hx hb q_1 (by decide) dX4_canFollow_4 (fun x2 e_x2 i_x2 => ?_)
  have hbit := cp_bit (i_x_0.wk (by decide)) (i_x_2.wk (by decide)) e_x1 e_x2
  refine lv_iconst (v := 1) hx hb dX4_canFollow_5 (by decide) ?_
  refine lv_icmp_ne (tgt := 40) hx hb dX4_canFollow_6 (by decide) (fun c3 => ?_) (fun c3 => ?_)
  · skip
    have i3_x2 : iv_R 0 0 x2 := iv_ne_hi c3 i_x2 q_1 (by decide)
    refine lv_iconst (v := 0) hx hb dX4_canFollow_40 (by decide) ?_
    exact iv_zret X hr hlocks hB (q_0.wk (by decide)) ⟨rfl, (q_0.wk (by decide)), (⟨fun h => absurd rfl h, fun h => absurd h.1 (by have w1 := mt Int32.toInt_inj.mp c3; have e1 : (1 : Int32).toInt = 1 := rfl; omega)⟩)⟩ dX4_canFollow_41
  · skip
    have i4_x2 : iv_R 1 1 x2 := (i_x2.cutLo (n := 1) (iv_eq_r c3 q_1).1)
    refine lv_iload_n hx hb dX4_canFollow_9 rfl (lv_at hl 2 rfl) ?_
    refine lv_iconst (v := (-1)) hx hb dX4_canFollow_10 (by decide) ?_
    refine lv_icmp_eq (tgt := 36) hx hb dX4_canFollow_11 (by decide) (fun c6 => ?_) (fun c6 => ?_)
    · skip
      have i6_x_1 : iv_R (-1) (-1) x_1 := (i_x_1.cutHi (n := (-1)) (iv_eq_r c6 q_n1).2)
      refine lv_iconst (v := 1) hx hb dX4_canFollow_36 (by decide) ?_
      refine lv_goto (tgt := 41) hx hb dX4_canFollow_37 (by decide) ?_
      exact iv_zret X hr hlocks hB (q_1.wk (by decide)) ⟨rfl, (q_1.wk (by decide)), (⟨fun _ => ⟨by have w1 := congrArg Int32.toInt c3; have e1 : (1 : Int32).toInt = 1 := rfl; omega, Or.inl (congrArg Int32.toInt c6)⟩, fun _ => by decide⟩)⟩ dX4_canFollow_41
    · skip
      have i7_x_1 : iv_R 0 7 x_1 := iv_ne_lo c6 i_x_1 q_n1 (by decide)
      refine lv_aload_n hx hb dX4_canFollow_14 rfl (lv_at hl 0 rfl) ?_
      refine iv_getr X ft_X4 hB a_h0 sh_4 0 (by decide) rfl k_fl_X4_21 dX4_canFollow_15 (fun b9 g_b9 r_b9 e_b9 a_b9 => ?_)
      refine lv_aload_n hx hb dX4_canFollow_18 rfl (lv_at hl 0 rfl) ?_
      refine iv_getr X ft_X4 hB a_h0 sh_4 2 (by decide) rfl k_fl_X4_15 dX4_canFollow_19 (fun b10 g_b10 r_b10 e_b10 a_b10 => ?_)
      refine lv_iload_n hx hb dX4_canFollow_22 rfl (lv_at hl 2 rfl) ?_
      refine iv_ald X hB a_b10 sh_32 (iv_in i7_x_1 (by decide)) dX4_canFollow_23 (fun x11 e_x11 i_x11 => ?_)
      refine lv_aload_n hx hb dX4_canFollow_24 rfl (lv_at hl 0 rfl) ?_
      refine iv_getr0 X ft_X4 hB a_h0 sh_4 2 (by decide) rfl k_fl_X4_15 dX4_canFollow_25 e_b10 ?_
      refine lv_iload_n hx hb dX4_canFollow_28 rfl (lv_at hl 3 rfl) ?_
      refine iv_ald X hB a_b10 sh_32 (iv_in i_x_2 (by decide)) dX4_canFollow_29 (fun x12 e_x12 i_x12 => ?_)
      refine iv_cVi X k_good k_mf_X5_areNear k_im_X5_areNear k_sel_X5_areNear k_ml_X4_53 ft_X5 hB a_b9 sh_5 (As := [.int x11, .int x12]) (e_X5_areNear l D tys base G b9 g_b9 r_b9 a_b9 x11 i_x11 x12 i_x12 A u cm cn (by rw [e_b9]; exact Wc)) ⟨rfl, rfl⟩ ⟨Nat.le_of_ble_eq_true rfl, Nat.le_of_ble_eq_true rfl⟩ ⟨Nat.le_of_ble_eq_true rfl, Nat.le_of_ble_eq_true rfl⟩ rfl rfl hl.1 (Nat.le_of_ble_eq_true rfl) dX4_canFollow_30 (fun x13 G9 H locs hq hB => ?_)
      obtain ⟨rfl, i_x13, ex13⟩ := hq
      have hg10 : g_b10 = gp := by
        have w1 : G (r_h0 2) = some (32, g_b10, r_b10) := by rw [← e_b10]; exact a_b10
        have w2 := w1.symm.trans h_gp0
        cases w2
        rfl
      have hx11 : x11 = gp x_1.toInt.toNat := by rw [← hg10]; exact e_x11
      have hx12 : x12 = gp x_2.toInt.toNat := by rw [← hg10]; exact e_x12
      have hq13 : ¬ x13 = 0 ↔ iv_pa (u (gp x_1.toInt.toNat).toInt.toNat) (u (gp x_2.toInt.toNat).toInt.toNat) < cm.toInt := by rw [← hx11, ← hx12]; exact ex13
      refine lv_if_ne (tgt := 40) hx hb dX4_canFollow_33 (by decide) (fun c14 => ?_) (fun c14 => ?_)
      · skip
        have i14_x13 : iv_R 1 1 x13 := iv_ne_lo c14 i_x13 q_0 (by decide)
        refine lv_iconst (v := 0) hx hb dX4_canFollow_40 (by decide) ?_
        exact iv_zret X hr hlocks hB (q_0.wk (by decide)) ⟨rfl, (q_0.wk (by decide)), (⟨fun h => absurd rfl h, fun h => absurd (hq13.mp c14) (h.2.resolve_left (fun q => by have w1 := i7_x_1.1; omega))⟩)⟩ dX4_canFollow_41
      · skip
        have i15_x13 : iv_R 0 0 x13 := (i_x13.cutHi (n := 0) (iv_eq_r c14 q_0).2)
        refine lv_iconst (v := 1) hx hb dX4_canFollow_36 (by decide) ?_
        refine lv_goto (tgt := 41) hx hb dX4_canFollow_37 (by decide) ?_
        exact iv_zret X hr hlocks hB (q_1.wk (by decide)) ⟨rfl, (q_1.wk (by decide)), (⟨fun _ => ⟨by have w1 := congrArg Int32.toInt c3; have e1 : (1 : Int32).toInt = 1 := rfl; omega, Or.inr (fun q => (hq13.mpr q) c14)⟩, fun _ => by decide⟩)⟩ dX4_canFollow_41
set_option maxHeartbeats 4000000 in
set_option maxRecDepth 100000 in
theorem e_X4_waysAfter (l : Launch) (D : va_G) (tys : List (ClassId × FieldType)) (base : Nat) (G : iv_G) (h0 : Nat) (g_h0 : Nat → Int32) (r_h0 : Nat → Nat) (a_h0 : G h0 = some (4, g_h0, r_h0)) (x_0 : Int32) (i_x_0 : iv_R 0 255 x_0) (x_1 : Int32) (i_x_1 : iv_R (-1) 7 x_1) (A : Nat → Nat) (u : Nat → Int32) (cm cn : Int32) (Wc : cw (r_h0 0) A u cm cn G) (gp : Nat → Int32) (rp : Nat → Nat) (h_gp0 : G (r_h0 2) = some (32, gp, rp)) (gy : Nat → Int32) (ry : Nat → Nat) (h_gy0 : G (r_h0 4) = some (33, gy, ry)) (s9 : Nat) (hs9 : (g_h0 3).toInt = (s9 : Int)) : Met l yX4_waysAfter (Cond.code yX4_waysAfter cX4_waysAfter 5 (some .int) :: iv_W0) ({ frames := 3, cells := 0, slots := 0, locals := 58 }) (iv_Pc iv_sh D classes tys base G [.ref h0, .int x_0, .int x_1]) (iv_Qi iv_sh D classes tys base (fun v G' => G = G' ∧ iv_R (-2147483648) 2147483647 v ∧ (v = cp_val gp u cm gy s9 x_0.toInt.toNat x_1.toInt))) 0 0 (iv_A base) := by
  refine iv_head (by decide) (Nat.le_of_ble_eq_true rfl) ?_
  intro p e s m args below meth c ls X hr hlocks hname hB hl
  have X := X
  have hx := X.1.1
  have hb := X.1.2.1
  have hl : lv_has ls 5 [(0, .ref h0), (1, .int x_0), (2, .int x_1)] := hl
  refine lv_iload_n hx hb dX4_waysAfter_0 rfl (lv_at hl 1 rfl) ?_
  refine lv_if_ne (tgt := 6) hx hb dX4_waysAfter_1 (by decide) (fun c1 => ?_) (fun c1 => ?_)
  · skip
    have i1_x_0 : iv_R 1 255 x_0 := iv_ne_lo c1 i_x_0 q_0 (by decide)
    refine lv_iconst (v := 0) hx hb dX4_waysAfter_6 (by decide) ?_
    refine lv_istore_n (lv' := [(3, .int 0), (0, .ref h0), (1, .int x_0), (2, .int x_1)]) hx hb dX4_waysAfter_7 rfl hl (by decide) rfl (fun ls hl => ?_)
    refine lv_iconst (v := 0) hx hb dX4_waysAfter_8 (by decide) ?_
    refine lv_istore (lv' := [(4, .int 0), (3, .int 0), (0, .ref h0), (1, .int x_0), (2, .int x_1)]) hx hb dX4_waysAfter_9 hl (by decide) rfl (fun ls hl => ?_)
    have L_11 : ∀ (n_11 : Nat) (H : Heap) (locs : List Loc) (hB : iv_B iv_sh D classes tys base G s.heap H locs) (x3 : Int32) (i_x3 : iv_R (-2147483648) 2147483647 x3) (x4 : Int32) (i_x4 : iv_R 0 8 x4) (hn_11 : (9 - x4.toInt).toNat < n_11) (gi_11 : x3 = cp_sm gp u cm gy x_0.toInt.toNat x_1.toInt x4.toInt.toNat ∧ x4.toInt ≤ (s9 : Int)) (ls : Array Slot) (hl : lv_has ls 5 [(4, .int x4), (3, .int x3), (0, .ref h0), (1, .int x_0), (2, .int x_1)]), W p l e ({ frames := 3, cells := 0, slots := 0, locals := 58 } : Room) s m args below meth c H locs 0 0 (MQ below (iv_Qi iv_sh D classes tys base (fun v G' => G = G' ∧ iv_R (-2147483648) 2147483647 v ∧ (v = cp_val gp u cm gy s9 x_0.toInt.toNat x_1.toInt))) args s 0 0 (iv_A base)) (F0 m 11 ls []) := by
      intro n_11
      induction n_11 with
      | zero => intro H locs hB x3 i_x3 x4 i_x4 hn_11 gi_11 ls hl; exact absurd hn_11 (Nat.not_lt_zero _)
      | succ n_11 ih_11 =>
        intro H locs hB x3 i_x3 x4 i_x4 hn_11 gi_11 ls hl
        refine lv_iload hx hb dX4_waysAfter_11 (lv_at hl 0 rfl) ?_
        refine lv_aload_n hx hb dX4_waysAfter_13 rfl (lv_at hl 2 rfl) ?_
        refine iv_geti X ft_X4 hB a_h0 sh_4 3 (by decide) rfl k_fl_X4_61 dX4_waysAfter_14 (fun x5 e_x5 i_x5 => ?_)
        refine lv_icmp_ge (tgt := 57) hx hb dX4_waysAfter_17 (by decide) (fun c6 => ?_) (fun c6 => ?_)
        · skip
          refine lv_iload_n hx hb dX4_waysAfter_57 rfl (lv_at hl 1 rfl) ?_
          exact iv_iret X hr hlocks hB ⟨rfl, i_x3, (by rw [gi_11.1, show x4.toInt.toNat = s9 from by (have w1 := Int32.le_iff_toInt_le.mp c6; have w2 := congrArg Int32.toInt e_x5; omega)]; exact (if_neg (by have w1 := mt Int32.toInt_inj.mp c1; have e0 : (0 : Int32).toInt = 0 := rfl; have w2 := i_x_0.1; omega)).symm)⟩ dX4_waysAfter_58
        · skip
          have i6_x4 : iv_R 0 7 x4 := (i_x4.cutHi (n := 7) (iv_lt_r (iv_nle c6) i_x5 (by decide)))
          have i7_x5 : iv_R 1 8 x5 := (i_x5.cutLo (n := 1) (iv_lt_l (iv_nle c6) i_x4 (by decide)))
          refine lv_aload_n hx hb dX4_waysAfter_20 rfl (lv_at hl 2 rfl) ?_
          refine lv_iload_n hx hb dX4_waysAfter_21 rfl (lv_at hl 3 rfl) ?_
          refine lv_iload_n hx hb dX4_waysAfter_22 rfl (lv_at hl 4 rfl) ?_
          refine lv_iload hx hb dX4_waysAfter_23 (lv_at hl 0 rfl) ?_
          refine iv_cVi X k_good k_mf_X4_canFollow k_im_X4_canFollow k_sel_X4_canFollow k_ml_X4_67 ft_X4 hB a_h0 sh_4 (As := [.int x_0, .int x_1, .int x4]) (e_X4_canFollow l D tys base G h0 g_h0 r_h0 a_h0 x_0 (i1_x_0.wk (by decide)) x_1 i_x_1 x4 i6_x4 A u cm cn Wc gp rp h_gp0) ⟨rfl, rfl⟩ ⟨Nat.le_of_ble_eq_true rfl, Nat.le_of_ble_eq_true rfl⟩ ⟨Nat.le_of_ble_eq_true rfl, Nat.le_of_ble_eq_true rfl⟩ rfl rfl hl.1 (Nat.le_of_ble_eq_true rfl) dX4_waysAfter_25 (fun x9 G9 H locs hq hB => ?_)
          obtain ⟨rfl, i_x9, ex9⟩ := hq
          have hlt : x4.toInt < (s9 : Int) := by have w1 := mt Int32.le_iff_toInt_le.mpr c6; have w2 := congrArg Int32.toInt e_x5; omega
          refine lv_if_eq (tgt := 51) hx hb dX4_waysAfter_28 (by decide) (fun c10 => ?_) (fun c10 => ?_)
          · skip
            have i10_x9 : iv_R 0 0 x9 := (i_x9.cutHi (n := 0) (iv_eq_r c10 q_0).2)
            refine iv_iinc hx hb i6_x4 (lo := 1) (hi := 8) (by decide) dX4_waysAfter_51 hl (k := 0) rfl (by decide) (fun x12 ls e_x12 i_x12 hl => ?_)
            have hl : lv_has ls 5 [(4, .int x12), (3, .int x3), (0, .ref h0), (1, .int x_0), (2, .int x_1)] := hl
            refine lv_goto (tgt := 11) hx hb dX4_waysAfter_54 (by decide) ?_
            exact ih_11 _ _ hB x3 i_x3 x12 (i_x12.wk (by decide)) (iv_mup (c := 1) i_x4 (by decide) (by decide) (by omega) hn_11) ⟨by rw [show x12.toInt.toNat = x4.toInt.toNat + 1 from by (have w1 : x12.toInt = x4.toInt + 1 := e_x12; have w2 := i6_x4.1; omega), cp_sm.no (fun q => (ex9.mpr q) c10)]; exact gi_11.1, by have w1 : x12.toInt = x4.toInt + 1 := e_x12; omega⟩ _ (lv_sub hl [0, 1, 2, 3, 4] rfl)
          · skip
            have i12_x9 : iv_R 1 1 x9 := iv_ne_lo c10 i_x9 q_0 (by decide)
            refine lv_iload_n hx hb dX4_waysAfter_31 rfl (lv_at hl 1 rfl) ?_
            refine lv_aload_n hx hb dX4_waysAfter_32 rfl (lv_at hl 2 rfl) ?_
            refine iv_getr X ft_X4 hB a_h0 sh_4 4 (by decide) rfl k_fl_X4_18 dX4_waysAfter_33 (fun b14 g_b14 r_b14 e_b14 a_b14 => ?_)
            refine lv_iload_n hx hb dX4_waysAfter_36 rfl (lv_at hl 3 rfl) ?_
            refine lv_iconst (v := 1) hx hb dX4_waysAfter_37 (by decide) ?_
            refine lv_iload hx hb dX4_waysAfter_38 (lv_at hl 0 rfl) ?_
            refine iv_shl1 hx hb i6_x4 (lo := 1) (hi := 128) (by decide) dX4_waysAfter_40 (fun x15 e_x15 i_x15 => ?_)
            refine iv_ixor hx hb i1_x_0 i_x15 (k := 8) (hi := 255) (by decide) dX4_waysAfter_41 (fun x16 e_x16 i_x16 => ?_)
            refine lv_bipush (v := 8) hx hb dX4_waysAfter_42 (by decide) ?_
            refine iv_imul hx hb i_x16 q_8 (lo := 0) (hi := 2040) (by decide) dX4_waysAfter_44 (fun x17 e_x17 i_x17 => ?_)
            refine lv_iload hx hb dX4_waysAfter_45 (lv_at hl 0 rfl) ?_
            refine iv_iadd hx hb i_x17 i6_x4 (lo := 0) (hi := 2047) (by decide) dX4_waysAfter_47 (fun x18 e_x18 i_x18 => ?_)
            refine iv_ald X hB a_b14 sh_33 (iv_in i_x18 (by decide)) dX4_waysAfter_48 (fun x19 e_x19 i_x19 => ?_)
            have hg14 : g_b14 = gy := by
              have w1 : G (r_h0 4) = some (33, g_b14, r_b14) := by rw [← e_b14]; exact a_b14
              have w2 := w1.symm.trans h_gy0
              cases w2
              rfl
            have hxr := cp_xor (i1_x_0.wk (by decide)) i6_x4 e_x15 e_x16
            have hx19 : x19 = gy ((x_0.toInt.toNat ^^^ 2 ^ x4.toInt.toNat) * 8 + x4.toInt.toNat) := by rw [← hg14]; exact e_x19.trans (congrArg g_b14 (by show x18.toInt.toNat = _; have w1 : x17.toInt = x16.toInt * (8 : Int32).toInt := e_x17; have e8 : (8 : Int32).toInt = 8 := rfl; have w2 : x18.toInt = x17.toInt + x4.toInt := e_x18; have w3 := i6_x4.1; rw [e8] at w1; omega))
            refine lv_iadd hx hb dX4_waysAfter_49 ?_
            refine lv_topi (fun x20 e_x20 => ?_)
            have i_x20 := iv_R.all x20
            refine lv_istore_n (lv' := [(3, .int x20), (4, .int x4), (0, .ref h0), (1, .int x_0), (2, .int x_1)]) hx hb dX4_waysAfter_50 rfl hl (by decide) rfl (fun ls hl => ?_)
            refine iv_iinc hx hb i6_x4 (lo := 1) (hi := 8) (by decide) dX4_waysAfter_51 hl (k := 1) rfl (by decide) (fun x21 ls e_x21 i_x21 hl => ?_)
            have hl : lv_has ls 5 [(4, .int x21), (3, .int x20), (0, .ref h0), (1, .int x_0), (2, .int x_1)] := hl
            refine lv_goto (tgt := 11) hx hb dX4_waysAfter_54 (by decide) ?_
            exact ih_11 _ _ hB x20 i_x20 x21 (i_x21.wk (by decide)) (iv_mup (c := 1) i_x4 (by decide) (by decide) (by omega) hn_11) ⟨by rw [show x21.toInt.toNat = x4.toInt.toNat + 1 from by (have w1 : x21.toInt = x4.toInt + 1 := e_x21; have w2 := i6_x4.1; omega), cp_sm.ok (ex9.mp c10), ← gi_11.1, e_x20, hx19], by have w1 : x21.toInt = x4.toInt + 1 := e_x21; omega⟩ _ (lv_sub hl [0, 1, 2, 3, 4] rfl)
    exact L_11 _ _ _ hB 0 (q_0.wk (by decide)) 0 (q_0.wk (by decide)) (Nat.lt_succ_self _) ⟨rfl, by have e0 : (0 : Int32).toInt = 0 := rfl; omega⟩ _ (lv_sub hl [0, 1, 2, 3, 4] rfl)
  · skip
    have i21_x_0 : iv_R 0 0 x_0 := (i_x_0.cutHi (n := 0) (iv_eq_r c1 q_0).2)
    refine lv_iconst (v := 1) hx hb dX4_waysAfter_4 (by decide) ?_
    exact iv_iret X hr hlocks hB ⟨rfl, (q_1.wk (by decide)), (if_pos (by have w1 := congrArg Int32.toInt c1; have e0 : (0 : Int32).toInt = 0 := rfl; omega)).symm⟩ dX4_waysAfter_5
