/-! the class's tokens exactly -/
theorem tk_G.raw {g : Nat → Int32} {n a : Nat} (h : a < n) : tk_G (tk_T g n) a ↔ tk_G (fun i => (g i).toInt) a := by
  unfold tk_G
  rw [tk_T.at h, tk_T.at (show a - 1 < n by omega)]
theorem tk_run {T : Nat → Int} {n p e : Nat} (h : tk_E T n p e) (hd : tk_D (T p)) : ∀ k, p + k < e → tk_D (T (p + k)) := by
  intro k
  induction k with
  | zero => intro _; exact hd
  | succ k ih =>
    intro hk
    have w := ih (by omega)
    have g := (h.2.2.1 (p + (k + 1)) (by omega) hk).2
    rw [show p + (k + 1) - 1 = p + k by omega] at g
    rcases g with q | q
    · have q := q.1
      unfold tk_L at q
      unfold tk_D at w
      omega
    · exact q.2
theorem tk_nub {T : Nat → Int} {p : Nat} : ∀ k, k ≤ 4 → (∀ j, j < k → tk_D (T (p + j))) → 0 ≤ tk_nu T p k ∧ tk_nu T p k ≤ 9999 := by
  have key : ∀ k, (∀ j, j < k → tk_D (T (p + j))) → 0 ≤ tk_nu T p k ∧ tk_nu T p k + 1 ≤ 10 ^ k := by
    intro k
    induction k with
    | zero => intro _; exact ⟨Int.le_refl _, Int.le_refl _⟩
    | succ k ih =>
      intro h
      have w := ih (fun j hj => h j (by omega))
      have d : 48 ≤ T (p + k) ∧ T (p + k) ≤ 57 := h k (Nat.lt_succ_self _)
      show 0 ≤ tk_nu T p k * 10 + (T (p + k) - 48) ∧ tk_nu T p k * 10 + (T (p + k) - 48) + 1 ≤ 10 ^ (k + 1)
      rw [Int.pow_succ]
      omega
  intro k hk h
  have w := key k h
  have : k = 0 ∨ k = 1 ∨ k = 2 ∨ k = 3 ∨ k = 4 := by omega
  rcases this with q | q | q | q | q <;> subst q <;> refine ⟨w.1, ?_⟩ <;> have w2 := w.2 <;> simp only [Int.reducePow] at w2 <;> omega
set_option maxHeartbeats 4000000 in
set_option maxRecDepth 100000 in
theorem e_X10_isDigit (l : Launch) (D : va_G) (tys : List (ClassId × FieldType)) (base : Nat) (G : iv_G) (x_0 : Int32) (i_x_0 : iv_R (-2147483648) 2147483647 x_0) : Met l yX10_isDigit (Cond.code yX10_isDigit cX10_isDigit 1 (some .boolean) :: iv_W0) ({ frames := 0, cells := 0, slots := 0, locals := 0 }) (iv_Pc iv_sh D classes tys base G [.int x_0]) (iv_Qi iv_sh D classes tys base (fun v G' => G = G' ∧ iv_R 0 1 v ∧ (¬ v = 0 → iv_R 48 57 x_0) ∧ (¬ v = 0 ↔ (48 ≤ x_0.toInt ∧ x_0.toInt ≤ 57)))) 0 0 (iv_A base) := by
  refine iv_head (by decide) (Nat.le_of_ble_eq_true rfl) ?_
  intro p e s m args below meth c ls X hr hlocks hname hB hl
  have X := X
  have hx := X.1.1
  have hb := X.1.2.1
  have hl : lv_has ls 1 [(0, .int x_0)] := hl
  refine lv_iload_n hx hb dX10_isDigit_0 rfl (lv_at hl 0 rfl) ?_
  refine lv_bipush (v := 48) hx hb dX10_isDigit_1 (by decide) ?_
  refine lv_icmp_lt (tgt := 16) hx hb dX10_isDigit_3 (by decide) (fun c1 => ?_) (fun c1 => ?_)
  · skip
    have i1_x_0 : iv_R (-2147483648) 47 x_0 := (i_x_0.cutHi (n := 47) (iv_lt_r c1 q_48 (by decide)))
    refine lv_iconst (v := 0) hx hb dX10_isDigit_16 (by decide) ?_
    exact iv_zret X hr hlocks hB (q_0.wk (by decide)) ⟨rfl, (q_0.wk (by decide)), fun h => absurd (iv_z q_0) h, (⟨fun h => absurd rfl h, fun h => by have w1 := Int32.lt_iff_toInt_lt.mp c1; have w2 := i1_x_0.1; have w3 := i1_x_0.2; have e0 : (0 : Int32).toInt = 0 := rfl; have e1 : (1 : Int32).toInt = 1 := rfl; have e48 : (48 : Int32).toInt = 48 := rfl; omega⟩)⟩ dX10_isDigit_17
  · skip
    have i2_x_0 : iv_R 48 2147483647 x_0 := (i_x_0.cutLo (n := 48) (iv_le_l (iv_nlt c1) q_48))
    refine lv_iload_n hx hb dX10_isDigit_6 rfl (lv_at hl 0 rfl) ?_
    refine lv_bipush (v := 57) hx hb dX10_isDigit_7 (by decide) ?_
    refine lv_icmp_gt (tgt := 16) hx hb dX10_isDigit_9 (by decide) (fun c4 => ?_) (fun c4 => ?_)
    · skip
      have i4_x_0 : iv_R 58 2147483647 x_0 := (i2_x_0.cutLo (n := 58) (iv_lt_l c4 q_57 (by decide)))
      refine lv_iconst (v := 0) hx hb dX10_isDigit_16 (by decide) ?_
      exact iv_zret X hr hlocks hB (q_0.wk (by decide)) ⟨rfl, (q_0.wk (by decide)), fun h => absurd (iv_z q_0) h, (⟨fun h => absurd rfl h, fun h => by have w1 := mt Int32.lt_iff_toInt_lt.mpr c1; have w2 := Int32.lt_iff_toInt_lt.mp c4; have w3 := i4_x_0.1; have w4 := i4_x_0.2; have e0 : (0 : Int32).toInt = 0 := rfl; have e1 : (1 : Int32).toInt = 1 := rfl; have e48 : (48 : Int32).toInt = 48 := rfl; have e57 : (57 : Int32).toInt = 57 := rfl; omega⟩)⟩ dX10_isDigit_17
    · skip
      have i5_x_0 : iv_R 48 57 x_0 := (i2_x_0.cutHi (n := 57) (iv_le_r (iv_nlt c4) q_57))
      refine lv_iconst (v := 1) hx hb dX10_isDigit_12 (by decide) ?_
      refine lv_goto (tgt := 17) hx hb dX10_isDigit_13 (by decide) ?_
      exact iv_zret X hr hlocks hB (q_1.wk (by decide)) ⟨rfl, (q_1.wk (by decide)), fun _ => i5_x_0, (⟨fun _ => by have w1 := mt Int32.lt_iff_toInt_lt.mpr c1; have w2 := mt Int32.lt_iff_toInt_lt.mpr c4; have w3 := i5_x_0.1; have w4 := i5_x_0.2; have e0 : (0 : Int32).toInt = 0 := rfl; have e1 : (1 : Int32).toInt = 1 := rfl; have e48 : (48 : Int32).toInt = 48 := rfl; have e57 : (57 : Int32).toInt = 57 := rfl; omega, fun _ => by decide⟩)⟩ dX10_isDigit_17
set_option maxHeartbeats 4000000 in
set_option maxRecDepth 100000 in
theorem e_X10_isLetter (l : Launch) (D : va_G) (tys : List (ClassId × FieldType)) (base : Nat) (G : iv_G) (x_0 : Int32) (i_x_0 : iv_R (-2147483648) 2147483647 x_0) : Met l yX10_isLetter (Cond.code yX10_isLetter cX10_isLetter 1 (some .boolean) :: iv_W0) ({ frames := 0, cells := 0, slots := 0, locals := 0 }) (iv_Pc iv_sh D classes tys base G [.int x_0]) (iv_Qi iv_sh D classes tys base (fun v G' => G = G' ∧ iv_R 0 1 v ∧ (¬ v = 0 → iv_R 65 122 x_0) ∧ (¬ v = 0 ↔ ((97 ≤ x_0.toInt ∧ x_0.toInt ≤ 122) ∨ (65 ≤ x_0.toInt ∧ x_0.toInt ≤ 90))))) 0 0 (iv_A base) := by
  refine iv_head (by decide) (Nat.le_of_ble_eq_true rfl) ?_
  intro p e s m args below meth c ls X hr hlocks hname hB hl
  have X := X
  have hx := X.1.1
  have hb := X.1.2.1
  have hl : lv_has ls 1 [(0, .int x_0)] := hl
  refine lv_iload_n hx hb dX10_isLetter_0 rfl (lv_at hl 0 rfl) ?_
  refine lv_bipush (v := 97) hx hb dX10_isLetter_1 (by decide) ?_
  refine lv_icmp_lt (tgt := 12) hx hb dX10_isLetter_3 (by decide) (fun c1 => ?_) (fun c1 => ?_)
  · skip
    have i1_x_0 : iv_R (-2147483648) 96 x_0 := (i_x_0.cutHi (n := 96) (iv_lt_r c1 q_97 (by decide)))
    refine lv_iload_n hx hb dX10_isLetter_12 rfl (lv_at hl 0 rfl) ?_
    refine lv_bipush (v := 65) hx hb dX10_isLetter_13 (by decide) ?_
    refine lv_icmp_lt (tgt := 28) hx hb dX10_isLetter_15 (by decide) (fun c3 => ?_) (fun c3 => ?_)
    · skip
      have i3_x_0 : iv_R (-2147483648) 64 x_0 := (i1_x_0.cutHi (n := 64) (iv_lt_r c3 q_65 (by decide)))
      refine lv_iconst (v := 0) hx hb dX10_isLetter_28 (by decide) ?_
      exact iv_zret X hr hlocks hB (q_0.wk (by decide)) ⟨rfl, (q_0.wk (by decide)), fun h => absurd (iv_z q_0) h, (⟨fun h => absurd rfl h, fun h => by have w1 := Int32.lt_iff_toInt_lt.mp c1; have w2 := Int32.lt_iff_toInt_lt.mp c3; have w3 := i3_x_0.1; have w4 := i3_x_0.2; have e0 : (0 : Int32).toInt = 0 := rfl; have e1 : (1 : Int32).toInt = 1 := rfl; have e65 : (65 : Int32).toInt = 65 := rfl; have e97 : (97 : Int32).toInt = 97 := rfl; omega⟩)⟩ dX10_isLetter_29
    · skip
      have i4_x_0 : iv_R 65 96 x_0 := (i1_x_0.cutLo (n := 65) (iv_le_l (iv_nlt c3) q_65))
      refine lv_iload_n hx hb dX10_isLetter_18 rfl (lv_at hl 0 rfl) ?_
      refine lv_bipush (v := 90) hx hb dX10_isLetter_19 (by decide) ?_
      refine lv_icmp_gt (tgt := 28) hx hb dX10_isLetter_21 (by decide) (fun c6 => ?_) (fun c6 => ?_)
      · skip
        have i6_x_0 : iv_R 91 96 x_0 := (i4_x_0.cutLo (n := 91) (iv_lt_l c6 q_90 (by decide)))
        refine lv_iconst (v := 0) hx hb dX10_isLetter_28 (by decide) ?_
        exact iv_zret X hr hlocks hB (q_0.wk (by decide)) ⟨rfl, (q_0.wk (by decide)), fun _ => (i6_x_0.wk (by decide)), (⟨fun h => absurd rfl h, fun h => by have w1 := Int32.lt_iff_toInt_lt.mp c1; have w2 := mt Int32.lt_iff_toInt_lt.mpr c3; have w3 := Int32.lt_iff_toInt_lt.mp c6; have w4 := i6_x_0.1; have w5 := i6_x_0.2; have e0 : (0 : Int32).toInt = 0 := rfl; have e1 : (1 : Int32).toInt = 1 := rfl; have e65 : (65 : Int32).toInt = 65 := rfl; have e90 : (90 : Int32).toInt = 90 := rfl; have e97 : (97 : Int32).toInt = 97 := rfl; omega⟩)⟩ dX10_isLetter_29
      · skip
        have i7_x_0 : iv_R 65 90 x_0 := (i4_x_0.cutHi (n := 90) (iv_le_r (iv_nlt c6) q_90))
        refine lv_iconst (v := 1) hx hb dX10_isLetter_24 (by decide) ?_
        refine lv_goto (tgt := 29) hx hb dX10_isLetter_25 (by decide) ?_
        exact iv_zret X hr hlocks hB (q_1.wk (by decide)) ⟨rfl, (q_1.wk (by decide)), fun _ => (i7_x_0.wk (by decide)), (⟨fun _ => by have w1 := Int32.lt_iff_toInt_lt.mp c1; have w2 := mt Int32.lt_iff_toInt_lt.mpr c3; have w3 := mt Int32.lt_iff_toInt_lt.mpr c6; have w4 := i7_x_0.1; have w5 := i7_x_0.2; have e0 : (0 : Int32).toInt = 0 := rfl; have e1 : (1 : Int32).toInt = 1 := rfl; have e65 : (65 : Int32).toInt = 65 := rfl; have e90 : (90 : Int32).toInt = 90 := rfl; have e97 : (97 : Int32).toInt = 97 := rfl; omega, fun _ => by decide⟩)⟩ dX10_isLetter_29
  · skip
    have i8_x_0 : iv_R 97 2147483647 x_0 := (i_x_0.cutLo (n := 97) (iv_le_l (iv_nlt c1) q_97))
    refine lv_iload_n hx hb dX10_isLetter_6 rfl (lv_at hl 0 rfl) ?_
    refine lv_bipush (v := 122) hx hb dX10_isLetter_7 (by decide) ?_
    refine lv_icmp_le (tgt := 24) hx hb dX10_isLetter_9 (by decide) (fun c10 => ?_) (fun c10 => ?_)
    · skip
      have i10_x_0 : iv_R 97 122 x_0 := (i8_x_0.cutHi (n := 122) (iv_le_r c10 q_122))
      refine lv_iconst (v := 1) hx hb dX10_isLetter_24 (by decide) ?_
      refine lv_goto (tgt := 29) hx hb dX10_isLetter_25 (by decide) ?_
      exact iv_zret X hr hlocks hB (q_1.wk (by decide)) ⟨rfl, (q_1.wk (by decide)), fun _ => (i10_x_0.wk (by decide)), (⟨fun _ => by have w1 := mt Int32.lt_iff_toInt_lt.mpr c1; have w2 := Int32.le_iff_toInt_le.mp c10; have w3 := i10_x_0.1; have w4 := i10_x_0.2; have e0 : (0 : Int32).toInt = 0 := rfl; have e1 : (1 : Int32).toInt = 1 := rfl; have e65 : (65 : Int32).toInt = 65 := rfl; have e90 : (90 : Int32).toInt = 90 := rfl; have e97 : (97 : Int32).toInt = 97 := rfl; have e122 : (122 : Int32).toInt = 122 := rfl; omega, fun _ => by decide⟩)⟩ dX10_isLetter_29
    · skip
      have i11_x_0 : iv_R 123 2147483647 x_0 := (i8_x_0.cutLo (n := 123) (iv_lt_l (iv_nle c10) q_122 (by decide)))
      refine lv_iload_n hx hb dX10_isLetter_12 rfl (lv_at hl 0 rfl) ?_
      refine lv_bipush (v := 65) hx hb dX10_isLetter_13 (by decide) ?_
      refine lv_icmp_lt (tgt := 28) hx hb dX10_isLetter_15 (by decide) (fun c13 => ?_) (fun c13 => ?_)
      · skip
        exact (i11_x_0.cutHi (n := 64) (iv_lt_r c13 q_65 (by decide))).no (by decide)
      · skip
        refine lv_iload_n hx hb dX10_isLetter_18 rfl (lv_at hl 0 rfl) ?_
        refine lv_bipush (v := 90) hx hb dX10_isLetter_19 (by decide) ?_
        refine lv_icmp_gt (tgt := 28) hx hb dX10_isLetter_21 (by decide) (fun c14 => ?_) (fun c14 => ?_)
        · skip
          refine lv_iconst (v := 0) hx hb dX10_isLetter_28 (by decide) ?_
          exact iv_zret X hr hlocks hB (q_0.wk (by decide)) ⟨rfl, (q_0.wk (by decide)), fun h => absurd (iv_z q_0) h, (⟨fun h => absurd rfl h, fun h => by have w1 := mt Int32.lt_iff_toInt_lt.mpr c1; have w2 := mt Int32.le_iff_toInt_le.mpr c10; have w3 := i11_x_0.1; have w4 := i11_x_0.2; have w5 := mt Int32.lt_iff_toInt_lt.mpr c13; have w6 := Int32.lt_iff_toInt_lt.mp c14; have e0 : (0 : Int32).toInt = 0 := rfl; have e1 : (1 : Int32).toInt = 1 := rfl; have e65 : (65 : Int32).toInt = 65 := rfl; have e90 : (90 : Int32).toInt = 90 := rfl; have e97 : (97 : Int32).toInt = 97 := rfl; have e122 : (122 : Int32).toInt = 122 := rfl; omega⟩)⟩ dX10_isLetter_29
        · skip
          exact (i11_x_0.cutHi (n := 90) (iv_le_r (iv_nlt c14) q_90)).no (by decide)
set_option maxHeartbeats 4000000 in
set_option maxRecDepth 100000 in
theorem e_X10_goesOn (l : Launch) (D : va_G) (tys : List (ClassId × FieldType)) (base : Nat) (G : iv_G) (h1 : Nat) (g_h1 : Nat → Int32) (r_h1 : Nat → Nat) (a_h1 : G h1 = some (45, g_h1, r_h1)) (x_1 : Int32) (i_x_1 : iv_R 0 399 x_1) : Met l yX10_goesOn (Cond.code yX10_goesOn cX10_goesOn 3 (some .boolean) :: iv_W0) ({ frames := 1, cells := 0, slots := 0, locals := 20 }) (iv_Pc iv_sh D classes tys base G [.ref h1, .int x_1]) (iv_Qi iv_sh D classes tys base (fun v G' => G = G' ∧ iv_R 0 1 v ∧ (¬ v = 0 → iv_R 1 399 x_1) ∧ (¬ v = 0 ↔ 1 ≤ x_1.toInt.toNat ∧ ((((97 ≤ (g_h1 (x_1.toInt.toNat - 1)).toInt ∧ (g_h1 (x_1.toInt.toNat - 1)).toInt ≤ 122) ∨ (65 ≤ (g_h1 (x_1.toInt.toNat - 1)).toInt ∧ (g_h1 (x_1.toInt.toNat - 1)).toInt ≤ 90)) ∧ ((97 ≤ (g_h1 x_1.toInt.toNat).toInt ∧ (g_h1 x_1.toInt.toNat).toInt ≤ 122) ∨ (65 ≤ (g_h1 x_1.toInt.toNat).toInt ∧ (g_h1 x_1.toInt.toNat).toInt ≤ 90))) ∨ ((48 ≤ (g_h1 (x_1.toInt.toNat - 1)).toInt ∧ (g_h1 (x_1.toInt.toNat - 1)).toInt ≤ 57) ∧ (48 ≤ (g_h1 x_1.toInt.toNat).toInt ∧ (g_h1 x_1.toInt.toNat).toInt ≤ 57)))))) 0 0 (iv_A base) := by
  refine iv_head (by decide) (Nat.le_of_ble_eq_true rfl) ?_
  intro p e s m args below meth c ls X hr hlocks hname hB hl
  have X := X
  have hx := X.1.1
  have hb := X.1.2.1
  have hl : lv_has ls 3 [(0, .ref h1), (1, .int x_1)] := hl
  refine lv_iload_n hx hb dX10_goesOn_0 rfl (lv_at hl 1 rfl) ?_
  refine lv_if_ne (tgt := 6) hx hb dX10_goesOn_1 (by decide) (fun c1 => ?_) (fun c1 => ?_)
  · skip
    have i1_x_1 : iv_R 1 399 x_1 := iv_ne_lo c1 i_x_1 q_0 (by decide)
    refine lv_aload_n hx hb dX10_goesOn_6 rfl (lv_at hl 0 rfl) ?_
    refine lv_iload_n hx hb dX10_goesOn_7 rfl (lv_at hl 1 rfl) ?_
    refine lv_iconst (v := 1) hx hb dX10_goesOn_8 (by decide) ?_
    refine iv_isub hx hb i1_x_1 q_1 (lo := 0) (hi := 398) (by decide) dX10_goesOn_9 (fun x3 e_x3 i_x3 => ?_)
    refine iv_ald X hB a_h1 sh_45 (iv_in i_x3 (by decide)) dX10_goesOn_10 (fun x4 e_x4 i_x4 => ?_)
    have u_x4 : x4.toInt = (g_h1 (x_1.toInt.toNat - 1)).toInt := congrArg Int32.toInt ((show x4 = g_h1 x3.toInt.toNat from e_x4).trans (congrArg g_h1 (show x3.toInt.toNat = x_1.toInt.toNat - 1 from by have w1 : x3.toInt = x_1.toInt - 1 := e_x3; have w2 := i1_x_1.1; omega)))
    refine iv_cSi X k_good k_mf_X10_isLetter k_st_X10_isLetter k_ml_X10_35 hB (As := [.int x4]) (e_X10_isLetter l D tys base G x4 i_x4) ⟨rfl, rfl⟩ ⟨Nat.le_of_ble_eq_true rfl, Nat.le_of_ble_eq_true rfl⟩ ⟨Nat.le_of_ble_eq_true rfl, Nat.le_of_ble_eq_true rfl⟩ rfl rfl hl.1 (Nat.le_of_ble_eq_true rfl) dX10_goesOn_11 (fun x5 G9 H locs hq hB => ?_)
    obtain ⟨rfl, i_x5, hp6, ex_x5⟩ := hq
    refine lv_if_eq (tgt := 30) hx hb dX10_goesOn_14 (by decide) (fun c7 => ?_) (fun c7 => ?_)
    · skip
      have i7_x5 : iv_R 0 0 x5 := (i_x5.cutHi (n := 0) (iv_eq_r c7 q_0).2)
      refine lv_iconst (v := 0) hx hb dX10_goesOn_30 (by decide) ?_
      refine lv_istore_n (lv' := [(2, .int 0), (0, .ref h1), (1, .int x_1)]) hx hb dX10_goesOn_31 rfl hl (by decide) rfl (fun ls hl => ?_)
      refine lv_iload_n hx hb dX10_goesOn_32 rfl (lv_at hl 0 rfl) ?_
      refine lv_if_ne (tgt := 56) hx hb dX10_goesOn_33 (by decide) (fun c9 => ?_) (fun c9 => ?_)
      · skip
        exact absurd rfl c9
      · skip
        refine lv_aload_n hx hb dX10_goesOn_36 rfl (lv_at hl 1 rfl) ?_
        refine lv_iload_n hx hb dX10_goesOn_37 rfl (lv_at hl 2 rfl) ?_
        refine lv_iconst (v := 1) hx hb dX10_goesOn_38 (by decide) ?_
        refine iv_isub hx hb i1_x_1 q_1 (lo := 0) (hi := 398) (by decide) dX10_goesOn_39 (fun x10 e_x10 i_x10 => ?_)
        refine iv_ald X hB a_h1 sh_45 (iv_in i_x10 (by decide)) dX10_goesOn_40 (fun x11 e_x11 i_x11 => ?_)
        have u_x11 : x11.toInt = (g_h1 (x_1.toInt.toNat - 1)).toInt := congrArg Int32.toInt ((show x11 = g_h1 x10.toInt.toNat from e_x11).trans (congrArg g_h1 (show x10.toInt.toNat = x_1.toInt.toNat - 1 from by have w1 : x10.toInt = x_1.toInt - 1 := e_x10; have w2 := i1_x_1.1; omega)))
        refine iv_cSi X k_good k_mf_X10_isDigit k_st_X10_isDigit k_ml_X10_39 hB (As := [.int x11]) (e_X10_isDigit l D tys base G x11 i_x11) ⟨rfl, rfl⟩ ⟨Nat.le_of_ble_eq_true rfl, Nat.le_of_ble_eq_true rfl⟩ ⟨Nat.le_of_ble_eq_true rfl, Nat.le_of_ble_eq_true rfl⟩ rfl rfl hl.1 (Nat.le_of_ble_eq_true rfl) dX10_goesOn_41 (fun x12 G9 H locs hq hB => ?_)
        obtain ⟨rfl, i_x12, hp13, ex_x12⟩ := hq
        refine lv_if_eq (tgt := 60) hx hb dX10_goesOn_44 (by decide) (fun c14 => ?_) (fun c14 => ?_)
        · skip
          have i14_x12 : iv_R 0 0 x12 := (i_x12.cutHi (n := 0) (iv_eq_r c14 q_0).2)
          refine lv_iconst (v := 0) hx hb dX10_goesOn_60 (by decide) ?_
          exact iv_zret X hr hlocks hB (q_0.wk (by decide)) ⟨rfl, (q_0.wk (by decide)), fun _ => i1_x_1, (⟨fun h => absurd rfl h, fun h => by have w1 := mt Int32.toInt_inj.mp c1; have w2 := i1_x_1.1; have w3 := i1_x_1.2; have w4 := congrArg Int32.toInt e_x4; have w5 := congrArg Int32.toInt c7; have w6 := (mt (ex_x5).mpr (fun q => q c7)); have w7 := i7_x5.1; have w8 := i7_x5.2; have w9 := congrArg Int32.toInt c9; have w10 := congrArg Int32.toInt e_x11; have w11 := congrArg Int32.toInt c14; have w12 := (mt (ex_x12).mpr (fun q => q c14)); have w13 := i14_x12.1; have w14 := i14_x12.2; have e0 : (0 : Int32).toInt = 0 := rfl; have e1 : (1 : Int32).toInt = 1 := rfl; omega⟩)⟩ dX10_goesOn_61
        · skip
          have i15_x12 : iv_R 1 1 x12 := iv_ne_lo c14 i_x12 q_0 (by decide)
          have i16_x11 : iv_R 48 57 x11 := ((i_x11.cutLo (n := 48) (hp13 c14).1).cutHi (n := 57) (hp13 c14).2)
          refine lv_aload_n hx hb dX10_goesOn_47 rfl (lv_at hl 1 rfl) ?_
          refine lv_iload_n hx hb dX10_goesOn_48 rfl (lv_at hl 2 rfl) ?_
          refine iv_ald X hB a_h1 sh_45 (iv_in i1_x_1 (by decide)) dX10_goesOn_49 (fun x18 e_x18 i_x18 => ?_)
          have u_x18 : x18.toInt = (g_h1 x_1.toInt.toNat).toInt := congrArg Int32.toInt (show x18 = g_h1 x_1.toInt.toNat from e_x18)
          refine iv_cSi X k_good k_mf_X10_isDigit k_st_X10_isDigit k_ml_X10_39 hB (As := [.int x18]) (e_X10_isDigit l D tys base G x18 i_x18) ⟨rfl, rfl⟩ ⟨Nat.le_of_ble_eq_true rfl, Nat.le_of_ble_eq_true rfl⟩ ⟨Nat.le_of_ble_eq_true rfl, Nat.le_of_ble_eq_true rfl⟩ rfl rfl hl.1 (Nat.le_of_ble_eq_true rfl) dX10_goesOn_50 (fun x19 G9 H locs hq hB => ?_)
          obtain ⟨rfl, i_x19, hp20, ex_x19⟩ := hq
          refine lv_if_eq (tgt := 60) hx hb dX10_goesOn_53 (by decide) (fun c21 => ?_) (fun c21 => ?_)
          · skip
            have i21_x19 : iv_R 0 0 x19 := (i_x19.cutHi (n := 0) (iv_eq_r c21 q_0).2)
            refine lv_iconst (v := 0) hx hb dX10_goesOn_60 (by decide) ?_
            exact iv_zret X hr hlocks hB (q_0.wk (by decide)) ⟨rfl, (q_0.wk (by decide)), fun _ => i1_x_1, (⟨fun h => absurd rfl h, fun h => by have w1 := mt Int32.toInt_inj.mp c1; have w2 := i1_x_1.1; have w3 := i1_x_1.2; have w4 := congrArg Int32.toInt e_x4; have w5 := congrArg Int32.toInt c7; have w6 := (mt (ex_x5).mpr (fun q => q c7)); have w7 := i7_x5.1; have w8 := i7_x5.2; have w9 := congrArg Int32.toInt c9; have w10 := congrArg Int32.toInt e_x11; have w11 := mt Int32.toInt_inj.mp c14; have w12 := (ex_x12).mp c14; have w13 := i15_x12.1; have w14 := i15_x12.2; have w15 := i16_x11.1; have w16 := i16_x11.2; have w17 := congrArg Int32.toInt e_x18; have w18 := congrArg Int32.toInt c21; have w19 := (mt (ex_x19).mpr (fun q => q c21)); have w20 := i21_x19.1; have w21 := i21_x19.2; have e0 : (0 : Int32).toInt = 0 := rfl; have e1 : (1 : Int32).toInt = 1 := rfl; omega⟩)⟩ dX10_goesOn_61
          · skip
            have i22_x19 : iv_R 1 1 x19 := iv_ne_lo c21 i_x19 q_0 (by decide)
            have i23_x18 : iv_R 48 57 x18 := ((i_x18.cutLo (n := 48) (hp20 c21).1).cutHi (n := 57) (hp20 c21).2)
            refine lv_iconst (v := 1) hx hb dX10_goesOn_56 (by decide) ?_
            refine lv_goto (tgt := 61) hx hb dX10_goesOn_57 (by decide) ?_
            exact iv_zret X hr hlocks hB (q_1.wk (by decide)) ⟨rfl, (q_1.wk (by decide)), fun _ => i1_x_1, (⟨fun _ => by have w1 := mt Int32.toInt_inj.mp c1; have w2 := i1_x_1.1; have w3 := i1_x_1.2; have w4 := congrArg Int32.toInt e_x4; have w5 := congrArg Int32.toInt c7; have w6 := (mt (ex_x5).mpr (fun q => q c7)); have w7 := i7_x5.1; have w8 := i7_x5.2; have w9 := congrArg Int32.toInt c9; have w10 := congrArg Int32.toInt e_x11; have w11 := mt Int32.toInt_inj.mp c14; have w12 := (ex_x12).mp c14; have w13 := i15_x12.1; have w14 := i15_x12.2; have w15 := i16_x11.1; have w16 := i16_x11.2; have w17 := congrArg Int32.toInt e_x18; have w18 := mt Int32.toInt_inj.mp c21; have w19 := (ex_x19).mp c21; have w20 := i22_x19.1; have w21 := i22_x19.2; have w22 := i23_x18.1; have w23 := i23_x18.2; have e0 : (0 : Int32).toInt = 0 := rfl; have e1 : (1 : Int32).toInt = 1 := rfl; omega, fun _ => by decide⟩)⟩ dX10_goesOn_61
    · skip
      have i24_x5 : iv_R 1 1 x5 := iv_ne_lo c7 i_x5 q_0 (by decide)
      have i25_x4 : iv_R 65 122 x4 := ((i_x4.cutLo (n := 65) (hp6 c7).1).cutHi (n := 122) (hp6 c7).2)
      refine lv_aload_n hx hb dX10_goesOn_17 rfl (lv_at hl 0 rfl) ?_
      refine lv_iload_n hx hb dX10_goesOn_18 rfl (lv_at hl 1 rfl) ?_
      refine iv_ald X hB a_h1 sh_45 (iv_in i1_x_1 (by decide)) dX10_goesOn_19 (fun x27 e_x27 i_x27 => ?_)
      have u_x27 : x27.toInt = (g_h1 x_1.toInt.toNat).toInt := congrArg Int32.toInt (show x27 = g_h1 x_1.toInt.toNat from e_x27)
      refine iv_cSi X k_good k_mf_X10_isLetter k_st_X10_isLetter k_ml_X10_35 hB (As := [.int x27]) (e_X10_isLetter l D tys base G x27 i_x27) ⟨rfl, rfl⟩ ⟨Nat.le_of_ble_eq_true rfl, Nat.le_of_ble_eq_true rfl⟩ ⟨Nat.le_of_ble_eq_true rfl, Nat.le_of_ble_eq_true rfl⟩ rfl rfl hl.1 (Nat.le_of_ble_eq_true rfl) dX10_goesOn_20 (fun x28 G9 H locs hq hB => ?_)
      obtain ⟨rfl, i_x28, hp29, ex_x28⟩ := hq
      refine lv_if_eq (tgt := 30) hx hb dX10_goesOn_23 (by decide) (fun c30 => ?_) (fun c30 => ?_)
      · skip
        have i30_x28 : iv_R 0 0 x28 := (i_x28.cutHi (n := 0) (iv_eq_r c30 q_0).2)
        refine lv_iconst (v := 0) hx hb dX10_goesOn_30 (by decide) ?_
        refine lv_istore_n (lv' := [(2, .int 0), (0, .ref h1), (1, .int x_1)]) hx hb dX10_goesOn_31 rfl hl (by decide) rfl (fun ls hl => ?_)
        refine lv_iload_n hx hb dX10_goesOn_32 rfl (lv_at hl 0 rfl) ?_
        refine lv_if_ne (tgt := 56) hx hb dX10_goesOn_33 (by decide) (fun c32 => ?_) (fun c32 => ?_)
        · skip
          exact absurd rfl c32
        · skip
          refine lv_aload_n hx hb dX10_goesOn_36 rfl (lv_at hl 1 rfl) ?_
          refine lv_iload_n hx hb dX10_goesOn_37 rfl (lv_at hl 2 rfl) ?_
          refine lv_iconst (v := 1) hx hb dX10_goesOn_38 (by decide) ?_
          refine iv_isub hx hb i1_x_1 q_1 (lo := 0) (hi := 398) (by decide) dX10_goesOn_39 (fun x33 e_x33 i_x33 => ?_)
          refine iv_ald X hB a_h1 sh_45 (iv_in i_x33 (by decide)) dX10_goesOn_40 (fun x34 e_x34 i_x34 => ?_)
          have u_x34 : x34.toInt = (g_h1 (x_1.toInt.toNat - 1)).toInt := congrArg Int32.toInt ((show x34 = g_h1 x33.toInt.toNat from e_x34).trans (congrArg g_h1 (show x33.toInt.toNat = x_1.toInt.toNat - 1 from by have w1 : x33.toInt = x_1.toInt - 1 := e_x33; have w2 := i1_x_1.1; omega)))
          refine iv_cSi X k_good k_mf_X10_isDigit k_st_X10_isDigit k_ml_X10_39 hB (As := [.int x34]) (e_X10_isDigit l D tys base G x34 i_x34) ⟨rfl, rfl⟩ ⟨Nat.le_of_ble_eq_true rfl, Nat.le_of_ble_eq_true rfl⟩ ⟨Nat.le_of_ble_eq_true rfl, Nat.le_of_ble_eq_true rfl⟩ rfl rfl hl.1 (Nat.le_of_ble_eq_true rfl) dX10_goesOn_41 (fun x35 G9 H locs hq hB => ?_)
          obtain ⟨rfl, i_x35, hp36, ex_x35⟩ := hq
          refine lv_if_eq (tgt := 60) hx hb dX10_goesOn_44 (by decide) (fun c37 => ?_) (fun c37 => ?_)
          · skip
            have i37_x35 : iv_R 0 0 x35 := (i_x35.cutHi (n := 0) (iv_eq_r c37 q_0).2)
            refine lv_iconst (v := 0) hx hb dX10_goesOn_60 (by decide) ?_
            exact iv_zret X hr hlocks hB (q_0.wk (by decide)) ⟨rfl, (q_0.wk (by decide)), fun _ => i1_x_1, (⟨fun h => absurd rfl h, fun h => by have w1 := mt Int32.toInt_inj.mp c1; have w2 := i1_x_1.1; have w3 := i1_x_1.2; have w4 := congrArg Int32.toInt e_x4; have w5 := mt Int32.toInt_inj.mp c7; have w6 := (ex_x5).mp c7; have w7 := i24_x5.1; have w8 := i24_x5.2; have w9 := i25_x4.1; have w10 := i25_x4.2; have w11 := congrArg Int32.toInt e_x27; have w12 := congrArg Int32.toInt c30; have w13 := (mt (ex_x28).mpr (fun q => q c30)); have w14 := i30_x28.1; have w15 := i30_x28.2; have w16 := congrArg Int32.toInt c32; have w17 := congrArg Int32.toInt e_x34; have w18 := congrArg Int32.toInt c37; have w19 := (mt (ex_x35).mpr (fun q => q c37)); have w20 := i37_x35.1; have w21 := i37_x35.2; have e0 : (0 : Int32).toInt = 0 := rfl; have e1 : (1 : Int32).toInt = 1 := rfl; omega⟩)⟩ dX10_goesOn_61
          · skip
            have i38_x35 : iv_R 1 1 x35 := iv_ne_lo c37 i_x35 q_0 (by decide)
            have i39_x34 : iv_R 48 57 x34 := ((i_x34.cutLo (n := 48) (hp36 c37).1).cutHi (n := 57) (hp36 c37).2)
            refine lv_aload_n hx hb dX10_goesOn_47 rfl (lv_at hl 1 rfl) ?_
            refine lv_iload_n hx hb dX10_goesOn_48 rfl (lv_at hl 2 rfl) ?_
            refine iv_ald X hB a_h1 sh_45 (iv_in i1_x_1 (by decide)) dX10_goesOn_49 (fun x41 e_x41 i_x41 => ?_)
            have u_x41 : x41.toInt = (g_h1 x_1.toInt.toNat).toInt := congrArg Int32.toInt (show x41 = g_h1 x_1.toInt.toNat from e_x41)
            refine iv_cSi X k_good k_mf_X10_isDigit k_st_X10_isDigit k_ml_X10_39 hB (As := [.int x41]) (e_X10_isDigit l D tys base G x41 i_x41) ⟨rfl, rfl⟩ ⟨Nat.le_of_ble_eq_true rfl, Nat.le_of_ble_eq_true rfl⟩ ⟨Nat.le_of_ble_eq_true rfl, Nat.le_of_ble_eq_true rfl⟩ rfl rfl hl.1 (Nat.le_of_ble_eq_true rfl) dX10_goesOn_50 (fun x42 G9 H locs hq hB => ?_)
            obtain ⟨rfl, i_x42, hp43, ex_x42⟩ := hq
            refine lv_if_eq (tgt := 60) hx hb dX10_goesOn_53 (by decide) (fun c44 => ?_) (fun c44 => ?_)
            · skip
              have i44_x42 : iv_R 0 0 x42 := (i_x42.cutHi (n := 0) (iv_eq_r c44 q_0).2)
              refine lv_iconst (v := 0) hx hb dX10_goesOn_60 (by decide) ?_
              exact iv_zret X hr hlocks hB (q_0.wk (by decide)) ⟨rfl, (q_0.wk (by decide)), fun _ => i1_x_1, (⟨fun h => absurd rfl h, fun h => by have w1 := mt Int32.toInt_inj.mp c1; have w2 := i1_x_1.1; have w3 := i1_x_1.2; have w4 := congrArg Int32.toInt e_x4; have w5 := mt Int32.toInt_inj.mp c7; have w6 := (ex_x5).mp c7; have w7 := i24_x5.1; have w8 := i24_x5.2; have w9 := i25_x4.1; have w10 := i25_x4.2; have w11 := congrArg Int32.toInt e_x27; have w12 := congrArg Int32.toInt c30; have w13 := (mt (ex_x28).mpr (fun q => q c30)); have w14 := i30_x28.1; have w15 := i30_x28.2; have w16 := congrArg Int32.toInt c32; have w17 := congrArg Int32.toInt e_x34; have w18 := mt Int32.toInt_inj.mp c37; have w19 := (ex_x35).mp c37; have w20 := i38_x35.1; have w21 := i38_x35.2; have w22 := i39_x34.1; have w23 := i39_x34.2; have w24 := congrArg Int32.toInt e_x41; have w25 := congrArg Int32.toInt c44; have w26 := (mt (ex_x42).mpr (fun q => q c44)); have w27 := i44_x42.1; have w28 := i44_x42.2; have e0 : (0 : Int32).toInt = 0 := rfl; have e1 : (1 : Int32).toInt = 1 := rfl; omega⟩)⟩ dX10_goesOn_61
            · skip
              have i45_x42 : iv_R 1 1 x42 := iv_ne_lo c44 i_x42 q_0 (by decide)
              have i46_x41 : iv_R 48 57 x41 := ((i_x41.cutLo (n := 48) (hp43 c44).1).cutHi (n := 57) (hp43 c44).2)
              refine lv_iconst (v := 1) hx hb dX10_goesOn_56 (by decide) ?_
              refine lv_goto (tgt := 61) hx hb dX10_goesOn_57 (by decide) ?_
              exact iv_zret X hr hlocks hB (q_1.wk (by decide)) ⟨rfl, (q_1.wk (by decide)), fun _ => i1_x_1, (⟨fun _ => by have w1 := mt Int32.toInt_inj.mp c1; have w2 := i1_x_1.1; have w3 := i1_x_1.2; have w4 := congrArg Int32.toInt e_x4; have w5 := mt Int32.toInt_inj.mp c7; have w6 := (ex_x5).mp c7; have w7 := i24_x5.1; have w8 := i24_x5.2; have w9 := i25_x4.1; have w10 := i25_x4.2; have w11 := congrArg Int32.toInt e_x27; have w12 := congrArg Int32.toInt c30; have w13 := (mt (ex_x28).mpr (fun q => q c30)); have w14 := i30_x28.1; have w15 := i30_x28.2; have w16 := congrArg Int32.toInt c32; have w17 := congrArg Int32.toInt e_x34; have w18 := mt Int32.toInt_inj.mp c37; have w19 := (ex_x35).mp c37; have w20 := i38_x35.1; have w21 := i38_x35.2; have w22 := i39_x34.1; have w23 := i39_x34.2; have w24 := congrArg Int32.toInt e_x41; have w25 := mt Int32.toInt_inj.mp c44; have w26 := (ex_x42).mp c44; have w27 := i45_x42.1; have w28 := i45_x42.2; have w29 := i46_x41.1; have w30 := i46_x41.2; have e0 : (0 : Int32).toInt = 0 := rfl; have e1 : (1 : Int32).toInt = 1 := rfl; omega, fun _ => by decide⟩)⟩ dX10_goesOn_61
      · skip
        have i47_x28 : iv_R 1 1 x28 := iv_ne_lo c30 i_x28 q_0 (by decide)
        have i48_x27 : iv_R 65 122 x27 := ((i_x27.cutLo (n := 65) (hp29 c30).1).cutHi (n := 122) (hp29 c30).2)
        refine lv_iconst (v := 1) hx hb dX10_goesOn_26 (by decide) ?_
        refine lv_goto (tgt := 31) hx hb dX10_goesOn_27 (by decide) ?_
        refine lv_istore_n (lv' := [(2, .int 1), (0, .ref h1), (1, .int x_1)]) hx hb dX10_goesOn_31 rfl hl (by decide) rfl (fun ls hl => ?_)
        refine lv_iload_n hx hb dX10_goesOn_32 rfl (lv_at hl 0 rfl) ?_
        refine lv_if_ne (tgt := 56) hx hb dX10_goesOn_33 (by decide) (fun c50 => ?_) (fun c50 => ?_)
        · skip
          refine lv_iconst (v := 1) hx hb dX10_goesOn_56 (by decide) ?_
          refine lv_goto (tgt := 61) hx hb dX10_goesOn_57 (by decide) ?_
          exact iv_zret X hr hlocks hB (q_1.wk (by decide)) ⟨rfl, (q_1.wk (by decide)), fun _ => i1_x_1, (⟨fun _ => by have w1 := mt Int32.toInt_inj.mp c1; have w2 := i1_x_1.1; have w3 := i1_x_1.2; have w4 := congrArg Int32.toInt e_x4; have w5 := mt Int32.toInt_inj.mp c7; have w6 := (ex_x5).mp c7; have w7 := i24_x5.1; have w8 := i24_x5.2; have w9 := i25_x4.1; have w10 := i25_x4.2; have w11 := congrArg Int32.toInt e_x27; have w12 := mt Int32.toInt_inj.mp c30; have w13 := (ex_x28).mp c30; have w14 := i47_x28.1; have w15 := i47_x28.2; have w16 := i48_x27.1; have w17 := i48_x27.2; have w18 := mt Int32.toInt_inj.mp c50; have e0 : (0 : Int32).toInt = 0 := rfl; have e1 : (1 : Int32).toInt = 1 := rfl; omega, fun _ => by decide⟩)⟩ dX10_goesOn_61
        · skip
          exact (q_1.cutHi (n := 0) (iv_eq_r c50 q_0).2).no (by decide)
  · skip
    have i50_x_1 : iv_R 0 0 x_1 := (i_x_1.cutHi (n := 0) (iv_eq_r c1 q_0).2)
    refine lv_iconst (v := 0) hx hb dX10_goesOn_4 (by decide) ?_
    exact iv_zret X hr hlocks hB (q_0.wk (by decide)) ⟨rfl, (q_0.wk (by decide)), fun h => absurd (iv_z q_0) h, (⟨fun h => absurd rfl h, fun h => by have w1 := congrArg Int32.toInt c1; have w2 := i50_x_1.1; have w3 := i50_x_1.2; have e0 : (0 : Int32).toInt = 0 := rfl; have e1 : (1 : Int32).toInt = 1 := rfl; omega⟩)⟩ dX10_goesOn_5
set_option maxHeartbeats 4000000 in
set_option maxRecDepth 100000 in
theorem e_X10_behindToken (l : Launch) (D : va_G) (tys : List (ClassId × FieldType)) (base : Nat) (G : iv_G) (h1 : Nat) (g_h1 : Nat → Int32) (r_h1 : Nat → Nat) (a_h1 : G h1 = some (45, g_h1, r_h1)) (x_1 : Int32) (i_x_1 : iv_R 0 399 x_1) (x_2 : Int32) (i_x_2 : iv_R 1 400 x_2) (hlt : x_1.toInt < x_2.toInt) : Met l yX10_behindToken (Cond.code yX10_behindToken cX10_behindToken 4 (some .int) :: iv_W0) ({ frames := 2, cells := 0, slots := 0, locals := 42 }) (iv_Pc iv_sh D classes tys base G [.ref h1, .int x_1, .int x_2]) (iv_Qi iv_sh D classes tys base (fun v G' => G = G' ∧ iv_R 1 400 v ∧ (tk_E (tk_T g_h1 x_2.toInt.toNat) x_2.toInt.toNat x_1.toInt.toNat v.toInt.toNat))) 0 0 (iv_A base) := by
  refine iv_head (by decide) (Nat.le_of_ble_eq_true rfl) ?_
  intro p e s m args below meth c ls X hr hlocks hname hB hl
  have X := X
  have hx := X.1.1
  have hb := X.1.2.1
  have hl : lv_has ls 4 [(0, .ref h1), (1, .int x_1), (2, .int x_2)] := hl
  refine lv_iload_n hx hb dX10_behindToken_0 rfl (lv_at hl 1 rfl) ?_
  refine lv_iconst (v := 1) hx hb dX10_behindToken_1 (by decide) ?_
  refine iv_iadd hx hb i_x_1 q_1 (lo := 1) (hi := 400) (by decide) dX10_behindToken_2 (fun x1 e_x1 i_x1 => ?_)
  refine lv_istore_n (lv' := [(3, .int x1), (0, .ref h1), (1, .int x_1), (2, .int x_2)]) hx hb dX10_behindToken_3 rfl hl (by decide) rfl (fun ls hl => ?_)
  have L_4 : ∀ (n_4 : Nat) (H : Heap) (locs : List Loc) (hB : iv_B iv_sh D classes tys base G s.heap H locs) (x2 : Int32) (i_x2 : iv_R 1 400 x2) (hn_4 : (401 - x2.toInt).toNat < n_4) (gi_4 : x_1.toInt < x2.toInt ∧ x2.toInt ≤ x_2.toInt ∧ ∀ x, x_1.toInt.toNat < x → x < x2.toInt.toNat → tk_G (tk_T g_h1 x_2.toInt.toNat) x) (ls : Array Slot) (hl : lv_has ls 4 [(3, .int x2), (0, .ref h1), (2, .int x_2)]), W p l e ({ frames := 2, cells := 0, slots := 0, locals := 42 } : Room) s m args below meth c H locs 0 0 (MQ below (iv_Qi iv_sh D classes tys base (fun v G' => G = G' ∧ iv_R 1 400 v ∧ (tk_E (tk_T g_h1 x_2.toInt.toNat) x_2.toInt.toNat x_1.toInt.toNat v.toInt.toNat))) args s 0 0 (iv_A base)) (F0 m 4 ls []) := by
    intro n_4
    induction n_4 with
    | zero => intro H locs hB x2 i_x2 hn_4 gi_4 ls hl; exact absurd hn_4 (Nat.not_lt_zero _)
    | succ n_4 ih_4 =>
      intro H locs hB x2 i_x2 hn_4 gi_4 ls hl
      refine lv_iload_n hx hb dX10_behindToken_4 rfl (lv_at hl 0 rfl) ?_
      refine lv_iload_n hx hb dX10_behindToken_5 rfl (lv_at hl 2 rfl) ?_
      refine lv_icmp_ge (tgt := 23) hx hb dX10_behindToken_6 (by decide) (fun c3 => ?_) (fun c3 => ?_)
      · skip
        refine lv_iload_n hx hb dX10_behindToken_23 rfl (lv_at hl 0 rfl) ?_
        exact iv_iret X hr hlocks hB ⟨rfl, i_x2, (⟨by have w2 := i_x_1.1; omega, by have w2 := i_x_1.1; omega, gi_4.2.2, Or.inl (by have w1 := Int32.le_iff_toInt_le.mp c3; omega)⟩)⟩ dX10_behindToken_24
      · skip
        have i3_x2 : iv_R 1 399 x2 := (i_x2.cutHi (n := 399) (iv_lt_r (iv_nle c3) i_x_2 (by decide)))
        have i4_x_2 : iv_R 2 400 x_2 := (i_x_2.cutLo (n := 2) (iv_lt_l (iv_nle c3) i_x2 (by decide)))
        refine lv_aload_n hx hb dX10_behindToken_9 rfl (lv_at hl 1 rfl) ?_
        refine lv_iload_n hx hb dX10_behindToken_10 rfl (lv_at hl 0 rfl) ?_
        refine iv_cSi X k_good k_mf_X10_goesOn k_st_X10_goesOn k_ml_X10_21 hB (As := [.ref h1, .int x2]) (e_X10_goesOn l D tys base G h1 g_h1 r_h1 a_h1 x2 (i3_x2.wk (by decide))) ⟨rfl, rfl⟩ ⟨Nat.le_of_ble_eq_true rfl, Nat.le_of_ble_eq_true rfl⟩ ⟨Nat.le_of_ble_eq_true rfl, Nat.le_of_ble_eq_true rfl⟩ rfl rfl hl.1 (Nat.le_of_ble_eq_true rfl) dX10_behindToken_11 (fun x6 G9 H locs hq hB => ?_)
        obtain ⟨rfl, i_x6, hp7, ex6⟩ := hq
        have hl2 : x2.toInt < x_2.toInt := by have w1 := mt Int32.le_iff_toInt_le.mpr c3; omega
        refine lv_if_eq (tgt := 23) hx hb dX10_behindToken_14 (by decide) (fun c8 => ?_) (fun c8 => ?_)
        · skip
          have i8_x6 : iv_R 0 0 x6 := (i_x6.cutHi (n := 0) (iv_eq_r c8 q_0).2)
          refine lv_iload_n hx hb dX10_behindToken_23 rfl (lv_at hl 0 rfl) ?_
          exact iv_iret X hr hlocks hB ⟨rfl, (i3_x2.wk (by decide)), (⟨by have w2 := i_x_1.1; omega, by have w2 := i_x_1.1; omega, gi_4.2.2, Or.inr (fun q => (ex6.mpr ((tk_G.raw (show x2.toInt.toNat < x_2.toInt.toNat from by have w3 := i3_x2.1; omega)).mp q)) c8)⟩)⟩ dX10_behindToken_24
        · skip
          have i9_x6 : iv_R 1 1 x6 := iv_ne_lo c8 i_x6 q_0 (by decide)
          refine iv_iinc hx hb i3_x2 (lo := 2) (hi := 400) (by decide) dX10_behindToken_17 hl (k := 0) rfl (by decide) (fun x11 ls e_x11 i_x11 hl => ?_)
          have hl : lv_has ls 4 [(3, .int x11), (0, .ref h1), (2, .int x_2)] := hl
          refine lv_goto (tgt := 4) hx hb dX10_behindToken_20 (by decide) ?_
          exact ih_4 _ _ hB x11 (i_x11.wk (by decide)) (iv_mup (c := 1) i_x2 (by decide) (by decide) (by omega) hn_4) ⟨by have w1 : x11.toInt = x2.toInt + 1 := e_x11; omega, by have w1 : x11.toInt = x2.toInt + 1 := e_x11; omega, fun x q1 q2 => by rcases Nat.lt_or_ge x x2.toInt.toNat with h | h; exact gi_4.2.2 x q1 h; rw [show x = x2.toInt.toNat from by (have w1 : x11.toInt = x2.toInt + 1 := e_x11; have w2 := i3_x2.1; omega)]; exact (tk_G.raw (show x2.toInt.toNat < x_2.toInt.toNat from by have w3 := i3_x2.1; omega)).mpr (ex6.mp c8)⟩ _ (lv_sub hl [0, 1, 2] rfl)
  exact L_4 _ _ _ hB x1 i_x1 (Nat.lt_succ_self _) ⟨by have w1 : x1.toInt = x_1.toInt + (1 : Int32).toInt := e_x1; have e1 : (1 : Int32).toInt = 1 := rfl; omega, by have w1 : x1.toInt = x_1.toInt + (1 : Int32).toInt := e_x1; have e1 : (1 : Int32).toInt = 1 := rfl; omega, fun x q1 q2 => absurd q2 (by have w1 : x1.toInt = x_1.toInt + (1 : Int32).toInt := e_x1; have e1 : (1 : Int32).toInt = 1 := rfl; have w2 := i_x_1.1; omega)⟩ _ (lv_sub hl [0, 1, 3] rfl)
set_option maxHeartbeats 4000000 in
set_option maxRecDepth 100000 in
theorem e_X10_numberOf (l : Launch) (D : va_G) (tys : List (ClassId × FieldType)) (base : Nat) (G : iv_G) (h1 : Nat) (g_h1 : Nat → Int32) (r_h1 : Nat → Nat) (a_h1 : G h1 = some (45, g_h1, r_h1)) (x_1 : Int32) (i_x_1 : iv_R 0 399 x_1) (x_2 : Int32) (i_x_2 : iv_R 1 400 x_2) (h12 : x_1.toInt ≤ x_2.toInt) (h4 : x_2.toInt ≤ x_1.toInt + 4) (hdg : ∀ j, x_1.toInt.toNat + j < x_2.toInt.toNat → tk_D ((g_h1 (x_1.toInt.toNat + j)).toInt)) : Met l yX10_numberOf (Cond.code yX10_numberOf cX10_numberOf 5 (some .int) :: iv_W0) ({ frames := 0, cells := 0, slots := 0, locals := 0 }) (iv_Pc iv_sh D classes tys base G [.ref h1, .int x_1, .int x_2]) (iv_Qi iv_sh D classes tys base (fun v G' => G = G' ∧ iv_R (-2147483648) 2147483647 v ∧ (v.toInt = tk_nu (fun i => (g_h1 i).toInt) x_1.toInt.toNat (x_2.toInt.toNat - x_1.toInt.toNat)))) 0 0 (iv_A base) := by
  refine iv_head (by decide) (Nat.le_of_ble_eq_true rfl) ?_
  intro p e s m args below meth c ls X hr hlocks hname hB hl
  have X := X
  have hx := X.1.1
  have hb := X.1.2.1
  have hl : lv_has ls 5 [(0, .ref h1), (1, .int x_1), (2, .int x_2)] := hl
  refine lv_iconst (v := 0) hx hb dX10_numberOf_0 (by decide) ?_
  refine lv_istore_n (lv' := [(3, .int 0), (0, .ref h1), (1, .int x_1), (2, .int x_2)]) hx hb dX10_numberOf_1 rfl hl (by decide) rfl (fun ls hl => ?_)
  refine lv_iload_n hx hb dX10_numberOf_2 rfl (lv_at hl 2 rfl) ?_
  refine lv_istore (lv' := [(4, .int x_1), (3, .int 0), (0, .ref h1), (1, .int x_1), (2, .int x_2)]) hx hb dX10_numberOf_3 hl (by decide) rfl (fun ls hl => ?_)
  have L_5 : ∀ (n_5 : Nat) (H : Heap) (locs : List Loc) (hB : iv_B iv_sh D classes tys base G s.heap H locs) (x1 : Int32) (i_x1 : iv_R (-2147483648) 2147483647 x1) (x2 : Int32) (i_x2 : iv_R 0 400 x2) (hn_5 : (401 - x2.toInt).toNat < n_5) (gi_5 : x_1.toInt ≤ x2.toInt ∧ x2.toInt ≤ x_2.toInt ∧ x1.toInt = tk_nu (fun i => (g_h1 i).toInt) x_1.toInt.toNat (x2.toInt.toNat - x_1.toInt.toNat)) (ls : Array Slot) (hl : lv_has ls 5 [(4, .int x2), (3, .int x1), (0, .ref h1), (2, .int x_2)]), W p l e ({ frames := 0, cells := 0, slots := 0, locals := 0 } : Room) s m args below meth c H locs 0 0 (MQ below (iv_Qi iv_sh D classes tys base (fun v G' => G = G' ∧ iv_R (-2147483648) 2147483647 v ∧ (v.toInt = tk_nu (fun i => (g_h1 i).toInt) x_1.toInt.toNat (x_2.toInt.toNat - x_1.toInt.toNat)))) args s 0 0 (iv_A base)) (F0 m 5 ls []) := by
    intro n_5
    induction n_5 with
    | zero => intro H locs hB x1 i_x1 x2 i_x2 hn_5 gi_5 ls hl; exact absurd hn_5 (Nat.not_lt_zero _)
    | succ n_5 ih_5 =>
      intro H locs hB x1 i_x1 x2 i_x2 hn_5 gi_5 ls hl
      refine lv_iload hx hb dX10_numberOf_5 (lv_at hl 0 rfl) ?_
      refine lv_iload_n hx hb dX10_numberOf_7 rfl (lv_at hl 3 rfl) ?_
      refine lv_icmp_ge (tgt := 30) hx hb dX10_numberOf_8 (by decide) (fun c3 => ?_) (fun c3 => ?_)
      · skip
        have i3_x2 : iv_R 1 400 x2 := (i_x2.cutLo (n := 1) (iv_le_l c3 i_x_2))
        refine lv_iload_n hx hb dX10_numberOf_30 rfl (lv_at hl 1 rfl) ?_
        exact iv_iret X hr hlocks hB ⟨rfl, i_x1, (by rw [gi_5.2.2, show x2.toInt.toNat = x_2.toInt.toNat from by have w1 := Int32.le_iff_toInt_le.mp c3; omega])⟩ dX10_numberOf_31
      · skip
        have i4_x2 : iv_R 0 399 x2 := (i_x2.cutHi (n := 399) (iv_lt_r (iv_nle c3) i_x_2 (by decide)))
        refine lv_iload_n hx hb dX10_numberOf_11 rfl (lv_at hl 1 rfl) ?_
        refine lv_bipush (v := 10) hx hb dX10_numberOf_12 (by decide) ?_
        refine lv_imul hx hb dX10_numberOf_14 ?_
        refine lv_topi (fun x6 e_x6 => ?_)
        have i_x6 := iv_R.all x6
        refine lv_aload_n hx hb dX10_numberOf_15 rfl (lv_at hl 2 rfl) ?_
        refine lv_iload hx hb dX10_numberOf_16 (lv_at hl 0 rfl) ?_
        refine iv_ald X hB a_h1 sh_45 (iv_in i4_x2 (by decide)) dX10_numberOf_18 (fun x7 e_x7 i_x7 => ?_)
        refine lv_iadd hx hb dX10_numberOf_19 ?_
        refine lv_topi (fun x8 e_x8 => ?_)
        have i_x8 := iv_R.all x8
        refine lv_bipush (v := 48) hx hb dX10_numberOf_20 (by decide) ?_
        refine lv_isub hx hb dX10_numberOf_22 ?_
        refine lv_topi (fun x9 e_x9 => ?_)
        have i_x9 := iv_R.all x9
        have hst : x9.toInt = tk_nu (fun i => (g_h1 i).toInt) x_1.toInt.toNat (x2.toInt.toNat - x_1.toInt.toNat) * 10 + ((g_h1 (x_1.toInt.toNat + (x2.toInt.toNat - x_1.toInt.toNat))).toInt - 48) := by
          have hl2 : x2.toInt < x_2.toInt := by have w1 := mt Int32.le_iff_toInt_le.mpr c3; omega
          have w0 := i_x_1.1
          have dg := hdg (x2.toInt.toNat - x_1.toInt.toNat) (by omega)
          have nb := tk_nub (T := (fun i => (g_h1 i).toInt)) (p := x_1.toInt.toNat) (x2.toInt.toNat - x_1.toInt.toNat) (by omega) (fun j hj => hdg j (by omega))
          rw [← gi_5.2.2] at nb ⊢
          have e7 : x7 = g_h1 (x_1.toInt.toNat + (x2.toInt.toNat - x_1.toInt.toNat)) := (show x7 = g_h1 x2.toInt.toNat from e_x7).trans (congrArg g_h1 (by omega))
          rw [← e7] at dg ⊢
          have dg : 48 ≤ x7.toInt ∧ x7.toInt ≤ 57 := dg
          have e10 : (10 : Int32).toInt = 10 := rfl
          have e48 : (48 : Int32).toInt = 48 := rfl
          have f6 : x6.toInt = x1.toInt * 10 := by rw [e_x6]; exact (iv_ti_mul (by rw [e10]; omega) (by rw [e10]; omega)).trans (by rw [e10])
          have f8 : x8.toInt = x6.toInt + x7.toInt := by rw [e_x8]; exact iv_ti_add (by omega) (by omega)
          have f9 : x9.toInt = x8.toInt - 48 := by rw [e_x9]; exact (iv_ti_sub (by rw [e48]; omega) (by rw [e48]; omega)).trans (by rw [e48])
          omega
        refine lv_istore_n (lv' := [(3, .int x9), (4, .int x2), (0, .ref h1), (2, .int x_2)]) hx hb dX10_numberOf_23 rfl hl (by decide) rfl (fun ls hl => ?_)
        refine iv_iinc hx hb i4_x2 (lo := 1) (hi := 400) (by decide) dX10_numberOf_24 hl (k := 1) rfl (by decide) (fun x10 ls e_x10 i_x10 hl => ?_)
        have hl : lv_has ls 5 [(4, .int x10), (3, .int x9), (0, .ref h1), (2, .int x_2)] := hl
        refine lv_goto (tgt := 5) hx hb dX10_numberOf_27 (by decide) ?_
        exact ih_5 _ _ hB x9 i_x9 x10 (i_x10.wk (by decide)) (iv_mup (c := 1) i_x2 (by decide) (by decide) (by omega) hn_5) ⟨by have w1 : x10.toInt = x2.toInt + 1 := e_x10; omega, by have w1 : x10.toInt = x2.toInt + 1 := e_x10; have w2 := mt Int32.le_iff_toInt_le.mpr c3; omega, by rw [show x10.toInt.toNat - x_1.toInt.toNat = (x2.toInt.toNat - x_1.toInt.toNat) + 1 from by (have w1 : x10.toInt = x2.toInt + 1 := e_x10; have w2 := i4_x2.1; have w3 := i_x_1.1; omega)]; exact hst⟩ _ (lv_sub hl [0, 1, 2, 3] rfl)
  exact L_5 _ _ _ hB 0 (q_0.wk (by decide)) x_1 (i_x_1.wk (by decide)) (Nat.lt_succ_self _) ⟨Int.le_refl _, h12, by rw [Nat.sub_self]; rfl⟩ _ (lv_sub hl [0, 1, 2, 4] rfl)
