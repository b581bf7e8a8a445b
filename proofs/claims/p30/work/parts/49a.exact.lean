/-- the louder of two parishes: a night's step, the nights, the answer -/
def lo_nx (c d u : Int) : Int := if d + (c * u).tdiv 4 < 999 then d + (c * u).tdiv 4 else 999
def lo_f (c d w : Int) : Nat → Int → Int → Int → Int
  | 0, _, u, v => if w = 2 then -1 else if w = 0 then u else v
  | n + 1, k, u, v => if w = 2 ∧ lo_nx c d v = u ∧ lo_nx c d u = v then k else lo_f c d w n (k + 1) (lo_nx c d v) (lo_nx c d u)
def lo_ok (x y c d n w : Int) : Prop := (0 ≤ x ∧ x ≤ 999) ∧ (0 ≤ y ∧ y ≤ 999) ∧ (0 ≤ c ∧ c ≤ 9) ∧ (0 ≤ d ∧ d ≤ 999) ∧ (0 ≤ w ∧ w ≤ 2) ∧ (w = 2 ∨ (0 ≤ n ∧ n ≤ 60))
noncomputable def lo_v (x y c d n w : Int) : Int := @ite Int (lo_ok x y c d n w) (Classical.propDecidable _) (lo_f c d w (if w = 2 then 60 else n.toNat) 1 x y) (-1)
theorem lo_v_bad {x y c d n w : Int} (h : ¬ lo_ok x y c d n w) : lo_v x y c d n w = -1 := if_neg h
theorem lo_v_ok {x y c d n w : Int} (h : lo_ok x y c d n w) : lo_v x y c d n w = lo_f c d w (if w = 2 then 60 else n.toNat) 1 x y := if_pos h
theorem lo_nx_of {c d u z1 z2 z3 z : Int32} (e1 : z1.toInt = c.toInt * u.toInt) (e2 : z2.toInt = z1.toInt.tdiv (4 : Int32).toInt) (e3 : z3.toInt = d.toInt + z2.toInt) (e : z = if z3 < 999 then z3 else 999) : z.toInt = lo_nx c.toInt d.toInt u.toInt := by
  have e4 : (4 : Int32).toInt = 4 := rfl
  have e9 : (999 : Int32).toInt = 999 := rfl
  have h3 : z3.toInt = d.toInt + (c.toInt * u.toInt).tdiv 4 := by rw [e3, e2, e1, e4]
  unfold lo_nx
  rw [← h3, e]
  by_cases h : z3 < 999
  · have h' := Int32.lt_iff_toInt_lt.mp h
    rw [if_pos h, if_pos (by omega)]
  · have h' : ¬ z3.toInt < (999 : Int32).toInt := fun q => h (Int32.lt_iff_toInt_lt.mpr q)
    rw [if_neg h, if_neg (by omega), e9]
theorem lo_go {c d w M T : Int} {k k' u v u' v' : Int32} (hs : lo_f c d w (M - k.toInt).toNat k.toInt u.toInt v.toInt = T) (hk : k.toInt < M) (ek : k'.toInt = k.toInt + 1) (eu : u'.toInt = lo_nx c d v.toInt) (ev : v'.toInt = lo_nx c d u.toInt) (hne : ¬ (w = 2 ∧ u' = u ∧ v' = v)) : lo_f c d w (M - k'.toInt).toNat k'.toInt u'.toInt v'.toInt = T := by
  obtain ⟨j, hj⟩ : ∃ j, (M - k.toInt).toNat = j + 1 := ⟨(M - k.toInt).toNat - 1, by omega⟩
  have hj' : (M - k'.toInt).toNat = j := by omega
  rw [hj, lo_f, if_neg (fun h => hne ⟨h.1, Int32.toInt_inj.mp (eu.trans h.2.1), Int32.toInt_inj.mp (ev.trans h.2.2)⟩), ← eu, ← ev, ← ek] at hs
  rw [hj']
  exact hs
theorem lo_hit {c d w M T : Int} {k u v u' v' : Int32} (hs : lo_f c d w (M - k.toInt).toNat k.toInt u.toInt v.toInt = T) (hk : k.toInt < M) (eu : u'.toInt = lo_nx c d v.toInt) (ev : v'.toInt = lo_nx c d u.toInt) (hw : w = 2 ∧ u' = u ∧ v' = v) : k.toInt = T := by
  obtain ⟨j, hj⟩ : ∃ j, (M - k.toInt).toNat = j + 1 := ⟨(M - k.toInt).toNat - 1, by omega⟩
  rw [hj, lo_f, if_pos ⟨hw.1, by rw [← eu, hw.2.1], by rw [← ev, hw.2.2]⟩] at hs
  exact hs
theorem lo_end {c d w M T : Int} {k u v : Int32} (hs : lo_f c d w (M - k.toInt).toNat k.toInt u.toInt v.toInt = T) (hk : M ≤ k.toInt) : (if w = 2 then -1 else if w = 0 then u.toInt else v.toInt) = T := by
  have hj : (M - k.toInt).toNat = 0 := by omega
  rw [hj, lo_f] at hs
  exact hs
theorem lo_end2 {c d w M T : Int} {k u v z : Int32} (hs : lo_f c d w (M - k.toInt).toNat k.toInt u.toInt v.toInt = T) (hk : M ≤ k.toInt) (hw : ¬ w = 2) (h0 : w = 0 → z = u) (h1 : ¬ w = 0 → z = v) : z.toInt = T := by
  have h := lo_end hs hk
  rw [if_neg hw] at h
  by_cases h8 : w = 0
  · rw [if_pos h8] at h
    rw [h0 h8]
    exact h
  · rw [if_neg h8] at h
    rw [h1 h8]
    exact h
theorem lo_end1 {c d w M T : Int} {k u v : Int32} (hs : lo_f c d w (M - k.toInt).toNat k.toInt u.toInt v.toInt = T) (hk : M ≤ k.toInt) (hw : w = 2) : ((-1) : Int32).toInt = T := by
  have h := lo_end hs hk
  rw [if_pos hw] at h
  rw [← h]
  rfl
theorem lo_in1 {x y c d n w : Int} (h : lo_ok x y c d n w) (hw : w = 2) : lo_f c d w (61 - (1 : Int32).toInt).toNat (1 : Int32).toInt x y = lo_v x y c d n w := by
  rw [lo_v_ok h, if_pos hw]
  rfl
theorem lo_in2 {x y c d n w : Int} (h : lo_ok x y c d n w) (hw : ¬ w = 2) : lo_f c d w (n + 1 - (1 : Int32).toInt).toNat (1 : Int32).toInt x y = lo_v x y c d n w := by
  have e1 : (1 : Int32).toInt = 1 := rfl
  rw [lo_v_ok h, if_neg hw, e1, Int.add_sub_cancel]
set_option maxHeartbeats 4000000 in
set_option maxRecDepth 100000 in
theorem e_X12_lesser (l : Launch) (D : va_G) (tys : List (ClassId × FieldType)) (base : Nat) (G : iv_G) (x_0 : Int32) (i_x_0 : iv_R (-2147483648) 2147483647 x_0) (x_1 : Int32) (i_x_1 : iv_R (-2147483648) 2147483647 x_1) : Met l yX12_lesser (Cond.code yX12_lesser cX12_lesser 2 (some .int) :: iv_W0) ({ frames := 0, cells := 0, slots := 0, locals := 0 }) (iv_Pc iv_sh D classes tys base G [.int x_0, .int x_1]) (iv_Qi iv_sh D classes tys base (fun v G' => G = G' ∧ (x_1.toInt ≤ x_0.toInt → v = x_1) ∧ (x_0.toInt < x_1.toInt → v = x_0))) 0 0 (iv_A base) := by
  refine iv_head (by decide) (Nat.le_of_ble_eq_true rfl) ?_
  intro p e s m args below meth c ls X hr hlocks hname hB hl
  have X := X
  have hx := X.1.1
  have hb := X.1.2.1
  have hl : lv_has ls 2 [(0, .int x_0), (1, .int x_1)] := hl
  refine lv_iload_n hx hb dX12_lesser_0 rfl (lv_at hl 0 rfl) ?_
  refine lv_iload_n hx hb dX12_lesser_1 rfl (lv_at hl 1 rfl) ?_
  refine lv_icmp_ge (tgt := 9) hx hb dX12_lesser_2 (by decide) (fun c1 => ?_) (fun c1 => ?_)
  · skip
    refine lv_iload_n hx hb dX12_lesser_9 rfl (lv_at hl 1 rfl) ?_
    exact iv_iret X hr hlocks hB ⟨rfl, fun _ => rfl, fun h => absurd h (by have w := Int32.le_iff_toInt_le.mp c1; omega)⟩ dX12_lesser_10
  · skip
    have i1_x_0 : iv_R (-2147483648) 2147483646 x_0 := (i_x_0.cutHi (n := 2147483646) (iv_lt_r (iv_nle c1) i_x_1 (by decide)))
    have i2_x_1 : iv_R (-2147483647) 2147483647 x_1 := (i_x_1.cutLo (n := (-2147483647)) (iv_lt_l (iv_nle c1) i_x_0 (by decide)))
    refine lv_iload_n hx hb dX12_lesser_5 rfl (lv_at hl 0 rfl) ?_
    refine lv_goto (tgt := 10) hx hb dX12_lesser_6 (by decide) ?_
    exact iv_iret X hr hlocks hB ⟨rfl, fun h => absurd h (by have w := Int32.lt_iff_toInt_lt.mp (iv_nle c1); omega), fun _ => rfl⟩ dX12_lesser_10
set_option maxHeartbeats 4000000 in
set_option maxRecDepth 100000 in
theorem e_X11_chosen (l : Launch) (D : va_G) (tys : List (ClassId × FieldType)) (base : Nat) (G : iv_G) (x_0 : Int32) (i_x_0 : iv_R (-2147483648) 2147483647 x_0) (x_1 : Int32) (i_x_1 : iv_R (-2147483648) 2147483647 x_1) (x_2 : Int32) (i_x_2 : iv_R (-1) 2147483647 x_2) : Met l yX11_chosen (Cond.code yX11_chosen cX11_chosen 3 (some .int) :: iv_W0) ({ frames := 0, cells := 0, slots := 0, locals := 0 }) (iv_Pc iv_sh D classes tys base G [.int x_0, .int x_1, .int x_2]) (iv_Qi iv_sh D classes tys base (fun v G' => G = G' ∧ (x_0.toInt = 0 → v = x_1) ∧ (x_0.toInt = 1 → v = x_2))) 0 0 (iv_A base) := by
  refine iv_head (by decide) (Nat.le_of_ble_eq_true rfl) ?_
  intro p e s m args below meth c ls X hr hlocks hname hB hl
  have X := X
  have hx := X.1.1
  have hb := X.1.2.1
  have hl : lv_has ls 3 [(0, .int x_0), (1, .int x_1), (2, .int x_2)] := hl
  refine lv_iload_n hx hb dX11_chosen_0 rfl (lv_at hl 0 rfl) ?_
  by_cases w1 : x_0.toInt = 0
  · skip
    refine lv_lookup (off := 27) (tgt := 28) hx hb dX11_chosen_1 (by decide) (by rw [w1]; (try rfl)) (by decide) ?_
    have w1i : iv_R 0 0 x_0 := iv_lit w1
    refine lv_iload_n hx hb dX11_chosen_28 rfl (lv_at hl 1 rfl) ?_
    exact iv_iret X hr hlocks hB ⟨rfl, fun _ => rfl, fun h => absurd h (by omega)⟩ dX11_chosen_29
  skip
  by_cases w2 : x_0.toInt = 1
  · skip
    refine lv_lookup (off := 29) (tgt := 30) hx hb dX11_chosen_1 (by decide) (by rw [w2]; (try rfl)) (by decide) ?_
    have w2i : iv_R 1 1 x_0 := iv_lit w2
    refine lv_iload_n hx hb dX11_chosen_30 rfl (lv_at hl 2 rfl) ?_
    exact iv_iret X hr hlocks hB ⟨rfl, fun h => absurd h (by omega), fun _ => rfl⟩ dX11_chosen_31
  skip
  refine lv_lookup (off := 31) (tgt := 32) hx hb dX11_chosen_1 (by decide) (by simp [Op.lookupswitch.offset, List.find?, w1, Ne.symm w1, w2, Ne.symm w2]) (by decide) ?_
  refine lv_iconst (v := (-1)) hx hb dX11_chosen_32 (by decide) ?_
  exact iv_iret X hr hlocks hB ⟨rfl, fun h => absurd h w1, fun h => absurd h w2⟩ dX11_chosen_33
set_option maxHeartbeats 4000000 in
set_option maxRecDepth 100000 in
theorem e_X12_louderBy (l : Launch) (D : va_G) (tys : List (ClassId × FieldType)) (base : Nat) (G : iv_G) (x_0 : Int32) (i_x_0 : iv_R 0 999 x_0) (x_1 : Int32) (i_x_1 : iv_R 0 9 x_1) (x_2 : Int32) (i_x_2 : iv_R 0 999 x_2) : Met l yX12_louderBy (Cond.code yX12_louderBy cX12_louderBy 3 (some .int) :: iv_W0) ({ frames := 1, cells := 0, slots := 0, locals := 21 }) (iv_Pc iv_sh D classes tys base G [.int x_0, .int x_1, .int x_2]) (iv_Qi iv_sh D classes tys base (fun v G' => G = G' ∧ iv_R 0 999 v ∧ v.toInt = lo_nx x_1.toInt x_2.toInt x_0.toInt)) 0 0 (iv_A base) := by
  refine iv_head (by decide) (Nat.le_of_ble_eq_true rfl) ?_
  intro p e s m args below meth c ls X hr hlocks hname hB hl
  have X := X
  have hx := X.1.1
  have hb := X.1.2.1
  have hl : lv_has ls 3 [(0, .int x_0), (1, .int x_1), (2, .int x_2)] := hl
  refine lv_sipush (v := 999) hx hb dX12_louderBy_0 (by decide) ?_
  refine lv_iload_n hx hb dX12_louderBy_3 rfl (lv_at hl 1 rfl) ?_
  refine lv_iload_n hx hb dX12_louderBy_4 rfl (lv_at hl 0 rfl) ?_
  refine iv_imul hx hb i_x_1 i_x_0 (lo := 0) (hi := 8991) (by decide) dX12_louderBy_5 (fun x1 e_x1 i_x1 => ?_)
  refine lv_iconst (v := 4) hx hb dX12_louderBy_6 (by decide) ?_
  refine iv_idivp hx hb i_x1 q_4 (lo := 0) (hi := 2247) (by decide) dX12_louderBy_7 (fun x2 e_x2 i_x2 => ?_)
  refine lv_iload_n hx hb dX12_louderBy_8 rfl (lv_at hl 2 rfl) ?_
  refine iv_iadd hx hb i_x2 i_x_2 (lo := 0) (hi := 3246) (by decide) dX12_louderBy_9 (fun x3 e_x3 i_x3 => ?_)
  refine iv_cSi X k_good k_mf_X12_lesser k_st_X12_lesser k_ml_X12_275 hB (As := [.int 999, .int x3]) (e_X12_lesser l D tys base G 999 (q_999.wk (by decide)) x3 (i_x3.wk (by decide))) ⟨rfl, rfl⟩ ⟨Nat.le_of_ble_eq_true rfl, Nat.le_of_ble_eq_true rfl⟩ ⟨Nat.le_of_ble_eq_true rfl, Nat.le_of_ble_eq_true rfl⟩ rfl rfl hl.1 (Nat.le_of_ble_eq_true rfl) dX12_louderBy_10 (fun x4 G9 H locs hq hB => ?_)
  obtain ⟨rfl, ha, hc⟩ := hq
  have e999 : (999 : Int32).toInt = 999 := rfl
  have b3 := i_x3.1
  have hz : x4 = if x3 < 999 then x3 else 999 := by
    by_cases h : x3 < 999
    · have h' := Int32.lt_iff_toInt_lt.mp h
      rw [if_pos h]
      exact ha (by omega)
    · have h' : ¬ x3.toInt < (999 : Int32).toInt := fun q => h (Int32.lt_iff_toInt_lt.mpr q)
      rw [if_neg h]
      by_cases h8 : x3.toInt ≤ (999 : Int32).toInt
      · rw [ha h8]
        exact Int32.toInt_inj.mp (by omega)
      · exact hc (by omega)
  have i_x4 : iv_R 0 999 x4 := by
    rw [hz]
    by_cases h : x3 < 999
    · have h' := Int32.lt_iff_toInt_lt.mp h
      rw [if_pos h]
      exact ⟨b3, by omega⟩
    · rw [if_neg h]
      exact q_999.wk (by decide)
  exact iv_iret X hr hlocks hB ⟨rfl, i_x4, lo_nx_of e_x1 e_x2 (by rw [e_x3, Int.add_comm]) hz⟩ dX12_louderBy_13
set_option maxHeartbeats 4000000 in
set_option maxRecDepth 100000 in
theorem e_X11_louder (l : Launch) (D : va_G) (tys : List (ClassId × FieldType)) (base : Nat) (G : iv_G) (h0 : Nat) (g_h0 : Nat → Int32) (r_h0 : Nat → Nat) (a_h0 : G h0 = some (11, g_h0, r_h0)) (x_0 : Int32) (i_x_0 : iv_R (-2147483648) 2147483647 x_0) (x_1 : Int32) (i_x_1 : iv_R (-2147483648) 2147483647 x_1) (x_2 : Int32) (i_x_2 : iv_R (-2147483648) 2147483647 x_2) (x_3 : Int32) (i_x_3 : iv_R (-2147483648) 2147483647 x_3) (x_4 : Int32) (i_x_4 : iv_R (-2147483648) 2147483647 x_4) (x_5 : Int32) (i_x_5 : iv_R (-2147483648) 2147483647 x_5) : Met l yX11_louder (Cond.code yX11_louder cX11_louder 14 (some .int) :: iv_W0) ({ frames := 1, cells := 0, slots := 0, locals := 22 }) (iv_Pc iv_sh D classes tys base G [.ref h0, .int x_0, .int x_1, .int x_2, .int x_3, .int x_4, .int x_5]) (iv_Qi iv_sh D classes tys base (fun v G' => G = G' ∧ v.toInt = lo_v x_0.toInt x_1.toInt x_2.toInt x_3.toInt x_4.toInt x_5.toInt)) 0 0 (iv_A base) := by
  refine iv_head (by decide) (Nat.le_of_ble_eq_true rfl) ?_
  intro p e s m args below meth c ls X hr hlocks hname hB hl
  have X := X
  have hx := X.1.1
  have hb := X.1.2.1
  have hl : lv_has ls 14 [(0, .ref h0), (1, .int x_0), (2, .int x_1), (3, .int x_2), (4, .int x_3), (5, .int x_4), (6, .int x_5)] := hl
  refine lv_iload_n hx hb dX11_louder_0 rfl (lv_at hl 1 rfl) ?_
  refine lv_iconst (v := 0) hx hb dX11_louder_1 (by decide) ?_
  refine lv_sipush (v := 999) hx hb dX11_louder_2 (by decide) ?_
  refine iv_cSi X k_good k_mf_X11_isWithin k_st_X11_isWithin k_ml_X11_83 hB (As := [.int x_0, .int 0, .int 999]) (c_X11_isWithin l D tys base G x_0 i_x_0 0 (q_0.wk (by decide)) 999 (q_999.wk (by decide))) ⟨rfl, rfl⟩ ⟨Nat.le_of_ble_eq_true rfl, Nat.le_of_ble_eq_true rfl⟩ ⟨Nat.le_of_ble_eq_true rfl, Nat.le_of_ble_eq_true rfl⟩ rfl rfl hl.1 (Nat.le_of_ble_eq_true rfl) dX11_louder_5 (fun x1 G9 H locs hq hB => ?_)
  obtain ⟨rfl, i_x1, hp2⟩ := hq
  have k3 : ¬ x1 = 0 → iv_R 0 999 x_0 := fun h => ⟨iv_max i_x_0.1 (Int.le_trans q_0.1 (hp2.1 h).1) (by decide), iv_min i_x_0.2 (Int.le_trans (hp2.1 h).2 q_999.2) (by decide)⟩
  refine lv_if_eq (tgt := 48) hx hb dX11_louder_8 (by decide) (fun c4 => ?_) (fun c4 => ?_)
  · skip
    have i4_x1 : iv_R 0 0 x1 := (i_x1.cutHi (n := 0) (iv_eq_r c4 q_0).2)
    refine lv_iconst (v := 0) hx hb dX11_louder_48 (by decide) ?_
    refine lv_istore (lv' := [(7, .int 0), (0, .ref h0), (1, .int x_0), (2, .int x_1), (3, .int x_2), (4, .int x_3), (5, .int x_4), (6, .int x_5)]) hx hb dX11_louder_49 hl (by decide) rfl (fun ls hl => ?_)
    refine lv_iload hx hb dX11_louder_51 (lv_at hl 0 rfl) ?_
    refine lv_if_eq (tgt := 83) hx hb dX11_louder_53 (by decide) (fun c6 => ?_) (fun c6 => ?_)
    · skip
      refine lv_iconst (v := (-1)) hx hb dX11_louder_83 (by decide) ?_
      exact iv_iret X hr hlocks hB ⟨rfl, (by rw [lo_v_bad (fun h9 => by have w1 := hp2.2 c4; have e0 : (0 : Int32).toInt = 0 := rfl; have e2 : (2 : Int32).toInt = 2 := rfl; have e9 : (9 : Int32).toInt = 9 := rfl; have e60 : (60 : Int32).toInt = 60 := rfl; have e999 : (999 : Int32).toInt = 999 := rfl; obtain ⟨h91, h92, h93, h94, h95, h96⟩ := h9; omega)]; rfl)⟩ dX11_louder_84
    · skip
      exact absurd rfl c6
  · skip
    have i6_x1 : iv_R 1 1 x1 := iv_ne_lo c4 i_x1 q_0 (by decide)
    have i7_x_0 : iv_R 0 999 x_0 := ((i_x_0.cutLo (n := 0) (k3 c4).1).cutHi (n := 999) (k3 c4).2)
    refine lv_iload_n hx hb dX11_louder_11 rfl (lv_at hl 2 rfl) ?_
    refine lv_iconst (v := 0) hx hb dX11_louder_12 (by decide) ?_
    refine lv_sipush (v := 999) hx hb dX11_louder_13 (by decide) ?_
    refine iv_cSi X k_good k_mf_X11_isWithin k_st_X11_isWithin k_ml_X11_83 hB (As := [.int x_1, .int 0, .int 999]) (c_X11_isWithin l D tys base G x_1 i_x_1 0 (q_0.wk (by decide)) 999 (q_999.wk (by decide))) ⟨rfl, rfl⟩ ⟨Nat.le_of_ble_eq_true rfl, Nat.le_of_ble_eq_true rfl⟩ ⟨Nat.le_of_ble_eq_true rfl, Nat.le_of_ble_eq_true rfl⟩ rfl rfl hl.1 (Nat.le_of_ble_eq_true rfl) dX11_louder_16 (fun x9 G9 H locs hq hB => ?_)
    obtain ⟨rfl, i_x9, hp10⟩ := hq
    have k11 : ¬ x9 = 0 → iv_R 0 999 x_1 := fun h => ⟨iv_max i_x_1.1 (Int.le_trans q_0.1 (hp10.1 h).1) (by decide), iv_min i_x_1.2 (Int.le_trans (hp10.1 h).2 q_999.2) (by decide)⟩
    refine lv_if_eq (tgt := 48) hx hb dX11_louder_19 (by decide) (fun c12 => ?_) (fun c12 => ?_)
    · skip
      have i12_x9 : iv_R 0 0 x9 := (i_x9.cutHi (n := 0) (iv_eq_r c12 q_0).2)
      refine lv_iconst (v := 0) hx hb dX11_louder_48 (by decide) ?_
      refine lv_istore (lv' := [(7, .int 0), (0, .ref h0), (1, .int x_0), (2, .int x_1), (3, .int x_2), (4, .int x_3), (5, .int x_4), (6, .int x_5)]) hx hb dX11_louder_49 hl (by decide) rfl (fun ls hl => ?_)
      refine lv_iload hx hb dX11_louder_51 (lv_at hl 0 rfl) ?_
      refine lv_if_eq (tgt := 83) hx hb dX11_louder_53 (by decide) (fun c14 => ?_) (fun c14 => ?_)
      · skip
        refine lv_iconst (v := (-1)) hx hb dX11_louder_83 (by decide) ?_
        exact iv_iret X hr hlocks hB ⟨rfl, (by rw [lo_v_bad (fun h9 => by have w1 := hp10.2 c12; have e0 : (0 : Int32).toInt = 0 := rfl; have e2 : (2 : Int32).toInt = 2 := rfl; have e9 : (9 : Int32).toInt = 9 := rfl; have e60 : (60 : Int32).toInt = 60 := rfl; have e999 : (999 : Int32).toInt = 999 := rfl; obtain ⟨h91, h92, h93, h94, h95, h96⟩ := h9; omega)]; rfl)⟩ dX11_louder_84
      · skip
        exact absurd rfl c14
    · skip
      have i14_x9 : iv_R 1 1 x9 := iv_ne_lo c12 i_x9 q_0 (by decide)
      have i15_x_1 : iv_R 0 999 x_1 := ((i_x_1.cutLo (n := 0) (k11 c12).1).cutHi (n := 999) (k11 c12).2)
      refine lv_iload_n hx hb dX11_louder_22 rfl (lv_at hl 3 rfl) ?_
      refine lv_iconst (v := 0) hx hb dX11_louder_23 (by decide) ?_
      refine lv_bipush (v := 9) hx hb dX11_louder_24 (by decide) ?_
      refine iv_cSi X k_good k_mf_X11_isWithin k_st_X11_isWithin k_ml_X11_83 hB (As := [.int x_2, .int 0, .int 9]) (c_X11_isWithin l D tys base G x_2 i_x_2 0 (q_0.wk (by decide)) 9 (q_9.wk (by decide))) ⟨rfl, rfl⟩ ⟨Nat.le_of_ble_eq_true rfl, Nat.le_of_ble_eq_true rfl⟩ ⟨Nat.le_of_ble_eq_true rfl, Nat.le_of_ble_eq_true rfl⟩ rfl rfl hl.1 (Nat.le_of_ble_eq_true rfl) dX11_louder_26 (fun x17 G9 H locs hq hB => ?_)
      obtain ⟨rfl, i_x17, hp18⟩ := hq
      have k19 : ¬ x17 = 0 → iv_R 0 9 x_2 := fun h => ⟨iv_max i_x_2.1 (Int.le_trans q_0.1 (hp18.1 h).1) (by decide), iv_min i_x_2.2 (Int.le_trans (hp18.1 h).2 q_9.2) (by decide)⟩
      refine lv_if_eq (tgt := 48) hx hb dX11_louder_29 (by decide) (fun c20 => ?_) (fun c20 => ?_)
      · skip
        have i20_x17 : iv_R 0 0 x17 := (i_x17.cutHi (n := 0) (iv_eq_r c20 q_0).2)
        refine lv_iconst (v := 0) hx hb dX11_louder_48 (by decide) ?_
        refine lv_istore (lv' := [(7, .int 0), (0, .ref h0), (1, .int x_0), (2, .int x_1), (3, .int x_2), (4, .int x_3), (5, .int x_4), (6, .int x_5)]) hx hb dX11_louder_49 hl (by decide) rfl (fun ls hl => ?_)
        refine lv_iload hx hb dX11_louder_51 (lv_at hl 0 rfl) ?_
        refine lv_if_eq (tgt := 83) hx hb dX11_louder_53 (by decide) (fun c22 => ?_) (fun c22 => ?_)
        · skip
          refine lv_iconst (v := (-1)) hx hb dX11_louder_83 (by decide) ?_
          exact iv_iret X hr hlocks hB ⟨rfl, (by rw [lo_v_bad (fun h9 => by have w1 := hp18.2 c20; have e0 : (0 : Int32).toInt = 0 := rfl; have e2 : (2 : Int32).toInt = 2 := rfl; have e9 : (9 : Int32).toInt = 9 := rfl; have e60 : (60 : Int32).toInt = 60 := rfl; have e999 : (999 : Int32).toInt = 999 := rfl; obtain ⟨h91, h92, h93, h94, h95, h96⟩ := h9; omega)]; rfl)⟩ dX11_louder_84
        · skip
          exact absurd rfl c22
      · skip
        have i22_x17 : iv_R 1 1 x17 := iv_ne_lo c20 i_x17 q_0 (by decide)
        have i23_x_2 : iv_R 0 9 x_2 := ((i_x_2.cutLo (n := 0) (k19 c20).1).cutHi (n := 9) (k19 c20).2)
        refine lv_iload hx hb dX11_louder_32 (lv_at hl 4 rfl) ?_
        refine lv_iconst (v := 0) hx hb dX11_louder_34 (by decide) ?_
        refine lv_sipush (v := 999) hx hb dX11_louder_35 (by decide) ?_
        refine iv_cSi X k_good k_mf_X11_isWithin k_st_X11_isWithin k_ml_X11_83 hB (As := [.int x_3, .int 0, .int 999]) (c_X11_isWithin l D tys base G x_3 i_x_3 0 (q_0.wk (by decide)) 999 (q_999.wk (by decide))) ⟨rfl, rfl⟩ ⟨Nat.le_of_ble_eq_true rfl, Nat.le_of_ble_eq_true rfl⟩ ⟨Nat.le_of_ble_eq_true rfl, Nat.le_of_ble_eq_true rfl⟩ rfl rfl hl.1 (Nat.le_of_ble_eq_true rfl) dX11_louder_38 (fun x25 G9 H locs hq hB => ?_)
        obtain ⟨rfl, i_x25, hp26⟩ := hq
        have k27 : ¬ x25 = 0 → iv_R 0 999 x_3 := fun h => ⟨iv_max i_x_3.1 (Int.le_trans q_0.1 (hp26.1 h).1) (by decide), iv_min i_x_3.2 (Int.le_trans (hp26.1 h).2 q_999.2) (by decide)⟩
        refine lv_if_eq (tgt := 48) hx hb dX11_louder_41 (by decide) (fun c28 => ?_) (fun c28 => ?_)
        · skip
          have i28_x25 : iv_R 0 0 x25 := (i_x25.cutHi (n := 0) (iv_eq_r c28 q_0).2)
          refine lv_iconst (v := 0) hx hb dX11_louder_48 (by decide) ?_
          refine lv_istore (lv' := [(7, .int 0), (0, .ref h0), (1, .int x_0), (2, .int x_1), (3, .int x_2), (4, .int x_3), (5, .int x_4), (6, .int x_5)]) hx hb dX11_louder_49 hl (by decide) rfl (fun ls hl => ?_)
          refine lv_iload hx hb dX11_louder_51 (lv_at hl 0 rfl) ?_
          refine lv_if_eq (tgt := 83) hx hb dX11_louder_53 (by decide) (fun c30 => ?_) (fun c30 => ?_)
          · skip
            refine lv_iconst (v := (-1)) hx hb dX11_louder_83 (by decide) ?_
            exact iv_iret X hr hlocks hB ⟨rfl, (by rw [lo_v_bad (fun h9 => by have w1 := hp26.2 c28; have e0 : (0 : Int32).toInt = 0 := rfl; have e2 : (2 : Int32).toInt = 2 := rfl; have e9 : (9 : Int32).toInt = 9 := rfl; have e60 : (60 : Int32).toInt = 60 := rfl; have e999 : (999 : Int32).toInt = 999 := rfl; obtain ⟨h91, h92, h93, h94, h95, h96⟩ := h9; omega)]; rfl)⟩ dX11_louder_84
          · skip
            exact absurd rfl c30
        · skip
          have i30_x25 : iv_R 1 1 x25 := iv_ne_lo c28 i_x25 q_0 (by decide)
          have i31_x_3 : iv_R 0 999 x_3 := ((i_x_3.cutLo (n := 0) (k27 c28).1).cutHi (n := 999) (k27 c28).2)
          refine lv_iconst (v := 1) hx hb dX11_louder_44 (by decide) ?_
          refine lv_goto (tgt := 49) hx hb dX11_louder_45 (by decide) ?_
          refine lv_istore (lv' := [(7, .int 1), (0, .ref h0), (1, .int x_0), (2, .int x_1), (3, .int x_2), (4, .int x_3), (5, .int x_4), (6, .int x_5)]) hx hb dX11_louder_49 hl (by decide) rfl (fun ls hl => ?_)
          refine lv_iload hx hb dX11_louder_51 (lv_at hl 0 rfl) ?_
          refine lv_if_eq (tgt := 83) hx hb dX11_louder_53 (by decide) (fun c33 => ?_) (fun c33 => ?_)
          · skip
            exact (q_1.cutHi (n := 0) (iv_eq_r c33 q_0).2).no (by decide)
          · skip
            refine lv_iload hx hb dX11_louder_56 (lv_at hl 7 rfl) ?_
            refine lv_iconst (v := 0) hx hb dX11_louder_58 (by decide) ?_
            refine lv_iconst (v := 2) hx hb dX11_louder_59 (by decide) ?_
            refine iv_cSi X k_good k_mf_X11_isWithin k_st_X11_isWithin k_ml_X11_83 hB (As := [.int x_5, .int 0, .int 2]) (c_X11_isWithin l D tys base G x_5 i_x_5 0 (q_0.wk (by decide)) 2 (q_2.wk (by decide))) ⟨rfl, rfl⟩ ⟨Nat.le_of_ble_eq_true rfl, Nat.le_of_ble_eq_true rfl⟩ ⟨Nat.le_of_ble_eq_true rfl, Nat.le_of_ble_eq_true rfl⟩ rfl rfl hl.1 (Nat.le_of_ble_eq_true rfl) dX11_louder_60 (fun x34 G9 H locs hq hB => ?_)
            obtain ⟨rfl, i_x34, hp35⟩ := hq
            have k36 : ¬ x34 = 0 → iv_R 0 2 x_5 := fun h => ⟨iv_max i_x_5.1 (Int.le_trans q_0.1 (hp35.1 h).1) (by decide), iv_min i_x_5.2 (Int.le_trans (hp35.1 h).2 q_2.2) (by decide)⟩
            refine lv_if_eq (tgt := 83) hx hb dX11_louder_63 (by decide) (fun c37 => ?_) (fun c37 => ?_)
            · skip
              have i37_x34 : iv_R 0 0 x34 := (i_x34.cutHi (n := 0) (iv_eq_r c37 q_0).2)
              refine lv_iconst (v := (-1)) hx hb dX11_louder_83 (by decide) ?_
              exact iv_iret X hr hlocks hB ⟨rfl, (by rw [lo_v_bad (fun h9 => by have w1 := hp35.2 c37; have e0 : (0 : Int32).toInt = 0 := rfl; have e2 : (2 : Int32).toInt = 2 := rfl; have e9 : (9 : Int32).toInt = 9 := rfl; have e60 : (60 : Int32).toInt = 60 := rfl; have e999 : (999 : Int32).toInt = 999 := rfl; obtain ⟨h91, h92, h93, h94, h95, h96⟩ := h9; omega)]; rfl)⟩ dX11_louder_84
            · skip
              have i38_x34 : iv_R 1 1 x34 := iv_ne_lo c37 i_x34 q_0 (by decide)
              have i39_x_5 : iv_R 0 2 x_5 := ((i_x_5.cutLo (n := 0) (k36 c37).1).cutHi (n := 2) (k36 c37).2)
              refine lv_iload hx hb dX11_louder_66 (lv_at hl 7 rfl) ?_
              refine lv_iconst (v := 2) hx hb dX11_louder_68 (by decide) ?_
              refine lv_icmp_eq (tgt := 85) hx hb dX11_louder_69 (by decide) (fun c41 => ?_) (fun c41 => ?_)
              · skip
                have i41_x_5 : iv_R 2 2 x_5 := (i39_x_5.cutLo (n := 2) (iv_eq_r c41 q_2).1)
                refine lv_iload hx hb dX11_louder_85 (lv_at hl 7 rfl) ?_
                refine lv_iconst (v := 2) hx hb dX11_louder_87 (by decide) ?_
                refine lv_icmp_ne (tgt := 96) hx hb dX11_louder_88 (by decide) (fun c43 => ?_) (fun c43 => ?_)
                · skip
                  exact (iv_ne_lo c43 i41_x_5 q_2 (a' := 3) (by decide)).no (by decide)
                · skip
                  refine lv_bipush (v := 60) hx hb dX11_louder_91 (by decide) ?_
                  refine lv_goto (tgt := 98) hx hb dX11_louder_93 (by decide) ?_
                  refine lv_istore (lv' := [(8, .int 60), (7, .int 1), (0, .ref h0), (1, .int x_0), (2, .int x_1), (3, .int x_2), (4, .int x_3), (5, .int x_4), (6, .int x_5)]) hx hb dX11_louder_98 hl (by decide) rfl (fun ls hl => ?_)
                  refine lv_iload_n hx hb dX11_louder_100 rfl (lv_at hl 3 rfl) ?_
                  refine lv_istore (lv' := [(9, .int x_0), (8, .int 60), (7, .int 1), (0, .ref h0), (1, .int x_0), (2, .int x_1), (3, .int x_2), (4, .int x_3), (5, .int x_4), (6, .int x_5)]) hx hb dX11_louder_101 hl (by decide) rfl (fun ls hl => ?_)
                  refine lv_iload_n hx hb dX11_louder_103 rfl (lv_at hl 5 rfl) ?_
                  refine lv_istore (lv' := [(10, .int x_1), (9, .int x_0), (8, .int 60), (7, .int 1), (0, .ref h0), (1, .int x_0), (2, .int x_1), (3, .int x_2), (4, .int x_3), (5, .int x_4), (6, .int x_5)]) hx hb dX11_louder_104 hl (by decide) rfl (fun ls hl => ?_)
                  refine lv_iconst (v := 1) hx hb dX11_louder_106 (by decide) ?_
                  refine lv_istore (lv' := [(11, .int 1), (10, .int x_1), (9, .int x_0), (8, .int 60), (7, .int 1), (0, .ref h0), (1, .int x_0), (2, .int x_1), (3, .int x_2), (4, .int x_3), (5, .int x_4), (6, .int x_5)]) hx hb dX11_louder_107 hl (by decide) rfl (fun ls hl => ?_)
                  have L_109 : ∀ (n_109 : Nat) (H : Heap) (locs : List Loc) (hB : iv_B iv_sh D classes tys base G s.heap H locs) (x44 : Int32) (i_x44 : iv_R 0 999 x44) (x45 : Int32) (i_x45 : iv_R 0 999 x45) (x46 : Int32) (i_x46 : iv_R 1 61 x46) (hn_109 : (62 - x46.toInt).toNat < n_109) (hs : lo_f x_2.toInt x_3.toInt x_5.toInt (61 - x46.toInt).toNat x46.toInt x44.toInt x45.toInt = lo_v x_0.toInt x_1.toInt x_2.toInt x_3.toInt x_4.toInt x_5.toInt) (ls : Array Slot) (hl : lv_has ls 14 [(11, .int x46), (10, .int x45), (9, .int x44), (8, .int 60), (3, .int x_2), (4, .int x_3), (6, .int x_5)]), W p l e ({ frames := 1, cells := 0, slots := 0, locals := 22 } : Room) s m args below meth c H locs 0 0 (MQ below (iv_Qi iv_sh D classes tys base (fun v G' => G = G' ∧ v.toInt = lo_v x_0.toInt x_1.toInt x_2.toInt x_3.toInt x_4.toInt x_5.toInt)) args s 0 0 (iv_A base)) (F0 m 109 ls []) := by
                    intro n_109
                    induction n_109 with
                    | zero => intro H locs hB x44 i_x44 x45 i_x45 x46 i_x46 hn_109 hs ls hl; exact absurd hn_109 (Nat.not_lt_zero _)
                    | succ n_109 ih_109 =>
                      intro H locs hB x44 i_x44 x45 i_x45 x46 i_x46 hn_109 hs ls hl
                      refine lv_iload hx hb dX11_louder_109 (lv_at hl 0 rfl) ?_
                      refine lv_iload hx hb dX11_louder_111 (lv_at hl 3 rfl) ?_
                      refine lv_icmp_gt (tgt := 187) hx hb dX11_louder_113 (by decide) (fun c47 => ?_) (fun c47 => ?_)
                      · skip
                        have i47_x46 : iv_R 61 61 x46 := (i_x46.cutLo (n := 61) (iv_lt_l c47 q_60 (by decide)))
                        refine lv_iload hx hb dX11_louder_187 (lv_at hl 6 rfl) ?_
                        refine lv_iconst (v := 2) hx hb dX11_louder_189 (by decide) ?_
                        refine lv_icmp_ne (tgt := 197) hx hb dX11_louder_190 (by decide) (fun c49 => ?_) (fun c49 => ?_)
                        · skip
                          exact (iv_ne_lo c49 i41_x_5 q_2 (a' := 3) (by decide)).no (by decide)
                        · skip
                          refine lv_iconst (v := (-1)) hx hb dX11_louder_193 (by decide) ?_
                          refine lv_goto (tgt := 206) hx hb dX11_louder_194 (by decide) ?_
                          exact iv_iret X hr hlocks hB ⟨rfl, lo_end1 hs (by have w8 := i47_x46.1; omega) (by have w8 := i41_x_5.1; have w9 := i41_x_5.2; omega)⟩ dX11_louder_206
                      · skip
                        have i49_x46 : iv_R 1 60 x46 := (i_x46.cutHi (n := 60) (iv_le_r (iv_nlt c47) q_60))
                        refine lv_sipush (v := 999) hx hb dX11_louder_116 (by decide) ?_
                        refine lv_iload hx hb dX11_louder_119 (lv_at hl 5 rfl) ?_
                        refine lv_iload_n hx hb dX11_louder_121 rfl (lv_at hl 4 rfl) ?_
                        refine lv_iload hx hb dX11_louder_122 (lv_at hl 1 rfl) ?_
                        refine iv_imul hx hb i23_x_2 i_x45 (lo := 0) (hi := 8991) (by decide) dX11_louder_124 (fun x51 e_x51 i_x51 => ?_)
                        refine lv_iconst (v := 4) hx hb dX11_louder_125 (by decide) ?_
                        refine iv_idivp hx hb i_x51 q_4 (lo := 0) (hi := 2247) (by decide) dX11_louder_126 (fun x52 e_x52 i_x52 => ?_)
                        refine iv_iadd hx hb i31_x_3 i_x52 (lo := 0) (hi := 3246) (by decide) dX11_louder_127 (fun x53 e_x53 i_x53 => ?_)
                        refine iv_mmin X hl.1 k_mm_X11_362 ⟨Nat.le_of_ble_eq_true rfl, Nat.le_of_ble_eq_true rfl⟩ ⟨Nat.le_of_ble_eq_true rfl, Nat.le_of_ble_eq_true rfl⟩ q_999 i_x53 (lo := 0) (hi := 999) (by decide) dX11_louder_128 (fun x54 e_x54 i_x54 => ?_)
                        refine lv_istore (lv' := [(12, .int x54), (11, .int x46), (10, .int x45), (9, .int x44), (8, .int 60), (3, .int x_2), (4, .int x_3), (6, .int x_5)]) hx hb dX11_louder_131 hl (by decide) rfl (fun ls hl => ?_)
                        refine lv_sipush (v := 999) hx hb dX11_louder_133 (by decide) ?_
                        refine lv_iload hx hb dX11_louder_136 (lv_at hl 6 rfl) ?_
                        refine lv_iload_n hx hb dX11_louder_138 rfl (lv_at hl 5 rfl) ?_
                        refine lv_iload hx hb dX11_louder_139 (lv_at hl 3 rfl) ?_
                        refine iv_imul hx hb i23_x_2 i_x44 (lo := 0) (hi := 8991) (by decide) dX11_louder_141 (fun x55 e_x55 i_x55 => ?_)
                        refine lv_iconst (v := 4) hx hb dX11_louder_142 (by decide) ?_
                        refine iv_idivp hx hb i_x55 q_4 (lo := 0) (hi := 2247) (by decide) dX11_louder_143 (fun x56 e_x56 i_x56 => ?_)
                        refine iv_iadd hx hb i31_x_3 i_x56 (lo := 0) (hi := 3246) (by decide) dX11_louder_144 (fun x57 e_x57 i_x57 => ?_)
                        refine iv_mmin X hl.1 k_mm_X11_362 ⟨Nat.le_of_ble_eq_true rfl, Nat.le_of_ble_eq_true rfl⟩ ⟨Nat.le_of_ble_eq_true rfl, Nat.le_of_ble_eq_true rfl⟩ q_999 i_x57 (lo := 0) (hi := 999) (by decide) dX11_louder_145 (fun x58 e_x58 i_x58 => ?_)
                        refine lv_istore (lv' := [(13, .int x58), (12, .int x54), (11, .int x46), (10, .int x45), (9, .int x44), (8, .int 60), (3, .int x_2), (4, .int x_3), (6, .int x_5)]) hx hb dX11_louder_148 hl (by decide) rfl (fun ls hl => ?_)
                        refine lv_iload hx hb dX11_louder_150 (lv_at hl 8 rfl) ?_
                        refine lv_iconst (v := 2) hx hb dX11_louder_152 (by decide) ?_
                        refine lv_icmp_ne (tgt := 173) hx hb dX11_louder_153 (by decide) (fun c59 => ?_) (fun c59 => ?_)
                        · skip
                          exact (iv_ne_lo c59 i41_x_5 q_2 (a' := 3) (by decide)).no (by decide)
                        · skip
                          refine lv_iload hx hb dX11_louder_156 (lv_at hl 1 rfl) ?_
                          refine lv_iload hx hb dX11_louder_158 (lv_at hl 4 rfl) ?_
                          refine lv_icmp_ne (tgt := 173) hx hb dX11_louder_160 (by decide) (fun c60 => ?_) (fun c60 => ?_)
                          · skip
                            refine lv_iload hx hb dX11_louder_173 (lv_at hl 1 rfl) ?_
                            refine lv_istore (lv' := [(9, .int x54), (13, .int x58), (12, .int x54), (11, .int x46), (10, .int x45), (8, .int 60), (3, .int x_2), (4, .int x_3), (6, .int x_5)]) hx hb dX11_louder_175 hl (by decide) rfl (fun ls hl => ?_)
                            refine lv_iload hx hb dX11_louder_177 (lv_at hl 1 rfl) ?_
                            refine lv_istore (lv' := [(10, .int x58), (9, .int x54), (13, .int x58), (12, .int x54), (11, .int x46), (8, .int 60), (3, .int x_2), (4, .int x_3), (6, .int x_5)]) hx hb dX11_louder_179 hl (by decide) rfl (fun ls hl => ?_)
                            refine iv_iinc hx hb i49_x46 (lo := 2) (hi := 61) (by decide) dX11_louder_181 hl (k := 4) rfl (by decide) (fun x61 ls e_x61 i_x61 hl => ?_)
                            have hl : lv_has ls 14 [(11, .int x61), (10, .int x58), (9, .int x54), (13, .int x58), (12, .int x54), (8, .int 60), (3, .int x_2), (4, .int x_3), (6, .int x_5)] := hl
                            refine lv_goto (tgt := 109) hx hb dX11_louder_184 (by decide) ?_
                            exact ih_109 _ _ hB x54 i_x54 x58 i_x58 x61 (i_x61.wk (by decide)) (iv_mup (c := 1) i_x46 (by decide) (by decide) (by omega) hn_109) (lo_go hs (by have w8 := i49_x46.2; omega) e_x61 (lo_nx_of e_x51 e_x52 e_x53 e_x54) (lo_nx_of e_x55 e_x56 e_x57 e_x58) (fun h9 => c60 h9.2.1)) _ (lv_sub hl [0, 1, 2, 5, 6, 7, 8] rfl)
                          · skip
                            refine lv_iload hx hb dX11_louder_163 (lv_at hl 0 rfl) ?_
                            refine lv_iload hx hb dX11_louder_165 (lv_at hl 3 rfl) ?_
                            refine lv_icmp_ne (tgt := 173) hx hb dX11_louder_167 (by decide) (fun c62 => ?_) (fun c62 => ?_)
                            · skip
                              refine lv_iload hx hb dX11_louder_173 (lv_at hl 1 rfl) ?_
                              refine lv_istore (lv' := [(9, .int x54), (13, .int x58), (12, .int x54), (11, .int x46), (10, .int x45), (8, .int 60), (3, .int x_2), (4, .int x_3), (6, .int x_5)]) hx hb dX11_louder_175 hl (by decide) rfl (fun ls hl => ?_)
                              refine lv_iload hx hb dX11_louder_177 (lv_at hl 1 rfl) ?_
                              refine lv_istore (lv' := [(10, .int x58), (9, .int x54), (13, .int x58), (12, .int x54), (11, .int x46), (8, .int 60), (3, .int x_2), (4, .int x_3), (6, .int x_5)]) hx hb dX11_louder_179 hl (by decide) rfl (fun ls hl => ?_)
                              refine iv_iinc hx hb i49_x46 (lo := 2) (hi := 61) (by decide) dX11_louder_181 hl (k := 4) rfl (by decide) (fun x63 ls e_x63 i_x63 hl => ?_)
                              have hl : lv_has ls 14 [(11, .int x63), (10, .int x58), (9, .int x54), (13, .int x58), (12, .int x54), (8, .int 60), (3, .int x_2), (4, .int x_3), (6, .int x_5)] := hl
                              refine lv_goto (tgt := 109) hx hb dX11_louder_184 (by decide) ?_
                              exact ih_109 _ _ hB x54 i_x54 x58 i_x58 x63 (i_x63.wk (by decide)) (iv_mup (c := 1) i_x46 (by decide) (by decide) (by omega) hn_109) (lo_go hs (by have w8 := i49_x46.2; omega) e_x63 (lo_nx_of e_x51 e_x52 e_x53 e_x54) (lo_nx_of e_x55 e_x56 e_x57 e_x58) (fun h9 => c62 h9.2.2)) _ (lv_sub hl [0, 1, 2, 5, 6, 7, 8] rfl)
                            · skip
                              refine lv_iload hx hb dX11_louder_170 (lv_at hl 2 rfl) ?_
                              exact iv_iret X hr hlocks hB ⟨rfl, lo_hit hs (by have w8 := i49_x46.2; omega) (lo_nx_of e_x51 e_x52 e_x53 e_x54) (lo_nx_of e_x55 e_x56 e_x57 e_x58) ⟨(by have w8 := i41_x_5.1; have w9 := i41_x_5.2; omega), c60, c62⟩⟩ dX11_louder_172
                  exact L_109 _ _ _ hB x_0 i7_x_0 x_1 i15_x_1 1 (q_1.wk (by decide)) (Nat.lt_succ_self _) (lo_in1 ⟨i7_x_0, i15_x_1, i23_x_2, i31_x_3, i39_x_5, Or.inl (by have w8 := i41_x_5.1; have w9 := i41_x_5.2; omega)⟩ (by have w8 := i41_x_5.1; have w9 := i41_x_5.2; omega)) _ (lv_sub hl [0, 1, 2, 3, 8, 9, 11] rfl)
              · skip
                have i63_x_5 : iv_R 0 1 x_5 := iv_ne_hi c41 i39_x_5 q_2 (by decide)
                refine lv_iload hx hb dX11_louder_72 (lv_at hl 6 rfl) ?_
                refine lv_iconst (v := 0) hx hb dX11_louder_74 (by decide) ?_
                refine lv_bipush (v := 60) hx hb dX11_louder_75 (by decide) ?_
                refine iv_cSi X k_good k_mf_X11_isWithin k_st_X11_isWithin k_ml_X11_83 hB (As := [.int x_4, .int 0, .int 60]) (c_X11_isWithin l D tys base G x_4 i_x_4 0 (q_0.wk (by decide)) 60 (q_60.wk (by decide))) ⟨rfl, rfl⟩ ⟨Nat.le_of_ble_eq_true rfl, Nat.le_of_ble_eq_true rfl⟩ ⟨Nat.le_of_ble_eq_true rfl, Nat.le_of_ble_eq_true rfl⟩ rfl rfl hl.1 (Nat.le_of_ble_eq_true rfl) dX11_louder_77 (fun x65 G9 H locs hq hB => ?_)
                obtain ⟨rfl, i_x65, hp66⟩ := hq
                have k67 : ¬ x65 = 0 → iv_R 0 60 x_4 := fun h => ⟨iv_max i_x_4.1 (Int.le_trans q_0.1 (hp66.1 h).1) (by decide), iv_min i_x_4.2 (Int.le_trans (hp66.1 h).2 q_60.2) (by decide)⟩
                refine lv_if_ne (tgt := 85) hx hb dX11_louder_80 (by decide) (fun c68 => ?_) (fun c68 => ?_)
                · skip
                  have i68_x65 : iv_R 1 1 x65 := iv_ne_lo c68 i_x65 q_0 (by decide)
                  have i69_x_4 : iv_R 0 60 x_4 := ((i_x_4.cutLo (n := 0) (k67 c68).1).cutHi (n := 60) (k67 c68).2)
                  refine lv_iload hx hb dX11_louder_85 (lv_at hl 7 rfl) ?_
                  refine lv_iconst (v := 2) hx hb dX11_louder_87 (by decide) ?_
                  refine lv_icmp_ne (tgt := 96) hx hb dX11_louder_88 (by decide) (fun c71 => ?_) (fun c71 => ?_)
                  · skip
                    refine lv_iload hx hb dX11_louder_96 (lv_at hl 6 rfl) ?_
                    refine lv_istore (lv' := [(8, .int x_4), (7, .int 1), (0, .ref h0), (1, .int x_0), (2, .int x_1), (3, .int x_2), (4, .int x_3), (5, .int x_4), (6, .int x_5)]) hx hb dX11_louder_98 hl (by decide) rfl (fun ls hl => ?_)
                    refine lv_iload_n hx hb dX11_louder_100 rfl (lv_at hl 3 rfl) ?_
                    refine lv_istore (lv' := [(9, .int x_0), (8, .int x_4), (7, .int 1), (0, .ref h0), (1, .int x_0), (2, .int x_1), (3, .int x_2), (4, .int x_3), (5, .int x_4), (6, .int x_5)]) hx hb dX11_louder_101 hl (by decide) rfl (fun ls hl => ?_)
                    refine lv_iload_n hx hb dX11_louder_103 rfl (lv_at hl 5 rfl) ?_
                    refine lv_istore (lv' := [(10, .int x_1), (9, .int x_0), (8, .int x_4), (7, .int 1), (0, .ref h0), (1, .int x_0), (2, .int x_1), (3, .int x_2), (4, .int x_3), (5, .int x_4), (6, .int x_5)]) hx hb dX11_louder_104 hl (by decide) rfl (fun ls hl => ?_)
                    refine lv_iconst (v := 1) hx hb dX11_louder_106 (by decide) ?_
                    refine lv_istore (lv' := [(11, .int 1), (10, .int x_1), (9, .int x_0), (8, .int x_4), (7, .int 1), (0, .ref h0), (1, .int x_0), (2, .int x_1), (3, .int x_2), (4, .int x_3), (5, .int x_4), (6, .int x_5)]) hx hb dX11_louder_107 hl (by decide) rfl (fun ls hl => ?_)
                    have L_109 : ∀ (n_109 : Nat) (H : Heap) (locs : List Loc) (hB : iv_B iv_sh D classes tys base G s.heap H locs) (x72 : Int32) (i_x72 : iv_R 0 999 x72) (x73 : Int32) (i_x73 : iv_R 0 999 x73) (x74 : Int32) (i_x74 : iv_R 1 61 x74) (hn_109 : (62 - x74.toInt).toNat < n_109) (hs : lo_f x_2.toInt x_3.toInt x_5.toInt ((x_4.toInt + 1) - x74.toInt).toNat x74.toInt x72.toInt x73.toInt = lo_v x_0.toInt x_1.toInt x_2.toInt x_3.toInt x_4.toInt x_5.toInt) (ls : Array Slot) (hl : lv_has ls 14 [(11, .int x74), (10, .int x73), (9, .int x72), (8, .int x_4), (3, .int x_2), (4, .int x_3), (6, .int x_5)]), W p l e ({ frames := 1, cells := 0, slots := 0, locals := 22 } : Room) s m args below meth c H locs 0 0 (MQ below (iv_Qi iv_sh D classes tys base (fun v G' => G = G' ∧ v.toInt = lo_v x_0.toInt x_1.toInt x_2.toInt x_3.toInt x_4.toInt x_5.toInt)) args s 0 0 (iv_A base)) (F0 m 109 ls []) := by
                      intro n_109
                      induction n_109 with
                      | zero => intro H locs hB x72 i_x72 x73 i_x73 x74 i_x74 hn_109 hs ls hl; exact absurd hn_109 (Nat.not_lt_zero _)
                      | succ n_109 ih_109 =>
                        intro H locs hB x72 i_x72 x73 i_x73 x74 i_x74 hn_109 hs ls hl
                        refine lv_iload hx hb dX11_louder_109 (lv_at hl 0 rfl) ?_
                        refine lv_iload hx hb dX11_louder_111 (lv_at hl 3 rfl) ?_
                        refine lv_icmp_gt (tgt := 187) hx hb dX11_louder_113 (by decide) (fun c75 => ?_) (fun c75 => ?_)
                        · skip
                          refine lv_iload hx hb dX11_louder_187 (lv_at hl 6 rfl) ?_
                          refine lv_iconst (v := 2) hx hb dX11_louder_189 (by decide) ?_
                          refine lv_icmp_ne (tgt := 197) hx hb dX11_louder_190 (by decide) (fun c76 => ?_) (fun c76 => ?_)
                          · skip
                            refine lv_iload hx hb dX11_louder_197 (lv_at hl 6 rfl) ?_
                            refine lv_iload hx hb dX11_louder_199 (lv_at hl 2 rfl) ?_
                            refine lv_iload hx hb dX11_louder_201 (lv_at hl 1 rfl) ?_
                            refine iv_cSi X k_good k_mf_X11_chosen k_st_X11_chosen k_ml_X11_282 hB (As := [.int x_5, .int x72, .int x73]) (e_X11_chosen l D tys base G x_5 (i63_x_5.wk (by decide)) x72 (i_x72.wk (by decide)) x73 (i_x73.wk (by decide))) ⟨rfl, rfl⟩ ⟨Nat.le_of_ble_eq_true rfl, Nat.le_of_ble_eq_true rfl⟩ ⟨Nat.le_of_ble_eq_true rfl, Nat.le_of_ble_eq_true rfl⟩ rfl rfl hl.1 (Nat.le_of_ble_eq_true rfl) dX11_louder_203 (fun x77 G9 H locs hq hB => ?_)
                            obtain ⟨rfl, hch⟩ := hq
                            exact iv_iret X hr hlocks hB ⟨rfl, lo_end2 hs (by have w8 := Int32.lt_iff_toInt_lt.mp c75; omega) (fun h9 => c71 (Int32.toInt_inj.mp (h9.trans (show (2 : Int) = (2 : Int32).toInt from rfl)))) (fun h9 => hch.1 h9) (fun h9 => hch.2 (by have w8 := i63_x_5.1; have w9 := i63_x_5.2; omega))⟩ dX11_louder_206
                          · skip
                            exact absurd c76 c71
                        · skip
                          have i77_x74 : iv_R 1 60 x74 := (i_x74.cutHi (n := 60) (iv_le_r (iv_nlt c75) i69_x_4))
                          have i78_x_4 : iv_R 1 60 x_4 := (i69_x_4.cutLo (n := 1) (iv_le_l (iv_nlt c75) i_x74))
                          refine lv_sipush (v := 999) hx hb dX11_louder_116 (by decide) ?_
                          refine lv_iload hx hb dX11_louder_119 (lv_at hl 5 rfl) ?_
                          refine lv_iload_n hx hb dX11_louder_121 rfl (lv_at hl 4 rfl) ?_
                          refine lv_iload hx hb dX11_louder_122 (lv_at hl 1 rfl) ?_
                          refine iv_imul hx hb i23_x_2 i_x73 (lo := 0) (hi := 8991) (by decide) dX11_louder_124 (fun x80 e_x80 i_x80 => ?_)
                          refine lv_iconst (v := 4) hx hb dX11_louder_125 (by decide) ?_
                          refine iv_idivp hx hb i_x80 q_4 (lo := 0) (hi := 2247) (by decide) dX11_louder_126 (fun x81 e_x81 i_x81 => ?_)
                          refine iv_iadd hx hb i31_x_3 i_x81 (lo := 0) (hi := 3246) (by decide) dX11_louder_127 (fun x82 e_x82 i_x82 => ?_)
                          refine iv_mmin X hl.1 k_mm_X11_362 ⟨Nat.le_of_ble_eq_true rfl, Nat.le_of_ble_eq_true rfl⟩ ⟨Nat.le_of_ble_eq_true rfl, Nat.le_of_ble_eq_true rfl⟩ q_999 i_x82 (lo := 0) (hi := 999) (by decide) dX11_louder_128 (fun x83 e_x83 i_x83 => ?_)
                          refine lv_istore (lv' := [(12, .int x83), (11, .int x74), (10, .int x73), (9, .int x72), (8, .int x_4), (3, .int x_2), (4, .int x_3), (6, .int x_5)]) hx hb dX11_louder_131 hl (by decide) rfl (fun ls hl => ?_)
                          refine lv_sipush (v := 999) hx hb dX11_louder_133 (by decide) ?_
                          refine lv_iload hx hb dX11_louder_136 (lv_at hl 6 rfl) ?_
                          refine lv_iload_n hx hb dX11_louder_138 rfl (lv_at hl 5 rfl) ?_
                          refine lv_iload hx hb dX11_louder_139 (lv_at hl 3 rfl) ?_
                          refine iv_imul hx hb i23_x_2 i_x72 (lo := 0) (hi := 8991) (by decide) dX11_louder_141 (fun x84 e_x84 i_x84 => ?_)
                          refine lv_iconst (v := 4) hx hb dX11_louder_142 (by decide) ?_
                          refine iv_idivp hx hb i_x84 q_4 (lo := 0) (hi := 2247) (by decide) dX11_louder_143 (fun x85 e_x85 i_x85 => ?_)
                          refine iv_iadd hx hb i31_x_3 i_x85 (lo := 0) (hi := 3246) (by decide) dX11_louder_144 (fun x86 e_x86 i_x86 => ?_)
                          refine iv_mmin X hl.1 k_mm_X11_362 ⟨Nat.le_of_ble_eq_true rfl, Nat.le_of_ble_eq_true rfl⟩ ⟨Nat.le_of_ble_eq_true rfl, Nat.le_of_ble_eq_true rfl⟩ q_999 i_x86 (lo := 0) (hi := 999) (by decide) dX11_louder_145 (fun x87 e_x87 i_x87 => ?_)
                          refine lv_istore (lv' := [(13, .int x87), (12, .int x83), (11, .int x74), (10, .int x73), (9, .int x72), (8, .int x_4), (3, .int x_2), (4, .int x_3), (6, .int x_5)]) hx hb dX11_louder_148 hl (by decide) rfl (fun ls hl => ?_)
                          refine lv_iload hx hb dX11_louder_150 (lv_at hl 8 rfl) ?_
                          refine lv_iconst (v := 2) hx hb dX11_louder_152 (by decide) ?_
                          refine lv_icmp_ne (tgt := 173) hx hb dX11_louder_153 (by decide) (fun c88 => ?_) (fun c88 => ?_)
                          · skip
                            refine lv_iload hx hb dX11_louder_173 (lv_at hl 1 rfl) ?_
                            refine lv_istore (lv' := [(9, .int x83), (13, .int x87), (12, .int x83), (11, .int x74), (10, .int x73), (8, .int x_4), (3, .int x_2), (4, .int x_3), (6, .int x_5)]) hx hb dX11_louder_175 hl (by decide) rfl (fun ls hl => ?_)
                            refine lv_iload hx hb dX11_louder_177 (lv_at hl 1 rfl) ?_
                            refine lv_istore (lv' := [(10, .int x87), (9, .int x83), (13, .int x87), (12, .int x83), (11, .int x74), (8, .int x_4), (3, .int x_2), (4, .int x_3), (6, .int x_5)]) hx hb dX11_louder_179 hl (by decide) rfl (fun ls hl => ?_)
                            refine iv_iinc hx hb i77_x74 (lo := 2) (hi := 61) (by decide) dX11_louder_181 hl (k := 4) rfl (by decide) (fun x89 ls e_x89 i_x89 hl => ?_)
                            have hl : lv_has ls 14 [(11, .int x89), (10, .int x87), (9, .int x83), (13, .int x87), (12, .int x83), (8, .int x_4), (3, .int x_2), (4, .int x_3), (6, .int x_5)] := hl
                            refine lv_goto (tgt := 109) hx hb dX11_louder_184 (by decide) ?_
                            exact ih_109 _ _ hB x83 i_x83 x87 i_x87 x89 (i_x89.wk (by decide)) (iv_mup (c := 1) i_x74 (by decide) (by decide) (by omega) hn_109) (lo_go hs (by have w8 := Int32.le_iff_toInt_le.mp (iv_nlt c75); omega) e_x89 (lo_nx_of e_x80 e_x81 e_x82 e_x83) (lo_nx_of e_x84 e_x85 e_x86 e_x87) (fun h9 => c71 (Int32.toInt_inj.mp (h9.1.trans (show (2 : Int) = (2 : Int32).toInt from rfl))))) _ (lv_sub hl [0, 1, 2, 5, 6, 7, 8] rfl)
                          · skip
                            exact absurd c88 c71
                    exact L_109 _ _ _ hB x_0 i7_x_0 x_1 i15_x_1 1 (q_1.wk (by decide)) (Nat.lt_succ_self _) (lo_in2 ⟨i7_x_0, i15_x_1, i23_x_2, i31_x_3, i39_x_5, Or.inr i69_x_4⟩ (fun h9 => c71 (Int32.toInt_inj.mp (h9.trans (show (2 : Int) = (2 : Int32).toInt from rfl))))) _ (lv_sub hl [0, 1, 2, 3, 8, 9, 11] rfl)
                  · skip
                    exact absurd c71 c41
                · skip
                  have i89_x65 : iv_R 0 0 x65 := (i_x65.cutHi (n := 0) (iv_eq_r c68 q_0).2)
                  refine lv_iconst (v := (-1)) hx hb dX11_louder_83 (by decide) ?_
                  exact iv_iret X hr hlocks hB ⟨rfl, (by rw [lo_v_bad (fun h9 => by have w1 := hp66.2 c68; have w8 := i63_x_5.2; have e0 : (0 : Int32).toInt = 0 := rfl; have e2 : (2 : Int32).toInt = 2 := rfl; have e9 : (9 : Int32).toInt = 9 := rfl; have e60 : (60 : Int32).toInt = 60 := rfl; have e999 : (999 : Int32).toInt = 999 := rfl; obtain ⟨h91, h92, h93, h94, h95, h96⟩ := h9; omega)]; rfl)⟩ dX11_louder_84
set_option maxHeartbeats 4000000 in
set_option maxRecDepth 100000 in
theorem e_X12_louder (l : Launch) (D : va_G) (tys : List (ClassId × FieldType)) (base : Nat) (G : iv_G) (h0 : Nat) (g_h0 : Nat → Int32) (r_h0 : Nat → Nat) (a_h0 : G h0 = some (12, g_h0, r_h0)) (x_0 : Int32) (i_x_0 : iv_R (-2147483648) 2147483647 x_0) (x_1 : Int32) (i_x_1 : iv_R (-2147483648) 2147483647 x_1) (x_2 : Int32) (i_x_2 : iv_R (-2147483648) 2147483647 x_2) (x_3 : Int32) (i_x_3 : iv_R (-2147483648) 2147483647 x_3) (x_4 : Int32) (i_x_4 : iv_R (-2147483648) 2147483647 x_4) (x_5 : Int32) (i_x_5 : iv_R (-2147483648) 2147483647 x_5) : Met l yX12_louder (Cond.code yX12_louder cX12_louder 12 (some .int) :: iv_W0) ({ frames := 2, cells := 0, slots := 0, locals := 43 }) (iv_Pc iv_sh D classes tys base G [.ref h0, .int x_0, .int x_1, .int x_2, .int x_3, .int x_4, .int x_5]) (iv_Qi iv_sh D classes tys base (fun v G' => G = G' ∧ v.toInt = lo_v x_0.toInt x_1.toInt x_2.toInt x_3.toInt x_4.toInt x_5.toInt)) 0 0 (iv_A base) := by
  refine iv_head (by decide) (Nat.le_of_ble_eq_true rfl) ?_
  intro p e s m args below meth c ls X hr hlocks hname hB hl
  have X := X
  have hx := X.1.1
  have hb := X.1.2.1
  have hl : lv_has ls 12 [(0, .ref h0), (1, .int x_0), (2, .int x_1), (3, .int x_2), (4, .int x_3), (5, .int x_4), (6, .int x_5)] := hl
  refine lv_iload_n hx hb dX12_louder_0 rfl (lv_at hl 1 rfl) ?_
  refine lv_iconst (v := 0) hx hb dX12_louder_1 (by decide) ?_
  refine lv_sipush (v := 999) hx hb dX12_louder_2 (by decide) ?_
  refine iv_cSi X k_good k_mf_X12_isIn k_st_X12_isIn k_ml_X12_56 hB (As := [.int x_0, .int 0, .int 999]) (c_X12_isIn l D tys base G x_0 i_x_0 0 (q_0.wk (by decide)) 999 (q_999.wk (by decide))) ⟨rfl, rfl⟩ ⟨Nat.le_of_ble_eq_true rfl, Nat.le_of_ble_eq_true rfl⟩ ⟨Nat.le_of_ble_eq_true rfl, Nat.le_of_ble_eq_true rfl⟩ rfl rfl hl.1 (Nat.le_of_ble_eq_true rfl) dX12_louder_5 (fun x1 G9 H locs hq hB => ?_)
  obtain ⟨rfl, i_x1, hp2⟩ := hq
  have k3 : ¬ x1 = 0 → iv_R 0 999 x_0 := fun h => ⟨iv_max i_x_0.1 (Int.le_trans q_0.1 (hp2.1 h).1) (by decide), iv_min i_x_0.2 (Int.le_trans (hp2.1 h).2 q_999.2) (by decide)⟩
  refine lv_if_eq (tgt := 71) hx hb dX12_louder_8 (by decide) (fun c4 => ?_) (fun c4 => ?_)
  · skip
    have i4_x1 : iv_R 0 0 x1 := (i_x1.cutHi (n := 0) (iv_eq_r c4 q_0).2)
    refine lv_iconst (v := (-1)) hx hb dX12_louder_71 (by decide) ?_
    exact iv_iret X hr hlocks hB ⟨rfl, (by rw [lo_v_bad (fun h9 => by have w1 := hp2.2 c4; have e0 : (0 : Int32).toInt = 0 := rfl; have e2 : (2 : Int32).toInt = 2 := rfl; have e9 : (9 : Int32).toInt = 9 := rfl; have e60 : (60 : Int32).toInt = 60 := rfl; have e999 : (999 : Int32).toInt = 999 := rfl; obtain ⟨h91, h92, h93, h94, h95, h96⟩ := h9; omega)]; rfl)⟩ dX12_louder_72
  · skip
    have i5_x1 : iv_R 1 1 x1 := iv_ne_lo c4 i_x1 q_0 (by decide)
    have i6_x_0 : iv_R 0 999 x_0 := ((i_x_0.cutLo (n := 0) (k3 c4).1).cutHi (n := 999) (k3 c4).2)
    refine lv_iload_n hx hb dX12_louder_11 rfl (lv_at hl 2 rfl) ?_
    refine lv_iconst (v := 0) hx hb dX12_louder_12 (by decide) ?_
    refine lv_sipush (v := 999) hx hb dX12_louder_13 (by decide) ?_
    refine iv_cSi X k_good k_mf_X12_isIn k_st_X12_isIn k_ml_X12_56 hB (As := [.int x_1, .int 0, .int 999]) (c_X12_isIn l D tys base G x_1 i_x_1 0 (q_0.wk (by decide)) 999 (q_999.wk (by decide))) ⟨rfl, rfl⟩ ⟨Nat.le_of_ble_eq_true rfl, Nat.le_of_ble_eq_true rfl⟩ ⟨Nat.le_of_ble_eq_true rfl, Nat.le_of_ble_eq_true rfl⟩ rfl rfl hl.1 (Nat.le_of_ble_eq_true rfl) dX12_louder_16 (fun x8 G9 H locs hq hB => ?_)
    obtain ⟨rfl, i_x8, hp9⟩ := hq
    have k10 : ¬ x8 = 0 → iv_R 0 999 x_1 := fun h => ⟨iv_max i_x_1.1 (Int.le_trans q_0.1 (hp9.1 h).1) (by decide), iv_min i_x_1.2 (Int.le_trans (hp9.1 h).2 q_999.2) (by decide)⟩
    refine lv_if_eq (tgt := 71) hx hb dX12_louder_19 (by decide) (fun c11 => ?_) (fun c11 => ?_)
    · skip
      have i11_x8 : iv_R 0 0 x8 := (i_x8.cutHi (n := 0) (iv_eq_r c11 q_0).2)
      refine lv_iconst (v := (-1)) hx hb dX12_louder_71 (by decide) ?_
      exact iv_iret X hr hlocks hB ⟨rfl, (by rw [lo_v_bad (fun h9 => by have w1 := hp9.2 c11; have e0 : (0 : Int32).toInt = 0 := rfl; have e2 : (2 : Int32).toInt = 2 := rfl; have e9 : (9 : Int32).toInt = 9 := rfl; have e60 : (60 : Int32).toInt = 60 := rfl; have e999 : (999 : Int32).toInt = 999 := rfl; obtain ⟨h91, h92, h93, h94, h95, h96⟩ := h9; omega)]; rfl)⟩ dX12_louder_72
    · skip
      have i12_x8 : iv_R 1 1 x8 := iv_ne_lo c11 i_x8 q_0 (by decide)
      have i13_x_1 : iv_R 0 999 x_1 := ((i_x_1.cutLo (n := 0) (k10 c11).1).cutHi (n := 999) (k10 c11).2)
      refine lv_iload_n hx hb dX12_louder_22 rfl (lv_at hl 3 rfl) ?_
      refine lv_iconst (v := 0) hx hb dX12_louder_23 (by decide) ?_
      refine lv_bipush (v := 9) hx hb dX12_louder_24 (by decide) ?_
      refine iv_cSi X k_good k_mf_X12_isIn k_st_X12_isIn k_ml_X12_56 hB (As := [.int x_2, .int 0, .int 9]) (c_X12_isIn l D tys base G x_2 i_x_2 0 (q_0.wk (by decide)) 9 (q_9.wk (by decide))) ⟨rfl, rfl⟩ ⟨Nat.le_of_ble_eq_true rfl, Nat.le_of_ble_eq_true rfl⟩ ⟨Nat.le_of_ble_eq_true rfl, Nat.le_of_ble_eq_true rfl⟩ rfl rfl hl.1 (Nat.le_of_ble_eq_true rfl) dX12_louder_26 (fun x15 G9 H locs hq hB => ?_)
      obtain ⟨rfl, i_x15, hp16⟩ := hq
      have k17 : ¬ x15 = 0 → iv_R 0 9 x_2 := fun h => ⟨iv_max i_x_2.1 (Int.le_trans q_0.1 (hp16.1 h).1) (by decide), iv_min i_x_2.2 (Int.le_trans (hp16.1 h).2 q_9.2) (by decide)⟩
      refine lv_if_eq (tgt := 71) hx hb dX12_louder_29 (by decide) (fun c18 => ?_) (fun c18 => ?_)
      · skip
        have i18_x15 : iv_R 0 0 x15 := (i_x15.cutHi (n := 0) (iv_eq_r c18 q_0).2)
        refine lv_iconst (v := (-1)) hx hb dX12_louder_71 (by decide) ?_
        exact iv_iret X hr hlocks hB ⟨rfl, (by rw [lo_v_bad (fun h9 => by have w1 := hp16.2 c18; have e0 : (0 : Int32).toInt = 0 := rfl; have e2 : (2 : Int32).toInt = 2 := rfl; have e9 : (9 : Int32).toInt = 9 := rfl; have e60 : (60 : Int32).toInt = 60 := rfl; have e999 : (999 : Int32).toInt = 999 := rfl; obtain ⟨h91, h92, h93, h94, h95, h96⟩ := h9; omega)]; rfl)⟩ dX12_louder_72
      · skip
        have i19_x15 : iv_R 1 1 x15 := iv_ne_lo c18 i_x15 q_0 (by decide)
        have i20_x_2 : iv_R 0 9 x_2 := ((i_x_2.cutLo (n := 0) (k17 c18).1).cutHi (n := 9) (k17 c18).2)
        refine lv_iload hx hb dX12_louder_32 (lv_at hl 4 rfl) ?_
        refine lv_iconst (v := 0) hx hb dX12_louder_34 (by decide) ?_
        refine lv_sipush (v := 999) hx hb dX12_louder_35 (by decide) ?_
        refine iv_cSi X k_good k_mf_X12_isIn k_st_X12_isIn k_ml_X12_56 hB (As := [.int x_3, .int 0, .int 999]) (c_X12_isIn l D tys base G x_3 i_x_3 0 (q_0.wk (by decide)) 999 (q_999.wk (by decide))) ⟨rfl, rfl⟩ ⟨Nat.le_of_ble_eq_true rfl, Nat.le_of_ble_eq_true rfl⟩ ⟨Nat.le_of_ble_eq_true rfl, Nat.le_of_ble_eq_true rfl⟩ rfl rfl hl.1 (Nat.le_of_ble_eq_true rfl) dX12_louder_38 (fun x22 G9 H locs hq hB => ?_)
        obtain ⟨rfl, i_x22, hp23⟩ := hq
        have k24 : ¬ x22 = 0 → iv_R 0 999 x_3 := fun h => ⟨iv_max i_x_3.1 (Int.le_trans q_0.1 (hp23.1 h).1) (by decide), iv_min i_x_3.2 (Int.le_trans (hp23.1 h).2 q_999.2) (by decide)⟩
        refine lv_if_eq (tgt := 71) hx hb dX12_louder_41 (by decide) (fun c25 => ?_) (fun c25 => ?_)
        · skip
          have i25_x22 : iv_R 0 0 x22 := (i_x22.cutHi (n := 0) (iv_eq_r c25 q_0).2)
          refine lv_iconst (v := (-1)) hx hb dX12_louder_71 (by decide) ?_
          exact iv_iret X hr hlocks hB ⟨rfl, (by rw [lo_v_bad (fun h9 => by have w1 := hp23.2 c25; have e0 : (0 : Int32).toInt = 0 := rfl; have e2 : (2 : Int32).toInt = 2 := rfl; have e9 : (9 : Int32).toInt = 9 := rfl; have e60 : (60 : Int32).toInt = 60 := rfl; have e999 : (999 : Int32).toInt = 999 := rfl; obtain ⟨h91, h92, h93, h94, h95, h96⟩ := h9; omega)]; rfl)⟩ dX12_louder_72
        · skip
          have i26_x22 : iv_R 1 1 x22 := iv_ne_lo c25 i_x22 q_0 (by decide)
          have i27_x_3 : iv_R 0 999 x_3 := ((i_x_3.cutLo (n := 0) (k24 c25).1).cutHi (n := 999) (k24 c25).2)
          refine lv_iload hx hb dX12_louder_44 (lv_at hl 6 rfl) ?_
          refine lv_iconst (v := 0) hx hb dX12_louder_46 (by decide) ?_
          refine lv_iconst (v := 2) hx hb dX12_louder_47 (by decide) ?_
          refine iv_cSi X k_good k_mf_X12_isIn k_st_X12_isIn k_ml_X12_56 hB (As := [.int x_5, .int 0, .int 2]) (c_X12_isIn l D tys base G x_5 i_x_5 0 (q_0.wk (by decide)) 2 (q_2.wk (by decide))) ⟨rfl, rfl⟩ ⟨Nat.le_of_ble_eq_true rfl, Nat.le_of_ble_eq_true rfl⟩ ⟨Nat.le_of_ble_eq_true rfl, Nat.le_of_ble_eq_true rfl⟩ rfl rfl hl.1 (Nat.le_of_ble_eq_true rfl) dX12_louder_48 (fun x29 G9 H locs hq hB => ?_)
          obtain ⟨rfl, i_x29, hp30⟩ := hq
          have k31 : ¬ x29 = 0 → iv_R 0 2 x_5 := fun h => ⟨iv_max i_x_5.1 (Int.le_trans q_0.1 (hp30.1 h).1) (by decide), iv_min i_x_5.2 (Int.le_trans (hp30.1 h).2 q_2.2) (by decide)⟩
          refine lv_if_eq (tgt := 71) hx hb dX12_louder_51 (by decide) (fun c32 => ?_) (fun c32 => ?_)
          · skip
            have i32_x29 : iv_R 0 0 x29 := (i_x29.cutHi (n := 0) (iv_eq_r c32 q_0).2)
            refine lv_iconst (v := (-1)) hx hb dX12_louder_71 (by decide) ?_
            exact iv_iret X hr hlocks hB ⟨rfl, (by rw [lo_v_bad (fun h9 => by have w1 := hp30.2 c32; have e0 : (0 : Int32).toInt = 0 := rfl; have e2 : (2 : Int32).toInt = 2 := rfl; have e9 : (9 : Int32).toInt = 9 := rfl; have e60 : (60 : Int32).toInt = 60 := rfl; have e999 : (999 : Int32).toInt = 999 := rfl; obtain ⟨h91, h92, h93, h94, h95, h96⟩ := h9; omega)]; rfl)⟩ dX12_louder_72
          · skip
            have i33_x29 : iv_R 1 1 x29 := iv_ne_lo c32 i_x29 q_0 (by decide)
            have i34_x_5 : iv_R 0 2 x_5 := ((i_x_5.cutLo (n := 0) (k31 c32).1).cutHi (n := 2) (k31 c32).2)
            refine lv_iload hx hb dX12_louder_54 (lv_at hl 6 rfl) ?_
            refine lv_iconst (v := 2) hx hb dX12_louder_56 (by decide) ?_
            refine lv_icmp_ge (tgt := 73) hx hb dX12_louder_57 (by decide) (fun c36 => ?_) (fun c36 => ?_)
            · skip
              have i36_x_5 : iv_R 2 2 x_5 := (i34_x_5.cutLo (n := 2) (iv_le_l c36 q_2))
              refine lv_iload_n hx hb dX12_louder_73 rfl (lv_at hl 1 rfl) ?_
              refine lv_istore (lv' := [(7, .int x_0), (0, .ref h0), (1, .int x_0), (2, .int x_1), (3, .int x_2), (4, .int x_3), (5, .int x_4), (6, .int x_5)]) hx hb dX12_louder_74 hl (by decide) rfl (fun ls hl => ?_)
              refine lv_iload_n hx hb dX12_louder_76 rfl (lv_at hl 3 rfl) ?_
              refine lv_istore (lv' := [(8, .int x_1), (7, .int x_0), (0, .ref h0), (1, .int x_0), (2, .int x_1), (3, .int x_2), (4, .int x_3), (5, .int x_4), (6, .int x_5)]) hx hb dX12_louder_77 hl (by decide) rfl (fun ls hl => ?_)
              refine lv_iconst (v := 1) hx hb dX12_louder_79 (by decide) ?_
              refine lv_istore (lv' := [(9, .int 1), (8, .int x_1), (7, .int x_0), (0, .ref h0), (1, .int x_0), (2, .int x_1), (3, .int x_2), (4, .int x_3), (5, .int x_4), (6, .int x_5)]) hx hb dX12_louder_80 hl (by decide) rfl (fun ls hl => ?_)
              have L_82 : ∀ (n_82 : Nat) (H : Heap) (locs : List Loc) (hB : iv_B iv_sh D classes tys base G s.heap H locs) (x38 : Int32) (i_x38 : iv_R 0 999 x38) (x39 : Int32) (i_x39 : iv_R 0 999 x39) (x40 : Int32) (i_x40 : iv_R 1 61 x40) (hn_82 : (62 - x40.toInt).toNat < n_82) (hs : lo_f x_2.toInt x_3.toInt x_5.toInt (61 - x40.toInt).toNat x40.toInt x38.toInt x39.toInt = lo_v x_0.toInt x_1.toInt x_2.toInt x_3.toInt x_4.toInt x_5.toInt) (ls : Array Slot) (hl : lv_has ls 12 [(9, .int x40), (8, .int x39), (7, .int x38), (3, .int x_2), (4, .int x_3), (5, .int x_4), (6, .int x_5)]), W p l e ({ frames := 2, cells := 0, slots := 0, locals := 43 } : Room) s m args below meth c H locs 0 0 (MQ below (iv_Qi iv_sh D classes tys base (fun v G' => G = G' ∧ v.toInt = lo_v x_0.toInt x_1.toInt x_2.toInt x_3.toInt x_4.toInt x_5.toInt)) args s 0 0 (iv_A base)) (F0 m 82 ls []) := by
                intro n_82
                induction n_82 with
                | zero => intro H locs hB x38 i_x38 x39 i_x39 x40 i_x40 hn_82 hs ls hl; exact absurd hn_82 (Nat.not_lt_zero _)
                | succ n_82 ih_82 =>
                  intro H locs hB x38 i_x38 x39 i_x39 x40 i_x40 hn_82 hs ls hl
                  refine lv_iload hx hb dX12_louder_82 (lv_at hl 0 rfl) ?_
                  refine lv_iload hx hb dX12_louder_84 (lv_at hl 6 rfl) ?_
                  refine lv_iconst (v := 2) hx hb dX12_louder_86 (by decide) ?_
                  refine lv_icmp_ne (tgt := 95) hx hb dX12_louder_87 (by decide) (fun c41 => ?_) (fun c41 => ?_)
                  · skip
                    exact (iv_ne_lo c41 i36_x_5 q_2 (a' := 3) (by decide)).no (by decide)
                  · skip
                    refine lv_bipush (v := 60) hx hb dX12_louder_90 (by decide) ?_
                    refine lv_goto (tgt := 97) hx hb dX12_louder_92 (by decide) ?_
                    refine lv_icmp_gt (tgt := 157) hx hb dX12_louder_97 (by decide) (fun c42 => ?_) (fun c42 => ?_)
                    · skip
                      have i42_x40 : iv_R 61 61 x40 := (i_x40.cutLo (n := 61) (iv_lt_l c42 q_60 (by decide)))
                      refine lv_iload hx hb dX12_louder_157 (lv_at hl 6 rfl) ?_
                      refine lv_iconst (v := 2) hx hb dX12_louder_159 (by decide) ?_
                      refine lv_icmp_ne (tgt := 167) hx hb dX12_louder_160 (by decide) (fun c44 => ?_) (fun c44 => ?_)
                      · skip
                        exact (iv_ne_lo c44 i36_x_5 q_2 (a' := 3) (by decide)).no (by decide)
                      · skip
                        refine lv_iconst (v := (-1)) hx hb dX12_louder_163 (by decide) ?_
                        refine lv_goto (tgt := 179) hx hb dX12_louder_164 (by decide) ?_
                        exact iv_iret X hr hlocks hB ⟨rfl, lo_end1 hs (by have w8 := i42_x40.1; omega) (by have w8 := i36_x_5.1; have w9 := i36_x_5.2; omega)⟩ dX12_louder_179
                    · skip
                      have i44_x40 : iv_R 1 60 x40 := (i_x40.cutHi (n := 60) (iv_le_r (iv_nlt c42) q_60))
                      refine lv_iload hx hb dX12_louder_100 (lv_at hl 1 rfl) ?_
                      refine lv_iload_n hx hb dX12_louder_102 rfl (lv_at hl 3 rfl) ?_
                      refine lv_iload hx hb dX12_louder_103 (lv_at hl 4 rfl) ?_
                      refine iv_cSi X k_good k_mf_X12_louderBy k_st_X12_louderBy k_ml_X12_444 hB (As := [.int x39, .int x_2, .int x_3]) (e_X12_louderBy l D tys base G x39 i_x39 x_2 i20_x_2 x_3 i27_x_3) ⟨rfl, rfl⟩ ⟨Nat.le_of_ble_eq_true rfl, Nat.le_of_ble_eq_true rfl⟩ ⟨Nat.le_of_ble_eq_true rfl, Nat.le_of_ble_eq_true rfl⟩ rfl rfl hl.1 (Nat.le_of_ble_eq_true rfl) dX12_louder_105 (fun x46 G9 H locs hq hB => ?_)
                      obtain ⟨rfl, i_x46, e_x46⟩ := hq
                      refine lv_istore (lv' := [(10, .int x46), (9, .int x40), (8, .int x39), (7, .int x38), (3, .int x_2), (4, .int x_3), (5, .int x_4), (6, .int x_5)]) hx hb dX12_louder_108 hl (by decide) rfl (fun ls hl => ?_)
                      refine lv_iload hx hb dX12_louder_110 (lv_at hl 3 rfl) ?_
                      refine lv_iload_n hx hb dX12_louder_112 rfl (lv_at hl 4 rfl) ?_
                      refine lv_iload hx hb dX12_louder_113 (lv_at hl 5 rfl) ?_
                      refine iv_cSi X k_good k_mf_X12_louderBy k_st_X12_louderBy k_ml_X12_444 hB (As := [.int x38, .int x_2, .int x_3]) (e_X12_louderBy l D tys base G x38 i_x38 x_2 i20_x_2 x_3 i27_x_3) ⟨rfl, rfl⟩ ⟨Nat.le_of_ble_eq_true rfl, Nat.le_of_ble_eq_true rfl⟩ ⟨Nat.le_of_ble_eq_true rfl, Nat.le_of_ble_eq_true rfl⟩ rfl rfl hl.1 (Nat.le_of_ble_eq_true rfl) dX12_louder_115 (fun x47 G9 H locs hq hB => ?_)
                      obtain ⟨rfl, i_x47, e_x47⟩ := hq
                      refine lv_istore (lv' := [(11, .int x47), (10, .int x46), (9, .int x40), (8, .int x39), (7, .int x38), (3, .int x_2), (4, .int x_3), (5, .int x_4), (6, .int x_5)]) hx hb dX12_louder_118 hl (by decide) rfl (fun ls hl => ?_)
                      refine lv_iload hx hb dX12_louder_120 (lv_at hl 8 rfl) ?_
                      refine lv_iconst (v := 2) hx hb dX12_louder_122 (by decide) ?_
                      refine lv_icmp_ne (tgt := 143) hx hb dX12_louder_123 (by decide) (fun c48 => ?_) (fun c48 => ?_)
                      · skip
                        exact (iv_ne_lo c48 i36_x_5 q_2 (a' := 3) (by decide)).no (by decide)
                      · skip
                        refine lv_iload hx hb dX12_louder_126 (lv_at hl 1 rfl) ?_
                        refine lv_iload hx hb dX12_louder_128 (lv_at hl 4 rfl) ?_
                        refine lv_icmp_ne (tgt := 143) hx hb dX12_louder_130 (by decide) (fun c49 => ?_) (fun c49 => ?_)
                        · skip
                          refine lv_iload hx hb dX12_louder_143 (lv_at hl 1 rfl) ?_
                          refine lv_istore (lv' := [(7, .int x46), (11, .int x47), (10, .int x46), (9, .int x40), (8, .int x39), (3, .int x_2), (4, .int x_3), (5, .int x_4), (6, .int x_5)]) hx hb dX12_louder_145 hl (by decide) rfl (fun ls hl => ?_)
                          refine lv_iload hx hb dX12_louder_147 (lv_at hl 1 rfl) ?_
                          refine lv_istore (lv' := [(8, .int x47), (7, .int x46), (11, .int x47), (10, .int x46), (9, .int x40), (3, .int x_2), (4, .int x_3), (5, .int x_4), (6, .int x_5)]) hx hb dX12_louder_149 hl (by decide) rfl (fun ls hl => ?_)
                          refine iv_iinc hx hb i44_x40 (lo := 2) (hi := 61) (by decide) dX12_louder_151 hl (k := 4) rfl (by decide) (fun x50 ls e_x50 i_x50 hl => ?_)
                          have hl : lv_has ls 12 [(9, .int x50), (8, .int x47), (7, .int x46), (11, .int x47), (10, .int x46), (3, .int x_2), (4, .int x_3), (5, .int x_4), (6, .int x_5)] := hl
                          refine lv_goto (tgt := 82) hx hb dX12_louder_154 (by decide) ?_
                          exact ih_82 _ _ hB x46 i_x46 x47 i_x47 x50 (i_x50.wk (by decide)) (iv_mup (c := 1) i_x40 (by decide) (by decide) (by omega) hn_82) (lo_go hs (by have w8 := i44_x40.2; omega) e_x50 e_x46 e_x47 (fun h9 => c49 h9.2.1)) _ (lv_sub hl [0, 1, 2, 5, 6, 7, 8] rfl)
                        · skip
                          refine lv_iload hx hb dX12_louder_133 (lv_at hl 0 rfl) ?_
                          refine lv_iload hx hb dX12_louder_135 (lv_at hl 3 rfl) ?_
                          refine lv_icmp_ne (tgt := 143) hx hb dX12_louder_137 (by decide) (fun c51 => ?_) (fun c51 => ?_)
                          · skip
                            refine lv_iload hx hb dX12_louder_143 (lv_at hl 1 rfl) ?_
                            refine lv_istore (lv' := [(7, .int x46), (11, .int x47), (10, .int x46), (9, .int x40), (8, .int x39), (3, .int x_2), (4, .int x_3), (5, .int x_4), (6, .int x_5)]) hx hb dX12_louder_145 hl (by decide) rfl (fun ls hl => ?_)
                            refine lv_iload hx hb dX12_louder_147 (lv_at hl 1 rfl) ?_
                            refine lv_istore (lv' := [(8, .int x47), (7, .int x46), (11, .int x47), (10, .int x46), (9, .int x40), (3, .int x_2), (4, .int x_3), (5, .int x_4), (6, .int x_5)]) hx hb dX12_louder_149 hl (by decide) rfl (fun ls hl => ?_)
                            refine iv_iinc hx hb i44_x40 (lo := 2) (hi := 61) (by decide) dX12_louder_151 hl (k := 4) rfl (by decide) (fun x52 ls e_x52 i_x52 hl => ?_)
                            have hl : lv_has ls 12 [(9, .int x52), (8, .int x47), (7, .int x46), (11, .int x47), (10, .int x46), (3, .int x_2), (4, .int x_3), (5, .int x_4), (6, .int x_5)] := hl
                            refine lv_goto (tgt := 82) hx hb dX12_louder_154 (by decide) ?_
                            exact ih_82 _ _ hB x46 i_x46 x47 i_x47 x52 (i_x52.wk (by decide)) (iv_mup (c := 1) i_x40 (by decide) (by decide) (by omega) hn_82) (lo_go hs (by have w8 := i44_x40.2; omega) e_x52 e_x46 e_x47 (fun h9 => c51 h9.2.2)) _ (lv_sub hl [0, 1, 2, 5, 6, 7, 8] rfl)
                          · skip
                            refine lv_iload hx hb dX12_louder_140 (lv_at hl 2 rfl) ?_
                            exact iv_iret X hr hlocks hB ⟨rfl, lo_hit hs (by have w8 := i44_x40.2; omega) e_x46 e_x47 ⟨(by have w8 := i36_x_5.1; have w9 := i36_x_5.2; omega), c49, c51⟩⟩ dX12_louder_142
              exact L_82 _ _ _ hB x_0 (i6_x_0.wk (by decide)) x_1 (i13_x_1.wk (by decide)) 1 (q_1.wk (by decide)) (Nat.lt_succ_self _) (lo_in1 ⟨i6_x_0, i13_x_1, i20_x_2, i27_x_3, i34_x_5, Or.inl (by have w8 := i36_x_5.1; have w9 := i36_x_5.2; omega)⟩ (by have w8 := i36_x_5.1; have w9 := i36_x_5.2; omega)) _ (lv_sub hl [0, 1, 2, 6, 7, 8, 9] rfl)
            · skip
              have i52_x_5 : iv_R 0 1 x_5 := (i34_x_5.cutHi (n := 1) (iv_lt_r (iv_nle c36) q_2 (by decide)))
              refine lv_iload hx hb dX12_louder_60 (lv_at hl 5 rfl) ?_
              refine lv_iconst (v := 0) hx hb dX12_louder_62 (by decide) ?_
              refine lv_bipush (v := 60) hx hb dX12_louder_63 (by decide) ?_
              refine iv_cSi X k_good k_mf_X12_isIn k_st_X12_isIn k_ml_X12_56 hB (As := [.int x_4, .int 0, .int 60]) (c_X12_isIn l D tys base G x_4 i_x_4 0 (q_0.wk (by decide)) 60 (q_60.wk (by decide))) ⟨rfl, rfl⟩ ⟨Nat.le_of_ble_eq_true rfl, Nat.le_of_ble_eq_true rfl⟩ ⟨Nat.le_of_ble_eq_true rfl, Nat.le_of_ble_eq_true rfl⟩ rfl rfl hl.1 (Nat.le_of_ble_eq_true rfl) dX12_louder_65 (fun x54 G9 H locs hq hB => ?_)
              obtain ⟨rfl, i_x54, hp55⟩ := hq
              have k56 : ¬ x54 = 0 → iv_R 0 60 x_4 := fun h => ⟨iv_max i_x_4.1 (Int.le_trans q_0.1 (hp55.1 h).1) (by decide), iv_min i_x_4.2 (Int.le_trans (hp55.1 h).2 q_60.2) (by decide)⟩
              refine lv_if_ne (tgt := 73) hx hb dX12_louder_68 (by decide) (fun c57 => ?_) (fun c57 => ?_)
              · skip
                have i57_x54 : iv_R 1 1 x54 := iv_ne_lo c57 i_x54 q_0 (by decide)
                have i58_x_4 : iv_R 0 60 x_4 := ((i_x_4.cutLo (n := 0) (k56 c57).1).cutHi (n := 60) (k56 c57).2)
                refine lv_iload_n hx hb dX12_louder_73 rfl (lv_at hl 1 rfl) ?_
                refine lv_istore (lv' := [(7, .int x_0), (0, .ref h0), (1, .int x_0), (2, .int x_1), (3, .int x_2), (4, .int x_3), (5, .int x_4), (6, .int x_5)]) hx hb dX12_louder_74 hl (by decide) rfl (fun ls hl => ?_)
                refine lv_iload_n hx hb dX12_louder_76 rfl (lv_at hl 3 rfl) ?_
                refine lv_istore (lv' := [(8, .int x_1), (7, .int x_0), (0, .ref h0), (1, .int x_0), (2, .int x_1), (3, .int x_2), (4, .int x_3), (5, .int x_4), (6, .int x_5)]) hx hb dX12_louder_77 hl (by decide) rfl (fun ls hl => ?_)
                refine lv_iconst (v := 1) hx hb dX12_louder_79 (by decide) ?_
                refine lv_istore (lv' := [(9, .int 1), (8, .int x_1), (7, .int x_0), (0, .ref h0), (1, .int x_0), (2, .int x_1), (3, .int x_2), (4, .int x_3), (5, .int x_4), (6, .int x_5)]) hx hb dX12_louder_80 hl (by decide) rfl (fun ls hl => ?_)
                have L_82 : ∀ (n_82 : Nat) (H : Heap) (locs : List Loc) (hB : iv_B iv_sh D classes tys base G s.heap H locs) (x60 : Int32) (i_x60 : iv_R 0 999 x60) (x61 : Int32) (i_x61 : iv_R 0 999 x61) (x62 : Int32) (i_x62 : iv_R 1 61 x62) (hn_82 : (62 - x62.toInt).toNat < n_82) (hs : lo_f x_2.toInt x_3.toInt x_5.toInt ((x_4.toInt + 1) - x62.toInt).toNat x62.toInt x60.toInt x61.toInt = lo_v x_0.toInt x_1.toInt x_2.toInt x_3.toInt x_4.toInt x_5.toInt) (ls : Array Slot) (hl : lv_has ls 12 [(9, .int x62), (8, .int x61), (7, .int x60), (3, .int x_2), (4, .int x_3), (5, .int x_4), (6, .int x_5)]), W p l e ({ frames := 2, cells := 0, slots := 0, locals := 43 } : Room) s m args below meth c H locs 0 0 (MQ below (iv_Qi iv_sh D classes tys base (fun v G' => G = G' ∧ v.toInt = lo_v x_0.toInt x_1.toInt x_2.toInt x_3.toInt x_4.toInt x_5.toInt)) args s 0 0 (iv_A base)) (F0 m 82 ls []) := by
                  intro n_82
                  induction n_82 with
                  | zero => intro H locs hB x60 i_x60 x61 i_x61 x62 i_x62 hn_82 hs ls hl; exact absurd hn_82 (Nat.not_lt_zero _)
                  | succ n_82 ih_82 =>
                    intro H locs hB x60 i_x60 x61 i_x61 x62 i_x62 hn_82 hs ls hl
                    refine lv_iload hx hb dX12_louder_82 (lv_at hl 0 rfl) ?_
                    refine lv_iload hx hb dX12_louder_84 (lv_at hl 6 rfl) ?_
                    refine lv_iconst (v := 2) hx hb dX12_louder_86 (by decide) ?_
                    refine lv_icmp_ne (tgt := 95) hx hb dX12_louder_87 (by decide) (fun c63 => ?_) (fun c63 => ?_)
                    · skip
                      refine lv_iload hx hb dX12_louder_95 (lv_at hl 5 rfl) ?_
                      refine lv_icmp_gt (tgt := 157) hx hb dX12_louder_97 (by decide) (fun c64 => ?_) (fun c64 => ?_)
                      · skip
                        refine lv_iload hx hb dX12_louder_157 (lv_at hl 6 rfl) ?_
                        refine lv_iconst (v := 2) hx hb dX12_louder_159 (by decide) ?_
                        refine lv_icmp_ne (tgt := 167) hx hb dX12_louder_160 (by decide) (fun c65 => ?_) (fun c65 => ?_)
                        · skip
                          refine lv_iload hx hb dX12_louder_167 (lv_at hl 6 rfl) ?_
                          refine lv_if_ne (tgt := 177) hx hb dX12_louder_169 (by decide) (fun c66 => ?_) (fun c66 => ?_)
                          · skip
                            have i66_x_5 : iv_R 1 1 x_5 := iv_ne_lo c66 i52_x_5 q_0 (by decide)
                            refine lv_iload hx hb dX12_louder_177 (lv_at hl 1 rfl) ?_
                            exact iv_iret X hr hlocks hB ⟨rfl, lo_end2 hs (by have w8 := Int32.lt_iff_toInt_lt.mp c64; omega) (fun h9 => c63 (Int32.toInt_inj.mp (h9.trans (show (2 : Int) = (2 : Int32).toInt from rfl)))) (fun h9 => absurd (Int32.toInt_inj.mp (h9.trans (show (0 : Int) = (0 : Int32).toInt from rfl))) c66) (fun _ => rfl)⟩ dX12_louder_179
                          · skip
                            have i67_x_5 : iv_R 0 0 x_5 := (i52_x_5.cutHi (n := 0) (iv_eq_r c66 q_0).2)
                            refine lv_iload hx hb dX12_louder_172 (lv_at hl 2 rfl) ?_
                            refine lv_goto (tgt := 179) hx hb dX12_louder_174 (by decide) ?_
                            exact iv_iret X hr hlocks hB ⟨rfl, lo_end2 hs (by have w8 := Int32.lt_iff_toInt_lt.mp c64; omega) (fun h9 => c63 (Int32.toInt_inj.mp (h9.trans (show (2 : Int) = (2 : Int32).toInt from rfl)))) (fun _ => rfl) (fun h9 => absurd (by rw [c66]; rfl) h9)⟩ dX12_louder_179
                        · skip
                          exact absurd c65 c63
                      · skip
                        have i68_x62 : iv_R 1 60 x62 := (i_x62.cutHi (n := 60) (iv_le_r (iv_nlt c64) i58_x_4))
                        have i69_x_4 : iv_R 1 60 x_4 := (i58_x_4.cutLo (n := 1) (iv_le_l (iv_nlt c64) i_x62))
                        refine lv_iload hx hb dX12_louder_100 (lv_at hl 1 rfl) ?_
                        refine lv_iload_n hx hb dX12_louder_102 rfl (lv_at hl 3 rfl) ?_
                        refine lv_iload hx hb dX12_louder_103 (lv_at hl 4 rfl) ?_
                        refine iv_cSi X k_good k_mf_X12_louderBy k_st_X12_louderBy k_ml_X12_444 hB (As := [.int x61, .int x_2, .int x_3]) (e_X12_louderBy l D tys base G x61 i_x61 x_2 i20_x_2 x_3 i27_x_3) ⟨rfl, rfl⟩ ⟨Nat.le_of_ble_eq_true rfl, Nat.le_of_ble_eq_true rfl⟩ ⟨Nat.le_of_ble_eq_true rfl, Nat.le_of_ble_eq_true rfl⟩ rfl rfl hl.1 (Nat.le_of_ble_eq_true rfl) dX12_louder_105 (fun x71 G9 H locs hq hB => ?_)
                        obtain ⟨rfl, i_x71, e_x71⟩ := hq
                        refine lv_istore (lv' := [(10, .int x71), (9, .int x62), (8, .int x61), (7, .int x60), (3, .int x_2), (4, .int x_3), (5, .int x_4), (6, .int x_5)]) hx hb dX12_louder_108 hl (by decide) rfl (fun ls hl => ?_)
                        refine lv_iload hx hb dX12_louder_110 (lv_at hl 3 rfl) ?_
                        refine lv_iload_n hx hb dX12_louder_112 rfl (lv_at hl 4 rfl) ?_
                        refine lv_iload hx hb dX12_louder_113 (lv_at hl 5 rfl) ?_
                        refine iv_cSi X k_good k_mf_X12_louderBy k_st_X12_louderBy k_ml_X12_444 hB (As := [.int x60, .int x_2, .int x_3]) (e_X12_louderBy l D tys base G x60 i_x60 x_2 i20_x_2 x_3 i27_x_3) ⟨rfl, rfl⟩ ⟨Nat.le_of_ble_eq_true rfl, Nat.le_of_ble_eq_true rfl⟩ ⟨Nat.le_of_ble_eq_true rfl, Nat.le_of_ble_eq_true rfl⟩ rfl rfl hl.1 (Nat.le_of_ble_eq_true rfl) dX12_louder_115 (fun x72 G9 H locs hq hB => ?_)
                        obtain ⟨rfl, i_x72, e_x72⟩ := hq
                        refine lv_istore (lv' := [(11, .int x72), (10, .int x71), (9, .int x62), (8, .int x61), (7, .int x60), (3, .int x_2), (4, .int x_3), (5, .int x_4), (6, .int x_5)]) hx hb dX12_louder_118 hl (by decide) rfl (fun ls hl => ?_)
                        refine lv_iload hx hb dX12_louder_120 (lv_at hl 8 rfl) ?_
                        refine lv_iconst (v := 2) hx hb dX12_louder_122 (by decide) ?_
                        refine lv_icmp_ne (tgt := 143) hx hb dX12_louder_123 (by decide) (fun c73 => ?_) (fun c73 => ?_)
                        · skip
                          refine lv_iload hx hb dX12_louder_143 (lv_at hl 1 rfl) ?_
                          refine lv_istore (lv' := [(7, .int x71), (11, .int x72), (10, .int x71), (9, .int x62), (8, .int x61), (3, .int x_2), (4, .int x_3), (5, .int x_4), (6, .int x_5)]) hx hb dX12_louder_145 hl (by decide) rfl (fun ls hl => ?_)
                          refine lv_iload hx hb dX12_louder_147 (lv_at hl 1 rfl) ?_
                          refine lv_istore (lv' := [(8, .int x72), (7, .int x71), (11, .int x72), (10, .int x71), (9, .int x62), (3, .int x_2), (4, .int x_3), (5, .int x_4), (6, .int x_5)]) hx hb dX12_louder_149 hl (by decide) rfl (fun ls hl => ?_)
                          refine iv_iinc hx hb i68_x62 (lo := 2) (hi := 61) (by decide) dX12_louder_151 hl (k := 4) rfl (by decide) (fun x74 ls e_x74 i_x74 hl => ?_)
                          have hl : lv_has ls 12 [(9, .int x74), (8, .int x72), (7, .int x71), (11, .int x72), (10, .int x71), (3, .int x_2), (4, .int x_3), (5, .int x_4), (6, .int x_5)] := hl
                          refine lv_goto (tgt := 82) hx hb dX12_louder_154 (by decide) ?_
                          exact ih_82 _ _ hB x71 i_x71 x72 i_x72 x74 (i_x74.wk (by decide)) (iv_mup (c := 1) i_x62 (by decide) (by decide) (by omega) hn_82) (lo_go hs (by have w8 := Int32.le_iff_toInt_le.mp (iv_nlt c64); omega) e_x74 e_x71 e_x72 (fun h9 => c63 (Int32.toInt_inj.mp (h9.1.trans (show (2 : Int) = (2 : Int32).toInt from rfl))))) _ (lv_sub hl [0, 1, 2, 5, 6, 7, 8] rfl)
                        · skip
                          exact absurd c73 c63
                    · skip
                      exact (i52_x_5.cutLo (n := 2) (iv_eq_r c63 q_2).1).no (by decide)
                exact L_82 _ _ _ hB x_0 (i6_x_0.wk (by decide)) x_1 (i13_x_1.wk (by decide)) 1 (q_1.wk (by decide)) (Nat.lt_succ_self _) (lo_in2 ⟨i6_x_0, i13_x_1, i20_x_2, i27_x_3, i34_x_5, Or.inr i58_x_4⟩ (fun h9 => absurd h9 (by have w9 := i52_x_5.2; omega))) _ (lv_sub hl [0, 1, 2, 6, 7, 8, 9] rfl)
              · skip
                have i74_x54 : iv_R 0 0 x54 := (i_x54.cutHi (n := 0) (iv_eq_r c57 q_0).2)
                refine lv_iconst (v := (-1)) hx hb dX12_louder_71 (by decide) ?_
                exact iv_iret X hr hlocks hB ⟨rfl, (by rw [lo_v_bad (fun h9 => by have w1 := hp55.2 c57; have w8 := i52_x_5.2; have e0 : (0 : Int32).toInt = 0 := rfl; have e2 : (2 : Int32).toInt = 2 := rfl; have e9 : (9 : Int32).toInt = 9 := rfl; have e60 : (60 : Int32).toInt = 60 := rfl; have e999 : (999 : Int32).toInt = 999 := rfl; obtain ⟨h91, h92, h93, h94, h95, h96⟩ := h9; omega)]; rfl)⟩ dX12_louder_72
