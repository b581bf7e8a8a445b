theorem iv_refs4 {S : List Nat} {G1 G2 : iv_G} {h : Nat} {g1 g2 : Nat → Int32} {r1 r2 : Nat → Nat} (hm : iv_MdT S G1 G2) (a1 : G1 h = some (4, g1, r1)) (a2 : G2 h = some (4, g2, r2)) : r2 = r1 := by
  obtain ⟨g3, r3, c2, rel⟩ := hm.ex a1
  have e := c2.symm.trans a2
  cases e
  exact funext fun j => rel.1 j (fun h => absurd (show (4 : Nat) = 5 from h) (by decide))
theorem iv_got4 {D : va_G} {tys : List (ClassId × FieldType)} {base : Nat} {G : iv_G} {H0 H : Heap} {locs : List Loc} {a : Nat} {g : Nat → Int32} {r : Nat → Nat} (hB : iv_B iv_sh D classes tys base G H0 H locs) (ha : G a = some (4, g, r)) : (∃ (f : Nat → Int32) (q : Nat → Nat), G (r 2) = some (32, f, q)) ∧ ∃ (f : Nat → Int32) (q : Nat → Nat), G (r 4) = some (33, f, q) := by
  obtain ⟨q, h1, h2, h3⟩ := (hB.got ha).obj sh_4
  have hq : q = (RX4, TX4, 5) := Option.some.inj (h1.symm.trans ft_X4.1)
  rw [hq] at h3
  obtain ⟨⟨c', g', r'⟩, h5, h6⟩ : ∃ k' : iv_K, G (r 2) = some k' ∧ k'.1 = 32 := h3 2 (by decide)
  have h6 : c' = 32 := h6
  rw [h6] at h5
  obtain ⟨⟨c2, g2, r2⟩, h7, h8⟩ : ∃ k' : iv_K, G (r 4) = some k' ∧ k'.1 = 33 := h3 4 (by decide)
  have h8 : c2 = 33 := h8
  rw [h8] at h7
  exact ⟨⟨g', r', h5⟩, ⟨g2, r2, h7⟩⟩
theorem pe_no {S n : Nat} (h : S / 2 ^ n % 2 = 0) : iv_pcn S (n + 1) = iv_pcn S n := by
  show iv_pcn S n + S / 2 ^ n % 2 = iv_pcn S n
  omega
theorem pe_ok {S n : Nat} (h : S / 2 ^ n % 2 = 1) : iv_pcn S (n + 1) = iv_pcn S n + 1 := by
  show iv_pcn S n + S / 2 ^ n % 2 = iv_pcn S n + 1
  omega
theorem pe_le {S n k : Nat} (h : n ≤ k) : iv_pcn S n ≤ iv_pcn S k := by
  have w := iv_pcn.mono S (n := n) (k - n)
  rw [show n + (k - n) = k by omega] at w
  exact w
theorem pe_mem.no {gp : Nat → Int32} {S n : Nat} (h : pe_mem gp S n) (hz : S / 2 ^ n % 2 = 0) : pe_mem gp S (n + 1) := fun b hb hs => by
  by_cases q : b = n
  · subst q
    omega
  · exact h b (by omega) hs
theorem pe_mem.ok {gp : Nat → Int32} {S n : Nat} {x : Int32} (h : pe_mem gp S n) (hx : x.toInt = (n : Int)) : pe_mem (upd gp (iv_pcn S n) x) S (n + 1) := fun b hb hs => by
  by_cases q : b = n
  · subst q
    rw [show upd gp (iv_pcn S b) x (iv_pcn S b) = x from if_pos rfl]
    exact hx
  · have w1 := pe_ok hs
    have w2 : iv_pcn S (b + 1) ≤ iv_pcn S n := pe_le (by omega)
    rw [show upd gp (iv_pcn S n) x (iv_pcn S b) = gp (iv_pcn S b) from if_neg (by omega)]
    exact h b (by omega) hs
def cp_I (gp u : Nat → Int32) (m : Int32) (gy : Nat → Int32) (s R0 L0 : Nat) : Prop := ∀ R L : Nat, L < s → (R < R0 ∨ (R = R0 ∧ L < L0)) → gy (R * 8 + L) = cp_val gp u m gy s R (L : Int)
theorem cp_I.put {gp u : Nat → Int32} {m : Int32} {gy : Nat → Int32} {s R0 L0 : Nat} {x : Int32} (h : cp_I gp u m gy s R0 L0) (hs : s ≤ 8) (hR : R0 < 256) (hL : L0 < s) (hx : x = cp_val gp u m gy s R0 (L0 : Int)) : cp_I gp u m (upd gy (R0 * 8 + L0) x) s R0 (L0 + 1) := fun R L hLs hc => by
  have e : cp_val gp u m (upd gy (R0 * 8 + L0) x) s R (L : Int) = cp_val gp u m gy s R (L : Int) := by
    unfold cp_val
    rw [cp_sm_upd s (fun i hi hq => by have w := hq.dec (by omega) (by omega); omega)]
  rw [e]
  by_cases q : R = R0 ∧ L = L0
  · rw [q.1, q.2, show upd gy (R0 * 8 + L0) x (R0 * 8 + L0) = x from if_pos rfl]
    exact hx
  · rw [show upd gy (R0 * 8 + L0) x (R * 8 + L) = gy (R * 8 + L) from if_neg (by omega)]
    exact h R L hLs (by omega)
theorem cp_I.next {gp u : Nat → Int32} {m : Int32} {gy : Nat → Int32} {s R0 : Nat} (h : cp_I gp u m gy s R0 s) : cp_I gp u m gy s (R0 + 1) 0 := fun R L hLs hc => h R L hLs (by omega)
theorem pe_nx {P : Nat → Prop} {n : Nat} (h : ∀ j, j < n → ¬ P j) (hn : ¬ P n) : ∀ j, j < n + 1 → ¬ P j := fun j hj => by
  by_cases q : j = n
  · rw [q]
    exact hn
  · exact h j (by omega)
set_option maxHeartbeats 4000000 in
set_option maxRecDepth 100000 in
theorem e_X4_gather (l : Launch) (D : va_G) (tys : List (ClassId × FieldType)) (base : Nat) (G : iv_G) (h0 : Nat) (g_h0 : Nat → Int32) (r_h0 : Nat → Nat) (a_h0 : G h0 = some (4, g_h0, r_h0)) (x_0 : Int32) (i_x_0 : iv_R (-2147483648) 2147483647 x_0) (A : Nat → Nat) (u : Nat → Int32) (cm cn : Int32) (Wc : cw (r_h0 0) A u cm cn G) (hx1 : iv_R 0 1023 x_0) (hc8 : iv_pcn x_0.toInt.toNat cn.toInt.toNat ≤ 8) : Met l yX4_gather (Cond.code yX4_gather cX4_gather 3 none :: iv_W0) ({ frames := 0, cells := 0, slots := 0, locals := 0 }) (iv_Pc iv_sh D classes tys base G [.ref h0, .int x_0]) (iv_Qv iv_sh D classes tys base (fun G' => iv_Md [4, 32] G G' ∧ (∃ (g' gp : Nat → Int32) (rp : Nat → Nat), G' h0 = some (4, g', r_h0) ∧ G' (r_h0 2) = some (32, gp, rp) ∧ pe_mem gp x_0.toInt.toNat cn.toInt.toNat ∧ (g' 3).toInt = ((iv_pcn x_0.toInt.toNat cn.toInt.toNat : Nat) : Int)))) 0 0 (iv_A base) := by
  refine iv_head (by decide) (Nat.le_of_ble_eq_true rfl) ?_
  intro p e s m args below meth c ls X hr hlocks hname hB hl
  have X := X
  have hx := X.1.1
  have hb := X.1.2.1
  have hM : iv_Md [4, 32] G G := iv_Md.rf
  have hl : lv_has ls 3 [(0, .ref h0), (1, .int x_0)] := hl
  have a_st := a_h0
  obtain ⟨⟨gp0, rp0, h_gp0⟩, _⟩ := iv_got4 hB a_h0
  refine lv_aload_n hx hb dX4_gather_0 rfl (lv_at hl 0 rfl) ?_
  refine lv_iconst (v := 0) hx hb dX4_gather_1 (by decide) ?_
  refine iv_puti X ft_X4 hB a_h0 sh_4 3 (by decide) rfl rfl k_fl_X4_61 rfl (q_0.wk (by decide)) rfl rfl dX4_gather_2 (fun H locs hB => ?_)
  have hm := iv_Md.put (x := 0) a_h0 (j := 3) (by decide) (by decide)
  have h9 := iv_up_eq (G := G) (a := h0) (k := (4, upd g_h0 3 0, r_h0))
  generalize iv_up G h0 _ = G1 at hB hm h9
  have hM := hM.stp hm (by decide)
  have h_gp0 := hm.at h_gp0 (by decide)
  generalize hgn_g2 : upd g_h0 _ _ = g2 at h9
  have a_h0 := h9
  have e9_g2 : 0 = g2 3 := by rw [← hgn_g2]; simp [upd]
  refine lv_iconst (v := 0) hx hb dX4_gather_5 (by decide) ?_
  refine lv_istore_n (lv' := [(2, .int 0), (0, .ref h0), (1, .int x_0)]) hx hb dX4_gather_6 rfl hl (by decide) rfl (fun ls hl => ?_)
  have L_7 : ∀ (n_7 : Nat) (G6 : iv_G) (hM : iv_Md [4, 32] G G6) (H : Heap) (locs : List Loc) (hB : iv_B iv_sh D classes tys base G6 s.heap H locs) (g4 : Nat → Int32) (r5 : Nat → Nat) (a_h0 : G6 h0 = some (4, g4, r5)) (x3 : Int32) (i_x3 : iv_R 0 10 x3) (hn_7 : (11 - x3.toInt).toNat < n_7) (gi_7 : r5 = r_h0 ∧ x3.toInt.toNat ≤ cn.toInt.toNat ∧ (g4 3).toInt = ((iv_pcn x_0.toInt.toNat x3.toInt.toNat : Nat) : Int) ∧ ∃ (gp : Nat → Int32) (rp : Nat → Nat), G6 (r_h0 2) = some (32, gp, rp) ∧ pe_mem gp x_0.toInt.toNat x3.toInt.toNat) (ls : Array Slot) (hl : lv_has ls 3 [(2, .int x3), (0, .ref h0), (1, .int x_0)]), W p l e ({ frames := 0, cells := 0, slots := 0, locals := 0 } : Room) s m args below meth c H locs 0 0 (MQ below (iv_Qv iv_sh D classes tys base (fun G' => iv_Md [4, 32] G G' ∧ (∃ (g' gp : Nat → Int32) (rp : Nat → Nat), G' h0 = some (4, g', r_h0) ∧ G' (r_h0 2) = some (32, gp, rp) ∧ pe_mem gp x_0.toInt.toNat cn.toInt.toNat ∧ (g' 3).toInt = ((iv_pcn x_0.toInt.toNat cn.toInt.toNat : Nat) : Int)))) args s 0 0 (iv_A base)) (F0 m 7 ls []) := by
    intro n_7
    induction n_7 with
    | zero => intro G6 hM H locs hB g4 r5 a_h0 x3 i_x3 hn_7 gi_7 ls hl; exact absurd hn_7 (Nat.not_lt_zero _)
    | succ n_7 ih_7 =>
      intro G6 hM H locs hB g4 r5 a_h0 x3 i_x3 hn_7 gi_7 ls hl
      obtain ⟨er, hle, gs, gp, rp, h_gp, gm⟩ := gi_7
      refine lv_iload_n hx hb dX4_gather_7 rfl (lv_at hl 0 rfl) ?_
      refine lv_aload_n hx hb dX4_gather_8 rfl (lv_at hl 1 rfl) ?_
      refine iv_getr X ft_X4 hB a_h0 sh_4 0 (by decide) rfl k_fl_X4_21 dX4_gather_9 (fun b7 g_b7 r_b7 e_b7 a_b7 => ?_)
      refine iv_geti X ft_X5 hB a_b7 sh_5 1 (by decide) rfl k_fl_X4_33 dX4_gather_12 (fun x8 e_x8 i_x8 => ?_)
      have hn8 : x8 = cn := e_x8.trans ((Wc.md hM).1.2.val (by rw [← er, ← e_b7]; exact a_b7))
      refine lv_icmp_ge (tgt := 62) hx hb dX4_gather_15 (by decide) (fun c9 => ?_) (fun c9 => ?_)
      · skip
        have hx3 : x3.toInt = cn.toInt := by have w1 := Int32.le_iff_toInt_le.mp c9; have w2 := congrArg Int32.toInt hn8; have w3 := i_x3.1; have w4 := i_x8.1; omega
        exact iv_vret X hr hlocks hB ⟨hM, g4, gp, rp, (by rw [← er]; exact a_h0), h_gp, (by rw [hx3] at gm; exact gm), (by rw [hx3] at gs; exact gs)⟩ dX4_gather_62
      · skip
        have i9_x3 : iv_R 0 9 x3 := (i_x3.cutHi (n := 9) (iv_lt_r (iv_nle c9) i_x8 (by decide)))
        have i10_x8 : iv_R 1 10 x8 := (i_x8.cutLo (n := 1) (iv_lt_l (iv_nle c9) i_x3 (by decide)))
        refine lv_iload_n hx hb dX4_gather_18 rfl (lv_at hl 2 rfl) ?_
        refine lv_iload_n hx hb dX4_gather_19 rfl (lv_at hl 0 rfl) ?_
        refine lv_iushr hx hb dX4_gather_20 rfl ?_
        refine lv_topi (fun x12 e_x12 => ?_)
        have i_x12 := iv_R.all x12
        refine lv_iconst (v := 1) hx hb dX4_gather_21 (by decide) ?_
        refine iv_iand_r hx hb q_1 (by decide) dX4_gather_22 (fun x13 e_x13 i_x13 => ?_)
        have hbit := cp_bit hx1 i9_x3 e_x12 e_x13
        have hlt3 : x3.toInt.toNat < cn.toInt.toNat := by have w1 := mt Int32.le_iff_toInt_le.mpr c9; have w2 := congrArg Int32.toInt hn8; have w3 := i9_x3.1; omega
        refine lv_iconst (v := 1) hx hb dX4_gather_23 (by decide) ?_
        refine lv_icmp_ne (tgt := 56) hx hb dX4_gather_24 (by decide) (fun c14 => ?_) (fun c14 => ?_)
        · skip
          have i14_x13 : iv_R 0 0 x13 := iv_ne_hi c14 i_x13 q_1 (by decide)
          have h0b : x_0.toInt.toNat / 2 ^ x3.toInt.toNat % 2 = 0 := by have w1 := i14_x13.2; have w2 := i14_x13.1; omega
          refine iv_iinc hx hb i9_x3 (lo := 1) (hi := 10) (by decide) dX4_gather_56 hl (k := 0) rfl (by decide) (fun x16 ls e_x16 i_x16 hl => ?_)
          have hl : lv_has ls 3 [(2, .int x16), (0, .ref h0), (1, .int x_0)] := hl
          refine lv_goto (tgt := 7) hx hb dX4_gather_59 (by decide) ?_
          exact ih_7 G6 hM _ _ hB g4 r5 a_h0 x16 (i_x16.wk (by decide)) (iv_mup (c := 1) i_x3 (by decide) (by decide) (by omega) hn_7) ⟨er, by rw [(show x16.toInt.toNat = x3.toInt.toNat + 1 from by have w1 : x16.toInt = x3.toInt + 1 := e_x16; have w2 := i9_x3.1; omega)]; have w2 := congrArg Int32.toInt hn8; have w3 := i9_x3.1; omega, by rw [(show x16.toInt.toNat = x3.toInt.toNat + 1 from by have w1 : x16.toInt = x3.toInt + 1 := e_x16; have w2 := i9_x3.1; omega), pe_no h0b]; exact gs, gp, rp, h_gp, by rw [(show x16.toInt.toNat = x3.toInt.toNat + 1 from by have w1 : x16.toInt = x3.toInt + 1 := e_x16; have w2 := i9_x3.1; omega)]; exact gm.no h0b⟩ _ (lv_sub hl [0, 1, 2] rfl)
        · skip
          have i16_x13 : iv_R 1 1 x13 := (i_x13.cutLo (n := 1) (iv_eq_r c14 q_1).1)
          have h1 : x_0.toInt.toNat / 2 ^ x3.toInt.toNat % 2 = 1 := by have w1 := i16_x13.2; have w2 := i16_x13.1; omega
          have hup := pe_le (S := x_0.toInt.toNat) (show x3.toInt.toNat + 1 ≤ cn.toInt.toNat from hlt3)
          rw [pe_ok h1] at hup
          refine lv_aload_n hx hb dX4_gather_27 rfl (lv_at hl 1 rfl) ?_
          refine iv_geti X ft_X4 hB a_h0 sh_4 3 (by decide) rfl k_fl_X4_61 dX4_gather_28 (fun x18 e_x18 i_x18 => ?_)
          refine lv_bipush (v := 8) hx hb dX4_gather_31 (by decide) ?_
          refine lv_icmp_ge (tgt := 56) hx hb dX4_gather_33 (by decide) (fun c19 => ?_) (fun c19 => ?_)
          · skip
            exact absurd (Int32.le_iff_toInt_le.mp c19) (by have e8 : (8 : Int32).toInt = 8 := rfl; have w1 := congrArg Int32.toInt e_x18; rw [e8]; omega)
          · skip
            have i21_x18 : iv_R 0 7 x18 := (i_x18.cutHi (n := 7) (iv_lt_r (iv_nle c19) q_8 (by decide)))
            refine lv_aload_n hx hb dX4_gather_36 rfl (lv_at hl 1 rfl) ?_
            refine iv_getr X ft_X4 hB a_h0 sh_4 2 (by decide) rfl k_fl_X4_15 dX4_gather_37 (fun b23 g_b23 r_b23 e_b23 a_b23 => ?_)
            refine lv_aload_n hx hb dX4_gather_40 rfl (lv_at hl 1 rfl) ?_
            refine iv_geti0 X ft_X4 hB a_h0 sh_4 3 (by decide) rfl k_fl_X4_61 dX4_gather_41 e_x18 ?_
            refine lv_iload_n hx hb dX4_gather_44 rfl (lv_at hl 0 rfl) ?_
            refine iv_ast X hB a_b23 sh_32 (iv_in i21_x18 (by decide)) i9_x3 dX4_gather_45 (fun H locs hB => ?_)
            have hm := iv_Md.ast (j := x18.toNatClampNeg) (x := x3) a_b23 rfl (by decide)
            have h9 := iv_up_eq (G := G6) (a := b23) (k := (32, upd g_b23 x18.toNatClampNeg x3, r_b23))
            generalize iv_up G6 b23 _ = G24 at hB hm h9
            have hM := hM.stp hm (by decide)
            have h_gp : G24 (r_h0 2) = some (32, upd gp x18.toInt.toNat x3, r_b23) := by rw [← congrFun er 2, ← e_b23, ← iv_samew h_gp (e_b23.trans (congrFun er 2)) a_b23]; exact h9
            have a_h0 := hm.at a_h0 (by decide)
            refine lv_aload_n hx hb dX4_gather_46 rfl (lv_at hl 1 rfl) ?_
            refine lv_dup hx hb dX4_gather_47 rfl ?_
            refine iv_geti0 X ft_X4 hB a_h0 sh_4 3 (by decide) rfl k_fl_X4_61 dX4_gather_48 e_x18 ?_
            refine lv_iconst (v := 1) hx hb dX4_gather_51 (by decide) ?_
            refine iv_iadd hx hb i21_x18 q_1 (lo := 1) (hi := 8) (by decide) dX4_gather_52 (fun x26 e_x26 i_x26 => ?_)
            refine iv_puti X ft_X4 hB a_h0 sh_4 3 (by decide) rfl rfl k_fl_X4_61 rfl (i_x26.wk (by decide)) rfl rfl dX4_gather_53 (fun H locs hB => ?_)
            have hm := iv_Md.put (x := x26) a_h0 (j := 3) (by decide) (by decide)
            have h9 := iv_up_eq (G := G24) (a := h0) (k := (4, upd g4 3 x26, r5))
            generalize iv_up G24 h0 _ = G27 at hB hm h9
            have hM := hM.stp hm (by decide)
            have h_gp := hm.at h_gp (by decide)
            generalize hgn_g28 : upd g4 _ _ = g28 at h9
            have a_h0 := h9
            have e9_g28 : x26 = g28 3 := by rw [← hgn_g28]; simp [upd]
            refine iv_iinc hx hb i9_x3 (lo := 1) (hi := 10) (by decide) dX4_gather_56 hl (k := 0) rfl (by decide) (fun x29 ls e_x29 i_x29 hl => ?_)
            have hl : lv_has ls 3 [(2, .int x29), (0, .ref h0), (1, .int x_0)] := hl
            refine lv_goto (tgt := 7) hx hb dX4_gather_59 (by decide) ?_
            exact ih_7 G27 hM _ _ hB g28 r5 a_h0 x29 (i_x29.wk (by decide)) (iv_mup (c := 1) i_x3 (by decide) (by decide) (by omega) hn_7) ⟨er, by rw [(show x29.toInt.toNat = x3.toInt.toNat + 1 from by have w1 : x29.toInt = x3.toInt + 1 := e_x29; have w2 := i9_x3.1; omega)]; have w2 := congrArg Int32.toInt hn8; have w3 := i9_x3.1; omega, by rw [(show x29.toInt.toNat = x3.toInt.toNat + 1 from by have w1 : x29.toInt = x3.toInt + 1 := e_x29; have w2 := i9_x3.1; omega), pe_ok h1, ← e9_g28]; have w1 : x26.toInt = x18.toInt + (1 : Int32).toInt := e_x26; have e1 : (1 : Int32).toInt = 1 := rfl; have w2 := congrArg Int32.toInt e_x18; omega, _, _, h_gp, by rw [(show x29.toInt.toNat = x3.toInt.toNat + 1 from by have w1 : x29.toInt = x3.toInt + 1 := e_x29; have w2 := i9_x3.1; omega), show x18.toInt.toNat = iv_pcn x_0.toInt.toNat x3.toInt.toNat from by have w2 := congrArg Int32.toInt e_x18; omega]; exact gm.ok (by have w3 := i9_x3.1; omega)⟩ _ (lv_sub hl [0, 1, 2] rfl)
  exact L_7 _ G1 hM _ _ hB g2 r_h0 a_h0 0 (q_0.wk (by decide)) (Nat.lt_succ_self _) ⟨rfl, Nat.zero_le _, by rw [← e9_g2]; rfl, gp0, rp0, h_gp0, fun b hb => by have z0 : (0 : Int32).toInt = 0 := rfl; rw [z0] at hb; exact absurd hb (Nat.not_lt_zero _)⟩ _ (lv_sub hl [0, 1, 2] rfl)
set_option maxHeartbeats 4000000 in
set_option maxRecDepth 100000 in
theorem e_X4_countPeals (l : Launch) (D : va_G) (tys : List (ClassId × FieldType)) (base : Nat) (G : iv_G) (h0 : Nat) (g_h0 : Nat → Int32) (r_h0 : Nat → Nat) (a_h0 : G h0 = some (4, g_h0, r_h0)) (x_0 : Int32) (i_x_0 : iv_R (-2147483648) 2147483647 x_0) (A : Nat → Nat) (u : Nat → Int32) (cm cn : Int32) (Wc : cw (r_h0 0) A u cm cn G) (hx1 : iv_R 0 1023 x_0) (hc8 : iv_pcn x_0.toInt.toNat cn.toInt.toNat ≤ 8) : Met l yX4_countPeals (Cond.code yX4_countPeals cX4_countPeals 5 (some .int) :: iv_W0) ({ frames := 4, cells := 0, slots := 0, locals := 82 }) (iv_Pc iv_sh D classes tys base G [.ref h0, .int x_0]) (iv_Qi iv_sh D classes tys base (fun v G' => iv_Md [4, 32, 33] G G' ∧ iv_R (-2147483648) 2147483647 v ∧ (∃ (g' gp gy : Nat → Int32) (rp ry : Nat → Nat), G' h0 = some (4, g', r_h0) ∧ G' (r_h0 2) = some (32, gp, rp) ∧ G' (r_h0 4) = some (33, gy, ry) ∧ pe_mem gp x_0.toInt.toNat cn.toInt.toNat ∧ (g' 3).toInt = ((iv_pcn x_0.toInt.toNat cn.toInt.toNat : Nat) : Int) ∧ pe_FC gp u cm gy (iv_pcn x_0.toInt.toNat cn.toInt.toNat) ∧ v = cp_val gp u cm gy (iv_pcn x_0.toInt.toNat cn.toInt.toNat) (2 ^ (iv_pcn x_0.toInt.toNat cn.toInt.toNat) - 1) (-1)))) 0 0 (iv_A base) := by
  refine iv_head (by decide) (Nat.le_of_ble_eq_true rfl) ?_
  intro p e s m args below meth c ls X hr hlocks hname hB hl
  have X := X
  have hx := X.1.1
  have hb := X.1.2.1
  have hM : iv_Md [4, 32, 33] G G := iv_Md.rf
  have hl : lv_has ls 5 [(0, .ref h0), (1, .int x_0)] := hl
  refine lv_aload_n hx hb dX4_countPeals_0 rfl (lv_at hl 0 rfl) ?_
  refine lv_iload_n hx hb dX4_countPeals_1 rfl (lv_at hl 1 rfl) ?_
  refine iv_cVv X k_good k_mf_X4_gather k_im_X4_gather k_sel_X4_gather k_ml_X4_57 ft_X4 hB a_h0 sh_4 (As := [.int x_0]) (e_X4_gather l D tys base G h0 g_h0 r_h0 a_h0 x_0 i_x_0 A u cm cn Wc hx1 hc8) ⟨rfl, rfl⟩ ⟨Nat.le_of_ble_eq_true rfl, Nat.le_of_ble_eq_true rfl⟩ ⟨Nat.le_of_ble_eq_true rfl, Nat.le_of_ble_eq_true rfl⟩ rfl rfl hl.1 (Nat.le_of_ble_eq_true rfl) dX4_countPeals_2 (fun G9 H locs hq hB => ?_)
  obtain ⟨hm, xg⟩ := hq
  obtain ⟨G1, hG9⟩ : ∃ g, g = G9 := ⟨_, rfl⟩
  rw [← hG9] at hm hB xg
  have hM := hM.stp hm (by decide)
  have a_st := a_h0
  obtain ⟨g2, gp, rp, a_h0, h_gp, gm, gs⟩ := xg
  obtain ⟨_, gy0, ry0, h_gy0⟩ := iv_got4 hB a_h0
  have hp8 := pe_p2 hc8
  have hp1 := Nat.one_le_two_pow (n := iv_pcn x_0.toInt.toNat cn.toInt.toNat)
  refine lv_iconst (v := 1) hx hb dX4_countPeals_5 (by decide) ?_
  refine lv_aload_n hx hb dX4_countPeals_6 rfl (lv_at hl 0 rfl) ?_
  refine iv_geti X ft_X4 hB a_h0 sh_4 3 (by decide) rfl k_fl_X4_61 dX4_countPeals_7 (fun x4 e_x4 i_x4 => ?_)
  refine iv_shl1 hx hb i_x4 (lo := 1) (hi := 256) (by decide) dX4_countPeals_10 (fun x5 e_x5 i_x5 => ?_)
  refine lv_iconst (v := 1) hx hb dX4_countPeals_11 (by decide) ?_
  refine iv_isub hx hb i_x5 q_1 (lo := 0) (hi := 255) (by decide) dX4_countPeals_12 (fun x6 e_x6 i_x6 => ?_)
  have h6 : x6.toInt = ((2 ^ (iv_pcn x_0.toInt.toNat cn.toInt.toNat) : Nat) : Int) - 1 := by
    have w1 := congrArg Int32.toInt e_x4
    have w2 : x6.toInt = x5.toInt - (1 : Int32).toInt := e_x6
    have w3 : (1 : Int32).toInt = 1 := rfl
    have w4 : x5.toInt = ((2 ^ x4.toInt.toNat : Nat) : Int) := by rw [e_x5]; exact (Int.natCast_pow 2 _).symm
    rw [show x4.toInt.toNat = iv_pcn x_0.toInt.toNat cn.toInt.toNat from by omega] at w4
    omega
  refine lv_istore_n (lv' := [(2, .int x6), (0, .ref h0), (1, .int x_0)]) hx hb dX4_countPeals_13 rfl hl (by decide) rfl (fun ls hl => ?_)
  refine lv_iconst (v := 0) hx hb dX4_countPeals_14 (by decide) ?_
  refine lv_istore_n (lv' := [(3, .int 0), (2, .int x6), (0, .ref h0), (1, .int x_0)]) hx hb dX4_countPeals_15 rfl hl (by decide) rfl (fun ls hl => ?_)
  have L_16 : ∀ (n_16 : Nat) (G10 : iv_G) (hM : iv_Md [4, 32, 33] G G10) (H : Heap) (locs : List Loc) (hB : iv_B iv_sh D classes tys base G10 s.heap H locs) (g8 : Nat → Int32) (r9 : Nat → Nat) (a_h0 : G10 h0 = some (4, g8, r9)) (x7 : Int32) (i_x7 : iv_R 0 256 x7) (hn_16 : (257 - x7.toInt).toNat < n_16) (gi_16 : r9 = r_h0 ∧ (g8 3).toInt = ((iv_pcn x_0.toInt.toNat cn.toInt.toNat : Nat) : Int) ∧ x7.toInt.toNat ≤ 2 ^ (iv_pcn x_0.toInt.toNat cn.toInt.toNat) ∧ G10 (r_h0 2) = some (32, gp, rp) ∧ ∃ (gy : Nat → Int32) (ry : Nat → Nat), G10 (r_h0 4) = some (33, gy, ry) ∧ cp_I gp u cm gy (iv_pcn x_0.toInt.toNat cn.toInt.toNat) x7.toInt.toNat 0) (ls : Array Slot) (hl : lv_has ls 5 [(3, .int x7), (2, .int x6), (0, .ref h0)]), W p l e ({ frames := 4, cells := 0, slots := 0, locals := 82 } : Room) s m args below meth c H locs 0 0 (MQ below (iv_Qi iv_sh D classes tys base (fun v G' => iv_Md [4, 32, 33] G G' ∧ iv_R (-2147483648) 2147483647 v ∧ (∃ (g' gp gy : Nat → Int32) (rp ry : Nat → Nat), G' h0 = some (4, g', r_h0) ∧ G' (r_h0 2) = some (32, gp, rp) ∧ G' (r_h0 4) = some (33, gy, ry) ∧ pe_mem gp x_0.toInt.toNat cn.toInt.toNat ∧ (g' 3).toInt = ((iv_pcn x_0.toInt.toNat cn.toInt.toNat : Nat) : Int) ∧ pe_FC gp u cm gy (iv_pcn x_0.toInt.toNat cn.toInt.toNat) ∧ v = cp_val gp u cm gy (iv_pcn x_0.toInt.toNat cn.toInt.toNat) (2 ^ (iv_pcn x_0.toInt.toNat cn.toInt.toNat) - 1) (-1)))) args s 0 0 (iv_A base)) (F0 m 16 ls []) := by
    intro n_16
    induction n_16 with
    | zero => intro G10 hM H locs hB g8 r9 a_h0 x7 i_x7 hn_16 gi_16 ls hl; exact absurd hn_16 (Nat.not_lt_zero _)
    | succ n_16 ih_16 =>
      intro G10 hM H locs hB g8 r9 a_h0 x7 i_x7 hn_16 gi_16 ls hl
      obtain ⟨er, gs, hle, h_gp, gy, ry, h_gy, gI⟩ := gi_16
      refine lv_iload_n hx hb dX4_countPeals_16 rfl (lv_at hl 0 rfl) ?_
      refine lv_iload_n hx hb dX4_countPeals_17 rfl (lv_at hl 1 rfl) ?_
      refine lv_icmp_gt (tgt := 64) hx hb dX4_countPeals_18 (by decide) (fun c11 => ?_) (fun c11 => ?_)
      · skip
        have i11_x7 : iv_R 1 256 x7 := (i_x7.cutLo (n := 1) (iv_lt_l c11 i_x6 (by decide)))
        refine lv_aload_n hx hb dX4_countPeals_64 rfl (lv_at hl 2 rfl) ?_
        refine lv_iload_n hx hb dX4_countPeals_65 rfl (lv_at hl 1 rfl) ?_
        refine lv_iconst (v := (-1)) hx hb dX4_countPeals_66 (by decide) ?_
        refine iv_cVi X k_good k_mf_X4_waysAfter k_im_X4_waysAfter k_sel_X4_waysAfter k_ml_X4_64 ft_X4 hB a_h0 sh_4 (As := [.int x6, .int (-1)]) (e_X4_waysAfter l D tys base G10 h0 g8 r9 a_h0 x6 i_x6 (-1) (q_n1.wk (by decide)) A u cm cn (by rw [er]; exact Wc.md hM) gp rp (by rw [er]; exact h_gp) gy ry (by rw [er]; exact h_gy) (iv_pcn x_0.toInt.toNat cn.toInt.toNat) gs) ⟨rfl, rfl⟩ ⟨Nat.le_of_ble_eq_true rfl, Nat.le_of_ble_eq_true rfl⟩ ⟨Nat.le_of_ble_eq_true rfl, Nat.le_of_ble_eq_true rfl⟩ rfl rfl hl.1 (Nat.le_of_ble_eq_true rfl) dX4_countPeals_67 (fun x13 G9 H locs hq hB => ?_)
        obtain ⟨rfl, i_x13, ex13⟩ := hq
        have h6n : x6.toInt.toNat = 2 ^ (iv_pcn x_0.toInt.toNat cn.toInt.toNat) - 1 := by omega
        rw [h6n, show (-1 : Int32).toInt = -1 from rfl] at ex13
        exact iv_iret X hr hlocks hB ⟨hM, i_x13, g8, gp, gy, rp, ry, (by rw [← er]; exact a_h0), h_gp, h_gy, gm, gs, fun R L hR hL => gI R L hL (Or.inl (by have w1 := Int32.lt_iff_toInt_lt.mp c11; have w2 := i_x7.1; omega)), ex13⟩ dX4_countPeals_70
      · skip
        have i13_x7 : iv_R 0 255 x7 := (i_x7.cutHi (n := 255) (iv_le_r (iv_nlt c11) i_x6))
        refine lv_iconst (v := 0) hx hb dX4_countPeals_21 (by decide) ?_
        refine lv_istore (lv' := [(4, .int 0), (3, .int x7), (2, .int x6), (0, .ref h0)]) hx hb dX4_countPeals_22 hl (by decide) rfl (fun ls hl => ?_)
        have L_24 : ∀ (n_24 : Nat) (G18 : iv_G) (hM : iv_Md [4, 32, 33] G G18) (H : Heap) (locs : List Loc) (hB : iv_B iv_sh D classes tys base G18 s.heap H locs) (g16 : Nat → Int32) (r17 : Nat → Nat) (a_h0 : G18 h0 = some (4, g16, r17)) (x15 : Int32) (i_x15 : iv_R 0 8 x15) (hn_24 : (9 - x15.toInt).toNat < n_24) (gi_24 : r17 = r_h0 ∧ (g16 3).toInt = ((iv_pcn x_0.toInt.toNat cn.toInt.toNat : Nat) : Int) ∧ x15.toInt.toNat ≤ iv_pcn x_0.toInt.toNat cn.toInt.toNat ∧ G18 (r_h0 2) = some (32, gp, rp) ∧ ∃ (gy : Nat → Int32) (ry : Nat → Nat), G18 (r_h0 4) = some (33, gy, ry) ∧ cp_I gp u cm gy (iv_pcn x_0.toInt.toNat cn.toInt.toNat) x7.toInt.toNat x15.toInt.toNat) (ls : Array Slot) (hl : lv_has ls 5 [(4, .int x15), (3, .int x7), (2, .int x6), (0, .ref h0)]), W p l e ({ frames := 4, cells := 0, slots := 0, locals := 82 } : Room) s m args below meth c H locs 0 0 (MQ below (iv_Qi iv_sh D classes tys base (fun v G' => iv_Md [4, 32, 33] G G' ∧ iv_R (-2147483648) 2147483647 v ∧ (∃ (g' gp gy : Nat → Int32) (rp ry : Nat → Nat), G' h0 = some (4, g', r_h0) ∧ G' (r_h0 2) = some (32, gp, rp) ∧ G' (r_h0 4) = some (33, gy, ry) ∧ pe_mem gp x_0.toInt.toNat cn.toInt.toNat ∧ (g' 3).toInt = ((iv_pcn x_0.toInt.toNat cn.toInt.toNat : Nat) : Int) ∧ pe_FC gp u cm gy (iv_pcn x_0.toInt.toNat cn.toInt.toNat) ∧ v = cp_val gp u cm gy (iv_pcn x_0.toInt.toNat cn.toInt.toNat) (2 ^ (iv_pcn x_0.toInt.toNat cn.toInt.toNat) - 1) (-1)))) args s 0 0 (iv_A base)) (F0 m 24 ls []) := by
          intro n_24
          induction n_24 with
          | zero => intro G18 hM H locs hB g16 r17 a_h0 x15 i_x15 hn_24 gi_24 ls hl; exact absurd hn_24 (Nat.not_lt_zero _)
          | succ n_24 ih_24 =>
            intro G18 hM H locs hB g16 r17 a_h0 x15 i_x15 hn_24 gi_24 ls hl
            obtain ⟨er, gs, hle15, h_gp, gy, ry, h_gy, gI⟩ := gi_24
            refine lv_iload hx hb dX4_countPeals_24 (lv_at hl 0 rfl) ?_
            refine lv_aload_n hx hb dX4_countPeals_26 rfl (lv_at hl 3 rfl) ?_
            refine iv_geti X ft_X4 hB a_h0 sh_4 3 (by decide) rfl k_fl_X4_61 dX4_countPeals_27 (fun x19 e_x19 i_x19 => ?_)
            refine lv_icmp_ge (tgt := 58) hx hb dX4_countPeals_30 (by decide) (fun c20 => ?_) (fun c20 => ?_)
            · skip
              refine iv_iinc hx hb i13_x7 (lo := 1) (hi := 256) (by decide) dX4_countPeals_58 hl (k := 1) rfl (by decide) (fun x21 ls e_x21 i_x21 hl => ?_)
              have hl : lv_has ls 5 [(3, .int x21), (4, .int x15), (2, .int x6), (0, .ref h0)] := hl
              refine lv_goto (tgt := 16) hx hb dX4_countPeals_61 (by decide) ?_
              exact ih_16 G18 hM _ _ hB g16 r17 a_h0 x21 (i_x21.wk (by decide)) (iv_mup (c := 1) i_x7 (by decide) (by decide) (by omega) hn_16) ⟨er, gs, by rw [(show x21.toInt.toNat = x7.toInt.toNat + 1 from by have w1 : x21.toInt = x7.toInt + 1 := e_x21; have w2 := i13_x7.1; omega)]; have w1 := mt Int32.lt_iff_toInt_lt.mpr c11; have w2 := i13_x7.1; omega, h_gp, gy, ry, h_gy, by rw [(show x21.toInt.toNat = x7.toInt.toNat + 1 from by have w1 : x21.toInt = x7.toInt + 1 := e_x21; have w2 := i13_x7.1; omega)]; rw [show x15.toInt.toNat = iv_pcn x_0.toInt.toNat cn.toInt.toNat from by have w1 := Int32.le_iff_toInt_le.mp c20; have w2 := congrArg Int32.toInt e_x19; have w3 := i_x15.1; omega] at gI; exact gI.next⟩ _ (lv_sub hl [0, 2, 3] rfl)
            · skip
              have i21_x15 : iv_R 0 7 x15 := (i_x15.cutHi (n := 7) (iv_lt_r (iv_nle c20) i_x19 (by decide)))
              have i22_x19 : iv_R 1 8 x19 := (i_x19.cutLo (n := 1) (iv_lt_l (iv_nle c20) i_x15 (by decide)))
              refine lv_aload_n hx hb dX4_countPeals_33 rfl (lv_at hl 3 rfl) ?_
              refine iv_getr X ft_X4 hB a_h0 sh_4 4 (by decide) rfl k_fl_X4_18 dX4_countPeals_34 (fun b24 g_b24 r_b24 e_b24 a_b24 => ?_)
              refine lv_iload_n hx hb dX4_countPeals_37 rfl (lv_at hl 1 rfl) ?_
              refine lv_bipush (v := 8) hx hb dX4_countPeals_38 (by decide) ?_
              refine iv_imul hx hb i13_x7 q_8 (lo := 0) (hi := 2040) (by decide) dX4_countPeals_40 (fun x25 e_x25 i_x25 => ?_)
              refine lv_iload hx hb dX4_countPeals_41 (lv_at hl 0 rfl) ?_
              refine iv_iadd hx hb i_x25 i21_x15 (lo := 0) (hi := 2047) (by decide) dX4_countPeals_43 (fun x26 e_x26 i_x26 => ?_)
              have h15 : x15.toInt.toNat < iv_pcn x_0.toInt.toNat cn.toInt.toNat := by have w1 := mt Int32.le_iff_toInt_le.mpr c20; have w2 := congrArg Int32.toInt e_x19; have w3 := i21_x15.1; omega
              have h26 : x26.toInt.toNat = x7.toInt.toNat * 8 + x15.toInt.toNat := by have w1 : x25.toInt = x7.toInt * (8 : Int32).toInt := e_x25; have e8 : (8 : Int32).toInt = 8 := rfl; have w2 : x26.toInt = x25.toInt + x15.toInt := e_x26; have w3 := i13_x7.1; have w4 := i21_x15.1; rw [e8] at w1; omega
              refine lv_aload_n hx hb dX4_countPeals_44 rfl (lv_at hl 3 rfl) ?_
              refine lv_iload_n hx hb dX4_countPeals_45 rfl (lv_at hl 1 rfl) ?_
              refine lv_iload hx hb dX4_countPeals_46 (lv_at hl 0 rfl) ?_
              refine iv_cVi X k_good k_mf_X4_waysAfter k_im_X4_waysAfter k_sel_X4_waysAfter k_ml_X4_64 ft_X4 hB a_h0 sh_4 (As := [.int x7, .int x15]) (e_X4_waysAfter l D tys base G18 h0 g16 r17 a_h0 x7 i13_x7 x15 (i21_x15.wk (by decide)) A u cm cn (by rw [er]; exact Wc.md hM) gp rp (by rw [er]; exact h_gp) gy ry (by rw [er]; exact h_gy) (iv_pcn x_0.toInt.toNat cn.toInt.toNat) gs) ⟨rfl, rfl⟩ ⟨Nat.le_of_ble_eq_true rfl, Nat.le_of_ble_eq_true rfl⟩ ⟨Nat.le_of_ble_eq_true rfl, Nat.le_of_ble_eq_true rfl⟩ rfl rfl hl.1 (Nat.le_of_ble_eq_true rfl) dX4_countPeals_48 (fun x27 G9 H locs hq hB => ?_)
              obtain ⟨rfl, i_x27, ex27⟩ := hq
              refine iv_ast X hB a_b24 sh_33 (iv_in i_x26 (by decide)) i_x27 dX4_countPeals_51 (fun H locs hB => ?_)
              have hm := iv_Md.ast (j := x26.toNatClampNeg) (x := x27) a_b24 rfl (by decide)
              have h9 := iv_up_eq (G := G18) (a := b24) (k := (33, upd g_b24 x26.toNatClampNeg x27, r_b24))
              generalize iv_up G18 b24 _ = G28 at hB hm h9
              have hM := hM.stp hm (by decide)
              have h_gy : G28 (r_h0 4) = some (33, upd gy (x7.toInt.toNat * 8 + x15.toInt.toNat) x27, r_b24) := by rw [← h26, ← congrFun er 4, ← e_b24, ← iv_samew h_gy (e_b24.trans (congrFun er 4)) a_b24]; exact h9
              have h_gp := hm.at h_gp (by decide)
              have a_h0 := hm.at a_h0 (by decide)
              refine iv_iinc hx hb i21_x15 (lo := 1) (hi := 8) (by decide) dX4_countPeals_52 hl (k := 0) rfl (by decide) (fun x30 ls e_x30 i_x30 hl => ?_)
              have hl : lv_has ls 5 [(4, .int x30), (3, .int x7), (2, .int x6), (0, .ref h0)] := hl
              refine lv_goto (tgt := 24) hx hb dX4_countPeals_55 (by decide) ?_
              exact ih_24 G28 hM _ _ hB g16 r17 a_h0 x30 (i_x30.wk (by decide)) (iv_mup (c := 1) i_x15 (by decide) (by decide) (by omega) hn_24) ⟨er, gs, by rw [(show x30.toInt.toNat = x15.toInt.toNat + 1 from by have w1 : x30.toInt = x15.toInt + 1 := e_x30; have w2 := i21_x15.1; omega)]; omega, h_gp, _, _, h_gy, by rw [(show x30.toInt.toNat = x15.toInt.toNat + 1 from by have w1 : x30.toInt = x15.toInt + 1 := e_x30; have w2 := i21_x15.1; omega)]; exact gI.put hc8 (by have w1 := i13_x7.2; omega) h15 (by rw [ex27, show ((x15.toInt.toNat : Nat) : Int) = x15.toInt from by have w1 := i21_x15.1; omega])⟩ _ (lv_sub hl [0, 1, 2, 3] rfl)
        exact L_24 _ G10 hM _ _ hB g8 r9 a_h0 0 (q_0.wk (by decide)) (Nat.lt_succ_self _) ⟨er, gs, Nat.zero_le _, h_gp, gy, ry, h_gy, gI⟩ _ (lv_sub hl [0, 1, 2, 3] rfl)
  exact L_16 _ G1 hM _ _ hB g2 r_h0 a_h0 0 (q_0.wk (by decide)) (Nat.lt_succ_self _) ⟨rfl, gs, Nat.zero_le _, h_gp, gy0, ry0, h_gy0, fun R L hL hc => by have z0 : (0 : Int32).toInt = 0 := rfl; rw [z0] at hc; exact absurd hc (by omega)⟩ _ (lv_sub hl [0, 1, 2] rfl)
set_option maxHeartbeats 4000000 in
set_option maxRecDepth 100000 in
theorem e_X4_firstAfter (l : Launch) (D : va_G) (tys : List (ClassId × FieldType)) (base : Nat) (G : iv_G) (h0 : Nat) (g_h0 : Nat → Int32) (r_h0 : Nat → Nat) (a_h0 : G h0 = some (4, g_h0, r_h0)) (x_0 : Int32) (i_x_0 : iv_R 0 255 x_0) (x_1 : Int32) (i_x_1 : iv_R (-1) 7 x_1) (A : Nat → Nat) (u : Nat → Int32) (cm cn : Int32) (Wc : cw (r_h0 0) A u cm cn G) (gp : Nat → Int32) (rp : Nat → Nat) (h_gp0 : G (r_h0 2) = some (32, gp, rp)) (gy : Nat → Int32) (ry : Nat → Nat) (h_gy0 : G (r_h0 4) = some (33, gy, ry)) (s9 : Nat) (hs9 : (g_h0 3).toInt = (s9 : Int)) : Met l yX4_firstAfter (Cond.code yX4_firstAfter cX4_firstAfter 4 (some .int) :: iv_W0) ({ frames := 3, cells := 0, slots := 0, locals := 58 }) (iv_Pc iv_sh D classes tys base G [.ref h0, .int x_0, .int x_1]) (iv_Qi iv_sh D classes tys base (fun v G' => G = G' ∧ iv_R (-1) 7 v ∧ ((v = -1 ∧ ∀ j, j < s9 → ¬ pe_C gp u cm gy j x_1.toInt x_0.toInt.toNat) ∨ ∃ i : Nat, i < s9 ∧ v.toInt = (i : Int) ∧ pe_C gp u cm gy i x_1.toInt x_0.toInt.toNat ∧ ∀ j, j < i → ¬ pe_C gp u cm gy j x_1.toInt x_0.toInt.toNat))) 0 0 (iv_A base) := by
  refine iv_head (by decide) (Nat.le_of_ble_eq_true rfl) ?_
  intro p e s m args below meth c ls X hr hlocks hname hB hl
  have X := X
  have hx := X.1.1
  have hb := X.1.2.1
  have hl : lv_has ls 4 [(0, .ref h0), (1, .int x_0), (2, .int x_1)] := hl
  refine lv_iconst (v := 0) hx hb dX4_firstAfter_0 (by decide) ?_
  refine lv_istore_n (lv' := [(3, .int 0), (0, .ref h0), (1, .int x_0), (2, .int x_1)]) hx hb dX4_firstAfter_1 rfl hl (by decide) rfl (fun ls hl => ?_)
  have L_2 : ∀ (n_2 : Nat) (H : Heap) (locs : List Loc) (hB : iv_B iv_sh D classes tys base G s.heap H locs) (x1 : Int32) (i_x1 : iv_R 0 8 x1) (hn_2 : (9 - x1.toInt).toNat < n_2) (gi_2 : x1.toInt ≤ (s9 : Int) ∧ ∀ j, j < x1.toInt.toNat → ¬ pe_C gp u cm gy j x_1.toInt x_0.toInt.toNat) (ls : Array Slot) (hl : lv_has ls 4 [(3, .int x1), (0, .ref h0), (1, .int x_0), (2, .int x_1)]), W p l e ({ frames := 3, cells := 0, slots := 0, locals := 58 } : Room) s m args below meth c H locs 0 0 (MQ below (iv_Qi iv_sh D classes tys base (fun v G' => G = G' ∧ iv_R (-1) 7 v ∧ ((v = -1 ∧ ∀ j, j < s9 → ¬ pe_C gp u cm gy j x_1.toInt x_0.toInt.toNat) ∨ ∃ i : Nat, i < s9 ∧ v.toInt = (i : Int) ∧ pe_C gp u cm gy i x_1.toInt x_0.toInt.toNat ∧ ∀ j, j < i → ¬ pe_C gp u cm gy j x_1.toInt x_0.toInt.toNat))) args s 0 0 (iv_A base)) (F0 m 2 ls []) := by
    intro n_2
    induction n_2 with
    | zero => intro H locs hB x1 i_x1 hn_2 gi_2 ls hl; exact absurd hn_2 (Nat.not_lt_zero _)
    | succ n_2 ih_2 =>
      intro H locs hB x1 i_x1 hn_2 gi_2 ls hl
      refine lv_iload_n hx hb dX4_firstAfter_2 rfl (lv_at hl 0 rfl) ?_
      refine lv_aload_n hx hb dX4_firstAfter_3 rfl (lv_at hl 1 rfl) ?_
      refine iv_geti X ft_X4 hB a_h0 sh_4 3 (by decide) rfl k_fl_X4_61 dX4_firstAfter_4 (fun x2 e_x2 i_x2 => ?_)
      refine lv_icmp_ge (tgt := 46) hx hb dX4_firstAfter_7 (by decide) (fun c3 => ?_) (fun c3 => ?_)
      · skip
        refine lv_iconst (v := (-1)) hx hb dX4_firstAfter_46 (by decide) ?_
        exact iv_iret X hr hlocks hB ⟨rfl, (q_n1.wk (by decide)), Or.inl ⟨rfl, fun j hj => gi_2.2 j (by have w1 := Int32.le_iff_toInt_le.mp c3; have w2 := congrArg Int32.toInt e_x2; omega)⟩⟩ dX4_firstAfter_47
      · skip
        have i3_x1 : iv_R 0 7 x1 := (i_x1.cutHi (n := 7) (iv_lt_r (iv_nle c3) i_x2 (by decide)))
        have i4_x2 : iv_R 1 8 x2 := (i_x2.cutLo (n := 1) (iv_lt_l (iv_nle c3) i_x1 (by decide)))
        refine lv_aload_n hx hb dX4_firstAfter_10 rfl (lv_at hl 1 rfl) ?_
        refine lv_iload_n hx hb dX4_firstAfter_11 rfl (lv_at hl 2 rfl) ?_
        refine lv_iload_n hx hb dX4_firstAfter_12 rfl (lv_at hl 3 rfl) ?_
        refine lv_iload_n hx hb dX4_firstAfter_13 rfl (lv_at hl 0 rfl) ?_
        refine iv_cVi X k_good k_mf_X4_canFollow k_im_X4_canFollow k_sel_X4_canFollow k_ml_X4_67 ft_X4 hB a_h0 sh_4 (As := [.int x_0, .int x_1, .int x1]) (e_X4_canFollow l D tys base G h0 g_h0 r_h0 a_h0 x_0 i_x_0 x_1 i_x_1 x1 i3_x1 A u cm cn Wc gp rp h_gp0) ⟨rfl, rfl⟩ ⟨Nat.le_of_ble_eq_true rfl, Nat.le_of_ble_eq_true rfl⟩ ⟨Nat.le_of_ble_eq_true rfl, Nat.le_of_ble_eq_true rfl⟩ rfl rfl hl.1 (Nat.le_of_ble_eq_true rfl) dX4_firstAfter_14 (fun x6 G9 H locs hq hB => ?_)
        obtain ⟨rfl, i_x6, ex6⟩ := hq
        have hlt : x1.toInt < (s9 : Int) := by have w1 := mt Int32.le_iff_toInt_le.mpr c3; have w2 := congrArg Int32.toInt e_x2; omega
        refine lv_if_eq (tgt := 40) hx hb dX4_firstAfter_17 (by decide) (fun c7 => ?_) (fun c7 => ?_)
        · skip
          have i7_x6 : iv_R 0 0 x6 := (i_x6.cutHi (n := 0) (iv_eq_r c7 q_0).2)
          refine iv_iinc hx hb i3_x1 (lo := 1) (hi := 8) (by decide) dX4_firstAfter_40 hl (k := 0) rfl (by decide) (fun x9 ls e_x9 i_x9 hl => ?_)
          have hl : lv_has ls 4 [(3, .int x9), (0, .ref h0), (1, .int x_0), (2, .int x_1)] := hl
          refine lv_goto (tgt := 2) hx hb dX4_firstAfter_43 (by decide) ?_
          exact ih_2 _ _ hB x9 (i_x9.wk (by decide)) (iv_mup (c := 1) i_x1 (by decide) (by decide) (by omega) hn_2) ⟨by have w1 : x9.toInt = x1.toInt + 1 := e_x9; omega, by rw [(show x9.toInt.toNat = x1.toInt.toNat + 1 from by have w1 : x9.toInt = x1.toInt + 1 := e_x9; have w2 := i3_x1.1; omega)]; exact pe_nx gi_2.2 (fun q => (ex6.mpr q.1) c7)⟩ _ (lv_sub hl [0, 1, 2, 3] rfl)
        · skip
          have i9_x6 : iv_R 1 1 x6 := iv_ne_lo c7 i_x6 q_0 (by decide)
          refine lv_aload_n hx hb dX4_firstAfter_20 rfl (lv_at hl 1 rfl) ?_
          refine iv_getr X ft_X4 hB a_h0 sh_4 4 (by decide) rfl k_fl_X4_18 dX4_firstAfter_21 (fun b11 g_b11 r_b11 e_b11 a_b11 => ?_)
          refine lv_iload_n hx hb dX4_firstAfter_24 rfl (lv_at hl 2 rfl) ?_
          refine lv_iconst (v := 1) hx hb dX4_firstAfter_25 (by decide) ?_
          refine lv_iload_n hx hb dX4_firstAfter_26 rfl (lv_at hl 0 rfl) ?_
          refine iv_shl1 hx hb i3_x1 (lo := 1) (hi := 128) (by decide) dX4_firstAfter_27 (fun x12 e_x12 i_x12 => ?_)
          refine iv_ixor hx hb i_x_0 i_x12 (k := 8) (hi := 255) (by decide) dX4_firstAfter_28 (fun x13 e_x13 i_x13 => ?_)
          refine lv_bipush (v := 8) hx hb dX4_firstAfter_29 (by decide) ?_
          refine iv_imul hx hb i_x13 q_8 (lo := 0) (hi := 2040) (by decide) dX4_firstAfter_31 (fun x14 e_x14 i_x14 => ?_)
          refine lv_iload_n hx hb dX4_firstAfter_32 rfl (lv_at hl 0 rfl) ?_
          refine iv_iadd hx hb i_x14 i3_x1 (lo := 0) (hi := 2047) (by decide) dX4_firstAfter_33 (fun x15 e_x15 i_x15 => ?_)
          refine iv_ald X hB a_b11 sh_33 (iv_in i_x15 (by decide)) dX4_firstAfter_34 (fun x16 e_x16 i_x16 => ?_)
          have hxr := cp_xor (i_x_0.wk (by decide)) i3_x1 e_x12 e_x13
          have hx16 : x16 = gy ((x_0.toInt.toNat ^^^ 2 ^ x1.toInt.toNat) * 8 + x1.toInt.toNat) := by rw [← iv_samew h_gy0 e_b11 a_b11]; exact e_x16.trans (congrArg g_b11 (by show x15.toInt.toNat = _; have w1 : x14.toInt = x13.toInt * (8 : Int32).toInt := e_x14; have e8 : (8 : Int32).toInt = 8 := rfl; have w2 : x15.toInt = x14.toInt + x1.toInt := e_x15; have w3 := i3_x1.1; rw [e8] at w1; omega))
          refine lv_if_le (tgt := 40) hx hb dX4_firstAfter_35 (by decide) (fun c17 => ?_) (fun c17 => ?_)
          · skip
            have i17_x16 : iv_R (-2147483648) 0 x16 := (i_x16.cutHi (n := 0) (iv_le_r c17 q_0))
            refine iv_iinc hx hb i3_x1 (lo := 1) (hi := 8) (by decide) dX4_firstAfter_40 hl (k := 0) rfl (by decide) (fun x19 ls e_x19 i_x19 hl => ?_)
            have hl : lv_has ls 4 [(3, .int x19), (0, .ref h0), (1, .int x_0), (2, .int x_1)] := hl
            refine lv_goto (tgt := 2) hx hb dX4_firstAfter_43 (by decide) ?_
            exact ih_2 _ _ hB x19 (i_x19.wk (by decide)) (iv_mup (c := 1) i_x1 (by decide) (by decide) (by omega) hn_2) ⟨by have w1 : x19.toInt = x1.toInt + 1 := e_x19; omega, by rw [(show x19.toInt.toNat = x1.toInt.toNat + 1 from by have w1 : x19.toInt = x1.toInt + 1 := e_x19; have w2 := i3_x1.1; omega)]; exact pe_nx gi_2.2 (fun q => by have w1 := Int32.le_iff_toInt_le.mp c17; have e0 : (0 : Int32).toInt = 0 := rfl; have w2 := q.2; rw [← hx16] at w2; omega)⟩ _ (lv_sub hl [0, 1, 2, 3] rfl)
          · skip
            have i19_x16 : iv_R 1 2147483647 x16 := (i_x16.cutLo (n := 1) (iv_lt_l (iv_nle c17) q_0 (by decide)))
            refine lv_iload_n hx hb dX4_firstAfter_38 rfl (lv_at hl 0 rfl) ?_
            exact iv_iret X hr hlocks hB ⟨rfl, (i3_x1.wk (by decide)), Or.inr ⟨x1.toInt.toNat, by have w3 := i3_x1.1; omega, by have w3 := i3_x1.1; omega, ⟨ex6.mp c7, by rw [← hx16]; have w1 := mt Int32.le_iff_toInt_le.mpr c17; have e0 : (0 : Int32).toInt = 0 := rfl; omega⟩, gi_2.2⟩⟩ dX4_firstAfter_39
  exact L_2 _ _ _ hB 0 (q_0.wk (by decide)) (Nat.lt_succ_self _) ⟨by have z0 : (0 : Int32).toInt = 0 := rfl; omega, fun j hj => by have z0 : (0 : Int32).toInt = 0 := rfl; rw [z0] at hj; exact absurd hj (Nat.not_lt_zero _)⟩ _ (lv_sub hl [0, 1, 2, 3] rfl)
set_option maxHeartbeats 4000000 in
set_option maxRecDepth 100000 in
theorem e_X4_inFirstPeal (l : Launch) (D : va_G) (tys : List (ClassId × FieldType)) (base : Nat) (G : iv_G) (h0 : Nat) (g_h0 : Nat → Int32) (r_h0 : Nat → Nat) (a_h0 : G h0 = some (4, g_h0, r_h0)) (x_0 : Int32) (i_x_0 : iv_R (-2147483648) 62 x_0) (A : Nat → Nat) (u : Nat → Int32) (cm cn : Int32) (Wc : cw (r_h0 0) A u cm cn G) (gp : Nat → Int32) (rp : Nat → Nat) (h_gp0 : G (r_h0 2) = some (32, gp, rp)) (gy : Nat → Int32) (ry : Nat → Nat) (h_gy0 : G (r_h0 4) = some (33, gy, ry)) (s9 : Nat) (hs9 : (g_h0 3).toInt = (s9 : Int)) (hx0 : 0 ≤ x_0.toInt) : Met l yX4_inFirstPeal (Cond.code yX4_inFirstPeal cX4_inFirstPeal 5 (some .int) :: iv_W0) ({ frames := 4, cells := 0, slots := 0, locals := 81 }) (iv_Pc iv_sh D classes tys base G [.ref h0, .int x_0]) (iv_Qi iv_sh D classes tys base (fun v G' => G = G' ∧ iv_R (-1) 9 v ∧ ((∃ R L, pe_cp gp u cm gy s9 (x_0.toInt.toNat + 1) R L ∧ v = gp L.toNat) ∨ (∃ k R L, k < x_0.toInt.toNat + 1 ∧ pe_cp gp u cm gy s9 k R L ∧ ∀ j, j < s9 → ¬ pe_C gp u cm gy j L R)))) 0 0 (iv_A base) := by
  refine iv_head (by decide) (Nat.le_of_ble_eq_true rfl) ?_
  intro p e s m args below meth c ls X hr hlocks hname hB hl
  have X := X
  have hx := X.1.1
  have hb := X.1.2.1
  have hl : lv_has ls 5 [(0, .ref h0), (1, .int x_0)] := hl
  refine lv_iconst (v := 1) hx hb dX4_inFirstPeal_0 (by decide) ?_
  refine lv_aload_n hx hb dX4_inFirstPeal_1 rfl (lv_at hl 0 rfl) ?_
  refine iv_geti X ft_X4 hB a_h0 sh_4 3 (by decide) rfl k_fl_X4_61 dX4_inFirstPeal_2 (fun x1 e_x1 i_x1 => ?_)
  refine iv_shl1 hx hb i_x1 (lo := 1) (hi := 256) (by decide) dX4_inFirstPeal_5 (fun x2 e_x2 i_x2 => ?_)
  refine lv_iconst (v := 1) hx hb dX4_inFirstPeal_6 (by decide) ?_
  refine iv_isub hx hb i_x2 q_1 (lo := 0) (hi := 255) (by decide) dX4_inFirstPeal_7 (fun x3 e_x3 i_x3 => ?_)
  have h3 : x3.toInt.toNat = 2 ^ s9 - 1 := by
    have w1 := congrArg Int32.toInt e_x1
    have w2 : x3.toInt = x2.toInt - (1 : Int32).toInt := e_x3
    have w3 : (1 : Int32).toInt = 1 := rfl
    have w4 : x2.toInt = ((2 ^ x1.toInt.toNat : Nat) : Int) := by rw [e_x2]; exact (Int.natCast_pow 2 _).symm
    rw [show x1.toInt.toNat = s9 from by omega] at w4
    omega
  refine lv_istore_n (lv' := [(2, .int x3), (0, .ref h0), (1, .int x_0)]) hx hb dX4_inFirstPeal_8 rfl hl (by decide) rfl (fun ls hl => ?_)
  refine lv_iconst (v := (-1)) hx hb dX4_inFirstPeal_9 (by decide) ?_
  refine lv_istore_n (lv' := [(3, .int (-1)), (2, .int x3), (0, .ref h0), (1, .int x_0)]) hx hb dX4_inFirstPeal_10 rfl hl (by decide) rfl (fun ls hl => ?_)
  refine lv_iconst (v := 0) hx hb dX4_inFirstPeal_11 (by decide) ?_
  refine lv_istore (lv' := [(4, .int 0), (3, .int (-1)), (2, .int x3), (0, .ref h0), (1, .int x_0)]) hx hb dX4_inFirstPeal_12 hl (by decide) rfl (fun ls hl => ?_)
  have L_14 : ∀ (n_14 : Nat) (H : Heap) (locs : List Loc) (hB : iv_B iv_sh D classes tys base G s.heap H locs) (x4 : Int32) (i_x4 : iv_R 0 255 x4) (x5 : Int32) (i_x5 : iv_R (-1) 7 x5) (x6 : Int32) (i_x6 : iv_R 0 64 x6) (hn_14 : (65 - x6.toInt).toNat < n_14) (gi_14 : x6.toInt ≤ x_0.toInt + 1 ∧ pe_cp gp u cm gy s9 x6.toInt.toNat x4.toInt.toNat x5.toInt) (ls : Array Slot) (hl : lv_has ls 5 [(4, .int x6), (3, .int x5), (2, .int x4), (0, .ref h0), (1, .int x_0)]), W p l e ({ frames := 4, cells := 0, slots := 0, locals := 81 } : Room) s m args below meth c H locs 0 0 (MQ below (iv_Qi iv_sh D classes tys base (fun v G' => G = G' ∧ iv_R (-1) 9 v ∧ ((∃ R L, pe_cp gp u cm gy s9 (x_0.toInt.toNat + 1) R L ∧ v = gp L.toNat) ∨ (∃ k R L, k < x_0.toInt.toNat + 1 ∧ pe_cp gp u cm gy s9 k R L ∧ ∀ j, j < s9 → ¬ pe_C gp u cm gy j L R)))) args s 0 0 (iv_A base)) (F0 m 14 ls []) := by
    intro n_14
    induction n_14 with
    | zero => intro H locs hB x4 i_x4 x5 i_x5 x6 i_x6 hn_14 gi_14 ls hl; exact absurd hn_14 (Nat.not_lt_zero _)
    | succ n_14 ih_14 =>
      intro H locs hB x4 i_x4 x5 i_x5 x6 i_x6 hn_14 gi_14 ls hl
      refine lv_iload hx hb dX4_inFirstPeal_14 (lv_at hl 0 rfl) ?_
      refine lv_iload_n hx hb dX4_inFirstPeal_16 rfl (lv_at hl 4 rfl) ?_
      refine lv_icmp_gt (tgt := 46) hx hb dX4_inFirstPeal_17 (by decide) (fun c7 => ?_) (fun c7 => ?_)
      · skip
        refine lv_iload_n hx hb dX4_inFirstPeal_46 rfl (lv_at hl 1 rfl) ?_
        have hcp : pe_cp gp u cm gy s9 (x_0.toInt.toNat + 1) x4.toInt.toNat x5.toInt := by rw [← show x6.toInt.toNat = x_0.toInt.toNat + 1 from by have w1 := Int32.lt_iff_toInt_lt.mp c7; have w2 := gi_14.1; omega]; exact gi_14.2
        refine lv_iconst (v := (-1)) hx hb dX4_inFirstPeal_47 (by decide) ?_
        refine lv_icmp_ne (tgt := 55) hx hb dX4_inFirstPeal_48 (by decide) (fun c8 => ?_) (fun c8 => ?_)
        · skip
          have i8_x5 : iv_R 0 7 x5 := iv_ne_lo c8 i_x5 q_n1 (by decide)
          refine lv_aload_n hx hb dX4_inFirstPeal_55 rfl (lv_at hl 3 rfl) ?_
          refine iv_getr X ft_X4 hB a_h0 sh_4 2 (by decide) rfl k_fl_X4_15 dX4_inFirstPeal_56 (fun b10 g_b10 r_b10 e_b10 a_b10 => ?_)
          refine lv_iload_n hx hb dX4_inFirstPeal_59 rfl (lv_at hl 1 rfl) ?_
          refine iv_ald X hB a_b10 sh_32 (iv_in i8_x5 (by decide)) dX4_inFirstPeal_60 (fun x11 e_x11 i_x11 => ?_)
          exact iv_iret X hr hlocks hB ⟨rfl, (i_x11.wk (by decide)), Or.inl ⟨_, _, hcp, (by rw [← iv_samew h_gp0 e_b10 a_b10]; exact e_x11)⟩⟩ dX4_inFirstPeal_61
        · skip
          exact absurd (congrArg Int32.toInt c8) (by obtain ⟨R0, L0, i, w1, w2, w3, w4⟩ := hcp; have w5 : (-1 : Int32).toInt = -1 := rfl; rw [w5]; omega)
      · skip
        have i12_x6 : iv_R 0 62 x6 := (i_x6.cutHi (n := 62) (iv_le_r (iv_nlt c7) i_x_0))
        have i13_x_0 : iv_R 0 62 x_0 := (i_x_0.cutLo (n := 0) (iv_le_l (iv_nlt c7) i_x6))
        refine lv_aload_n hx hb dX4_inFirstPeal_20 rfl (lv_at hl 3 rfl) ?_
        refine lv_iload_n hx hb dX4_inFirstPeal_21 rfl (lv_at hl 2 rfl) ?_
        refine lv_iload_n hx hb dX4_inFirstPeal_22 rfl (lv_at hl 1 rfl) ?_
        refine iv_cVi X k_good k_mf_X4_firstAfter k_im_X4_firstAfter k_sel_X4_firstAfter k_ml_X4_70 ft_X4 hB a_h0 sh_4 (As := [.int x4, .int x5]) (e_X4_firstAfter l D tys base G h0 g_h0 r_h0 a_h0 x4 i_x4 x5 i_x5 A u cm cn Wc gp rp h_gp0 gy ry h_gy0 s9 hs9) ⟨rfl, rfl⟩ ⟨Nat.le_of_ble_eq_true rfl, Nat.le_of_ble_eq_true rfl⟩ ⟨Nat.le_of_ble_eq_true rfl, Nat.le_of_ble_eq_true rfl⟩ rfl rfl hl.1 (Nat.le_of_ble_eq_true rfl) dX4_inFirstPeal_23 (fun x15 G9 H locs hq hB => ?_)
        obtain ⟨rfl, i_x15, ex15⟩ := hq
        refine lv_istore_n (lv' := [(3, .int x15), (4, .int x6), (2, .int x4), (0, .ref h0), (1, .int x_0)]) hx hb dX4_inFirstPeal_26 rfl hl (by decide) rfl (fun ls hl => ?_)
        refine lv_iload_n hx hb dX4_inFirstPeal_27 rfl (lv_at hl 0 rfl) ?_
        refine lv_iconst (v := (-1)) hx hb dX4_inFirstPeal_28 (by decide) ?_
        refine lv_icmp_ne (tgt := 34) hx hb dX4_inFirstPeal_29 (by decide) (fun c16 => ?_) (fun c16 => ?_)
        · skip
          have i16_x15 : iv_R 0 7 x15 := iv_ne_lo c16 i_x15 q_n1 (by decide)
          refine lv_iload_n hx hb dX4_inFirstPeal_34 rfl (lv_at hl 2 rfl) ?_
          refine lv_iconst (v := 1) hx hb dX4_inFirstPeal_35 (by decide) ?_
          refine lv_iload_n hx hb dX4_inFirstPeal_36 rfl (lv_at hl 0 rfl) ?_
          refine iv_shl1 hx hb i16_x15 (lo := 1) (hi := 128) (by decide) dX4_inFirstPeal_37 (fun x18 e_x18 i_x18 => ?_)
          refine iv_ixor hx hb i_x4 i_x18 (k := 8) (hi := 255) (by decide) dX4_inFirstPeal_38 (fun x19 e_x19 i_x19 => ?_)
          refine lv_istore_n (lv' := [(2, .int x19), (3, .int x15), (4, .int x6), (0, .ref h0), (1, .int x_0)]) hx hb dX4_inFirstPeal_39 rfl hl (by decide) rfl (fun ls hl => ?_)
          refine iv_iinc hx hb i12_x6 (lo := 1) (hi := 63) (by decide) dX4_inFirstPeal_40 hl (k := 2) rfl (by decide) (fun x20 ls e_x20 i_x20 hl => ?_)
          have hl : lv_has ls 5 [(4, .int x20), (2, .int x19), (3, .int x15), (0, .ref h0), (1, .int x_0)] := hl
          refine lv_goto (tgt := 14) hx hb dX4_inFirstPeal_43 (by decide) ?_
          have hxr := cp_xor (i_x4.wk (by decide)) i16_x15 e_x18 e_x19
          have hcp : pe_cp gp u cm gy s9 (x6.toInt.toNat + 1) x19.toInt.toNat x15.toInt := by
            rcases ex15 with q | ⟨i, q1, q2, q3, q4⟩
            · exact absurd q.1 c16
            · exact ⟨x4.toInt.toNat, x5.toInt, i, gi_14.2, q1, q2, by rw [show i = x15.toInt.toNat by omega]; omega, q3, q4⟩
          exact ih_14 _ _ hB x19 i_x19 x15 (i16_x15.wk (by decide)) x20 (i_x20.wk (by decide)) (iv_mup (c := 1) i_x6 (by decide) (by decide) (by omega) hn_14) ⟨by have w1 : x20.toInt = x6.toInt + 1 := e_x20; have w2 := Int32.le_iff_toInt_le.mp (iv_nlt c7); omega, by rw [show x20.toInt.toNat = x6.toInt.toNat + 1 from by (have w1 : x20.toInt = x6.toInt + 1 := e_x20; have w2 := i_x6.1; omega)]; exact hcp⟩ _ (lv_sub hl [0, 2, 1, 3, 4] rfl)
        · skip
          have i20_x15 : iv_R (-1) (-1) x15 := (i_x15.cutHi (n := (-1)) (iv_eq_r c16 q_n1).2)
          refine lv_iconst (v := (-1)) hx hb dX4_inFirstPeal_32 (by decide) ?_
          exact iv_iret X hr hlocks hB ⟨rfl, (q_n1.wk (by decide)), Or.inr ⟨x6.toInt.toNat, _, _, by have w1 := Int32.le_iff_toInt_le.mp (iv_nlt c7); have w2 := i_x6.1; omega, gi_14.2, (by rcases ex15 with q | ⟨i, q1, q2, q3⟩; exact q.2; exact absurd (congrArg Int32.toInt c16) (by have w5 : (-1 : Int32).toInt = -1 := rfl; rw [w5]; omega))⟩⟩ dX4_inFirstPeal_33
  exact L_14 _ _ _ hB x3 i_x3 (-1) (q_n1.wk (by decide)) 0 (q_0.wk (by decide)) (Nat.lt_succ_self _) ⟨by have z0 : (0 : Int32).toInt = 0 := rfl; omega, ⟨h3, rfl⟩⟩ _ (lv_sub hl [0, 1, 2, 3, 4] rfl)
def pe_bc (x : Int32) : Int32 :=
  let x3 := x - ((x.toUInt32 >>> (Int32.toUInt32 1 &&& Int32.toUInt32 31)).toInt32 &&& 1431655765)
  let x7 := (x3 &&& 858993459) + ((x3.toUInt32 >>> (Int32.toUInt32 2 &&& Int32.toUInt32 31)).toInt32 &&& 858993459)
  let x10 := (x7 + (x7.toUInt32 >>> (Int32.toUInt32 4 &&& Int32.toUInt32 31)).toInt32) &&& 252645135
  let x12 := x10 + (x10.toUInt32 >>> (Int32.toUInt32 8 &&& Int32.toUInt32 31)).toInt32
  let x14 := x12 + (x12.toUInt32 >>> (Int32.toUInt32 16 &&& Int32.toUInt32 31)).toInt32
  x14 &&& 63
theorem pe_bcN : ∀ S : Fin 1024, (pe_bc S.val.toInt32).toInt = ((iv_pcn S.val 24 : Nat) : Int) := by decide +kernel
theorem pe_isN : ∀ c : Fin 11, (c.val.toInt32.toUInt32 &&& Int32.toUInt32 31).toNat = c.val := by decide +kernel
theorem pe_set {x n y : Int32} (hn : iv_R 0 10 n) (hy : y = (x.toUInt32 >>> (n.toUInt32 &&& Int32.toUInt32 31)).toInt32) : y = 0 ↔ 0 ≤ x.toInt ∧ x.toInt < ((2 ^ n.toInt.toNat : Nat) : Int) := by
  have h1 := hn.1
  have h2 := hn.2
  have e := pe_isN ⟨n.toInt.toNat, by omega⟩
  have e : (n.toInt.toNat.toInt32.toUInt32 &&& Int32.toUInt32 31).toNat = n.toInt.toNat := e
  rw [iv_nIx hn (by decide)] at e
  have hy0 : y = 0 ↔ (x.toUInt32 >>> (n.toUInt32 &&& Int32.toUInt32 31)).toNat = 0 := by
    rw [hy]
    constructor
    · intro q
      have w := congrArg (fun z : Int32 => z.toUInt32.toNat) q
      exact w
    · intro q
      have w : (x.toUInt32 >>> (n.toUInt32 &&& Int32.toUInt32 31)) = 0 := UInt32.toNat_inj.mp q
      rw [w]
      rfl
  rw [hy0, UInt32.toNat_shiftRight, e, Nat.mod_eq_of_lt (by omega), Nat.shiftRight_eq_div_pow]
  have hp := Nat.two_pow_pos n.toInt.toNat
  rw [Nat.div_eq_zero_iff_lt hp]
  have hx : x.toInt = if 2 * x.toUInt32.toNat < 4294967296 then (x.toUInt32.toNat : Int) else (x.toUInt32.toNat : Int) - 4294967296 := BitVec.toInt_eq_toNat_cond (x := x.toBitVec)
  have hb : x.toUInt32.toNat < 4294967296 := x.toUInt32.toNat_lt
  have hp2 : 2 ^ n.toInt.toNat ≤ 2 ^ 10 := Nat.pow_le_pow_right (by decide) (by omega)
  by_cases q : 2 * x.toUInt32.toNat < 4294967296
  · rw [if_pos q] at hx
    omega
  · rw [if_neg q] at hx
    omega
set_option maxHeartbeats 4000000 in
set_option maxRecDepth 100000 in
theorem e_J6_bitCount_0f7a4 (l : Launch) (D : va_G) (tys : List (ClassId × FieldType)) (base : Nat) (G : iv_G) (x_0 : Int32) (i_x_0 : iv_R (-2147483648) 2147483647 x_0) (hx1 : iv_R 0 1023 x_0) : Met l yJ6_bitCount_0f7a4 (Cond.code yJ6_bitCount_0f7a4 cJ6_bitCount_0f7a4 1 (some .int) :: iv_W0) ({ frames := 0, cells := 0, slots := 0, locals := 0 }) (iv_Pc iv_sh D classes tys base G [.int x_0]) (iv_Qi iv_sh D classes tys base (fun v G' => G = G' ∧ iv_R 0 63 v ∧ (v.toInt = ((iv_pcn x_0.toInt.toNat 24 : Nat) : Int)))) 0 0 (iv_A base) := by
  refine iv_head (by decide) (Nat.le_of_ble_eq_true rfl) ?_
  intro p e s m args below meth c ls X hr hlocks hname hB hl
  have X := X
  have hx := X.1.1
  have hb := X.1.2.1
  have hl : lv_has ls 1 [(0, .int x_0)] := hl
  refine lv_iload_n hx hb dJ6_bitCount_0f7a4_0 rfl (lv_at hl 0 rfl) ?_
  refine lv_iload_n hx hb dJ6_bitCount_0f7a4_1 rfl (lv_at hl 0 rfl) ?_
  refine lv_iconst (v := 1) hx hb dJ6_bitCount_0f7a4_2 (by decide) ?_
  refine lv_iushr hx hb dJ6_bitCount_0f7a4_3 rfl ?_
  refine lv_topi (fun x1 e_x1 => ?_)
  have i_x1 := iv_R.all x1
  refine lv_ldcw (v := 1431655765) hx hb X.1.2.2.2.1 (X.1.2.2.2.2 _ k_ct_J6_265) dJ6_bitCount_0f7a4_4 ?_
  refine iv_iand_r hx hb q_1431655765 (by decide) dJ6_bitCount_0f7a4_7 (fun x2 e_x2 i_x2 => ?_)
  refine lv_isub hx hb dJ6_bitCount_0f7a4_8 ?_
  refine lv_topi (fun x3 e_x3 => ?_)
  have i_x3 := iv_R.all x3
  refine lv_istore_n (lv' := [(0, .int x3)]) hx hb dJ6_bitCount_0f7a4_9 rfl hl (by decide) rfl (fun ls hl => ?_)
  refine lv_iload_n hx hb dJ6_bitCount_0f7a4_10 rfl (lv_at hl 0 rfl) ?_
  refine lv_ldcw (v := 858993459) hx hb X.1.2.2.2.1 (X.1.2.2.2.2 _ k_ct_J6_266) dJ6_bitCount_0f7a4_11 ?_
  refine iv_iand_r hx hb q_858993459 (by decide) dJ6_bitCount_0f7a4_14 (fun x4 e_x4 i_x4 => ?_)
  refine lv_iload_n hx hb dJ6_bitCount_0f7a4_15 rfl (lv_at hl 0 rfl) ?_
  refine lv_iconst (v := 2) hx hb dJ6_bitCount_0f7a4_16 (by decide) ?_
  refine lv_iushr hx hb dJ6_bitCount_0f7a4_17 rfl ?_
  refine lv_topi (fun x5 e_x5 => ?_)
  have i_x5 := iv_R.all x5
  refine lv_ldcw (v := 858993459) hx hb X.1.2.2.2.1 (X.1.2.2.2.2 _ k_ct_J6_266) dJ6_bitCount_0f7a4_18 ?_
  refine iv_iand_r hx hb q_858993459 (by decide) dJ6_bitCount_0f7a4_21 (fun x6 e_x6 i_x6 => ?_)
  refine iv_iadd hx hb i_x4 i_x6 (lo := 0) (hi := 1717986918) (by decide) dJ6_bitCount_0f7a4_22 (fun x7 e_x7 i_x7 => ?_)
  refine lv_istore_n (lv' := [(0, .int x7)]) hx hb dJ6_bitCount_0f7a4_23 rfl hl (by decide) rfl (fun ls hl => ?_)
  refine lv_iload_n hx hb dJ6_bitCount_0f7a4_24 rfl (lv_at hl 0 rfl) ?_
  refine lv_iload_n hx hb dJ6_bitCount_0f7a4_25 rfl (lv_at hl 0 rfl) ?_
  refine lv_iconst (v := 4) hx hb dJ6_bitCount_0f7a4_26 (by decide) ?_
  refine lv_iushr hx hb dJ6_bitCount_0f7a4_27 rfl ?_
  refine lv_topi (fun x8 e_x8 => ?_)
  have i_x8 := iv_R.all x8
  refine lv_iadd hx hb dJ6_bitCount_0f7a4_28 ?_
  refine lv_topi (fun x9 e_x9 => ?_)
  have i_x9 := iv_R.all x9
  refine lv_ldcw (v := 252645135) hx hb X.1.2.2.2.1 (X.1.2.2.2.2 _ k_ct_J6_267) dJ6_bitCount_0f7a4_29 ?_
  refine iv_iand_r hx hb q_252645135 (by decide) dJ6_bitCount_0f7a4_32 (fun x10 e_x10 i_x10 => ?_)
  refine lv_istore_n (lv' := [(0, .int x10)]) hx hb dJ6_bitCount_0f7a4_33 rfl hl (by decide) rfl (fun ls hl => ?_)
  refine lv_iload_n hx hb dJ6_bitCount_0f7a4_34 rfl (lv_at hl 0 rfl) ?_
  refine lv_iload_n hx hb dJ6_bitCount_0f7a4_35 rfl (lv_at hl 0 rfl) ?_
  refine lv_bipush (v := 8) hx hb dJ6_bitCount_0f7a4_36 (by decide) ?_
  refine lv_iushr hx hb dJ6_bitCount_0f7a4_38 rfl ?_
  refine lv_topi (fun x11 e_x11 => ?_)
  have i_x11 := iv_R.all x11
  refine lv_iadd hx hb dJ6_bitCount_0f7a4_39 ?_
  refine lv_topi (fun x12 e_x12 => ?_)
  have i_x12 := iv_R.all x12
  refine lv_istore_n (lv' := [(0, .int x12)]) hx hb dJ6_bitCount_0f7a4_40 rfl hl (by decide) rfl (fun ls hl => ?_)
  refine lv_iload_n hx hb dJ6_bitCount_0f7a4_41 rfl (lv_at hl 0 rfl) ?_
  refine lv_iload_n hx hb dJ6_bitCount_0f7a4_42 rfl (lv_at hl 0 rfl) ?_
  refine lv_bipush (v := 16) hx hb dJ6_bitCount_0f7a4_43 (by decide) ?_
  refine lv_iushr hx hb dJ6_bitCount_0f7a4_45 rfl ?_
  refine lv_topi (fun x13 e_x13 => ?_)
  have i_x13 := iv_R.all x13
  refine lv_iadd hx hb dJ6_bitCount_0f7a4_46 ?_
  refine lv_topi (fun x14 e_x14 => ?_)
  have i_x14 := iv_R.all x14
  refine lv_istore_n (lv' := [(0, .int x14)]) hx hb dJ6_bitCount_0f7a4_47 rfl hl (by decide) rfl (fun ls hl => ?_)
  refine lv_iload_n hx hb dJ6_bitCount_0f7a4_48 rfl (lv_at hl 0 rfl) ?_
  refine lv_bipush (v := 63) hx hb dJ6_bitCount_0f7a4_49 (by decide) ?_
  refine iv_iand_r hx hb q_63 (by decide) dJ6_bitCount_0f7a4_51 (fun x15 e_x15 i_x15 => ?_)
  have hv : x15 = pe_bc x_0 := by
    have f7 : x7 = x4 + x6 := Int32.toInt_inj.mp ((show x7.toInt = x4.toInt + x6.toInt from e_x7).trans (iv_ti_add (by have a1 := i_x4.1; have a2 := i_x6.1; omega) (by have a1 := i_x4.2; have a2 := i_x6.2; omega)).symm)
    subst e_x15 e_x14 e_x13 e_x12 e_x11 e_x10 e_x9 e_x8 f7 e_x6 e_x5 e_x4 e_x3 e_x2 e_x1
    rfl
  have hbn := pe_bcN ⟨x_0.toInt.toNat, by have w1 := hx1.1; have w2 := hx1.2; omega⟩
  have hbn : (pe_bc x_0.toInt.toNat.toInt32).toInt = ((iv_pcn x_0.toInt.toNat 24 : Nat) : Int) := hbn
  rw [iv_nIx hx1 (by decide), ← hv] at hbn
  exact iv_iret X hr hlocks hB ⟨rfl, i_x15, hbn⟩ dJ6_bitCount_0f7a4_52
set_option maxHeartbeats 4000000 in
set_option maxRecDepth 100000 in
theorem e_X5_isSetOfBells (l : Launch) (D : va_G) (tys : List (ClassId × FieldType)) (base : Nat) (G : iv_G) (h0 : Nat) (g_h0 : Nat → Int32) (r_h0 : Nat → Nat) (a_h0 : G h0 = some (5, g_h0, r_h0)) (x_0 : Int32) (i_x_0 : iv_R (-2147483648) 2147483647 x_0) (cn : Int32) (Wn : iv_kc 5 1 h0 cn G) : Met l yX5_isSetOfBells (Cond.code yX5_isSetOfBells cX5_isSetOfBells 2 (some .boolean) :: iv_W0) ({ frames := 0, cells := 0, slots := 0, locals := 0 }) (iv_Pc iv_sh D classes tys base G [.ref h0, .int x_0]) (iv_Qi iv_sh D classes tys base (fun v G' => G = G' ∧ iv_R 0 1 v ∧ (¬ v = 0 ↔ 0 ≤ x_0.toInt ∧ x_0.toInt < ((2 ^ cn.toInt.toNat : Nat) : Int)))) 0 0 (iv_A base) := by
  refine iv_head (by decide) (Nat.le_of_ble_eq_true rfl) ?_
  intro p e s m args below meth c ls X hr hlocks hname hB hl
  have X := X
  have hx := X.1.1
  have hb := X.1.2.1
  have hl : lv_has ls 2 [(0, .ref h0), (1, .int x_0)] := hl
  refine lv_iload_n hx hb dX5_isSetOfBells_0 rfl (lv_at hl 1 rfl) ?_
  refine lv_aload_n hx hb dX5_isSetOfBells_1 rfl (lv_at hl 0 rfl) ?_
  refine iv_geti X ft_X5 hB a_h0 sh_5 1 (by decide) rfl k_fl_X5_61 dX5_isSetOfBells_2 (fun x1 e_x1 i_x1 => ?_)
  refine lv_iushr hx hb dX5_isSetOfBells_5 rfl ?_
  refine lv_topi (fun x2 e_x2 => ?_)
  have i_x2 := iv_R.all x2
  have hset : x2 = 0 ↔ 0 ≤ x_0.toInt ∧ x_0.toInt < ((2 ^ cn.toInt.toNat : Nat) : Int) := by rw [← Wn.val a_h0, ← e_x1]; exact pe_set i_x1 e_x2
  refine lv_if_ne (tgt := 13) hx hb dX5_isSetOfBells_6 (by decide) (fun c3 => ?_) (fun c3 => ?_)
  · skip
    refine lv_iconst (v := 0) hx hb dX5_isSetOfBells_13 (by decide) ?_
    exact iv_zret X hr hlocks hB (q_0.wk (by decide)) ⟨rfl, (q_0.wk (by decide)), (⟨fun h => absurd rfl h, fun h => absurd (hset.mpr h) c3⟩)⟩ dX5_isSetOfBells_14
  · skip
    have i3_x2 : iv_R 0 0 x2 := ((i_x2.cutLo (n := 0) (iv_eq_r c3 q_0).1).cutHi (n := 0) (iv_eq_r c3 q_0).2)
    refine lv_iconst (v := 1) hx hb dX5_isSetOfBells_9 (by decide) ?_
    refine lv_goto (tgt := 14) hx hb dX5_isSetOfBells_10 (by decide) ?_
    exact iv_zret X hr hlocks hB (q_1.wk (by decide)) ⟨rfl, (q_1.wk (by decide)), (⟨fun _ => hset.mp c3, fun _ => by decide⟩)⟩ dX5_isSetOfBells_14
theorem iv_same4 {G : iv_G} {a b : Nat} {c : Nat} {g g' : Nat → Int32} {r r' : Nat → Nat} (h : G a = some (c, g, r)) (e : b = a) (h' : G b = some (c, g', r')) : r' = r := by
  subst e
  have := h.symm.trans h'
  cases this
  rfl
set_option maxHeartbeats 4000000 in
set_option maxRecDepth 100000 in
theorem e_X11_peals (l : Launch) (D : va_G) (tys : List (ClassId × FieldType)) (base : Nat) (G : iv_G) (h0 : Nat) (g_h0 : Nat → Int32) (r_h0 : Nat → Nat) (a_h0 : G h0 = some (11, g_h0, r_h0)) (x_0 : Int32) (i_x_0 : iv_R (-2147483648) 2147483647 x_0) (x_1 : Int32) (i_x_1 : iv_R (-2147483648) 2147483647 x_1) (A : Nat → Nat) (u : Nat → Int32) (cm cn : Int32) (Wc : cw (r_h0 0) A u cm cn G) (hcn : iv_R 0 10 cn) (go4 : Nat → Int32) (ro4 : Nat → Nat) (h_o : G (r_h0 10) = some (4, go4, ro4)) (hop : ro4 0 = r_h0 0) : Met l yX11_peals (Cond.code yX11_peals cX11_peals 4 (some .int) :: iv_W0) ({ frames := 5, cells := 0, slots := 0, locals := 106 }) (iv_Pc iv_sh D classes tys base G [.ref h0, .int x_0, .int x_1]) (iv_Qi iv_sh D classes tys base (fun v G' => iv_Md [4, 32, 33] G G' ∧ iv_R (-2147483648) 2147483647 v ∧ (pe_PC u cm cn x_0 x_1 v))) 0 0 (iv_A base) := by
  refine iv_head (by decide) (Nat.le_of_ble_eq_true rfl) ?_
  intro p e s m args below meth c ls X hr hlocks hname hB hl
  have X := X
  have hx := X.1.1
  have hb := X.1.2.1
  have hM : iv_Md [4, 32, 33] G G := iv_Md.rf
  have hl : lv_has ls 4 [(0, .ref h0), (1, .int x_0), (2, .int x_1)] := hl
  refine lv_aload_n hx hb dX11_peals_0 rfl (lv_at hl 0 rfl) ?_
  refine iv_getr X ft_X11 hB a_h0 sh_11 0 (by decide) rfl k_fl_X11_12 dX11_peals_1 (fun b1 g_b1 r_b1 e_b1 a_b1 => ?_)
  refine lv_iload_n hx hb dX11_peals_4 rfl (lv_at hl 1 rfl) ?_
  refine iv_cVi X k_good k_mf_X5_isSetOfBells k_im_X5_isSetOfBells k_sel_X5_isSetOfBells k_ml_X11_322 ft_X5 hB a_b1 sh_5 (As := [.int x_0]) (e_X5_isSetOfBells l D tys base G b1 g_b1 r_b1 a_b1 x_0 i_x_0 cn (by rw [e_b1]; exact Wc.1.2)) ⟨rfl, rfl⟩ ⟨Nat.le_of_ble_eq_true rfl, Nat.le_of_ble_eq_true rfl⟩ ⟨Nat.le_of_ble_eq_true rfl, Nat.le_of_ble_eq_true rfl⟩ rfl rfl hl.1 (Nat.le_of_ble_eq_true rfl) dX11_peals_5 (fun x2 G9 H locs hq hB => ?_)
  obtain ⟨rfl, i_x2, ex2⟩ := hq
  refine lv_if_eq (tgt := 20) hx hb dX11_peals_8 (by decide) (fun c3 => ?_) (fun c3 => ?_)
  · skip
    have i3_x2 : iv_R 0 0 x2 := (i_x2.cutHi (n := 0) (iv_eq_r c3 q_0).2)
    refine lv_iconst (v := (-1)) hx hb dX11_peals_20 (by decide) ?_
    exact iv_iret X hr hlocks hB ⟨hM, (q_n1.wk (by decide)), (⟨fun _ => rfl, fun _ _ => rfl, fun q => absurd (ex2.mpr ⟨q.1, q.2.1⟩) (fun w => w c3)⟩)⟩ dX11_peals_21
  · skip
    have i4_x2 : iv_R 1 1 x2 := iv_ne_lo c3 i_x2 q_0 (by decide)
    have hx1 : iv_R 0 1023 x_0 := ⟨(ex2.mp c3).1, by have w1 := (ex2.mp c3).2; have w2 : 2 ^ cn.toInt.toNat ≤ 2 ^ 10 := Nat.pow_le_pow_right (by decide) (by have w3 := hcn.2; omega); omega⟩
    have htop := iv_pcn.top (S := x_0.toInt.toNat) (n := cn.toInt.toNat) (by have w1 := (ex2.mp c3).2; have w2 := hx1.1; omega) (24 - cn.toInt.toNat)
    rw [show cn.toInt.toNat + (24 - cn.toInt.toNat) = 24 from by have w3 := hcn.2; have w4 := hcn.1; omega] at htop
    refine lv_iload_n hx hb dX11_peals_11 rfl (lv_at hl 1 rfl) ?_
    refine iv_cSi X k_good k_mf_J6_bitCount_0f7a4 k_st_J6_bitCount_0f7a4 k_ml_X11_288 hB (As := [.int x_0]) (e_J6_bitCount_0f7a4 l D tys base G x_0 i_x_0 hx1) ⟨rfl, rfl⟩ ⟨Nat.le_of_ble_eq_true rfl, Nat.le_of_ble_eq_true rfl⟩ ⟨Nat.le_of_ble_eq_true rfl, Nat.le_of_ble_eq_true rfl⟩ rfl rfl hl.1 (Nat.le_of_ble_eq_true rfl) dX11_peals_12 (fun x6 G9 H locs hq hB => ?_)
    obtain ⟨rfl, i_x6, ex6⟩ := hq
    refine lv_bipush (v := 8) hx hb dX11_peals_15 (by decide) ?_
    refine lv_icmp_le (tgt := 22) hx hb dX11_peals_17 (by decide) (fun c7 => ?_) (fun c7 => ?_)
    · skip
      have i7_x6 : iv_R 0 8 x6 := (i_x6.cutHi (n := 8) (iv_le_r c7 q_8))
      have hc8 : iv_pcn x_0.toInt.toNat cn.toInt.toNat ≤ 8 := by have w1 := i7_x6.2; omega
      have hask : pe_ask x_0 cn := ⟨(ex2.mp c3).1, (ex2.mp c3).2, by omega⟩
      refine lv_iload_n hx hb dX11_peals_22 rfl (lv_at hl 2 rfl) ?_
      refine lv_if_ne (tgt := 35) hx hb dX11_peals_23 (by decide) (fun c9 => ?_) (fun c9 => ?_)
      · skip
        refine lv_iload_n hx hb dX11_peals_35 rfl (lv_at hl 2 rfl) ?_
        refine lv_bipush (v := 10) hx hb dX11_peals_36 (by decide) ?_
        refine lv_isub hx hb dX11_peals_38 ?_
        refine lv_topi (fun x10 e_x10 => ?_)
        have i_x10 := iv_R.all x10
        refine lv_istore_n (lv' := [(3, .int x10), (0, .ref h0), (1, .int x_0), (2, .int x_1)]) hx hb dX11_peals_39 rfl hl (by decide) rfl (fun ls hl => ?_)
        refine lv_iload_n hx hb dX11_peals_40 rfl (lv_at hl 3 rfl) ?_
        refine lv_bipush (v := 10) hx hb dX11_peals_41 (by decide) ?_
        refine lv_icmp_lt (tgt := 65) hx hb dX11_peals_43 (by decide) (fun c11 => ?_) (fun c11 => ?_)
        · skip
          have i11_x_1 : iv_R (-2147483648) 9 x_1 := (i_x_1.cutHi (n := 9) (iv_lt_r c11 q_10 (by decide)))
          refine lv_iconst (v := (-1)) hx hb dX11_peals_65 (by decide) ?_
          exact iv_iret X hr hlocks hB ⟨hM, (q_n1.wk (by decide)), (⟨fun _ => rfl, fun _ _ => rfl, fun _ q => absurd q (fun q => q.elim c9 (fun q => by have w1 := i11_x_1.2; have w2 := q.1; omega))⟩)⟩ dX11_peals_66
        · skip
          have i12_x_1 : iv_R 10 2147483647 x_1 := (i_x_1.cutLo (n := 10) (iv_le_l (iv_nlt c11) q_10))
          have h10 : x10.toInt = x_1.toInt - 10 := by rw [e_x10]; have e10 : (10 : Int32).toInt = 10 := rfl; have w1 := i12_x_1.1; have w2 := i12_x_1.2; exact (iv_ti_sub (by omega) (by omega)).trans (by rw [e10])
          refine lv_iload_n hx hb dX11_peals_46 rfl (lv_at hl 0 rfl) ?_
          refine lv_iload_n hx hb dX11_peals_47 rfl (lv_at hl 2 rfl) ?_
          refine iv_cSi X k_good k_mf_J6_bitCount_0f7a4 k_st_J6_bitCount_0f7a4 k_ml_X11_288 hB (As := [.int x_0]) (e_J6_bitCount_0f7a4 l D tys base G x_0 i_x_0 hx1) ⟨rfl, rfl⟩ ⟨Nat.le_of_ble_eq_true rfl, Nat.le_of_ble_eq_true rfl⟩ ⟨Nat.le_of_ble_eq_true rfl, Nat.le_of_ble_eq_true rfl⟩ rfl rfl hl.1 (Nat.le_of_ble_eq_true rfl) dX11_peals_48 (fun x14 G9 H locs hq hB => ?_)
          obtain ⟨rfl, i_x14, ex14⟩ := hq
          refine lv_icmp_ge (tgt := 65) hx hb dX11_peals_51 (by decide) (fun c15 => ?_) (fun c15 => ?_)
          · skip
            have i15_x10 : iv_R 0 2147483647 x10 := (i_x10.cutLo (n := 0) (iv_le_l c15 i_x14))
            refine lv_iconst (v := (-1)) hx hb dX11_peals_65 (by decide) ?_
            exact iv_iret X hr hlocks hB ⟨hM, (q_n1.wk (by decide)), (⟨fun _ => rfl, fun _ _ => rfl, fun _ q => absurd q (fun q => q.elim c9 (fun q => by have w1 := Int32.le_iff_toInt_le.mp c15; have w2 := q.2; omega))⟩)⟩ dX11_peals_66
          · skip
            have i16_x10 : iv_R (-2147483648) 62 x10 := (i_x10.cutHi (n := 62) (iv_lt_r (iv_nle c15) i_x14 (by decide)))
            refine lv_aload_n hx hb dX11_peals_54 rfl (lv_at hl 1 rfl) ?_
            refine iv_getr X ft_X11 hB a_h0 sh_11 10 (by decide) rfl k_fl_X11_65 dX11_peals_55 (fun b18 g_b18 r_b18 e_b18 a_b18 => ?_)
            refine lv_iload_n hx hb dX11_peals_58 rfl (lv_at hl 2 rfl) ?_
            refine iv_cVi X k_good k_mf_X4_countPeals k_im_X4_countPeals k_sel_X4_countPeals k_ml_X11_331 ft_X4 hB a_b18 sh_4 (As := [.int x_0]) (e_X4_countPeals l D tys base G b18 g_b18 r_b18 a_b18 x_0 i_x_0 A u cm cn (by rw [iv_same4 h_o e_b18 a_b18, hop]; exact Wc) hx1 hc8) ⟨rfl, rfl⟩ ⟨Nat.le_of_ble_eq_true rfl, Nat.le_of_ble_eq_true rfl⟩ ⟨Nat.le_of_ble_eq_true rfl, Nat.le_of_ble_eq_true rfl⟩ rfl rfl hl.1 (Nat.le_of_ble_eq_true rfl) dX11_peals_59 (fun x19 G9 H locs hq hB => ?_)
            obtain ⟨hm, i_x19, xc⟩ := hq
            obtain ⟨G20, hG9⟩ : ∃ g, g = G9 := ⟨_, rfl⟩
            rw [← hG9] at hm hB xc
            have hM := hM.stp hm (by decide)
            have a_h0 := hm.at a_h0 (by decide)
            obtain ⟨g9, gp, gy, rp, ry, h_4, h_gp, h_gy, gm, gs, hF, exv⟩ := xc
            have hx10 : 0 ≤ x10.toInt := by have w1 := i12_x_1.1; omega
            have hat : pe_at x_0 x_1 := ⟨i12_x_1.1, by have w1 := mt Int32.le_iff_toInt_le.mpr c15; omega⟩
            have hk : x_1.toInt.toNat - 9 = x10.toInt.toNat + 1 := by have w1 := i12_x_1.1; omega
            refine lv_if_ne (tgt := 67) hx hb dX11_peals_62 (by decide) (fun c21 => ?_) (fun c21 => ?_)
            · skip
              refine lv_aload_n hx hb dX11_peals_67 rfl (lv_at hl 1 rfl) ?_
              refine iv_getr X ft_X11 hB a_h0 sh_11 10 (by decide) rfl k_fl_X11_65 dX11_peals_68 (fun b22 g_b22 r_b22 e_b22 a_b22 => ?_)
              have e22 : b22 = b18 := e_b22.trans e_b18.symm
              have hh : G20 b18 = some (4, g_b22, r_b22) := by rw [← e22]; exact a_b22
              have hr22 : r_b22 = r_b18 := iv_same4 h_4 rfl hh
              have hg22 : g_b22 = g9 := iv_samew h_4 rfl hh
              refine lv_iload_n hx hb dX11_peals_71 rfl (lv_at hl 0 rfl) ?_
              refine iv_cVi X k_good k_mf_X4_inFirstPeal k_im_X4_inFirstPeal k_sel_X4_inFirstPeal k_ml_X11_334 ft_X4 hB a_b22 sh_4 (As := [.int x10]) (e_X4_inFirstPeal l D tys base G20 b22 g_b22 r_b22 a_b22 x10 i16_x10 A u cm cn (by rw [hr22, iv_same4 h_o e_b18 a_b18, hop]; exact Wc.md hm) gp rp (by rw [hr22]; exact h_gp) gy ry (by rw [hr22]; exact h_gy) (iv_pcn x_0.toInt.toNat cn.toInt.toNat) (by rw [hg22]; exact gs) hx10) ⟨rfl, rfl⟩ ⟨Nat.le_of_ble_eq_true rfl, Nat.le_of_ble_eq_true rfl⟩ ⟨Nat.le_of_ble_eq_true rfl, Nat.le_of_ble_eq_true rfl⟩ rfl rfl hl.1 (Nat.le_of_ble_eq_true rfl) dX11_peals_72 (fun x23 G9 H locs hq hB => ?_)
              obtain ⟨rfl, i_x23, ex23⟩ := hq
              exact iv_iret X hr hlocks hB ⟨hM, (i_x23.wk (by decide)), (⟨fun q => absurd hask q, fun _ q => absurd hat q, fun _ _ => ⟨gp, gy, gm, hF, fun q => absurd q c9, fun _ q => absurd (exv.trans q) c21, fun _ _ => by rw [hk]; exact ex23⟩⟩)⟩ dX11_peals_75
            · skip
              have i23_x19 : iv_R 0 0 x19 := ((i_x19.cutLo (n := 0) (iv_eq_r c21 q_0).1).cutHi (n := 0) (iv_eq_r c21 q_0).2)
              refine lv_iconst (v := (-1)) hx hb dX11_peals_65 (by decide) ?_
              exact iv_iret X hr hlocks hB ⟨hM, (q_n1.wk (by decide)), (⟨fun _ => rfl, fun _ _ => rfl, fun _ _ => ⟨gp, gy, gm, hF, fun q => absurd q c9, fun _ _ => rfl, fun _ q => absurd (exv.symm.trans c21) q⟩⟩)⟩ dX11_peals_66
      · skip
        have i24_x_1 : iv_R 0 0 x_1 := ((i_x_1.cutLo (n := 0) (iv_eq_r c9 q_0).1).cutHi (n := 0) (iv_eq_r c9 q_0).2)
        refine lv_aload_n hx hb dX11_peals_26 rfl (lv_at hl 0 rfl) ?_
        refine iv_getr X ft_X11 hB a_h0 sh_11 10 (by decide) rfl k_fl_X11_65 dX11_peals_27 (fun b26 g_b26 r_b26 e_b26 a_b26 => ?_)
        refine lv_iload_n hx hb dX11_peals_30 rfl (lv_at hl 1 rfl) ?_
        refine iv_cVi X k_good k_mf_X4_countPeals k_im_X4_countPeals k_sel_X4_countPeals k_ml_X11_331 ft_X4 hB a_b26 sh_4 (As := [.int x_0]) (e_X4_countPeals l D tys base G b26 g_b26 r_b26 a_b26 x_0 i_x_0 A u cm cn (by rw [iv_same4 h_o e_b26 a_b26, hop]; exact Wc) hx1 hc8) ⟨rfl, rfl⟩ ⟨Nat.le_of_ble_eq_true rfl, Nat.le_of_ble_eq_true rfl⟩ ⟨Nat.le_of_ble_eq_true rfl, Nat.le_of_ble_eq_true rfl⟩ rfl rfl hl.1 (Nat.le_of_ble_eq_true rfl) dX11_peals_31 (fun x27 G9 H locs hq hB => ?_)
        obtain ⟨hm, i_x27, xc⟩ := hq
        obtain ⟨G28, hG9⟩ : ∃ g, g = G9 := ⟨_, rfl⟩
        rw [← hG9] at hm hB xc
        have hM := hM.stp hm (by decide)
        have a_h0 := hm.at a_h0 (by decide)
        obtain ⟨g9, gp, gy, rp, ry, h_4, h_gp, h_gy, gm, gs, hF, exv⟩ := xc
        exact iv_iret X hr hlocks hB ⟨hM, i_x27, (⟨fun q => absurd hask q, fun q => absurd c9 q, fun _ _ => ⟨gp, gy, gm, hF, fun _ => exv, fun q => absurd q.1 (by have w1 := congrArg Int32.toInt c9; have e0 : (0 : Int32).toInt = 0 := rfl; omega), fun q => absurd q.1 (by have w1 := congrArg Int32.toInt c9; have e0 : (0 : Int32).toInt = 0 := rfl; omega)⟩⟩)⟩ dX11_peals_34
    · skip
      have i28_x6 : iv_R 9 63 x6 := (i_x6.cutLo (n := 9) (iv_lt_l (iv_nle c7) q_8 (by decide)))
      refine lv_iconst (v := (-1)) hx hb dX11_peals_20 (by decide) ?_
      exact iv_iret X hr hlocks hB ⟨hM, (q_n1.wk (by decide)), (⟨fun _ => rfl, fun _ _ => rfl, fun q => absurd q.2.2 (by have w1 := i28_x6.1; omega)⟩)⟩ dX11_peals_21
