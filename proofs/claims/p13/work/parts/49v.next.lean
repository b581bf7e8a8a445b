theorem iv_leL {x : Int32} : ¬ iv_le x = 0 ↔ tk_L x.toInt := by
  unfold iv_le tk_L
  split
  · rename_i h
    exact ⟨fun _ => h, fun _ => by decide⟩
  · rename_i h
    exact ⟨fun q => absurd rfl q, fun q => absurd q h⟩
theorem iv_dgD {x : Int32} : ¬ iv_dg x = 0 ↔ tk_D x.toInt := by
  unfold iv_dg tk_D
  split
  · rename_i h
    exact ⟨fun _ => h, fun _ => by decide⟩
  · rename_i h
    exact ⟨fun q => absurd rfl q, fun q => absurd q h⟩
theorem tk_LD {c : Int} (h : tk_L c) (d : tk_D c) : False := by
  unfold tk_L at h
  unfold tk_D at d
  omega
theorem iv_tb {D : va_G} {tys : List (ClassId × FieldType)} {base : Nat} {G : iv_G} {H0 H : Heap} {locs : List Loc} {a : Nat} {g : Nat → Int32} {r : Nat → Nat} {gt : Nat → Int32} {rt : Nat → Nat} (hB : iv_B iv_sh D classes tys base G H0 H locs) (ha : G a = some (12, g, r)) (ht : G (r 8) = some (66, gt, rt)) {i : Nat} (hi : i < 400) : 0 ≤ (gt i).toInt := by
  obtain ⟨cA, h1, h2, h3⟩ := (hB.got ht).arr sh_66
  exact (h3 i hi).1
set_option maxHeartbeats 4000000 in
set_option maxRecDepth 100000 in
theorem f_X12_next0 (l : Launch) (D : va_G) (tys : List (ClassId × FieldType)) (base : Nat) (G : iv_G) (h0 : Nat) (g_h0 : Nat → Int32) (r_h0 : Nat → Nat) (a_h0 : G h0 = some (12, g_h0, r_h0)) (T : Nat → Int) (n : Nat) (K V P : Nat → Int) (hR : tk_R T n K V P) (rr0 i : Nat) (hr3 : rr0 < 3) (ME : me h0 T n rr0 i G) : Met l yX12_next0 (Cond.code yX12_next0 cX12_next0 3 none :: iv_W0) ({ frames := 8, cells := 0, slots := 0, locals := 168 }) (iv_Pc iv_sh D classes tys base G [.ref h0]) (iv_Qv iv_sh D classes tys base (fun G' => iv_Md [12] G G' ∧ iv_nx h0 g_h0 G' ∧ (ms h0 T n K V P rr0 i G'))) 0 0 (iv_A base) := by
  refine iv_head (by decide) (Nat.le_of_ble_eq_true rfl) ?_
  intro p e s m args below meth c ls X hr hlocks hname hB hl
  have X := X
  have hx := X.1.1
  have hb := X.1.2.1
  have hM : iv_Md [12] G G := iv_Md.rf
  have a_st := a_h0
  obtain ⟨g9, r9, gt, rt, ea, ht, hT, h15, h11, ha1, ha2, ha3⟩ := ME
  cases a_h0.symm.trans ea
  have k11 : g_h0 11 = g_h0 11 := rfl
  have sv : ∀ k : Int32, 0 ≤ k.toInt → (iv_sv (g_h0 15) gt k).toInt = T k.toInt.toNat := fun k hk => by rw [hT]; exact iv_svT h15 hk
  have inn : ∀ q : Nat, ¬ T q = -1 → q < n := fun q hq => tk_T.in (g := gt) (by rw [← hT]; exact hq)
  have q16 : 0 ≤ (g_h0 16).toInt := (iv_sl12 hB a_h0 16 (by decide) rfl).1
  have hl : lv_has ls 3 [(0, .ref h0)] := hl
  have L_0 : ∀ (n_0 : Nat) (G3 : iv_G) (hM : iv_Md [12] G G3) (H : Heap) (locs : List Loc) (hB : iv_B iv_sh D classes tys base G3 s.heap H locs) (g1 : Nat → Int32) (r2 : Nat → Nat) (a_h0 : G3 h0 = some (12, g1, r2)) (hn_0 : (401 - (g1 16).toInt).toNat < n_0) (gi_0 : (g_h0 16).toInt ≤ (g1 16).toInt ∧ g1 11 = g_h0 11 ∧ (g1 16).toInt ≤ (n : Int) ∧ ∀ x, (g_h0 16).toInt.toNat ≤ x → x < (g1 16).toInt.toNat → tk_B (T x)) (ls : Array Slot) (hl : lv_has ls 3 [(0, .ref h0)]), W p l e ({ frames := 8, cells := 0, slots := 0, locals := 168 } : Room) s m args below meth c H locs 0 0 (MQ below (iv_Qv iv_sh D classes tys base (fun G' => iv_Md [12] G G' ∧ iv_nx h0 g_h0 G' ∧ (ms h0 T n K V P rr0 i G'))) args s 0 0 (iv_A base)) (F0 m 0 ls []) := by
    intro n_0
    induction n_0 with
    | zero => intro G3 hM H locs hB g1 r2 a_h0 hn_0 gi_0 ls hl; exact absurd hn_0 (Nat.not_lt_zero _)
    | succ n_0 ih_0 =>
      intro G3 hM H locs hB g1 r2 a_h0 hn_0 gi_0 ls hl
      have k11 := gi_0.2.1
      refine lv_aload_n hx hb dX12_next0_0 rfl (lv_at hl 0 rfl) ?_
      refine lv_aload_n hx hb dX12_next0_1 rfl (lv_at hl 0 rfl) ?_
      refine iv_geti X ft_X12 hB a_h0 sh_12 16 (by decide) rfl k_fl_X12_85 dX12_next0_2 (fun x4 e_x4 i_x4 => ?_)
      refine iv_cVi X k_good k_mf_X12_see k_im_X12_see k_sel_X12_see k_ml_X12_161 ft_X12 hB a_h0 sh_12 (As := [.int x4]) (e_X12_see l D tys base G3 h0 g1 r2 a_h0 x4 i_x4 gt rt (iv_ht hM a_st a_h0 ht)) ⟨rfl, rfl⟩ ⟨Nat.le_of_ble_eq_true rfl, Nat.le_of_ble_eq_true rfl⟩ ⟨Nat.le_of_ble_eq_true rfl, Nat.le_of_ble_eq_true rfl⟩ rfl rfl hl.1 (Nat.le_of_ble_eq_true rfl) dX12_next0_5 (fun x5 G9 H locs hq hB => ?_)
      obtain ⟨rfl, i_x5, np6, xp7⟩ := hq
      have s_x5 : x5 = iv_sv (g_h0 15) gt x4 := by rw [xp7, iv_h15 hM a_st a_h0]
      refine lv_bipush (v := 32) hx hb dX12_next0_8 (by decide) ?_
      refine lv_icmp_eq (tgt := 26) hx hb dX12_next0_10 (by decide) (fun c8 => ?_) (fun c8 => ?_)
      · skip
        have i8_x5 : iv_R 32 32 x5 := ((i_x5.cutLo (n := 32) (iv_eq_r c8 q_32).1).cutHi (n := 32) (iv_eq_r c8 q_32).2)
        have i9_x4 : iv_R 0 399 x4 := (i_x4.cutHi (n := 399) (np6 (Int.le_trans (by decide) i8_x5.1)).2)
        refine lv_aload_n hx hb dX12_next0_26 rfl (lv_at hl 0 rfl) ?_
        refine lv_dup hx hb dX12_next0_27 rfl ?_
        refine iv_geti0 X ft_X12 hB a_h0 sh_12 16 (by decide) rfl k_fl_X12_85 dX12_next0_28 e_x4 ?_
        refine lv_iconst (v := 1) hx hb dX12_next0_31 (by decide) ?_
        refine iv_iadd hx hb i9_x4 q_1 (lo := 1) (hi := 400) (by decide) dX12_next0_32 (fun x11 e_x11 i_x11 => ?_)
        have e_x11 : x11.toInt = x4.toInt + 1 := e_x11
        refine iv_puti X ft_X12 hB a_h0 sh_12 16 (by decide) rfl rfl k_fl_X12_85 rfl (i_x11.wk (by decide)) rfl rfl dX12_next0_33 (fun H locs hB => ?_)
        have hm := iv_Md.put (x := x11) a_h0 (j := 16) (by decide) (by decide)
        have h9 := iv_up_eq (G := G3) (a := h0) (k := (12, upd g1 16 x11, r2))
        generalize iv_up G3 h0 _ = G12 at hB hm h9
        have hM := hM.stp hm (by decide)
        generalize hgn_g13 : upd g1 _ _ = g13 at h9
        have k11 : g13 11 = g_h0 11 := by rw [← hgn_g13]; exact k11
        have a_h0 := h9
        have e9_g13 : x11 = g13 16 := by rw [← hgn_g13]; simp [upd]
        refine lv_goto (tgt := 0) hx hb dX12_next0_36 (by decide) ?_
        have hTx : x5.toInt = T x4.toInt.toNat := by rw [s_x5]; exact sv x4 i_x4.1
        have hvx : x5.toInt = 32 := by rw [c8]; rfl
        have hbl : tk_B (T x4.toInt.toNat) := by rw [← hTx, hvx]; first | exact Or.inl rfl | exact Or.inr rfl
        have hin : x4.toInt.toNat < n := inn _ (by rw [← hTx, hvx]; decide)
        exact ih_0 G12 hM _ _ hB g13 r2 a_h0 (by have w1 := congrArg Int32.toInt e9_g13; have w2 := congrArg Int32.toInt e_x4; have w3 := i9_x4.2; have w4 : x11.toInt = x4.toInt + 1 := e_x11; omega) ⟨(by have w1 := congrArg Int32.toInt e9_g13; have w2 := congrArg Int32.toInt e_x4; have w3 : x11.toInt = x4.toInt + 1 := e_x11; have w4 := gi_0.1; omega), k11, by have w0 := hin; have w1 := congrArg Int32.toInt e9_g13; have w3 : x11.toInt = x4.toInt + 1 := e_x11; have w4 := i_x4.1; omega, fun q h1 h2 => by rcases Nat.lt_or_ge q (g1 16).toInt.toNat with h | h; exact gi_0.2.2.2 q h1 h; rw [show q = x4.toInt.toNat from by (have w1 := congrArg Int32.toInt e9_g13; have w2 := congrArg Int32.toInt e_x4; have w3 : x11.toInt = x4.toInt + 1 := e_x11; have w4 := i_x4.1; omega)]; exact hbl⟩ _ (lv_sub hl [0] rfl)
      · skip
        refine lv_aload_n hx hb dX12_next0_13 rfl (lv_at hl 0 rfl) ?_
        refine lv_aload_n hx hb dX12_next0_14 rfl (lv_at hl 0 rfl) ?_
        refine iv_geti0 X ft_X12 hB a_h0 sh_12 16 (by decide) rfl k_fl_X12_85 dX12_next0_15 e_x4 ?_
        refine iv_cVi X k_good k_mf_X12_see k_im_X12_see k_sel_X12_see k_ml_X12_161 ft_X12 hB a_h0 sh_12 (As := [.int x4]) (e_X12_see l D tys base G3 h0 g1 r2 a_h0 x4 i_x4 gt rt (iv_ht hM a_st a_h0 ht)) ⟨rfl, rfl⟩ ⟨Nat.le_of_ble_eq_true rfl, Nat.le_of_ble_eq_true rfl⟩ ⟨Nat.le_of_ble_eq_true rfl, Nat.le_of_ble_eq_true rfl⟩ rfl rfl hl.1 (Nat.le_of_ble_eq_true rfl) dX12_next0_18 (fun x14 G9 H locs hq hB => ?_)
        obtain ⟨rfl, i_x14, np15, xp16⟩ := hq
        have s_x14 : x14 = iv_sv (g_h0 15) gt x4 := by rw [xp16, iv_h15 hM a_st a_h0]
        refine lv_bipush (v := 10) hx hb dX12_next0_21 (by decide) ?_
        refine lv_icmp_ne (tgt := 39) hx hb dX12_next0_23 (by decide) (fun c17 => ?_) (fun c17 => ?_)
        · skip
          have e_a0 := e_x4
          have p4 := congrArg Int32.toInt e_x4
          have p0 := i_x4.1
          have hTx5 : x5.toInt = T x4.toInt.toNat := by rw [s_x5]; exact sv x4 i_x4.1
          have hTx14 : x14.toInt = T x4.toInt.toNat := by rw [s_x14]; exact sv x4 i_x4.1
          have hnb : ¬ tk_B (T x4.toInt.toNat) := fun q => by rcases q with q | q; exact c8 (Int32.toInt_inj.mp (by rw [hTx5, q]; rfl)); exact c17 (Int32.toInt_inj.mp (by rw [hTx14, q]; rfl))
          have hP : tk_P T n i x4.toInt.toNat := by rw [← ha3]; exact tk_next (by rcases ha2 with q | q; exact Or.inl (by omega); exact Or.inr q) (by have w := gi_0.1; omega) (by have w := gi_0.2.2.1; omega) (fun q h1 h2 => gi_0.2.2.2 q h1 (by omega)) (Or.inr hnb)
          refine lv_aload_n hx hb dX12_next0_39 rfl (lv_at hl 0 rfl) ?_
          refine lv_aload_n hx hb dX12_next0_40 rfl (lv_at hl 0 rfl) ?_
          refine iv_geti0 X ft_X12 hB a_h0 sh_12 16 (by decide) rfl k_fl_X12_85 dX12_next0_41 e_x4 ?_
          refine iv_puti X ft_X12 hB a_h0 sh_12 18 (by decide) rfl rfl k_fl_X12_88 rfl i_x4 rfl rfl dX12_next0_44 (fun H locs hB => ?_)
          have hm := iv_Md.put (x := x4) a_h0 (j := 18) (by decide) (by decide)
          have h9 := iv_up_eq (G := G3) (a := h0) (k := (12, upd g1 18 x4, r2))
          generalize iv_up G3 h0 _ = G18 at hB hm h9
          have hM := hM.stp hm (by decide)
          generalize hgn_g19 : upd g1 _ _ = g19 at h9
          have k11 : g19 11 = g_h0 11 := by rw [← hgn_g19]; exact k11
          have a_h0 := h9
          have e20 : x4 = g19 16 := by rw [← hgn_g19]; exact e_x4
          have e9_g19 : x4 = g19 18 := by rw [← hgn_g19]; simp [upd]
          refine lv_aload_n hx hb dX12_next0_47 rfl (lv_at hl 0 rfl) ?_
          refine lv_aload_n hx hb dX12_next0_48 rfl (lv_at hl 0 rfl) ?_
          refine iv_geti0 X ft_X12 hB a_h0 sh_12 16 (by decide) rfl k_fl_X12_85 dX12_next0_49 e20 ?_
          refine iv_cVi X k_good k_mf_X12_see k_im_X12_see k_sel_X12_see k_ml_X12_161 ft_X12 hB a_h0 sh_12 (As := [.int x4]) (e_X12_see l D tys base G18 h0 g19 r2 a_h0 x4 i_x4 gt rt (iv_ht hM a_st a_h0 ht)) ⟨rfl, rfl⟩ ⟨Nat.le_of_ble_eq_true rfl, Nat.le_of_ble_eq_true rfl⟩ ⟨Nat.le_of_ble_eq_true rfl, Nat.le_of_ble_eq_true rfl⟩ rfl rfl hl.1 (Nat.le_of_ble_eq_true rfl) dX12_next0_52 (fun x21 G9 H locs hq hB => ?_)
          obtain ⟨rfl, i_x21, np22, xp23⟩ := hq
          have s_x21 : x21 = iv_sv (g_h0 15) gt x4 := by rw [xp23, iv_h15 hM a_st a_h0]
          have hT21 : x21.toInt = T x4.toInt.toNat := by rw [s_x21]; exact sv x4 i_x4.1
          refine lv_istore_n (lv' := [(1, .int x21), (0, .ref h0)]) hx hb dX12_next0_55 rfl hl (by decide) rfl (fun ls hl => ?_)
          refine lv_iload_n hx hb dX12_next0_56 rfl (lv_at hl 0 rfl) ?_
          refine lv_iconst (v := (-1)) hx hb dX12_next0_57 (by decide) ?_
          refine lv_icmp_ne (tgt := 69) hx hb dX12_next0_58 (by decide) (fun c24 => ?_) (fun c24 => ?_)
          · skip
            have i24_x21 : iv_R 0 255 x21 := iv_ne_lo c24 i_x21 q_n1 (by decide)
            have hpn : x4.toInt.toNat < n := inn _ (by rw [← hT21]; have w := i24_x21.1; omega)
            have i25_x4 : iv_R 0 399 x4 := (i_x4.cutHi (n := 399) (np22 (Int.le_trans (by decide) i24_x21.1)).2)
            refine lv_iload_n hx hb dX12_next0_69 rfl (lv_at hl 0 rfl) ?_
            refine iv_cSi X k_good k_mf_X12_isLetter k_st_X12_isLetter k_ml_X12_168 hB (As := [.int x21]) (e_X12_isLetter l D tys base G18 x21 (i24_x21.wk (by decide))) ⟨rfl, rfl⟩ ⟨Nat.le_of_ble_eq_true rfl, Nat.le_of_ble_eq_true rfl⟩ ⟨Nat.le_of_ble_eq_true rfl, Nat.le_of_ble_eq_true rfl⟩ rfl rfl hl.1 (Nat.le_of_ble_eq_true rfl) dX12_next0_70 (fun x27 G9 H locs hq hB => ?_)
            obtain ⟨rfl, i_x27, hp28, xp29⟩ := hq
            have d_x27 := xp29
            have hl27 : ¬ x27 = 0 ↔ tk_L (T x4.toInt.toNat) := by rw [d_x27, ← hT21]; exact iv_leL
            refine lv_if_eq (tgt := 114) hx hb dX12_next0_73 (by decide) (fun c30 => ?_) (fun c30 => ?_)
            · skip
              have i30_x27 : iv_R 0 0 x27 := (i_x27.cutHi (n := 0) (iv_eq_r c30 q_0).2)
              refine lv_iload_n hx hb dX12_next0_114 rfl (lv_at hl 0 rfl) ?_
              refine iv_cSi X k_good k_mf_X12_isDigit k_st_X12_isDigit k_ml_X12_174 hB (As := [.int x21]) (e_X12_isDigit l D tys base G18 x21 (i24_x21.wk (by decide))) ⟨rfl, rfl⟩ ⟨Nat.le_of_ble_eq_true rfl, Nat.le_of_ble_eq_true rfl⟩ ⟨Nat.le_of_ble_eq_true rfl, Nat.le_of_ble_eq_true rfl⟩ rfl rfl hl.1 (Nat.le_of_ble_eq_true rfl) dX12_next0_115 (fun x32 G9 H locs hq hB => ?_)
              obtain ⟨rfl, i_x32, hp33, xp34⟩ := hq
              have d_x32 := xp34
              have hd32 : ¬ x32 = 0 ↔ tk_D (T x4.toInt.toNat) := by rw [d_x32, ← hT21]; exact iv_dgD
              refine lv_if_eq (tgt := 214) hx hb dX12_next0_118 (by decide) (fun c35 => ?_) (fun c35 => ?_)
              · skip
                have i35_x32 : iv_R 0 0 x32 := (i_x32.cutHi (n := 0) (iv_eq_r c35 q_0).2)
                have hnl : ¬ tk_L (T x4.toInt.toNat) := fun q => hl27.mpr q c30
                have hnd : ¬ tk_D (T x4.toInt.toNat) := fun q => hd32.mpr q c35
                have hE21 : tk_E T n x4.toInt.toNat (x4.toInt.toNat + 1) := tk_E.sgn (by omega) hnl hnd
                refine lv_aload_n hx hb dX12_next0_214 rfl (lv_at hl 1 rfl) ?_
                refine lv_dup hx hb dX12_next0_215 rfl ?_
                refine iv_geti0 X ft_X12 hB a_h0 sh_12 16 (by decide) rfl k_fl_X12_85 dX12_next0_216 e20 ?_
                refine lv_iconst (v := 1) hx hb dX12_next0_219 (by decide) ?_
                refine iv_iadd hx hb i25_x4 q_1 (lo := 1) (hi := 400) (by decide) dX12_next0_220 (fun x37 e_x37 i_x37 => ?_)
                have e_x37 : x37.toInt = x4.toInt + 1 := e_x37
                refine iv_puti X ft_X12 hB a_h0 sh_12 16 (by decide) rfl rfl k_fl_X12_85 rfl (i_x37.wk (by decide)) rfl rfl dX12_next0_221 (fun H locs hB => ?_)
                have hm := iv_Md.put (x := x37) a_h0 (j := 16) (by decide) (by decide)
                have h9 := iv_up_eq (G := G18) (a := h0) (k := (12, upd g19 16 x37, r2))
                generalize iv_up G18 h0 _ = G38 at hB hm h9
                have hM := hM.stp hm (by decide)
                generalize hgn_g39 : upd g19 _ _ = g39 at h9
                have k11 : g39 11 = g_h0 11 := by rw [← hgn_g39]; exact k11
                have a_h0 := h9
                have e40 : x4 = g39 18 := by rw [← hgn_g39]; exact e9_g19
                have e9_g39 : x37 = g39 16 := by rw [← hgn_g39]; simp [upd]
                refine lv_iload_n hx hb dX12_next0_224 rfl (lv_at hl 0 rfl) ?_
                refine lv_bipush (v := 59) hx hb dX12_next0_225 (by decide) ?_
                refine lv_icmp_eq (tgt := 284) hx hb dX12_next0_227 (by decide) (fun c41 => ?_) (fun c41 => ?_)
                · skip
                  have i41_x21 : iv_R 59 59 x21 := ((i24_x21.cutLo (n := 59) (iv_eq_r c41 q_59).1).cutHi (n := 59) (iv_eq_r c41 q_59).2)
                  refine lv_iconst (v := 1) hx hb dX12_next0_284 (by decide) ?_
                  refine lv_goto (tgt := 289) hx hb dX12_next0_285 (by decide) ?_
                  refine lv_istore_n (lv' := [(2, .int 1), (1, .int x21), (0, .ref h0)]) hx hb dX12_next0_289 rfl hl (by decide) rfl (fun ls hl => ?_)
                  refine lv_aload_n hx hb dX12_next0_290 rfl (lv_at hl 2 rfl) ?_
                  refine lv_iload_n hx hb dX12_next0_291 rfl (lv_at hl 0 rfl) ?_
                  refine lv_if_eq (tgt := 302) hx hb dX12_next0_292 (by decide) (fun c43 => ?_) (fun c43 => ?_)
                  · skip
                    exact (q_1.cutHi (n := 0) (iv_eq_r c43 q_0).2).no (by decide)
                  · skip
                    refine lv_bipush (v := 100) hx hb dX12_next0_295 (by decide) ?_
                    refine lv_iload_n hx hb dX12_next0_297 rfl (lv_at hl 1 rfl) ?_
                    refine iv_iadd hx hb q_100 i41_x21 (lo := 159) (hi := 159) (by decide) dX12_next0_298 (fun x44 e_x44 i_x44 => ?_)
                    have e_x44 : x44.toInt = 100 + x21.toInt := e_x44
                    refine lv_goto (tgt := 303) hx hb dX12_next0_299 (by decide) ?_
                    refine iv_puti X ft_X12 hB a_h0 sh_12 17 (by decide) rfl rfl k_fl_X12_165 rfl (i_x44.wk (by decide)) rfl rfl dX12_next0_303 (fun H locs hB => ?_)
                    have hm := iv_Md.put (x := x44) a_h0 (j := 17) (by decide) (by decide)
                    have h9 := iv_up_eq (G := G38) (a := h0) (k := (12, upd g39 17 x44, r2))
                    generalize iv_up G38 h0 _ = G45 at hB hm h9
                    have hM := hM.stp hm (by decide)
                    generalize hgn_g46 : upd g39 _ _ = g46 at h9
                    have k11 : g46 11 = g_h0 11 := by rw [← hgn_g46]; exact k11
                    have a_h0 := h9
                    have e47 : x4 = g46 18 := by rw [← hgn_g46]; exact e40
                    have e48 : x37 = g46 16 := by rw [← hgn_g46]; exact e9_g39
                    have e9_g46 : x44 = g46 17 := by rw [← hgn_g46]; simp [upd]
                    exact iv_vret X hr hlocks hB ⟨hM, fun g9 r9 h9 => by have h8 := a_h0.symm.trans h9; cases h8; have z0 : (0 : Int32).toInt = 0 := rfl; have w16 := congrArg Int32.toInt e48; have w17 := congrArg Int32.toInt e9_g46; have w18 := congrArg Int32.toInt e47; have wa := congrArg Int32.toInt e_a0; unfold iv_J; exact ⟨by omega, by omega, fun hq => by omega⟩, ms.mk hR a_h0 (iv_ht hM a_st a_h0 ht) hT (by rw [iv_h15 hM a_st a_h0]; exact h15) (by rw [k11]; exact h11) hP hpn hE21 (by have w := congrArg Int32.toInt e47; omega) (by have w := congrArg Int32.toInt e48; omega) (fun k v hk => by have w := tk_M.sign (r := rr0) hnl hnd hk; exact ⟨by rw [← e9_g46, w.1 (by rw [← hT21]; unfold tk_sg; have a1 := i41_x21.1; have a2 := i41_x21.2; omega), ← hT21]; have w3 : x44.toInt = 100 + x21.toInt := e_x44; omega, fun q => absurd q w.2.2⟩)⟩ dX12_next0_306
                · skip
                  refine lv_iload_n hx hb dX12_next0_230 rfl (lv_at hl 0 rfl) ?_
                  refine lv_bipush (v := 43) hx hb dX12_next0_231 (by decide) ?_
                  refine lv_icmp_eq (tgt := 284) hx hb dX12_next0_233 (by decide) (fun c49 => ?_) (fun c49 => ?_)
                  · skip
                    have i49_x21 : iv_R 43 43 x21 := ((i24_x21.cutLo (n := 43) (iv_eq_r c49 q_43).1).cutHi (n := 43) (iv_eq_r c49 q_43).2)
                    refine lv_iconst (v := 1) hx hb dX12_next0_284 (by decide) ?_
                    refine lv_goto (tgt := 289) hx hb dX12_next0_285 (by decide) ?_
                    refine lv_istore_n (lv' := [(2, .int 1), (1, .int x21), (0, .ref h0)]) hx hb dX12_next0_289 rfl hl (by decide) rfl (fun ls hl => ?_)
                    refine lv_aload_n hx hb dX12_next0_290 rfl (lv_at hl 2 rfl) ?_
                    refine lv_iload_n hx hb dX12_next0_291 rfl (lv_at hl 0 rfl) ?_
                    refine lv_if_eq (tgt := 302) hx hb dX12_next0_292 (by decide) (fun c51 => ?_) (fun c51 => ?_)
                    · skip
                      exact (q_1.cutHi (n := 0) (iv_eq_r c51 q_0).2).no (by decide)
                    · skip
                      refine lv_bipush (v := 100) hx hb dX12_next0_295 (by decide) ?_
                      refine lv_iload_n hx hb dX12_next0_297 rfl (lv_at hl 1 rfl) ?_
                      refine iv_iadd hx hb q_100 i49_x21 (lo := 143) (hi := 143) (by decide) dX12_next0_298 (fun x52 e_x52 i_x52 => ?_)
                      have e_x52 : x52.toInt = 100 + x21.toInt := e_x52
                      refine lv_goto (tgt := 303) hx hb dX12_next0_299 (by decide) ?_
                      refine iv_puti X ft_X12 hB a_h0 sh_12 17 (by decide) rfl rfl k_fl_X12_165 rfl (i_x52.wk (by decide)) rfl rfl dX12_next0_303 (fun H locs hB => ?_)
                      have hm := iv_Md.put (x := x52) a_h0 (j := 17) (by decide) (by decide)
                      have h9 := iv_up_eq (G := G38) (a := h0) (k := (12, upd g39 17 x52, r2))
                      generalize iv_up G38 h0 _ = G53 at hB hm h9
                      have hM := hM.stp hm (by decide)
                      generalize hgn_g54 : upd g39 _ _ = g54 at h9
                      have k11 : g54 11 = g_h0 11 := by rw [← hgn_g54]; exact k11
                      have a_h0 := h9
                      have e55 : x4 = g54 18 := by rw [← hgn_g54]; exact e40
                      have e56 : x37 = g54 16 := by rw [← hgn_g54]; exact e9_g39
                      have e9_g54 : x52 = g54 17 := by rw [← hgn_g54]; simp [upd]
                      exact iv_vret X hr hlocks hB ⟨hM, fun g9 r9 h9 => by have h8 := a_h0.symm.trans h9; cases h8; have z0 : (0 : Int32).toInt = 0 := rfl; have w16 := congrArg Int32.toInt e56; have w17 := congrArg Int32.toInt e9_g54; have w18 := congrArg Int32.toInt e55; have wa := congrArg Int32.toInt e_a0; unfold iv_J; exact ⟨by omega, by omega, fun hq => by omega⟩, ms.mk hR a_h0 (iv_ht hM a_st a_h0 ht) hT (by rw [iv_h15 hM a_st a_h0]; exact h15) (by rw [k11]; exact h11) hP hpn hE21 (by have w := congrArg Int32.toInt e55; omega) (by have w := congrArg Int32.toInt e56; omega) (fun k v hk => by have w := tk_M.sign (r := rr0) hnl hnd hk; exact ⟨by rw [← e9_g54, w.1 (by rw [← hT21]; unfold tk_sg; have a1 := i49_x21.1; have a2 := i49_x21.2; omega), ← hT21]; have w3 : x52.toInt = 100 + x21.toInt := e_x52; omega, fun q => absurd q w.2.2⟩)⟩ dX12_next0_306
                  · skip
                    refine lv_iload_n hx hb dX12_next0_236 rfl (lv_at hl 0 rfl) ?_
                    refine lv_bipush (v := 45) hx hb dX12_next0_237 (by decide) ?_
                    refine lv_icmp_eq (tgt := 284) hx hb dX12_next0_239 (by decide) (fun c57 => ?_) (fun c57 => ?_)
                    · skip
                      have i57_x21 : iv_R 45 45 x21 := ((i24_x21.cutLo (n := 45) (iv_eq_r c57 q_45).1).cutHi (n := 45) (iv_eq_r c57 q_45).2)
                      refine lv_iconst (v := 1) hx hb dX12_next0_284 (by decide) ?_
                      refine lv_goto (tgt := 289) hx hb dX12_next0_285 (by decide) ?_
                      refine lv_istore_n (lv' := [(2, .int 1), (1, .int x21), (0, .ref h0)]) hx hb dX12_next0_289 rfl hl (by decide) rfl (fun ls hl => ?_)
                      refine lv_aload_n hx hb dX12_next0_290 rfl (lv_at hl 2 rfl) ?_
                      refine lv_iload_n hx hb dX12_next0_291 rfl (lv_at hl 0 rfl) ?_
                      refine lv_if_eq (tgt := 302) hx hb dX12_next0_292 (by decide) (fun c59 => ?_) (fun c59 => ?_)
                      · skip
                        exact (q_1.cutHi (n := 0) (iv_eq_r c59 q_0).2).no (by decide)
                      · skip
                        refine lv_bipush (v := 100) hx hb dX12_next0_295 (by decide) ?_
                        refine lv_iload_n hx hb dX12_next0_297 rfl (lv_at hl 1 rfl) ?_
                        refine iv_iadd hx hb q_100 i57_x21 (lo := 145) (hi := 145) (by decide) dX12_next0_298 (fun x60 e_x60 i_x60 => ?_)
                        have e_x60 : x60.toInt = 100 + x21.toInt := e_x60
                        refine lv_goto (tgt := 303) hx hb dX12_next0_299 (by decide) ?_
                        refine iv_puti X ft_X12 hB a_h0 sh_12 17 (by decide) rfl rfl k_fl_X12_165 rfl (i_x60.wk (by decide)) rfl rfl dX12_next0_303 (fun H locs hB => ?_)
                        have hm := iv_Md.put (x := x60) a_h0 (j := 17) (by decide) (by decide)
                        have h9 := iv_up_eq (G := G38) (a := h0) (k := (12, upd g39 17 x60, r2))
                        generalize iv_up G38 h0 _ = G61 at hB hm h9
                        have hM := hM.stp hm (by decide)
                        generalize hgn_g62 : upd g39 _ _ = g62 at h9
                        have k11 : g62 11 = g_h0 11 := by rw [← hgn_g62]; exact k11
                        have a_h0 := h9
                        have e63 : x4 = g62 18 := by rw [← hgn_g62]; exact e40
                        have e64 : x37 = g62 16 := by rw [← hgn_g62]; exact e9_g39
                        have e9_g62 : x60 = g62 17 := by rw [← hgn_g62]; simp [upd]
                        exact iv_vret X hr hlocks hB ⟨hM, fun g9 r9 h9 => by have h8 := a_h0.symm.trans h9; cases h8; have z0 : (0 : Int32).toInt = 0 := rfl; have w16 := congrArg Int32.toInt e64; have w17 := congrArg Int32.toInt e9_g62; have w18 := congrArg Int32.toInt e63; have wa := congrArg Int32.toInt e_a0; unfold iv_J; exact ⟨by omega, by omega, fun hq => by omega⟩, ms.mk hR a_h0 (iv_ht hM a_st a_h0 ht) hT (by rw [iv_h15 hM a_st a_h0]; exact h15) (by rw [k11]; exact h11) hP hpn hE21 (by have w := congrArg Int32.toInt e63; omega) (by have w := congrArg Int32.toInt e64; omega) (fun k v hk => by have w := tk_M.sign (r := rr0) hnl hnd hk; exact ⟨by rw [← e9_g62, w.1 (by rw [← hT21]; unfold tk_sg; have a1 := i57_x21.1; have a2 := i57_x21.2; omega), ← hT21]; have w3 : x60.toInt = 100 + x21.toInt := e_x60; omega, fun q => absurd q w.2.2⟩)⟩ dX12_next0_306
                    · skip
                      refine lv_iload_n hx hb dX12_next0_242 rfl (lv_at hl 0 rfl) ?_
                      refine lv_bipush (v := 42) hx hb dX12_next0_243 (by decide) ?_
                      refine lv_icmp_eq (tgt := 284) hx hb dX12_next0_245 (by decide) (fun c65 => ?_) (fun c65 => ?_)
                      · skip
                        have i65_x21 : iv_R 42 42 x21 := ((i24_x21.cutLo (n := 42) (iv_eq_r c65 q_42).1).cutHi (n := 42) (iv_eq_r c65 q_42).2)
                        refine lv_iconst (v := 1) hx hb dX12_next0_284 (by decide) ?_
                        refine lv_goto (tgt := 289) hx hb dX12_next0_285 (by decide) ?_
                        refine lv_istore_n (lv' := [(2, .int 1), (1, .int x21), (0, .ref h0)]) hx hb dX12_next0_289 rfl hl (by decide) rfl (fun ls hl => ?_)
                        refine lv_aload_n hx hb dX12_next0_290 rfl (lv_at hl 2 rfl) ?_
                        refine lv_iload_n hx hb dX12_next0_291 rfl (lv_at hl 0 rfl) ?_
                        refine lv_if_eq (tgt := 302) hx hb dX12_next0_292 (by decide) (fun c67 => ?_) (fun c67 => ?_)
                        · skip
                          exact (q_1.cutHi (n := 0) (iv_eq_r c67 q_0).2).no (by decide)
                        · skip
                          refine lv_bipush (v := 100) hx hb dX12_next0_295 (by decide) ?_
                          refine lv_iload_n hx hb dX12_next0_297 rfl (lv_at hl 1 rfl) ?_
                          refine iv_iadd hx hb q_100 i65_x21 (lo := 142) (hi := 142) (by decide) dX12_next0_298 (fun x68 e_x68 i_x68 => ?_)
                          have e_x68 : x68.toInt = 100 + x21.toInt := e_x68
                          refine lv_goto (tgt := 303) hx hb dX12_next0_299 (by decide) ?_
                          refine iv_puti X ft_X12 hB a_h0 sh_12 17 (by decide) rfl rfl k_fl_X12_165 rfl (i_x68.wk (by decide)) rfl rfl dX12_next0_303 (fun H locs hB => ?_)
                          have hm := iv_Md.put (x := x68) a_h0 (j := 17) (by decide) (by decide)
                          have h9 := iv_up_eq (G := G38) (a := h0) (k := (12, upd g39 17 x68, r2))
                          generalize iv_up G38 h0 _ = G69 at hB hm h9
                          have hM := hM.stp hm (by decide)
                          generalize hgn_g70 : upd g39 _ _ = g70 at h9
                          have k11 : g70 11 = g_h0 11 := by rw [← hgn_g70]; exact k11
                          have a_h0 := h9
                          have e71 : x4 = g70 18 := by rw [← hgn_g70]; exact e40
                          have e72 : x37 = g70 16 := by rw [← hgn_g70]; exact e9_g39
                          have e9_g70 : x68 = g70 17 := by rw [← hgn_g70]; simp [upd]
                          exact iv_vret X hr hlocks hB ⟨hM, fun g9 r9 h9 => by have h8 := a_h0.symm.trans h9; cases h8; have z0 : (0 : Int32).toInt = 0 := rfl; have w16 := congrArg Int32.toInt e72; have w17 := congrArg Int32.toInt e9_g70; have w18 := congrArg Int32.toInt e71; have wa := congrArg Int32.toInt e_a0; unfold iv_J; exact ⟨by omega, by omega, fun hq => by omega⟩, ms.mk hR a_h0 (iv_ht hM a_st a_h0 ht) hT (by rw [iv_h15 hM a_st a_h0]; exact h15) (by rw [k11]; exact h11) hP hpn hE21 (by have w := congrArg Int32.toInt e71; omega) (by have w := congrArg Int32.toInt e72; omega) (fun k v hk => by have w := tk_M.sign (r := rr0) hnl hnd hk; exact ⟨by rw [← e9_g70, w.1 (by rw [← hT21]; unfold tk_sg; have a1 := i65_x21.1; have a2 := i65_x21.2; omega), ← hT21]; have w3 : x68.toInt = 100 + x21.toInt := e_x68; omega, fun q => absurd q w.2.2⟩)⟩ dX12_next0_306
                      · skip
                        refine lv_iload_n hx hb dX12_next0_248 rfl (lv_at hl 0 rfl) ?_
                        refine lv_bipush (v := 47) hx hb dX12_next0_249 (by decide) ?_
                        refine lv_icmp_eq (tgt := 284) hx hb dX12_next0_251 (by decide) (fun c73 => ?_) (fun c73 => ?_)
                        · skip
                          have i73_x21 : iv_R 47 47 x21 := ((i24_x21.cutLo (n := 47) (iv_eq_r c73 q_47).1).cutHi (n := 47) (iv_eq_r c73 q_47).2)
                          refine lv_iconst (v := 1) hx hb dX12_next0_284 (by decide) ?_
                          refine lv_goto (tgt := 289) hx hb dX12_next0_285 (by decide) ?_
                          refine lv_istore_n (lv' := [(2, .int 1), (1, .int x21), (0, .ref h0)]) hx hb dX12_next0_289 rfl hl (by decide) rfl (fun ls hl => ?_)
                          refine lv_aload_n hx hb dX12_next0_290 rfl (lv_at hl 2 rfl) ?_
                          refine lv_iload_n hx hb dX12_next0_291 rfl (lv_at hl 0 rfl) ?_
                          refine lv_if_eq (tgt := 302) hx hb dX12_next0_292 (by decide) (fun c75 => ?_) (fun c75 => ?_)
                          · skip
                            exact (q_1.cutHi (n := 0) (iv_eq_r c75 q_0).2).no (by decide)
                          · skip
                            refine lv_bipush (v := 100) hx hb dX12_next0_295 (by decide) ?_
                            refine lv_iload_n hx hb dX12_next0_297 rfl (lv_at hl 1 rfl) ?_
                            refine iv_iadd hx hb q_100 i73_x21 (lo := 147) (hi := 147) (by decide) dX12_next0_298 (fun x76 e_x76 i_x76 => ?_)
                            have e_x76 : x76.toInt = 100 + x21.toInt := e_x76
                            refine lv_goto (tgt := 303) hx hb dX12_next0_299 (by decide) ?_
                            refine iv_puti X ft_X12 hB a_h0 sh_12 17 (by decide) rfl rfl k_fl_X12_165 rfl (i_x76.wk (by decide)) rfl rfl dX12_next0_303 (fun H locs hB => ?_)
                            have hm := iv_Md.put (x := x76) a_h0 (j := 17) (by decide) (by decide)
                            have h9 := iv_up_eq (G := G38) (a := h0) (k := (12, upd g39 17 x76, r2))
                            generalize iv_up G38 h0 _ = G77 at hB hm h9
                            have hM := hM.stp hm (by decide)
                            generalize hgn_g78 : upd g39 _ _ = g78 at h9
                            have k11 : g78 11 = g_h0 11 := by rw [← hgn_g78]; exact k11
                            have a_h0 := h9
                            have e79 : x4 = g78 18 := by rw [← hgn_g78]; exact e40
                            have e80 : x37 = g78 16 := by rw [← hgn_g78]; exact e9_g39
                            have e9_g78 : x76 = g78 17 := by rw [← hgn_g78]; simp [upd]
                            exact iv_vret X hr hlocks hB ⟨hM, fun g9 r9 h9 => by have h8 := a_h0.symm.trans h9; cases h8; have z0 : (0 : Int32).toInt = 0 := rfl; have w16 := congrArg Int32.toInt e80; have w17 := congrArg Int32.toInt e9_g78; have w18 := congrArg Int32.toInt e79; have wa := congrArg Int32.toInt e_a0; unfold iv_J; exact ⟨by omega, by omega, fun hq => by omega⟩, ms.mk hR a_h0 (iv_ht hM a_st a_h0 ht) hT (by rw [iv_h15 hM a_st a_h0]; exact h15) (by rw [k11]; exact h11) hP hpn hE21 (by have w := congrArg Int32.toInt e79; omega) (by have w := congrArg Int32.toInt e80; omega) (fun k v hk => by have w := tk_M.sign (r := rr0) hnl hnd hk; exact ⟨by rw [← e9_g78, w.1 (by rw [← hT21]; unfold tk_sg; have a1 := i73_x21.1; have a2 := i73_x21.2; omega), ← hT21]; have w3 : x76.toInt = 100 + x21.toInt := e_x76; omega, fun q => absurd q w.2.2⟩)⟩ dX12_next0_306
                        · skip
                          refine lv_iload_n hx hb dX12_next0_254 rfl (lv_at hl 0 rfl) ?_
                          refine lv_bipush (v := 40) hx hb dX12_next0_255 (by decide) ?_
                          refine lv_icmp_eq (tgt := 284) hx hb dX12_next0_257 (by decide) (fun c81 => ?_) (fun c81 => ?_)
                          · skip
                            have i81_x21 : iv_R 40 40 x21 := ((i24_x21.cutLo (n := 40) (iv_eq_r c81 q_40).1).cutHi (n := 40) (iv_eq_r c81 q_40).2)
                            refine lv_iconst (v := 1) hx hb dX12_next0_284 (by decide) ?_
                            refine lv_goto (tgt := 289) hx hb dX12_next0_285 (by decide) ?_
                            refine lv_istore_n (lv' := [(2, .int 1), (1, .int x21), (0, .ref h0)]) hx hb dX12_next0_289 rfl hl (by decide) rfl (fun ls hl => ?_)
                            refine lv_aload_n hx hb dX12_next0_290 rfl (lv_at hl 2 rfl) ?_
                            refine lv_iload_n hx hb dX12_next0_291 rfl (lv_at hl 0 rfl) ?_
                            refine lv_if_eq (tgt := 302) hx hb dX12_next0_292 (by decide) (fun c83 => ?_) (fun c83 => ?_)
                            · skip
                              exact (q_1.cutHi (n := 0) (iv_eq_r c83 q_0).2).no (by decide)
                            · skip
                              refine lv_bipush (v := 100) hx hb dX12_next0_295 (by decide) ?_
                              refine lv_iload_n hx hb dX12_next0_297 rfl (lv_at hl 1 rfl) ?_
                              refine iv_iadd hx hb q_100 i81_x21 (lo := 140) (hi := 140) (by decide) dX12_next0_298 (fun x84 e_x84 i_x84 => ?_)
                              have e_x84 : x84.toInt = 100 + x21.toInt := e_x84
                              refine lv_goto (tgt := 303) hx hb dX12_next0_299 (by decide) ?_
                              refine iv_puti X ft_X12 hB a_h0 sh_12 17 (by decide) rfl rfl k_fl_X12_165 rfl (i_x84.wk (by decide)) rfl rfl dX12_next0_303 (fun H locs hB => ?_)
                              have hm := iv_Md.put (x := x84) a_h0 (j := 17) (by decide) (by decide)
                              have h9 := iv_up_eq (G := G38) (a := h0) (k := (12, upd g39 17 x84, r2))
                              generalize iv_up G38 h0 _ = G85 at hB hm h9
                              have hM := hM.stp hm (by decide)
                              generalize hgn_g86 : upd g39 _ _ = g86 at h9
                              have k11 : g86 11 = g_h0 11 := by rw [← hgn_g86]; exact k11
                              have a_h0 := h9
                              have e87 : x4 = g86 18 := by rw [← hgn_g86]; exact e40
                              have e88 : x37 = g86 16 := by rw [← hgn_g86]; exact e9_g39
                              have e9_g86 : x84 = g86 17 := by rw [← hgn_g86]; simp [upd]
                              exact iv_vret X hr hlocks hB ⟨hM, fun g9 r9 h9 => by have h8 := a_h0.symm.trans h9; cases h8; have z0 : (0 : Int32).toInt = 0 := rfl; have w16 := congrArg Int32.toInt e88; have w17 := congrArg Int32.toInt e9_g86; have w18 := congrArg Int32.toInt e87; have wa := congrArg Int32.toInt e_a0; unfold iv_J; exact ⟨by omega, by omega, fun hq => by omega⟩, ms.mk hR a_h0 (iv_ht hM a_st a_h0 ht) hT (by rw [iv_h15 hM a_st a_h0]; exact h15) (by rw [k11]; exact h11) hP hpn hE21 (by have w := congrArg Int32.toInt e87; omega) (by have w := congrArg Int32.toInt e88; omega) (fun k v hk => by have w := tk_M.sign (r := rr0) hnl hnd hk; exact ⟨by rw [← e9_g86, w.1 (by rw [← hT21]; unfold tk_sg; have a1 := i81_x21.1; have a2 := i81_x21.2; omega), ← hT21]; have w3 : x84.toInt = 100 + x21.toInt := e_x84; omega, fun q => absurd q w.2.2⟩)⟩ dX12_next0_306
                          · skip
                            refine lv_iload_n hx hb dX12_next0_260 rfl (lv_at hl 0 rfl) ?_
                            refine lv_bipush (v := 41) hx hb dX12_next0_261 (by decide) ?_
                            refine lv_icmp_eq (tgt := 284) hx hb dX12_next0_263 (by decide) (fun c89 => ?_) (fun c89 => ?_)
                            · skip
                              have i89_x21 : iv_R 41 41 x21 := ((i24_x21.cutLo (n := 41) (iv_eq_r c89 q_41).1).cutHi (n := 41) (iv_eq_r c89 q_41).2)
                              refine lv_iconst (v := 1) hx hb dX12_next0_284 (by decide) ?_
                              refine lv_goto (tgt := 289) hx hb dX12_next0_285 (by decide) ?_
                              refine lv_istore_n (lv' := [(2, .int 1), (1, .int x21), (0, .ref h0)]) hx hb dX12_next0_289 rfl hl (by decide) rfl (fun ls hl => ?_)
                              refine lv_aload_n hx hb dX12_next0_290 rfl (lv_at hl 2 rfl) ?_
                              refine lv_iload_n hx hb dX12_next0_291 rfl (lv_at hl 0 rfl) ?_
                              refine lv_if_eq (tgt := 302) hx hb dX12_next0_292 (by decide) (fun c91 => ?_) (fun c91 => ?_)
                              · skip
                                exact (q_1.cutHi (n := 0) (iv_eq_r c91 q_0).2).no (by decide)
                              · skip
                                refine lv_bipush (v := 100) hx hb dX12_next0_295 (by decide) ?_
                                refine lv_iload_n hx hb dX12_next0_297 rfl (lv_at hl 1 rfl) ?_
                                refine iv_iadd hx hb q_100 i89_x21 (lo := 141) (hi := 141) (by decide) dX12_next0_298 (fun x92 e_x92 i_x92 => ?_)
                                have e_x92 : x92.toInt = 100 + x21.toInt := e_x92
                                refine lv_goto (tgt := 303) hx hb dX12_next0_299 (by decide) ?_
                                refine iv_puti X ft_X12 hB a_h0 sh_12 17 (by decide) rfl rfl k_fl_X12_165 rfl (i_x92.wk (by decide)) rfl rfl dX12_next0_303 (fun H locs hB => ?_)
                                have hm := iv_Md.put (x := x92) a_h0 (j := 17) (by decide) (by decide)
                                have h9 := iv_up_eq (G := G38) (a := h0) (k := (12, upd g39 17 x92, r2))
                                generalize iv_up G38 h0 _ = G93 at hB hm h9
                                have hM := hM.stp hm (by decide)
                                generalize hgn_g94 : upd g39 _ _ = g94 at h9
                                have k11 : g94 11 = g_h0 11 := by rw [← hgn_g94]; exact k11
                                have a_h0 := h9
                                have e95 : x4 = g94 18 := by rw [← hgn_g94]; exact e40
                                have e96 : x37 = g94 16 := by rw [← hgn_g94]; exact e9_g39
                                have e9_g94 : x92 = g94 17 := by rw [← hgn_g94]; simp [upd]
                                exact iv_vret X hr hlocks hB ⟨hM, fun g9 r9 h9 => by have h8 := a_h0.symm.trans h9; cases h8; have z0 : (0 : Int32).toInt = 0 := rfl; have w16 := congrArg Int32.toInt e96; have w17 := congrArg Int32.toInt e9_g94; have w18 := congrArg Int32.toInt e95; have wa := congrArg Int32.toInt e_a0; unfold iv_J; exact ⟨by omega, by omega, fun hq => by omega⟩, ms.mk hR a_h0 (iv_ht hM a_st a_h0 ht) hT (by rw [iv_h15 hM a_st a_h0]; exact h15) (by rw [k11]; exact h11) hP hpn hE21 (by have w := congrArg Int32.toInt e95; omega) (by have w := congrArg Int32.toInt e96; omega) (fun k v hk => by have w := tk_M.sign (r := rr0) hnl hnd hk; exact ⟨by rw [← e9_g94, w.1 (by rw [← hT21]; unfold tk_sg; have a1 := i89_x21.1; have a2 := i89_x21.2; omega), ← hT21]; have w3 : x92.toInt = 100 + x21.toInt := e_x92; omega, fun q => absurd q w.2.2⟩)⟩ dX12_next0_306
                            · skip
                              refine lv_iload_n hx hb dX12_next0_266 rfl (lv_at hl 0 rfl) ?_
                              refine lv_bipush (v := 60) hx hb dX12_next0_267 (by decide) ?_
                              refine lv_icmp_eq (tgt := 284) hx hb dX12_next0_269 (by decide) (fun c97 => ?_) (fun c97 => ?_)
                              · skip
                                have i97_x21 : iv_R 60 60 x21 := ((i24_x21.cutLo (n := 60) (iv_eq_r c97 q_60).1).cutHi (n := 60) (iv_eq_r c97 q_60).2)
                                refine lv_iconst (v := 1) hx hb dX12_next0_284 (by decide) ?_
                                refine lv_goto (tgt := 289) hx hb dX12_next0_285 (by decide) ?_
                                refine lv_istore_n (lv' := [(2, .int 1), (1, .int x21), (0, .ref h0)]) hx hb dX12_next0_289 rfl hl (by decide) rfl (fun ls hl => ?_)
                                refine lv_aload_n hx hb dX12_next0_290 rfl (lv_at hl 2 rfl) ?_
                                refine lv_iload_n hx hb dX12_next0_291 rfl (lv_at hl 0 rfl) ?_
                                refine lv_if_eq (tgt := 302) hx hb dX12_next0_292 (by decide) (fun c99 => ?_) (fun c99 => ?_)
                                · skip
                                  exact (q_1.cutHi (n := 0) (iv_eq_r c99 q_0).2).no (by decide)
                                · skip
                                  refine lv_bipush (v := 100) hx hb dX12_next0_295 (by decide) ?_
                                  refine lv_iload_n hx hb dX12_next0_297 rfl (lv_at hl 1 rfl) ?_
                                  refine iv_iadd hx hb q_100 i97_x21 (lo := 160) (hi := 160) (by decide) dX12_next0_298 (fun x100 e_x100 i_x100 => ?_)
                                  have e_x100 : x100.toInt = 100 + x21.toInt := e_x100
                                  refine lv_goto (tgt := 303) hx hb dX12_next0_299 (by decide) ?_
                                  refine iv_puti X ft_X12 hB a_h0 sh_12 17 (by decide) rfl rfl k_fl_X12_165 rfl (i_x100.wk (by decide)) rfl rfl dX12_next0_303 (fun H locs hB => ?_)
                                  have hm := iv_Md.put (x := x100) a_h0 (j := 17) (by decide) (by decide)
                                  have h9 := iv_up_eq (G := G38) (a := h0) (k := (12, upd g39 17 x100, r2))
                                  generalize iv_up G38 h0 _ = G101 at hB hm h9
                                  have hM := hM.stp hm (by decide)
                                  generalize hgn_g102 : upd g39 _ _ = g102 at h9
                                  have k11 : g102 11 = g_h0 11 := by rw [← hgn_g102]; exact k11
                                  have a_h0 := h9
                                  have e103 : x4 = g102 18 := by rw [← hgn_g102]; exact e40
                                  have e104 : x37 = g102 16 := by rw [← hgn_g102]; exact e9_g39
                                  have e9_g102 : x100 = g102 17 := by rw [← hgn_g102]; simp [upd]
                                  exact iv_vret X hr hlocks hB ⟨hM, fun g9 r9 h9 => by have h8 := a_h0.symm.trans h9; cases h8; have z0 : (0 : Int32).toInt = 0 := rfl; have w16 := congrArg Int32.toInt e104; have w17 := congrArg Int32.toInt e9_g102; have w18 := congrArg Int32.toInt e103; have wa := congrArg Int32.toInt e_a0; unfold iv_J; exact ⟨by omega, by omega, fun hq => by omega⟩, ms.mk hR a_h0 (iv_ht hM a_st a_h0 ht) hT (by rw [iv_h15 hM a_st a_h0]; exact h15) (by rw [k11]; exact h11) hP hpn hE21 (by have w := congrArg Int32.toInt e103; omega) (by have w := congrArg Int32.toInt e104; omega) (fun k v hk => by have w := tk_M.sign (r := rr0) hnl hnd hk; exact ⟨by rw [← e9_g102, w.1 (by rw [← hT21]; unfold tk_sg; have a1 := i97_x21.1; have a2 := i97_x21.2; omega), ← hT21]; have w3 : x100.toInt = 100 + x21.toInt := e_x100; omega, fun q => absurd q w.2.2⟩)⟩ dX12_next0_306
                              · skip
                                refine lv_iload_n hx hb dX12_next0_272 rfl (lv_at hl 0 rfl) ?_
                                refine lv_bipush (v := 61) hx hb dX12_next0_273 (by decide) ?_
                                refine lv_icmp_eq (tgt := 284) hx hb dX12_next0_275 (by decide) (fun c105 => ?_) (fun c105 => ?_)
                                · skip
                                  have i105_x21 : iv_R 61 61 x21 := ((i24_x21.cutLo (n := 61) (iv_eq_r c105 q_61).1).cutHi (n := 61) (iv_eq_r c105 q_61).2)
                                  refine lv_iconst (v := 1) hx hb dX12_next0_284 (by decide) ?_
                                  refine lv_goto (tgt := 289) hx hb dX12_next0_285 (by decide) ?_
                                  refine lv_istore_n (lv' := [(2, .int 1), (1, .int x21), (0, .ref h0)]) hx hb dX12_next0_289 rfl hl (by decide) rfl (fun ls hl => ?_)
                                  refine lv_aload_n hx hb dX12_next0_290 rfl (lv_at hl 2 rfl) ?_
                                  refine lv_iload_n hx hb dX12_next0_291 rfl (lv_at hl 0 rfl) ?_
                                  refine lv_if_eq (tgt := 302) hx hb dX12_next0_292 (by decide) (fun c107 => ?_) (fun c107 => ?_)
                                  · skip
                                    exact (q_1.cutHi (n := 0) (iv_eq_r c107 q_0).2).no (by decide)
                                  · skip
                                    refine lv_bipush (v := 100) hx hb dX12_next0_295 (by decide) ?_
                                    refine lv_iload_n hx hb dX12_next0_297 rfl (lv_at hl 1 rfl) ?_
                                    refine iv_iadd hx hb q_100 i105_x21 (lo := 161) (hi := 161) (by decide) dX12_next0_298 (fun x108 e_x108 i_x108 => ?_)
                                    have e_x108 : x108.toInt = 100 + x21.toInt := e_x108
                                    refine lv_goto (tgt := 303) hx hb dX12_next0_299 (by decide) ?_
                                    refine iv_puti X ft_X12 hB a_h0 sh_12 17 (by decide) rfl rfl k_fl_X12_165 rfl (i_x108.wk (by decide)) rfl rfl dX12_next0_303 (fun H locs hB => ?_)
                                    have hm := iv_Md.put (x := x108) a_h0 (j := 17) (by decide) (by decide)
                                    have h9 := iv_up_eq (G := G38) (a := h0) (k := (12, upd g39 17 x108, r2))
                                    generalize iv_up G38 h0 _ = G109 at hB hm h9
                                    have hM := hM.stp hm (by decide)
                                    generalize hgn_g110 : upd g39 _ _ = g110 at h9
                                    have k11 : g110 11 = g_h0 11 := by rw [← hgn_g110]; exact k11
                                    have a_h0 := h9
                                    have e111 : x4 = g110 18 := by rw [← hgn_g110]; exact e40
                                    have e112 : x37 = g110 16 := by rw [← hgn_g110]; exact e9_g39
                                    have e9_g110 : x108 = g110 17 := by rw [← hgn_g110]; simp [upd]
                                    exact iv_vret X hr hlocks hB ⟨hM, fun g9 r9 h9 => by have h8 := a_h0.symm.trans h9; cases h8; have z0 : (0 : Int32).toInt = 0 := rfl; have w16 := congrArg Int32.toInt e112; have w17 := congrArg Int32.toInt e9_g110; have w18 := congrArg Int32.toInt e111; have wa := congrArg Int32.toInt e_a0; unfold iv_J; exact ⟨by omega, by omega, fun hq => by omega⟩, ms.mk hR a_h0 (iv_ht hM a_st a_h0 ht) hT (by rw [iv_h15 hM a_st a_h0]; exact h15) (by rw [k11]; exact h11) hP hpn hE21 (by have w := congrArg Int32.toInt e111; omega) (by have w := congrArg Int32.toInt e112; omega) (fun k v hk => by have w := tk_M.sign (r := rr0) hnl hnd hk; exact ⟨by rw [← e9_g110, w.1 (by rw [← hT21]; unfold tk_sg; have a1 := i105_x21.1; have a2 := i105_x21.2; omega), ← hT21]; have w3 : x108.toInt = 100 + x21.toInt := e_x108; omega, fun q => absurd q w.2.2⟩)⟩ dX12_next0_306
                                · skip
                                  refine lv_iload_n hx hb dX12_next0_278 rfl (lv_at hl 0 rfl) ?_
                                  refine lv_bipush (v := 62) hx hb dX12_next0_279 (by decide) ?_
                                  refine lv_icmp_ne (tgt := 288) hx hb dX12_next0_281 (by decide) (fun c113 => ?_) (fun c113 => ?_)
                                  · skip
                                    refine lv_iconst (v := 0) hx hb dX12_next0_288 (by decide) ?_
                                    refine lv_istore_n (lv' := [(2, .int 0), (1, .int x21), (0, .ref h0)]) hx hb dX12_next0_289 rfl hl (by decide) rfl (fun ls hl => ?_)
                                    refine lv_aload_n hx hb dX12_next0_290 rfl (lv_at hl 2 rfl) ?_
                                    refine lv_iload_n hx hb dX12_next0_291 rfl (lv_at hl 0 rfl) ?_
                                    refine lv_if_eq (tgt := 302) hx hb dX12_next0_292 (by decide) (fun c114 => ?_) (fun c114 => ?_)
                                    · skip
                                      refine lv_iconst (v := 1) hx hb dX12_next0_302 (by decide) ?_
                                      refine iv_puti X ft_X12 hB a_h0 sh_12 17 (by decide) rfl rfl k_fl_X12_165 rfl (q_1.wk (by decide)) rfl rfl dX12_next0_303 (fun H locs hB => ?_)
                                      have hm := iv_Md.put (x := 1) a_h0 (j := 17) (by decide) (by decide)
                                      have h9 := iv_up_eq (G := G38) (a := h0) (k := (12, upd g39 17 1, r2))
                                      generalize iv_up G38 h0 _ = G115 at hB hm h9
                                      have hM := hM.stp hm (by decide)
                                      generalize hgn_g116 : upd g39 _ _ = g116 at h9
                                      have k11 : g116 11 = g_h0 11 := by rw [← hgn_g116]; exact k11
                                      have a_h0 := h9
                                      have e117 : x4 = g116 18 := by rw [← hgn_g116]; exact e40
                                      have e118 : x37 = g116 16 := by rw [← hgn_g116]; exact e9_g39
                                      have e9_g116 : 1 = g116 17 := by rw [← hgn_g116]; simp [upd]
                                      exact iv_vret X hr hlocks hB ⟨hM, fun g9 r9 h9 => by have h8 := a_h0.symm.trans h9; cases h8; have z0 : (0 : Int32).toInt = 0 := rfl; have w16 := congrArg Int32.toInt e118; have w17 := congrArg Int32.toInt e9_g116; have w18 := congrArg Int32.toInt e117; have wa := congrArg Int32.toInt e_a0; unfold iv_J; exact ⟨by omega, by omega, fun hq => by omega⟩, ms.mk hR a_h0 (iv_ht hM a_st a_h0 ht) hT (by rw [iv_h15 hM a_st a_h0]; exact h15) (by rw [k11]; exact h11) hP hpn hE21 (by have w := congrArg Int32.toInt e117; omega) (by have w := congrArg Int32.toInt e118; omega) (fun k v hk => by have w := tk_M.sign (r := rr0) hnl hnd hk; exact ⟨by rw [← e9_g116, w.2.1 (fun q => by rw [← hT21] at q; unfold tk_sg at q; have z59 : (59 : Int32).toInt = 59 := rfl; have y59 := mt Int32.toInt_inj.mp c41; have z43 : (43 : Int32).toInt = 43 := rfl; have y43 := mt Int32.toInt_inj.mp c49; have z45 : (45 : Int32).toInt = 45 := rfl; have y45 := mt Int32.toInt_inj.mp c57; have z42 : (42 : Int32).toInt = 42 := rfl; have y42 := mt Int32.toInt_inj.mp c65; have z47 : (47 : Int32).toInt = 47 := rfl; have y47 := mt Int32.toInt_inj.mp c73; have z40 : (40 : Int32).toInt = 40 := rfl; have y40 := mt Int32.toInt_inj.mp c81; have z41 : (41 : Int32).toInt = 41 := rfl; have y41 := mt Int32.toInt_inj.mp c89; have z60 : (60 : Int32).toInt = 60 := rfl; have y60 := mt Int32.toInt_inj.mp c97; have z61 : (61 : Int32).toInt = 61 := rfl; have y61 := mt Int32.toInt_inj.mp c105; have z62 : (62 : Int32).toInt = 62 := rfl; have y62 := mt Int32.toInt_inj.mp c113; omega)]; rfl, fun q => absurd q w.2.2⟩)⟩ dX12_next0_306
                                    · skip
                                      exact absurd rfl c114
                                  · skip
                                    have i118_x21 : iv_R 62 62 x21 := ((i24_x21.cutLo (n := 62) (iv_eq_r c113 q_62).1).cutHi (n := 62) (iv_eq_r c113 q_62).2)
                                    refine lv_iconst (v := 1) hx hb dX12_next0_284 (by decide) ?_
                                    refine lv_goto (tgt := 289) hx hb dX12_next0_285 (by decide) ?_
                                    refine lv_istore_n (lv' := [(2, .int 1), (1, .int x21), (0, .ref h0)]) hx hb dX12_next0_289 rfl hl (by decide) rfl (fun ls hl => ?_)
                                    refine lv_aload_n hx hb dX12_next0_290 rfl (lv_at hl 2 rfl) ?_
                                    refine lv_iload_n hx hb dX12_next0_291 rfl (lv_at hl 0 rfl) ?_
                                    refine lv_if_eq (tgt := 302) hx hb dX12_next0_292 (by decide) (fun c120 => ?_) (fun c120 => ?_)
                                    · skip
                                      exact (q_1.cutHi (n := 0) (iv_eq_r c120 q_0).2).no (by decide)
                                    · skip
                                      refine lv_bipush (v := 100) hx hb dX12_next0_295 (by decide) ?_
                                      refine lv_iload_n hx hb dX12_next0_297 rfl (lv_at hl 1 rfl) ?_
                                      refine iv_iadd hx hb q_100 i118_x21 (lo := 162) (hi := 162) (by decide) dX12_next0_298 (fun x121 e_x121 i_x121 => ?_)
                                      have e_x121 : x121.toInt = 100 + x21.toInt := e_x121
                                      refine lv_goto (tgt := 303) hx hb dX12_next0_299 (by decide) ?_
                                      refine iv_puti X ft_X12 hB a_h0 sh_12 17 (by decide) rfl rfl k_fl_X12_165 rfl (i_x121.wk (by decide)) rfl rfl dX12_next0_303 (fun H locs hB => ?_)
                                      have hm := iv_Md.put (x := x121) a_h0 (j := 17) (by decide) (by decide)
                                      have h9 := iv_up_eq (G := G38) (a := h0) (k := (12, upd g39 17 x121, r2))
                                      generalize iv_up G38 h0 _ = G122 at hB hm h9
                                      have hM := hM.stp hm (by decide)
                                      generalize hgn_g123 : upd g39 _ _ = g123 at h9
                                      have k11 : g123 11 = g_h0 11 := by rw [← hgn_g123]; exact k11
                                      have a_h0 := h9
                                      have e124 : x4 = g123 18 := by rw [← hgn_g123]; exact e40
                                      have e125 : x37 = g123 16 := by rw [← hgn_g123]; exact e9_g39
                                      have e9_g123 : x121 = g123 17 := by rw [← hgn_g123]; simp [upd]
                                      exact iv_vret X hr hlocks hB ⟨hM, fun g9 r9 h9 => by have h8 := a_h0.symm.trans h9; cases h8; have z0 : (0 : Int32).toInt = 0 := rfl; have w16 := congrArg Int32.toInt e125; have w17 := congrArg Int32.toInt e9_g123; have w18 := congrArg Int32.toInt e124; have wa := congrArg Int32.toInt e_a0; unfold iv_J; exact ⟨by omega, by omega, fun hq => by omega⟩, ms.mk hR a_h0 (iv_ht hM a_st a_h0 ht) hT (by rw [iv_h15 hM a_st a_h0]; exact h15) (by rw [k11]; exact h11) hP hpn hE21 (by have w := congrArg Int32.toInt e124; omega) (by have w := congrArg Int32.toInt e125; omega) (fun k v hk => by have w := tk_M.sign (r := rr0) hnl hnd hk; exact ⟨by rw [← e9_g123, w.1 (by rw [← hT21]; unfold tk_sg; have a1 := i118_x21.1; have a2 := i118_x21.2; omega), ← hT21]; have w3 : x121.toInt = 100 + x21.toInt := e_x121; omega, fun q => absurd q w.2.2⟩)⟩ dX12_next0_306
              · skip
                have i125_x32 : iv_R 1 1 x32 := iv_ne_lo c35 i_x32 q_0 (by decide)
                have i126_x21 : iv_R 48 57 x21 := ((i24_x21.cutLo (n := 48) (hp33 c35).1).cutHi (n := 57) (hp33 c35).2)
                refine lv_aload_n hx hb dX12_next0_121 rfl (lv_at hl 1 rfl) ?_
                refine lv_iconst (v := 0) hx hb dX12_next0_122 (by decide) ?_
                refine iv_puti X ft_X12 hB a_h0 sh_12 19 (by decide) rfl rfl k_fl_X12_177 rfl (q_0.wk (by decide)) rfl rfl dX12_next0_123 (fun H locs hB => ?_)
                have hm := iv_Md.put (x := 0) a_h0 (j := 19) (by decide) (by decide)
                have h9 := iv_up_eq (G := G18) (a := h0) (k := (12, upd g19 19 0, r2))
                generalize iv_up G18 h0 _ = G128 at hB hm h9
                have hM := hM.stp hm (by decide)
                generalize hgn_g129 : upd g19 _ _ = g129 at h9
                have k11 : g129 11 = g_h0 11 := by rw [← hgn_g129]; exact k11
                have a_h0 := h9
                have e130 : x4 = g129 16 := by rw [← hgn_g129]; exact e20
                have e131 : x4 = g129 18 := by rw [← hgn_g129]; exact e9_g19
                have e9_g129 : 0 = g129 19 := by rw [← hgn_g129]; simp [upd]
                have L_126 : ∀ (n_126 : Nat) (G134 : iv_G) (hM : iv_Md [12] G G134) (H : Heap) (locs : List Loc) (hB : iv_B iv_sh D classes tys base G134 s.heap H locs) (g132 : Nat → Int32) (r133 : Nat → Nat) (a_h0 : G134 h0 = some (12, g132, r133)) (hn_126 : (401 - (g132 16).toInt).toNat < n_126) (gi_126 : g132 18 = x4 ∧ x4.toInt ≤ (g132 16).toInt ∧ g132 11 = g_h0 11 ∧ (g132 16).toInt ≤ (n : Int) ∧ (∀ x, x4.toInt.toNat ≤ x → x < (g132 16).toInt.toNat → tk_D (T x)) ∧ ((g132 16).toInt ≤ x4.toInt + 4 → (g132 19).toInt = tk_nu T x4.toInt.toNat ((g132 16).toInt.toNat - x4.toInt.toNat))) (ls : Array Slot) (hl : lv_has ls 3 [(0, .ref h0)]), W p l e ({ frames := 8, cells := 0, slots := 0, locals := 168 } : Room) s m args below meth c H locs 0 0 (MQ below (iv_Qv iv_sh D classes tys base (fun G' => iv_Md [12] G G' ∧ iv_nx h0 g_h0 G' ∧ (ms h0 T n K V P rr0 i G'))) args s 0 0 (iv_A base)) (F0 m 126 ls []) := by
                  intro n_126
                  induction n_126 with
                  | zero => intro G134 hM H locs hB g132 r133 a_h0 hn_126 gi_126 ls hl; exact absurd hn_126 (Nat.not_lt_zero _)
                  | succ n_126 ih_126 =>
                    intro G134 hM H locs hB g132 r133 a_h0 hn_126 gi_126 ls hl
                    have k11 := gi_126.2.2.1
                    refine lv_aload_n hx hb dX12_next0_126 rfl (lv_at hl 0 rfl) ?_
                    refine lv_aload_n hx hb dX12_next0_127 rfl (lv_at hl 0 rfl) ?_
                    refine iv_geti X ft_X12 hB a_h0 sh_12 16 (by decide) rfl k_fl_X12_85 dX12_next0_128 (fun x135 e_x135 i_x135 => ?_)
                    refine iv_cVi X k_good k_mf_X12_see k_im_X12_see k_sel_X12_see k_ml_X12_161 ft_X12 hB a_h0 sh_12 (As := [.int x135]) (e_X12_see l D tys base G134 h0 g132 r133 a_h0 x135 i_x135 gt rt (iv_ht hM a_st a_h0 ht)) ⟨rfl, rfl⟩ ⟨Nat.le_of_ble_eq_true rfl, Nat.le_of_ble_eq_true rfl⟩ ⟨Nat.le_of_ble_eq_true rfl, Nat.le_of_ble_eq_true rfl⟩ rfl rfl hl.1 (Nat.le_of_ble_eq_true rfl) dX12_next0_131 (fun x136 G9 H locs hq hB => ?_)
                    obtain ⟨rfl, i_x136, np137, xp138⟩ := hq
                    have s_x136 : x136 = iv_sv (g_h0 15) gt x135 := by rw [xp138, iv_h15 hM a_st a_h0]
                    refine iv_cSi X k_good k_mf_X12_isDigit k_st_X12_isDigit k_ml_X12_174 hB (As := [.int x136]) (e_X12_isDigit l D tys base G134 x136 i_x136) ⟨rfl, rfl⟩ ⟨Nat.le_of_ble_eq_true rfl, Nat.le_of_ble_eq_true rfl⟩ ⟨Nat.le_of_ble_eq_true rfl, Nat.le_of_ble_eq_true rfl⟩ rfl rfl hl.1 (Nat.le_of_ble_eq_true rfl) dX12_next0_134 (fun x139 G9 H locs hq hB => ?_)
                    obtain ⟨rfl, i_x139, hp140, xp141⟩ := hq
                    have d_x139 := xp141
                    have hT136 : x136.toInt = T x135.toInt.toNat := by rw [s_x136]; exact sv x135 i_x135.1
                    have hd139 : ¬ x139 = 0 ↔ tk_D (T x135.toInt.toNat) := by rw [d_x139, ← hT136]; exact iv_dgD
                    have p135 := congrArg Int32.toInt e_x135
                    have p0135 := i_x135.1
                    refine lv_if_eq (tgt := 189) hx hb dX12_next0_137 (by decide) (fun c142 => ?_) (fun c142 => ?_)
                    · skip
                      have i142_x139 : iv_R 0 0 x139 := (i_x139.cutHi (n := 0) (iv_eq_r c142 q_0).2)
                      have ht1 : x4.toInt < x135.toInt := by
                        rcases Int.lt_or_eq_of_le gi_126.2.1 with h | h
                        · rw [e_x135]; exact h
                        · have q : x4 = x135 := Int32.toInt_inj.mp (by rw [e_x135]; exact h)
                          exact absurd (show x139 = 0 from by assumption) (by rw [d_x139, s_x136, ← q, ← s_x21, ← d_x32]; assumption)
                      have hE135 : tk_E T n x4.toInt.toNat x135.toInt.toNat := tk_E.dig (by omega) (by have w := gi_126.2.2.2.1; omega) (fun q h1 h2 => gi_126.2.2.2.2.1 q h1 (by omega)) (fun q => hd139.mpr q (by assumption))
                      refine lv_aload_n hx hb dX12_next0_189 rfl (lv_at hl 0 rfl) ?_
                      refine lv_aload_n hx hb dX12_next0_190 rfl (lv_at hl 0 rfl) ?_
                      refine iv_geti0 X ft_X12 hB a_h0 sh_12 16 (by decide) rfl k_fl_X12_85 dX12_next0_191 e_x135 ?_
                      refine lv_aload_n hx hb dX12_next0_194 rfl (lv_at hl 0 rfl) ?_
                      refine iv_geti0 X ft_X12 hB a_h0 sh_12 18 (by decide) rfl k_fl_X12_88 dX12_next0_195 gi_126.1.symm ?_
                      refine iv_isub hx hb i_x135 i25_x4 (lo := (-399)) (hi := 400) (by decide) dX12_next0_198 (fun x144 e_x144 i_x144 => ?_)
                      refine lv_iconst (v := 5) hx hb dX12_next0_199 (by decide) ?_
                      refine lv_icmp_ge (tgt := 207) hx hb dX12_next0_200 (by decide) (fun c145 => ?_) (fun c145 => ?_)
                      · skip
                        have i145_x144 : iv_R 5 400 x144 := (i_x144.cutLo (n := 5) (iv_le_l c145 q_5))
                        refine lv_iconst (v := 1) hx hb dX12_next0_207 (by decide) ?_
                        refine iv_puti X ft_X12 hB a_h0 sh_12 17 (by decide) rfl rfl k_fl_X12_165 rfl (q_1.wk (by decide)) rfl rfl dX12_next0_208 (fun H locs hB => ?_)
                        have hm := iv_Md.put (x := 1) a_h0 (j := 17) (by decide) (by decide)
                        have h9 := iv_up_eq (G := G134) (a := h0) (k := (12, upd g132 17 1, r133))
                        generalize iv_up G134 h0 _ = G147 at hB hm h9
                        have hM := hM.stp hm (by decide)
                        generalize hgn_g148 : upd g132 _ _ = g148 at h9
                        have k11 : g148 11 = g_h0 11 := by rw [← hgn_g148]; exact k11
                        have a_h0 := h9
                        have e149 : x4 = g148 18 := by rw [← hgn_g148]; exact gi_126.1.symm
                        have e150 : x135 = g148 16 := by rw [← hgn_g148]; exact e_x135
                        have e9_g148 : 1 = g148 17 := by rw [← hgn_g148]; simp [upd]
                        refine lv_goto (tgt := 306) hx hb dX12_next0_211 (by decide) ?_
                        exact iv_vret X hr hlocks hB ⟨hM, fun g9 r9 h9 => by have h8 := a_h0.symm.trans h9; cases h8; have z0 : (0 : Int32).toInt = 0 := rfl; have w16 := congrArg Int32.toInt e150; have w17 := congrArg Int32.toInt e9_g148; have w18 := congrArg Int32.toInt e149; have wa := congrArg Int32.toInt e_a0; unfold iv_J; exact ⟨by omega, by omega, fun hq => by omega⟩, ms.mk hR a_h0 (iv_ht hM a_st a_h0 ht) hT (by rw [iv_h15 hM a_st a_h0]; exact h15) (by rw [k11]; exact h11) hP hpn hE135 (by have w := congrArg Int32.toInt e149; omega) (by have w := congrArg Int32.toInt e150; omega) (fun k v hk => by have w := (hk.2.1 (hd32.mp c35)).2 (by have w := e_x144; have w5 := Int32.le_iff_toInt_le.mp c145; have z5 : (5 : Int32).toInt = 5 := rfl; omega); exact ⟨by rw [← e9_g148, w, tk_M.two.2.1]; rfl, fun q => absurd (w.symm.trans q) (by decide)⟩)⟩ dX12_next0_306
                      · skip
                        have i150_x144 : iv_R (-399) 4 x144 := (i_x144.cutHi (n := 4) (iv_lt_r (iv_nle c145) q_5 (by decide)))
                        refine lv_iconst (v := 2) hx hb dX12_next0_203 (by decide) ?_
                        refine lv_goto (tgt := 208) hx hb dX12_next0_204 (by decide) ?_
                        refine iv_puti X ft_X12 hB a_h0 sh_12 17 (by decide) rfl rfl k_fl_X12_165 rfl (q_2.wk (by decide)) rfl rfl dX12_next0_208 (fun H locs hB => ?_)
                        have hm := iv_Md.put (x := 2) a_h0 (j := 17) (by decide) (by decide)
                        have h9 := iv_up_eq (G := G134) (a := h0) (k := (12, upd g132 17 2, r133))
                        generalize iv_up G134 h0 _ = G152 at hB hm h9
                        have hM := hM.stp hm (by decide)
                        generalize hgn_g153 : upd g132 _ _ = g153 at h9
                        have k11 : g153 11 = g_h0 11 := by rw [← hgn_g153]; exact k11
                        have k19 : g153 19 = g132 19 := by rw [← hgn_g153]; rfl
                        have a_h0 := h9
                        have e154 : x4 = g153 18 := by rw [← hgn_g153]; exact gi_126.1.symm
                        have e155 : x135 = g153 16 := by rw [← hgn_g153]; exact e_x135
                        have e9_g153 : 2 = g153 17 := by rw [← hgn_g153]; simp [upd]
                        refine lv_goto (tgt := 306) hx hb dX12_next0_211 (by decide) ?_
                        exact iv_vret X hr hlocks hB ⟨hM, fun g9 r9 h9 => by have h8 := a_h0.symm.trans h9; cases h8; have z0 : (0 : Int32).toInt = 0 := rfl; have w16 := congrArg Int32.toInt e155; have w17 := congrArg Int32.toInt e9_g153; have w18 := congrArg Int32.toInt e154; have wa := congrArg Int32.toInt e_a0; unfold iv_J; exact ⟨by omega, by omega, fun hq => by omega⟩, ms.mk hR a_h0 (iv_ht hM a_st a_h0 ht) hT (by rw [iv_h15 hM a_st a_h0]; exact h15) (by rw [k11]; exact h11) hP hpn hE135 (by have w := congrArg Int32.toInt e154; omega) (by have w := congrArg Int32.toInt e155; omega) (fun k v hk => by have w := (hk.2.1 (hd32.mp c35)).1 (by have w := e_x144; have w5 := mt Int32.le_iff_toInt_le.mpr c145; have z5 : (5 : Int32).toInt = 5 := rfl; omega); exact ⟨by rw [← e9_g153, w.1, tk_M.two.1]; rfl, fun q => by rw [k19, w.2, p135]; exact gi_126.2.2.2.2.2 (by have w := e_x144; have w5 := mt Int32.le_iff_toInt_le.mpr c145; have z5 : (5 : Int32).toInt = 5 := rfl; omega)⟩)⟩ dX12_next0_306
                    · skip
                      have i155_x139 : iv_R 1 1 x139 := iv_ne_lo c142 i_x139 q_0 (by decide)
                      have i156_x136 : iv_R 48 57 x136 := ((i_x136.cutLo (n := 48) (hp140 c142).1).cutHi (n := 57) (hp140 c142).2)
                      have i157_x135 : iv_R 0 399 x135 := (i_x135.cutHi (n := 399) (np137 (Int.le_trans (by decide) i156_x136.1)).2)
                      have hin135 : x135.toInt.toNat < n := inn _ (by rw [← hT136]; have w := hp140 (by assumption); have w1 := w.1; omega)
                      refine lv_aload_n hx hb dX12_next0_140 rfl (lv_at hl 0 rfl) ?_
                      refine iv_geti0 X ft_X12 hB a_h0 sh_12 16 (by decide) rfl k_fl_X12_85 dX12_next0_141 e_x135 ?_
                      refine lv_aload_n hx hb dX12_next0_144 rfl (lv_at hl 0 rfl) ?_
                      refine iv_geti0 X ft_X12 hB a_h0 sh_12 18 (by decide) rfl k_fl_X12_88 dX12_next0_145 gi_126.1.symm ?_
                      refine lv_iconst (v := 4) hx hb dX12_next0_148 (by decide) ?_
                      refine iv_iadd hx hb i25_x4 q_4 (lo := 4) (hi := 403) (by decide) dX12_next0_149 (fun x159 e_x159 i_x159 => ?_)
                      have e_x159 : x159.toInt = x4.toInt + 4 := e_x159
                      refine lv_icmp_ge (tgt := 176) hx hb dX12_next0_150 (by decide) (fun c160 => ?_) (fun c160 => ?_)
                      · skip
                        have i160_x159 : iv_R 4 399 x159 := (i_x159.cutHi (n := 399) (iv_le_r c160 i157_x135))
                        have hge4 : x4.toInt + 4 ≤ x135.toInt := by have w := Int32.le_iff_toInt_le.mp c160; have w2 : x159.toInt = x4.toInt + 4 := e_x159; omega
                        have i161_x135 : iv_R 4 399 x135 := (i157_x135.cutLo (n := 4) (iv_le_l c160 i_x159))
                        refine lv_aload_n hx hb dX12_next0_176 rfl (lv_at hl 0 rfl) ?_
                        refine lv_dup hx hb dX12_next0_177 rfl ?_
                        refine iv_geti0 X ft_X12 hB a_h0 sh_12 16 (by decide) rfl k_fl_X12_85 dX12_next0_178 e_x135 ?_
                        refine lv_iconst (v := 1) hx hb dX12_next0_181 (by decide) ?_
                        refine iv_iadd hx hb i161_x135 q_1 (lo := 5) (hi := 400) (by decide) dX12_next0_182 (fun x163 e_x163 i_x163 => ?_)
                        have e_x163 : x163.toInt = x135.toInt + 1 := e_x163
                        refine iv_puti X ft_X12 hB a_h0 sh_12 16 (by decide) rfl rfl k_fl_X12_85 rfl (i_x163.wk (by decide)) rfl rfl dX12_next0_183 (fun H locs hB => ?_)
                        have hm := iv_Md.put (x := x163) a_h0 (j := 16) (by decide) (by decide)
                        have h9 := iv_up_eq (G := G134) (a := h0) (k := (12, upd g132 16 x163, r133))
                        generalize iv_up G134 h0 _ = G164 at hB hm h9
                        have hM := hM.stp hm (by decide)
                        generalize hgn_g165 : upd g132 _ _ = g165 at h9
                        have k11 : g165 11 = g_h0 11 := by rw [← hgn_g165]; exact k11
                        have a_h0 := h9
                        have e166 : x4 = g165 18 := by rw [← hgn_g165]; exact gi_126.1.symm
                        have e9_g165 : x163 = g165 16 := by rw [← hgn_g165]; simp [upd]
                        refine lv_goto (tgt := 126) hx hb dX12_next0_186 (by decide) ?_
                        exact ih_126 G164 hM _ _ hB g165 r133 a_h0 (by have w1 := congrArg Int32.toInt e9_g165; have w2 := congrArg Int32.toInt e_x135; have w3 := i161_x135.2; have w4 : x163.toInt = x135.toInt + 1 := e_x163; omega) ⟨e166.symm, by have w1 := congrArg Int32.toInt e9_g165; have w2 := congrArg Int32.toInt e_x135; have w3 : x163.toInt = x135.toInt + 1 := e_x163; have w4 := gi_126.2.1; omega, k11, (by have w0 := hin135; have w1 := congrArg Int32.toInt e9_g165; have w3 : x163.toInt = x135.toInt + 1 := e_x163; omega), (fun q h1 h2 => by rcases Nat.lt_or_ge q (g132 16).toInt.toNat with h | h; exact gi_126.2.2.2.2.1 q h1 h; rw [show q = x135.toInt.toNat from by (have w1 := congrArg Int32.toInt e9_g165; have w3 : x163.toInt = x135.toInt + 1 := e_x163; omega)]; exact hd139.mp (by assumption)), (fun h => absurd h (by have w1 := congrArg Int32.toInt e9_g165; have w3 : x163.toInt = x135.toInt + 1 := e_x163; have w5 := hge4; omega))⟩ _ (lv_sub hl [0] rfl)
                      · skip
                        refine lv_aload_n hx hb dX12_next0_153 rfl (lv_at hl 0 rfl) ?_
                        refine lv_bipush (v := 10) hx hb dX12_next0_154 (by decide) ?_
                        refine lv_aload_n hx hb dX12_next0_156 rfl (lv_at hl 0 rfl) ?_
                        refine iv_geti X ft_X12 hB a_h0 sh_12 19 (by decide) rfl k_fl_X12_177 dX12_next0_157 (fun x167 e_x167 i_x167 => ?_)
                        refine lv_imul hx hb dX12_next0_160 ?_
                        refine lv_topi (fun x168 e_x168 => ?_)
                        have i_x168 := iv_R.all x168
                        refine lv_aload_n hx hb dX12_next0_161 rfl (lv_at hl 0 rfl) ?_
                        refine lv_aload_n hx hb dX12_next0_162 rfl (lv_at hl 0 rfl) ?_
                        refine iv_geti0 X ft_X12 hB a_h0 sh_12 16 (by decide) rfl k_fl_X12_85 dX12_next0_163 e_x135 ?_
                        refine iv_cVi X k_good k_mf_X12_see k_im_X12_see k_sel_X12_see k_ml_X12_161 ft_X12 hB a_h0 sh_12 (As := [.int x135]) (e_X12_see l D tys base G134 h0 g132 r133 a_h0 x135 (i157_x135.wk (by decide)) gt rt (iv_ht hM a_st a_h0 ht)) ⟨rfl, rfl⟩ ⟨Nat.le_of_ble_eq_true rfl, Nat.le_of_ble_eq_true rfl⟩ ⟨Nat.le_of_ble_eq_true rfl, Nat.le_of_ble_eq_true rfl⟩ rfl rfl hl.1 (Nat.le_of_ble_eq_true rfl) dX12_next0_166 (fun x169 G9 H locs hq hB => ?_)
                        obtain ⟨rfl, i_x169, np170, xp171⟩ := hq
                        have s_x169 : x169 = iv_sv (g_h0 15) gt x135 := by rw [xp171, iv_h15 hM a_st a_h0]
                        refine lv_iadd hx hb dX12_next0_169 ?_
                        refine lv_topi (fun x172 e_x172 => ?_)
                        have i_x172 := iv_R.all x172
                        refine lv_bipush (v := 48) hx hb dX12_next0_170 (by decide) ?_
                        refine lv_isub hx hb dX12_next0_172 ?_
                        refine lv_topi (fun x173 e_x173 => ?_)
                        have i_x173 := iv_R.all x173
                        have hl4 : x135.toInt < x4.toInt + 4 := by have w := mt Int32.le_iff_toInt_le.mpr c160; have w2 : x159.toInt = x4.toInt + 4 := e_x159; omega
                        have hd9 : tk_D (T x135.toInt.toNat) := hd139.mp (by assumption)
                        have nb := tk_nub (T := T) (p := x4.toInt.toNat) (x135.toInt.toNat - x4.toInt.toNat) (by omega) (fun j hj => gi_126.2.2.2.2.1 _ (by omega) (by omega))
                        have v167 : x167.toInt = tk_nu T x4.toInt.toNat (x135.toInt.toNat - x4.toInt.toNat) := by have w := congrArg Int32.toInt e_x167; rw [w, p135]; exact gi_126.2.2.2.2.2 (by omega)
                        have v169 : x169.toInt = T x135.toInt.toNat := by rw [s_x169]; exact sv x135 i_x135.1
                        have hnew : x173.toInt = tk_nu T x4.toInt.toNat ((g132 16).toInt.toNat - x4.toInt.toNat) * 10 + (T (x4.toInt.toNat + ((g132 16).toInt.toNat - x4.toInt.toNat)) - 48) := by
                          rw [← p135, show x4.toInt.toNat + (x135.toInt.toNat - x4.toInt.toNat) = x135.toInt.toNat from by (have w := gi_126.2.1; omega)]
                          have hd9 : 48 ≤ T x135.toInt.toNat ∧ T x135.toInt.toNat ≤ 57 := hd9
                          rw [← v169] at hd9 ⊢
                          rw [← v167] at nb ⊢
                          have e10 : (10 : Int32).toInt = 10 := rfl
                          have e48 : (48 : Int32).toInt = 48 := rfl
                          have f6 : x168.toInt = 10 * x167.toInt := by rw [e_x168]; exact (iv_ti_mul (by rw [e10]; omega) (by rw [e10]; omega)).trans (by rw [e10])
                          have f8 : x172.toInt = x168.toInt + x169.toInt := by rw [e_x172]; exact iv_ti_add (by omega) (by omega)
                          have f9 : x173.toInt = x172.toInt - 48 := by rw [e_x173]; exact (iv_ti_sub (by rw [e48]; omega) (by rw [e48]; omega)).trans (by rw [e48])
                          omega
                        refine iv_puti X ft_X12 hB a_h0 sh_12 19 (by decide) rfl rfl k_fl_X12_177 rfl i_x173 rfl rfl dX12_next0_173 (fun H locs hB => ?_)
                        have hm := iv_Md.put (x := x173) a_h0 (j := 19) (by decide) (by decide)
                        have h9 := iv_up_eq (G := G134) (a := h0) (k := (12, upd g132 19 x173, r133))
                        generalize iv_up G134 h0 _ = G174 at hB hm h9
                        have hM := hM.stp hm (by decide)
                        generalize hgn_g175 : upd g132 _ _ = g175 at h9
                        have k11 : g175 11 = g_h0 11 := by rw [← hgn_g175]; exact k11
                        have a_h0 := h9
                        have e176 : x4 = g175 18 := by rw [← hgn_g175]; exact gi_126.1.symm
                        have e177 : x135 = g175 16 := by rw [← hgn_g175]; exact e_x135
                        have e9_g175 : x173 = g175 19 := by rw [← hgn_g175]; simp [upd]
                        refine lv_aload_n hx hb dX12_next0_176 rfl (lv_at hl 0 rfl) ?_
                        refine lv_dup hx hb dX12_next0_177 rfl ?_
                        refine iv_geti0 X ft_X12 hB a_h0 sh_12 16 (by decide) rfl k_fl_X12_85 dX12_next0_178 e177 ?_
                        refine lv_iconst (v := 1) hx hb dX12_next0_181 (by decide) ?_
                        refine iv_iadd hx hb i157_x135 q_1 (lo := 1) (hi := 400) (by decide) dX12_next0_182 (fun x178 e_x178 i_x178 => ?_)
                        have e_x178 : x178.toInt = x135.toInt + 1 := e_x178
                        refine iv_puti X ft_X12 hB a_h0 sh_12 16 (by decide) rfl rfl k_fl_X12_85 rfl (i_x178.wk (by decide)) rfl rfl dX12_next0_183 (fun H locs hB => ?_)
                        have hm := iv_Md.put (x := x178) a_h0 (j := 16) (by decide) (by decide)
                        have h9 := iv_up_eq (G := G174) (a := h0) (k := (12, upd g175 16 x178, r133))
                        generalize iv_up G174 h0 _ = G179 at hB hm h9
                        have hM := hM.stp hm (by decide)
                        generalize hgn_g180 : upd g175 _ _ = g180 at h9
                        have k11 : g180 11 = g_h0 11 := by rw [← hgn_g180]; exact k11
                        have a_h0 := h9
                        have e181 : x4 = g180 18 := by rw [← hgn_g180]; exact e176
                        have e182 : x173 = g180 19 := by rw [← hgn_g180]; exact e9_g175
                        have e9_g180 : x178 = g180 16 := by rw [← hgn_g180]; simp [upd]
                        refine lv_goto (tgt := 126) hx hb dX12_next0_186 (by decide) ?_
                        exact ih_126 G179 hM _ _ hB g180 r133 a_h0 (by have w1 := congrArg Int32.toInt e9_g180; have w2 := congrArg Int32.toInt e_x135; have w3 := i157_x135.2; have w4 : x178.toInt = x135.toInt + 1 := e_x178; omega) ⟨e181.symm, by have w1 := congrArg Int32.toInt e9_g180; have w2 := congrArg Int32.toInt e_x135; have w3 : x178.toInt = x135.toInt + 1 := e_x178; have w4 := gi_126.2.1; omega, k11, (by have w0 := hin135; have w1 := congrArg Int32.toInt e9_g180; have w3 : x178.toInt = x135.toInt + 1 := e_x178; omega), (fun q h1 h2 => by rcases Nat.lt_or_ge q (g132 16).toInt.toNat with h | h; exact gi_126.2.2.2.2.1 q h1 h; rw [show q = x135.toInt.toNat from by (have w1 := congrArg Int32.toInt e9_g180; have w3 : x178.toInt = x135.toInt + 1 := e_x178; omega)]; exact hd139.mp (by assumption)), (fun h => by rw [show (g180 16).toInt.toNat - x4.toInt.toNat = ((g132 16).toInt.toNat - x4.toInt.toNat) + 1 from by (have w1 := congrArg Int32.toInt e9_g180; have w3 : x178.toInt = x135.toInt + 1 := e_x178; have w5 := gi_126.2.1; omega), ← e182]; exact hnew)⟩ _ (lv_sub hl [0] rfl)
                exact L_126 _ G128 hM _ _ hB g129 r2 a_h0 (Nat.lt_succ_self _) ⟨e131.symm, by rw [← e130]; exact Int.le_refl _, k11, by have w := congrArg Int32.toInt e130; omega, (fun q h1 h2 => absurd h2 (by have w := congrArg Int32.toInt e130; omega)), (fun h => by rw [← e9_g129, show (g129 16).toInt.toNat - x4.toInt.toNat = 0 from by (have w := congrArg Int32.toInt e130; omega)]; rfl)⟩ _ (lv_sub hl [1] rfl)
            · skip
              have i182_x27 : iv_R 1 1 x27 := iv_ne_lo c30 i_x27 q_0 (by decide)
              have i183_x21 : iv_R 65 122 x21 := ((i24_x21.cutLo (n := 65) (hp28 c30).1).cutHi (n := 122) (hp28 c30).2)
              have L_76 : ∀ (n_76 : Nat) (G187 : iv_G) (hM : iv_Md [12] G G187) (H : Heap) (locs : List Loc) (hB : iv_B iv_sh D classes tys base G187 s.heap H locs) (g185 : Nat → Int32) (r186 : Nat → Nat) (a_h0 : G187 h0 = some (12, g185, r186)) (hn_76 : (401 - (g185 16).toInt).toNat < n_76) (gi_76 : g185 18 = x4 ∧ x4.toInt ≤ (g185 16).toInt ∧ g185 11 = g_h0 11 ∧ (g185 16).toInt ≤ (n : Int) ∧ ∀ x, x4.toInt.toNat ≤ x → x < (g185 16).toInt.toNat → tk_L (T x)) (ls : Array Slot) (hl : lv_has ls 3 [(0, .ref h0)]), W p l e ({ frames := 8, cells := 0, slots := 0, locals := 168 } : Room) s m args below meth c H locs 0 0 (MQ below (iv_Qv iv_sh D classes tys base (fun G' => iv_Md [12] G G' ∧ iv_nx h0 g_h0 G' ∧ (ms h0 T n K V P rr0 i G'))) args s 0 0 (iv_A base)) (F0 m 76 ls []) := by
                intro n_76
                induction n_76 with
                | zero => intro G187 hM H locs hB g185 r186 a_h0 hn_76 gi_76 ls hl; exact absurd hn_76 (Nat.not_lt_zero _)
                | succ n_76 ih_76 =>
                  intro G187 hM H locs hB g185 r186 a_h0 hn_76 gi_76 ls hl
                  have k11 := gi_76.2.2.1
                  refine lv_aload_n hx hb dX12_next0_76 rfl (lv_at hl 0 rfl) ?_
                  refine lv_aload_n hx hb dX12_next0_77 rfl (lv_at hl 0 rfl) ?_
                  refine iv_geti X ft_X12 hB a_h0 sh_12 16 (by decide) rfl k_fl_X12_85 dX12_next0_78 (fun x188 e_x188 i_x188 => ?_)
                  refine iv_cVi X k_good k_mf_X12_see k_im_X12_see k_sel_X12_see k_ml_X12_161 ft_X12 hB a_h0 sh_12 (As := [.int x188]) (e_X12_see l D tys base G187 h0 g185 r186 a_h0 x188 i_x188 gt rt (iv_ht hM a_st a_h0 ht)) ⟨rfl, rfl⟩ ⟨Nat.le_of_ble_eq_true rfl, Nat.le_of_ble_eq_true rfl⟩ ⟨Nat.le_of_ble_eq_true rfl, Nat.le_of_ble_eq_true rfl⟩ rfl rfl hl.1 (Nat.le_of_ble_eq_true rfl) dX12_next0_81 (fun x189 G9 H locs hq hB => ?_)
                  obtain ⟨rfl, i_x189, np190, xp191⟩ := hq
                  have s_x189 : x189 = iv_sv (g_h0 15) gt x188 := by rw [xp191, iv_h15 hM a_st a_h0]
                  refine iv_cSi X k_good k_mf_X12_isLetter k_st_X12_isLetter k_ml_X12_168 hB (As := [.int x189]) (e_X12_isLetter l D tys base G187 x189 i_x189) ⟨rfl, rfl⟩ ⟨Nat.le_of_ble_eq_true rfl, Nat.le_of_ble_eq_true rfl⟩ ⟨Nat.le_of_ble_eq_true rfl, Nat.le_of_ble_eq_true rfl⟩ rfl rfl hl.1 (Nat.le_of_ble_eq_true rfl) dX12_next0_84 (fun x192 G9 H locs hq hB => ?_)
                  obtain ⟨rfl, i_x192, hp193, xp194⟩ := hq
                  have d_x192 := xp194
                  have hT189 : x189.toInt = T x188.toInt.toNat := by rw [s_x189]; exact sv x188 i_x188.1
                  have hl192 : ¬ x192 = 0 ↔ tk_L (T x188.toInt.toNat) := by rw [d_x192, ← hT189]; exact iv_leL
                  have p188 := congrArg Int32.toInt e_x188
                  have p0188 := i_x188.1
                  refine lv_if_eq (tgt := 103) hx hb dX12_next0_87 (by decide) (fun c195 => ?_) (fun c195 => ?_)
                  · skip
                    have i195_x192 : iv_R 0 0 x192 := (i_x192.cutHi (n := 0) (iv_eq_r c195 q_0).2)
                    have ht1 : x4.toInt < x188.toInt := by
                      rcases Int.lt_or_eq_of_le gi_76.2.1 with h | h
                      · rw [e_x188]; exact h
                      · have q : x4 = x188 := Int32.toInt_inj.mp (by rw [e_x188]; exact h)
                        exact absurd (show x192 = 0 from by assumption) (by rw [d_x192, s_x189, ← q, ← s_x21, ← d_x27]; assumption)
                    have hE188 : tk_E T n x4.toInt.toNat x188.toInt.toNat := tk_E.let (by omega) (by have w := gi_76.2.2.2.1; omega) (fun q h1 h2 => gi_76.2.2.2.2 q h1 (by omega)) (fun q => hl192.mpr q (by assumption))
                    refine lv_aload_n hx hb dX12_next0_103 rfl (lv_at hl 0 rfl) ?_
                    refine lv_aload_n hx hb dX12_next0_104 rfl (lv_at hl 0 rfl) ?_
                    refine iv_cVi X k_good k_mf_X12_word k_im_X12_word k_sel_X12_word k_ml_X12_171 ft_X12 hB a_h0 sh_12 (As := []) (f_X12_word l D tys base G187 h0 g185 r186 a_h0 gt rt (iv_ht hM a_st a_h0 ht) n gi_76.2.2.2.1 rr0 (by rw [k11]; exact h11) hr3) ⟨rfl, rfl⟩ ⟨Nat.le_of_ble_eq_true rfl, Nat.le_of_ble_eq_true rfl⟩ ⟨Nat.le_of_ble_eq_true rfl, Nat.le_of_ble_eq_true rfl⟩ rfl rfl hl.1 (Nat.le_of_ble_eq_true rfl) dX12_next0_105 (fun x197 G9 H locs hq hB => ?_)
                    obtain ⟨rfl, i_x197, ew⟩ := hq
                    have hw : tk_ws T x4.toInt.toNat x188.toInt.toNat (tm_S rr0) x197.toInt := by rw [hT, p188, ← gi_76.1]; exact ew
                    refine iv_puti X ft_X12 hB a_h0 sh_12 17 (by decide) rfl rfl k_fl_X12_165 rfl (i_x197.wk (by decide)) rfl rfl dX12_next0_108 (fun H locs hB => ?_)
                    have hm := iv_Md.put (x := x197) a_h0 (j := 17) (by decide) (by decide)
                    have h9 := iv_up_eq (G := G187) (a := h0) (k := (12, upd g185 17 x197, r186))
                    generalize iv_up G187 h0 _ = G198 at hB hm h9
                    have hM := hM.stp hm (by decide)
                    generalize hgn_g199 : upd g185 _ _ = g199 at h9
                    have k11 : g199 11 = g_h0 11 := by rw [← hgn_g199]; exact k11
                    have a_h0 := h9
                    have e200 : x4 = g199 18 := by rw [← hgn_g199]; exact gi_76.1.symm
                    have e201 : x188 = g199 16 := by rw [← hgn_g199]; exact e_x188
                    have e9_g199 : x197 = g199 17 := by rw [← hgn_g199]; simp [upd]
                    refine lv_goto (tgt := 306) hx hb dX12_next0_111 (by decide) ?_
                    exact iv_vret X hr hlocks hB ⟨hM, fun g9 r9 h9 => by have h8 := a_h0.symm.trans h9; cases h8; have z0 : (0 : Int32).toInt = 0 := rfl; have w16 := congrArg Int32.toInt e201; have w17 := congrArg Int32.toInt e9_g199; have w18 := congrArg Int32.toInt e200; have wa := congrArg Int32.toInt e_a0; unfold iv_J; exact ⟨by omega, by omega, fun hq => by omega⟩, ms.mk hR a_h0 (iv_ht hM a_st a_h0 ht) hT (by rw [iv_h15 hM a_st a_h0]; exact h15) (by rw [k11]; exact h11) hP hpn hE188 (by have w := congrArg Int32.toInt e200; omega) (by have w := congrArg Int32.toInt e201; omega) (fun k v hk => ⟨by rw [← e9_g199]; exact hw.M hr3 (hl27.mp c30) hk, fun q => absurd (tk_KV.two hk q).1 (fun d => tk_LD (hl27.mp c30) d)⟩)⟩ dX12_next0_306
                  · skip
                    have i201_x192 : iv_R 1 1 x192 := iv_ne_lo c195 i_x192 q_0 (by decide)
                    have i202_x189 : iv_R 65 122 x189 := ((i_x189.cutLo (n := 65) (hp193 c195).1).cutHi (n := 122) (hp193 c195).2)
                    have i203_x188 : iv_R 0 399 x188 := (i_x188.cutHi (n := 399) (np190 (Int.le_trans (by decide) i202_x189.1)).2)
                    have hin188 : x188.toInt.toNat < n := inn _ (by rw [← hT189]; have w := i202_x189.1; omega)
                    refine lv_aload_n hx hb dX12_next0_90 rfl (lv_at hl 0 rfl) ?_
                    refine lv_dup hx hb dX12_next0_91 rfl ?_
                    refine iv_geti0 X ft_X12 hB a_h0 sh_12 16 (by decide) rfl k_fl_X12_85 dX12_next0_92 e_x188 ?_
                    refine lv_iconst (v := 1) hx hb dX12_next0_95 (by decide) ?_
                    refine iv_iadd hx hb i203_x188 q_1 (lo := 1) (hi := 400) (by decide) dX12_next0_96 (fun x205 e_x205 i_x205 => ?_)
                    have e_x205 : x205.toInt = x188.toInt + 1 := e_x205
                    refine iv_puti X ft_X12 hB a_h0 sh_12 16 (by decide) rfl rfl k_fl_X12_85 rfl (i_x205.wk (by decide)) rfl rfl dX12_next0_97 (fun H locs hB => ?_)
                    have hm := iv_Md.put (x := x205) a_h0 (j := 16) (by decide) (by decide)
                    have h9 := iv_up_eq (G := G187) (a := h0) (k := (12, upd g185 16 x205, r186))
                    generalize iv_up G187 h0 _ = G206 at hB hm h9
                    have hM := hM.stp hm (by decide)
                    generalize hgn_g207 : upd g185 _ _ = g207 at h9
                    have k11 : g207 11 = g_h0 11 := by rw [← hgn_g207]; exact k11
                    have a_h0 := h9
                    have e208 : x4 = g207 18 := by rw [← hgn_g207]; exact gi_76.1.symm
                    have e9_g207 : x205 = g207 16 := by rw [← hgn_g207]; simp [upd]
                    refine lv_goto (tgt := 76) hx hb dX12_next0_100 (by decide) ?_
                    exact ih_76 G206 hM _ _ hB g207 r186 a_h0 (by have w1 := congrArg Int32.toInt e9_g207; have w2 := congrArg Int32.toInt e_x188; have w3 := i203_x188.2; have w4 : x205.toInt = x188.toInt + 1 := e_x205; omega) ⟨e208.symm, by have w1 := congrArg Int32.toInt e9_g207; have w2 := congrArg Int32.toInt e_x188; have w3 : x205.toInt = x188.toInt + 1 := e_x205; have w4 := gi_76.2.1; omega, k11, (by have w0 := hin188; have w1 := congrArg Int32.toInt e9_g207; have w3 : x205.toInt = x188.toInt + 1 := e_x205; omega), (fun q h1 h2 => by rcases Nat.lt_or_ge q (g185 16).toInt.toNat with h | h; exact gi_76.2.2.2.2 q h1 h; rw [show q = x188.toInt.toNat from by (have w1 := congrArg Int32.toInt e9_g207; have w3 : x205.toInt = x188.toInt + 1 := e_x205; omega)]; exact hl192.mp (by assumption))⟩ _ (lv_sub hl [0] rfl)
              exact L_76 _ G18 hM _ _ hB g19 r2 a_h0 (Nat.lt_succ_self _) ⟨e9_g19.symm, by rw [← e20]; exact Int.le_refl _, k11, by have w := congrArg Int32.toInt e20; omega, (fun q h1 h2 => absurd h2 (by have w := congrArg Int32.toInt e20; omega))⟩ _ (lv_sub hl [1] rfl)
          · skip
            have i208_x21 : iv_R (-1) (-1) x21 := (i_x21.cutHi (n := (-1)) (iv_eq_r c24 q_n1).2)
            have hpe : x4.toInt.toNat = n := by rcases hP.2 with q | q; exact absurd (show T x4.toInt.toNat = -1 from by rw [← hT21]; have w1 := i208_x21.1; have w2 := i208_x21.2; omega) (by have w := q.1; rw [hT, tk_T.at w]; have w3 := iv_tb hB a_h0 (iv_ht hM a_st a_h0 ht) (show x4.toInt.toNat < 400 by have w5 := (iv_sl12 hB a_h0 15 (by decide) rfl).2; rw [iv_h15 hM a_st a_h0, h15] at w5; omega); omega); exact q
            refine lv_aload_n hx hb dX12_next0_61 rfl (lv_at hl 1 rfl) ?_
            refine lv_iconst (v := 0) hx hb dX12_next0_62 (by decide) ?_
            refine iv_puti X ft_X12 hB a_h0 sh_12 17 (by decide) rfl rfl k_fl_X12_165 rfl (q_0.wk (by decide)) rfl rfl dX12_next0_63 (fun H locs hB => ?_)
            have hm := iv_Md.put (x := 0) a_h0 (j := 17) (by decide) (by decide)
            have h9 := iv_up_eq (G := G18) (a := h0) (k := (12, upd g19 17 0, r2))
            generalize iv_up G18 h0 _ = G210 at hB hm h9
            have hM := hM.stp hm (by decide)
            generalize hgn_g211 : upd g19 _ _ = g211 at h9
            have k11 : g211 11 = g_h0 11 := by rw [← hgn_g211]; exact k11
            have a_h0 := h9
            have e212 : x4 = g211 16 := by rw [← hgn_g211]; exact e20
            have e213 : x4 = g211 18 := by rw [← hgn_g211]; exact e9_g19
            have e9_g211 : 0 = g211 17 := by rw [← hgn_g211]; simp [upd]
            refine lv_goto (tgt := 306) hx hb dX12_next0_66 (by decide) ?_
            exact iv_vret X hr hlocks hB ⟨hM, fun g9 r9 h9 => by have h8 := a_h0.symm.trans h9; cases h8; have z0 : (0 : Int32).toInt = 0 := rfl; have w16 := congrArg Int32.toInt e212; have w17 := congrArg Int32.toInt e9_g211; have w18 := congrArg Int32.toInt e213; have wa := congrArg Int32.toInt e_a0; unfold iv_J; exact ⟨by omega, by omega, fun hq => by omega⟩, ms.end hR a_h0 (iv_ht hM a_st a_h0 ht) hT (by rw [iv_h15 hM a_st a_h0]; exact h15) (by rw [k11]; exact h11) (by rw [hpe] at hP; exact hP) (by have w := congrArg Int32.toInt e213; rw [← hpe]; omega) (by rw [← e9_g211]; rfl)⟩ dX12_next0_306
        · skip
          have i213_x14 : iv_R 10 10 x14 := ((i_x14.cutLo (n := 10) (iv_eq_r c17 q_10).1).cutHi (n := 10) (iv_eq_r c17 q_10).2)
          have i214_x4 : iv_R 0 399 x4 := (i_x4.cutHi (n := 399) (np15 (Int.le_trans (by decide) i213_x14.1)).2)
          refine lv_aload_n hx hb dX12_next0_26 rfl (lv_at hl 0 rfl) ?_
          refine lv_dup hx hb dX12_next0_27 rfl ?_
          refine iv_geti0 X ft_X12 hB a_h0 sh_12 16 (by decide) rfl k_fl_X12_85 dX12_next0_28 e_x4 ?_
          refine lv_iconst (v := 1) hx hb dX12_next0_31 (by decide) ?_
          refine iv_iadd hx hb i214_x4 q_1 (lo := 1) (hi := 400) (by decide) dX12_next0_32 (fun x216 e_x216 i_x216 => ?_)
          have e_x216 : x216.toInt = x4.toInt + 1 := e_x216
          refine iv_puti X ft_X12 hB a_h0 sh_12 16 (by decide) rfl rfl k_fl_X12_85 rfl (i_x216.wk (by decide)) rfl rfl dX12_next0_33 (fun H locs hB => ?_)
          have hm := iv_Md.put (x := x216) a_h0 (j := 16) (by decide) (by decide)
          have h9 := iv_up_eq (G := G3) (a := h0) (k := (12, upd g1 16 x216, r2))
          generalize iv_up G3 h0 _ = G217 at hB hm h9
          have hM := hM.stp hm (by decide)
          generalize hgn_g218 : upd g1 _ _ = g218 at h9
          have k11 : g218 11 = g_h0 11 := by rw [← hgn_g218]; exact k11
          have a_h0 := h9
          have e9_g218 : x216 = g218 16 := by rw [← hgn_g218]; simp [upd]
          refine lv_goto (tgt := 0) hx hb dX12_next0_36 (by decide) ?_
          have hTx : x14.toInt = T x4.toInt.toNat := by rw [s_x14]; exact sv x4 i_x4.1
          have hvx : x14.toInt = 10 := by rw [c17]; rfl
          have hbl : tk_B (T x4.toInt.toNat) := by rw [← hTx, hvx]; first | exact Or.inl rfl | exact Or.inr rfl
          have hin : x4.toInt.toNat < n := inn _ (by rw [← hTx, hvx]; decide)
          exact ih_0 G217 hM _ _ hB g218 r2 a_h0 (by have w1 := congrArg Int32.toInt e9_g218; have w2 := congrArg Int32.toInt e_x4; have w3 := i214_x4.2; have w4 : x216.toInt = x4.toInt + 1 := e_x216; omega) ⟨(by have w1 := congrArg Int32.toInt e9_g218; have w2 := congrArg Int32.toInt e_x4; have w3 : x216.toInt = x4.toInt + 1 := e_x216; have w4 := gi_0.1; omega), k11, by have w0 := hin; have w1 := congrArg Int32.toInt e9_g218; have w3 : x216.toInt = x4.toInt + 1 := e_x216; have w4 := i_x4.1; omega, fun q h1 h2 => by rcases Nat.lt_or_ge q (g1 16).toInt.toNat with h | h; exact gi_0.2.2.2 q h1 h; rw [show q = x4.toInt.toNat from by (have w1 := congrArg Int32.toInt e9_g218; have w2 := congrArg Int32.toInt e_x4; have w3 : x216.toInt = x4.toInt + 1 := e_x216; have w4 := i_x4.1; omega)]; exact hbl⟩ _ (lv_sub hl [0] rfl)
  exact L_0 _ G hM _ _ hB g_h0 r_h0 a_h0 (Nat.lt_succ_self _) ⟨Int.le_refl _, rfl, ha1, fun q h1 h2 => absurd h2 (by omega)⟩ _ (lv_sub hl [0] rfl)
