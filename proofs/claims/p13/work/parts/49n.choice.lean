theorem qs.ke {h0 b : Nat} {gk gv gp : Nat → Int32} {N : Nat} {os : Int32} {r n j : Nat} {Q : Nat → Prop} {v : Int32} {G G' : iv_G} {rel : iv_K → iv_K → Prop} {S : List Nat} (h : qs h0 b gk gv gp N os r n j Q v G) (k : ke h0 G G') (hm : iv_mod rel S G G') (z : 10 ∉ S ∧ 42 ∉ S ∧ 43 ∉ S ∧ 44 ∉ S) : qs h0 b gk gv gp N os r n j Q v G' := ⟨fun q => by obtain ⟨i, h1, h2, h3⟩ := h.1 q; exact ⟨i, h1, h2.ke k hm z, h3⟩, fun q => by obtain ⟨i, e, h1, h2⟩ := h.2 q; exact ⟨i, e, h1, h2.ke k⟩⟩
theorem qs.lo {h0 b : Nat} {gk gv gp : Nat → Int32} {N : Nat} {os : Int32} {r n j j' : Nat} {Q : Nat → Prop} {v : Int32} {G : iv_G} (h : qs h0 b gk gv gp N os r n j Q v G) (e : j' ≤ j) : qs h0 b gk gv gp N os r n j' Q v G := ⟨fun q => by obtain ⟨i, h1, h2, h3⟩ := h.1 q; exact ⟨i, by omega, h2, h3⟩, h.2⟩
set_option maxHeartbeats 4000000 in
set_option maxRecDepth 100000 in
theorem e_X7_readClaim_h (l : Launch) (D : va_G) (tys : List (ClassId × FieldType)) (base : Nat) (b : Nat) (gk gv gp : Nat → Int32) (N : Nat) (hN : (gk N).toInt = 0) (hN4 : N ≤ 400) (os : Int32) (rr0 nn0 : Nat) (ho : tk_o rr0 os) (ll0 : Nat) (d : Nat) (ihB : ∀ (G : iv_G) (h0 : Nat) (g_h0 : Nat → Int32) (r_h0 : Nat → Nat) (a_h0 : G h0 = some (7, g_h0, r_h0)) (n_g_h0 : iv_R 0 400 (g_h0 1)) (x_0 : Int32) (i_x_0 : iv_R 1 8 x_0) (hd : (9 - x_0.toInt).toNat ≤ d) (i : Nat) (RS : rs h0 b gk gv gp N i os G) (hgk : (gk i).toInt = 40) (bb : Nat) (ss : List Nat) (CF : tk_cf rr0 nn0 (tk_k gk) (tk_k gv) (i + 1) = .claim ll0 x_0.toInt.toNat (x_0.toInt.toNat :: bb :: ss)), Met l yX7_readBracket (Cond.code yX7_readBracket cX7_readBracket 2 (some .boolean) :: iv_W0) ({ frames := 4 + 3 * d, cells := 0, slots := 0, locals := 90 + 70 * d }) (iv_Pc iv_sh D classes tys base G [.ref h0, .int x_0]) (iv_Qi iv_sh D classes tys base (fun v G' => iv_Md [7, 37, 38] G G' ∧ iv_R 0 1 v ∧ (qs h0 b gk gv gp N os rr0 nn0 (i + 1) (fun i' => tk_cl rr0 nn0 (tk_k gk) (tk_k gv) i' ll0 (bb :: ss)) v G'))) 0 0 (iv_A base)) (G : iv_G) (h0 : Nat) (g_h0 : Nat → Int32) (r_h0 : Nat → Nat) (a_h0 : G h0 = some (7, g_h0, r_h0)) (n_g_h0 : iv_R 0 400 (g_h0 1)) (x_0 : Int32) (i_x_0 : iv_R 0 8 x_0) (hd : (8 - x_0.toInt).toNat ≤ d) (i : Nat) (RS : rs h0 b gk gv gp N i os G) (bb : Nat) (ss : List Nat) (AT : tk_at rr0 nn0 (tk_k gk) (tk_k gv) i (.claim ll0 x_0.toInt.toNat (bb :: ss))) : Met l yX7_readClaim (Cond.code yX7_readClaim cX7_readClaim 5 (some .boolean) :: iv_W0) ({ frames := 5 + 3 * d, cells := 0, slots := 0, locals := 111 + 70 * d }) (iv_Pc iv_sh D classes tys base G [.ref h0, .int x_0]) (iv_Qi iv_sh D classes tys base (fun v G' => iv_Md [7, 37, 38] G G' ∧ iv_R 0 1 v ∧ (qs h0 b gk gv gp N os rr0 nn0 (i + 1) (fun i' => tk_cl rr0 nn0 (tk_k gk) (tk_k gv) i' ll0 (bb :: ss)) v G'))) 0 0 (iv_A base) := by
  refine iv_head (by decide) (Nat.le_of_ble_eq_true rfl) ?_
  intro p e s m args below meth c ls X hr hlocks hname hB hl
  have X := X
  have hx := X.1.1
  have hb := X.1.2.1
  have hM : iv_Md [7, 37, 38] G G := iv_Md.rf
  have hl : lv_has ls 5 [(0, .ref h0), (1, .int x_0)] := hl
  refine lv_iload_n hx hb dX7_readClaim_0 rfl (lv_at hl 1 rfl) ?_
  refine lv_istore_n (lv' := [(2, .int x_0), (0, .ref h0), (1, .int x_0)]) hx hb dX7_readClaim_1 rfl hl (by decide) rfl (fun ls hl => ?_)
  have L_2 : ∀ (n_2 : Nat) (G4 : iv_G) (hM : iv_Md [7, 37, 38] G G4) (H : Heap) (locs : List Loc) (hB : iv_B iv_sh D classes tys base G4 s.heap H locs) (g2 : Nat → Int32) (r3 : Nat → Nat) (a_h0 : G4 h0 = some (7, g2, r3)) (n_g2 : iv_R 0 400 (g2 1)) (x1 : Int32) (i_x1 : iv_R 0 8 x1) (hn_2 : (9 - x1.toInt).toNat < n_2) (inv_2 : x_0.toInt ≤ x1.toInt) (gi_2 : ∃ i1, i ≤ i1 ∧ rs h0 b gk gv gp N i1 os G4 ∧ tk_at rr0 nn0 (tk_k gk) (tk_k gv) i1 (.claim ll0 x1.toInt.toNat (bb :: ss))) (ls : Array Slot) (hl : lv_has ls 5 [(2, .int x1), (0, .ref h0), (1, .int x_0)]), W p l e ({ frames := 5 + 3 * d, cells := 0, slots := 0, locals := 111 + 70 * d } : Room) s m args below meth c H locs 0 0 (MQ below (iv_Qi iv_sh D classes tys base (fun v G' => iv_Md [7, 37, 38] G G' ∧ iv_R 0 1 v ∧ (qs h0 b gk gv gp N os rr0 nn0 (i + 1) (fun i' => tk_cl rr0 nn0 (tk_k gk) (tk_k gv) i' ll0 (bb :: ss)) v G'))) args s 0 0 (iv_A base)) (F0 m 2 ls []) := by
    intro n_2
    induction n_2 with
    | zero => intro G4 hM H locs hB g2 r3 a_h0 n_g2 x1 i_x1 hn_2 inv_2 gi_2 ls hl; exact absurd hn_2 (Nat.not_lt_zero _)
    | succ n_2 ih_2 =>
      intro G4 hM H locs hB g2 r3 a_h0 n_g2 x1 i_x1 hn_2 inv_2 gi_2 ls hl
      obtain ⟨i1, hj1, RS1, AT1⟩ := gi_2
      have RB1 := RS1.got a_h0
      refine lv_aload_n hx hb dX7_readClaim_2 rfl (lv_at hl 1 rfl) ?_
      refine iv_geti X ft_X7 hB a_h0 sh_7 2 (by decide) rfl k_fl_X7_53 dX7_readClaim_3 (fun x5 e_x5 i_x5 => ?_)
      have hx5 : x5.toInt = (gk i1).toInt := congrArg Int32.toInt (e_x5.trans RB1.2.1.2.1)
      refine lv_sipush (v := 137) hx hb dX7_readClaim_6 (by decide) ?_
      refine lv_icmp_ne (tgt := 28) hx hb dX7_readClaim_9 (by decide) (fun c6 => ?_) (fun c6 => ?_)
      · skip
        refine lv_aload_n hx hb dX7_readClaim_28 rfl (lv_at hl 1 rfl) ?_
        refine iv_geti0 X ft_X7 hB a_h0 sh_7 2 (by decide) rfl k_fl_X7_53 dX7_readClaim_29 e_x5 ?_
        refine lv_sipush (v := 137) hx hb dX7_readClaim_32 (by decide) ?_
        refine lv_icmp_eq (tgt := 47) hx hb dX7_readClaim_35 (by decide) (fun c7 => ?_) (fun c7 => ?_)
        · skip
          exact absurd c7 c6
        · skip
          refine lv_aload_n hx hb dX7_readClaim_38 rfl (lv_at hl 1 rfl) ?_
          refine iv_geti0 X ft_X7 hB a_h0 sh_7 2 (by decide) rfl k_fl_X7_53 dX7_readClaim_39 e_x5 ?_
          refine lv_bipush (v := 40) hx hb dX7_readClaim_42 (by decide) ?_
          refine lv_icmp_ne (tgt := 59) hx hb dX7_readClaim_44 (by decide) (fun c8 => ?_) (fun c8 => ?_)
          · skip
            refine lv_aload_n hx hb dX7_readClaim_59 rfl (lv_at hl 1 rfl) ?_
            refine iv_geti0 X ft_X7 hB a_h0 sh_7 2 (by decide) rfl k_fl_X7_53 dX7_readClaim_60 e_x5 ?_
            refine lv_bipush (v := 40) hx hb dX7_readClaim_63 (by decide) ?_
            refine lv_icmp_ne (tgt := 78) hx hb dX7_readClaim_65 (by decide) (fun c9 => ?_) (fun c9 => ?_)
            · skip
              refine lv_aload_n hx hb dX7_readClaim_78 rfl (lv_at hl 1 rfl) ?_
              refine iv_cVi X k_good k_mf_X7_readComparison k_im_X7_readComparison k_sel_X7_readComparison k_ml_X7_132 ft_X7 hB a_h0 sh_7 (As := []) (e_X7_readComparison l D tys base G4 h0 g2 r3 a_h0 n_g2 b gk gv gp N hN hN4 i1 os RS1 rr0 nn0 ho ll0 x1.toInt.toNat (bb :: ss) (rn_sum ho.two AT1 (fun q => c6 (Int32.toInt_inj.mp (by rw [hx5]; exact q))) (fun q => c8 (Int32.toInt_inj.mp (by rw [hx5]; exact q))))) ⟨rfl, rfl⟩ ⟨by dsimp only; omega, by dsimp only; omega⟩ ⟨Nat.le_of_ble_eq_true rfl, Nat.le_of_ble_eq_true rfl⟩ rfl rfl hl.1 (Nat.le_of_ble_eq_true rfl) dX7_readClaim_79 (fun x10 G9 H locs hq hB => ?_)
              obtain ⟨hm, i_x10, Q1⟩ := hq
              obtain ⟨G11, hG9⟩ : ∃ g, g = G9 := ⟨_, rfl⟩
              rw [← hG9] at hm hB Q1
              have hM := hM.stp hm (by decide)
              obtain ⟨g12, r13, a_h0, f_g12⟩ := hm.ex a_h0
              have n_g12 := iv_nxt hB a_h0 f_g12 n_g2
              refine lv_istore_n (lv' := [(3, .int x10), (2, .int x1), (0, .ref h0), (1, .int x_0)]) hx hb dX7_readClaim_82 rfl hl (by decide) rfl (fun ls hl => ?_)
              refine lv_iload_n hx hb dX7_readClaim_83 rfl (lv_at hl 3 rfl) ?_
              refine lv_istore (lv' := [(4, .int x_0), (3, .int x10), (2, .int x1), (0, .ref h0), (1, .int x_0)]) hx hb dX7_readClaim_84 hl (by decide) rfl (fun ls hl => ?_)
              have L_86 : ∀ (n_86 : Nat) (G17 : iv_G) (hM : iv_Md [7, 37, 38] G G17) (H : Heap) (locs : List Loc) (hB : iv_B iv_sh D classes tys base G17 s.heap H locs) (g15 : Nat → Int32) (r16 : Nat → Nat) (a_h0 : G17 h0 = some (7, g15, r16)) (n_g15 : iv_R 0 400 (g15 1)) (x14 : Int32) (i_x14 : iv_R 0 8 x14) (hn_86 : (9 - x14.toInt).toNat < n_86) (gi_86 : qs h0 b gk gv gp N os rr0 nn0 (i + 1) (fun i' => tk_cl rr0 nn0 (tk_k gk) (tk_k gv) i' ll0 (bb :: ss)) x10 G17) (ls : Array Slot) (hl : lv_has ls 5 [(4, .int x14), (3, .int x10), (2, .int x1), (0, .ref h0)]), W p l e ({ frames := 5 + 3 * d, cells := 0, slots := 0, locals := 111 + 70 * d } : Room) s m args below meth c H locs 0 0 (MQ below (iv_Qi iv_sh D classes tys base (fun v G' => iv_Md [7, 37, 38] G G' ∧ iv_R 0 1 v ∧ (qs h0 b gk gv gp N os rr0 nn0 (i + 1) (fun i' => tk_cl rr0 nn0 (tk_k gk) (tk_k gv) i' ll0 (bb :: ss)) v G'))) args s 0 0 (iv_A base)) (F0 m 86 ls []) := by
                intro n_86
                induction n_86 with
                | zero => intro G17 hM H locs hB g15 r16 a_h0 n_g15 x14 i_x14 hn_86 gi_86 ls hl; exact absurd hn_86 (Nat.not_lt_zero _)
                | succ n_86 ih_86 =>
                  intro G17 hM H locs hB g15 r16 a_h0 n_g15 x14 i_x14 hn_86 gi_86 ls hl
                  refine lv_iload hx hb dX7_readClaim_86 (lv_at hl 0 rfl) ?_
                  refine lv_iload_n hx hb dX7_readClaim_88 rfl (lv_at hl 2 rfl) ?_
                  refine lv_icmp_ge (tgt := 106) hx hb dX7_readClaim_89 (by decide) (fun c18 => ?_) (fun c18 => ?_)
                  · skip
                    refine lv_iload_n hx hb dX7_readClaim_106 rfl (lv_at hl 1 rfl) ?_
                    exact iv_zret X hr hlocks hB i_x10 ⟨hM, i_x10, (gi_86)⟩ dX7_readClaim_107
                  · skip
                    have i18_x14 : iv_R 0 7 x14 := (i_x14.cutHi (n := 7) (iv_lt_r (iv_nle c18) i_x1 (by decide)))
                    have i19_x1 : iv_R 1 8 x1 := (i_x1.cutLo (n := 1) (iv_lt_l (iv_nle c18) i_x14 (by decide)))
                    refine lv_aload_n hx hb dX7_readClaim_92 rfl (lv_at hl 3 rfl) ?_
                    refine lv_sipush (v := 137) hx hb dX7_readClaim_93 (by decide) ?_
                    refine lv_iconst (v := 0) hx hb dX7_readClaim_96 (by decide) ?_
                    refine iv_cVv X k_good k_mf_X7_emit k_im_X7_emit k_sel_X7_emit k_ml_X7_125 ft_X7 hB a_h0 sh_7 (As := [.int 137, .int 0]) (e_X7_emit l D tys base G17 h0 g15 r16 a_h0 137 (q_137.wk (by decide)) 0 (q_0.wk (by decide))) ⟨rfl, rfl⟩ ⟨by dsimp only; omega, by dsimp only; omega⟩ ⟨Nat.le_of_ble_eq_true rfl, Nat.le_of_ble_eq_true rfl⟩ rfl rfl hl.1 (Nat.le_of_ble_eq_true rfl) dX7_readClaim_97 (fun G9 H locs hq hB => ?_)
                    obtain ⟨hm, hk⟩ := hq
                    obtain ⟨G21, hG9⟩ : ∃ g, g = G9 := ⟨_, rfl⟩
                    rw [← hG9] at hm hB hk
                    have hM := hM.stp hm (by decide)
                    obtain ⟨g22, r23, a_h0, f_g22⟩ := hm.ex a_h0
                    have n_g22 := iv_nxt hB a_h0 f_g22 n_g15
                    refine iv_iinc hx hb i18_x14 (lo := 1) (hi := 8) (by decide) dX7_readClaim_100 hl (k := 0) rfl (by decide) (fun x24 ls e_x24 i_x24 hl => ?_)
                    have hl : lv_has ls 5 [(4, .int x24), (3, .int x10), (2, .int x1), (0, .ref h0)] := hl
                    refine lv_goto (tgt := 86) hx hb dX7_readClaim_103 (by decide) ?_
                    exact ih_86 G21 hM _ _ hB g22 r23 a_h0 n_g22 x24 (i_x24.wk (by decide)) (iv_mup (c := 1) i_x14 (by decide) (by decide) (by omega) hn_86) (gi_86.ke hk hm (by decide)) _ (lv_sub hl [0, 1, 2, 3] rfl)
              exact L_86 _ G11 hM _ _ hB g12 r13 a_h0 n_g12 x_0 i_x_0 (Nat.lt_succ_self _) (Q1.lo (by omega)) _ (lv_sub hl [0, 1, 2, 3] rfl)
            · skip
              exact absurd c9 c8
          · skip
            have i24_x5 : iv_R 40 40 x5 := ((i_x5.cutLo (n := 40) (iv_eq_r c8 q_40).1).cutHi (n := 40) (iv_eq_r c8 q_40).2)
            refine lv_iload_n hx hb dX7_readClaim_47 rfl (lv_at hl 0 rfl) ?_
            refine lv_bipush (v := 8) hx hb dX7_readClaim_48 (by decide) ?_
            refine lv_icmp_lt (tgt := 59) hx hb dX7_readClaim_50 (by decide) (fun c26 => ?_) (fun c26 => ?_)
            · skip
              have i26_x1 : iv_R 0 7 x1 := (i_x1.cutHi (n := 7) (iv_lt_r c26 q_8 (by decide)))
              refine lv_aload_n hx hb dX7_readClaim_59 rfl (lv_at hl 1 rfl) ?_
              refine iv_geti0 X ft_X7 hB a_h0 sh_7 2 (by decide) rfl k_fl_X7_53 dX7_readClaim_60 e_x5 ?_
              refine lv_bipush (v := 40) hx hb dX7_readClaim_63 (by decide) ?_
              refine lv_icmp_ne (tgt := 78) hx hb dX7_readClaim_65 (by decide) (fun c28 => ?_) (fun c28 => ?_)
              · skip
                exact (iv_ne_lo c28 i24_x5 q_40 (a' := 41) (by decide)).no (by decide)
              · skip
                refine lv_aload_n hx hb dX7_readClaim_68 rfl (lv_at hl 1 rfl) ?_
                refine lv_iload_n hx hb dX7_readClaim_69 rfl (lv_at hl 0 rfl) ?_
                refine lv_iconst (v := 1) hx hb dX7_readClaim_70 (by decide) ?_
                refine iv_iadd hx hb i26_x1 q_1 (lo := 1) (hi := 8) (by decide) dX7_readClaim_71 (fun x29 e_x29 i_x29 => ?_)
                have e_x29 : x29.toInt = x1.toInt + 1 := e_x29
                refine iv_cVi X k_good k_mf_X7_readBracket k_im_X7_readBracket k_sel_X7_readBracket k_ml_X7_129 ft_X7 hB a_h0 sh_7 (As := [.int x29]) (ihB G4 h0 g2 r3 a_h0 n_g2 x29 i_x29 (by have e8 := i_x_0.2; have e9 : x29.toInt = x1.toInt + 1 := e_x29; omega) i1 RS1 (by rw [← hx5]; have w := i24_x5.1; have w2 := i24_x5.2; omega) bb ss (by rw [show x29.toInt.toNat = x1.toInt.toNat + 1 from by (have w := i26_x1.1; omega)]; exact rn_par AT1 (by rw [← hx5]; have w := i24_x5.1; have w2 := i24_x5.2; omega) (by have w := i26_x1.2; omega))) ⟨rfl, rfl⟩ ⟨by dsimp only; omega, by dsimp only; omega⟩ ⟨Nat.le_of_ble_eq_true rfl, Nat.le_of_ble_eq_true rfl⟩ rfl rfl hl.1 (Nat.le_of_ble_eq_true rfl) dX7_readClaim_72 (fun x30 G9 H locs hq hB => ?_)
                obtain ⟨hm, i_x30, Q1⟩ := hq
                obtain ⟨G31, hG9⟩ : ∃ g, g = G9 := ⟨_, rfl⟩
                rw [← hG9] at hm hB Q1
                have hM := hM.stp hm (by decide)
                obtain ⟨g32, r33, a_h0, f_g32⟩ := hm.ex a_h0
                have n_g32 := iv_nxt hB a_h0 f_g32 n_g2
                refine lv_goto (tgt := 82) hx hb dX7_readClaim_75 (by decide) ?_
                refine lv_istore_n (lv' := [(3, .int x30), (2, .int x1), (0, .ref h0), (1, .int x_0)]) hx hb dX7_readClaim_82 rfl hl (by decide) rfl (fun ls hl => ?_)
                refine lv_iload_n hx hb dX7_readClaim_83 rfl (lv_at hl 3 rfl) ?_
                refine lv_istore (lv' := [(4, .int x_0), (3, .int x30), (2, .int x1), (0, .ref h0), (1, .int x_0)]) hx hb dX7_readClaim_84 hl (by decide) rfl (fun ls hl => ?_)
                have L_86 : ∀ (n_86 : Nat) (G37 : iv_G) (hM : iv_Md [7, 37, 38] G G37) (H : Heap) (locs : List Loc) (hB : iv_B iv_sh D classes tys base G37 s.heap H locs) (g35 : Nat → Int32) (r36 : Nat → Nat) (a_h0 : G37 h0 = some (7, g35, r36)) (n_g35 : iv_R 0 400 (g35 1)) (x34 : Int32) (i_x34 : iv_R 0 8 x34) (hn_86 : (9 - x34.toInt).toNat < n_86) (gi_86 : qs h0 b gk gv gp N os rr0 nn0 (i + 1) (fun i' => tk_cl rr0 nn0 (tk_k gk) (tk_k gv) i' ll0 (bb :: ss)) x30 G37) (ls : Array Slot) (hl : lv_has ls 5 [(4, .int x34), (3, .int x30), (2, .int x1), (0, .ref h0)]), W p l e ({ frames := 5 + 3 * d, cells := 0, slots := 0, locals := 111 + 70 * d } : Room) s m args below meth c H locs 0 0 (MQ below (iv_Qi iv_sh D classes tys base (fun v G' => iv_Md [7, 37, 38] G G' ∧ iv_R 0 1 v ∧ (qs h0 b gk gv gp N os rr0 nn0 (i + 1) (fun i' => tk_cl rr0 nn0 (tk_k gk) (tk_k gv) i' ll0 (bb :: ss)) v G'))) args s 0 0 (iv_A base)) (F0 m 86 ls []) := by
                  intro n_86
                  induction n_86 with
                  | zero => intro G37 hM H locs hB g35 r36 a_h0 n_g35 x34 i_x34 hn_86 gi_86 ls hl; exact absurd hn_86 (Nat.not_lt_zero _)
                  | succ n_86 ih_86 =>
                    intro G37 hM H locs hB g35 r36 a_h0 n_g35 x34 i_x34 hn_86 gi_86 ls hl
                    refine lv_iload hx hb dX7_readClaim_86 (lv_at hl 0 rfl) ?_
                    refine lv_iload_n hx hb dX7_readClaim_88 rfl (lv_at hl 2 rfl) ?_
                    refine lv_icmp_ge (tgt := 106) hx hb dX7_readClaim_89 (by decide) (fun c38 => ?_) (fun c38 => ?_)
                    · skip
                      refine lv_iload_n hx hb dX7_readClaim_106 rfl (lv_at hl 1 rfl) ?_
                      exact iv_zret X hr hlocks hB i_x30 ⟨hM, i_x30, (gi_86)⟩ dX7_readClaim_107
                    · skip
                      have i38_x34 : iv_R 0 6 x34 := (i_x34.cutHi (n := 6) (iv_lt_r (iv_nle c38) i26_x1 (by decide)))
                      have i39_x1 : iv_R 1 7 x1 := (i26_x1.cutLo (n := 1) (iv_lt_l (iv_nle c38) i_x34 (by decide)))
                      refine lv_aload_n hx hb dX7_readClaim_92 rfl (lv_at hl 3 rfl) ?_
                      refine lv_sipush (v := 137) hx hb dX7_readClaim_93 (by decide) ?_
                      refine lv_iconst (v := 0) hx hb dX7_readClaim_96 (by decide) ?_
                      refine iv_cVv X k_good k_mf_X7_emit k_im_X7_emit k_sel_X7_emit k_ml_X7_125 ft_X7 hB a_h0 sh_7 (As := [.int 137, .int 0]) (e_X7_emit l D tys base G37 h0 g35 r36 a_h0 137 (q_137.wk (by decide)) 0 (q_0.wk (by decide))) ⟨rfl, rfl⟩ ⟨by dsimp only; omega, by dsimp only; omega⟩ ⟨Nat.le_of_ble_eq_true rfl, Nat.le_of_ble_eq_true rfl⟩ rfl rfl hl.1 (Nat.le_of_ble_eq_true rfl) dX7_readClaim_97 (fun G9 H locs hq hB => ?_)
                      obtain ⟨hm, hk⟩ := hq
                      obtain ⟨G41, hG9⟩ : ∃ g, g = G9 := ⟨_, rfl⟩
                      rw [← hG9] at hm hB hk
                      have hM := hM.stp hm (by decide)
                      obtain ⟨g42, r43, a_h0, f_g42⟩ := hm.ex a_h0
                      have n_g42 := iv_nxt hB a_h0 f_g42 n_g35
                      refine iv_iinc hx hb i38_x34 (lo := 1) (hi := 7) (by decide) dX7_readClaim_100 hl (k := 0) rfl (by decide) (fun x44 ls e_x44 i_x44 hl => ?_)
                      have hl : lv_has ls 5 [(4, .int x44), (3, .int x30), (2, .int x1), (0, .ref h0)] := hl
                      refine lv_goto (tgt := 86) hx hb dX7_readClaim_103 (by decide) ?_
                      exact ih_86 G41 hM _ _ hB g42 r43 a_h0 n_g42 x44 (i_x44.wk (by decide)) (iv_mup (c := 1) i_x34 (by decide) (by decide) (by omega) hn_86) (gi_86.ke hk hm (by decide)) _ (lv_sub hl [0, 1, 2, 3] rfl)
                exact L_86 _ G31 hM _ _ hB g32 r33 a_h0 n_g32 x_0 i_x_0 (Nat.lt_succ_self _) (Q1.lo (by omega)) _ (lv_sub hl [0, 1, 2, 3] rfl)
            · skip
              have i44_x1 : iv_R 8 8 x1 := (i_x1.cutLo (n := 8) (iv_le_l (iv_nlt c26) q_8))
              refine lv_aload_n hx hb dX7_readClaim_53 rfl (lv_at hl 1 rfl) ?_
              refine lv_iconst (v := 3) hx hb dX7_readClaim_54 (by decide) ?_
              refine iv_cVi X k_good k_mf_X7_refuse k_im_X7_refuse k_sel_X7_refuse k_ml_X7_98 ft_X7 hB a_h0 sh_7 (As := [.int 3]) (e_X7_refuse l D tys base G4 h0 g2 r3 a_h0 n_g2 3 (q_3.wk (by decide)) gk gv gp (by rw [RB1.1]; exact RS1.2.1) i1 RB1.2.1.1) ⟨rfl, rfl⟩ ⟨by dsimp only; omega, by dsimp only; omega⟩ ⟨Nat.le_of_ble_eq_true rfl, Nat.le_of_ble_eq_true rfl⟩ rfl rfl hl.1 (Nat.le_of_ble_eq_true rfl) dX7_readClaim_55 (fun x46 G9 H locs hq hB => ?_)
              obtain ⟨hm, i_x46, vf⟩ := hq
              obtain ⟨G47, hG9⟩ : ∃ g, g = G9 := ⟨_, rfl⟩
              rw [← hG9] at hm hB vf
              have hM := hM.stp hm (by decide)
              obtain ⟨g48, r49, a_h0, f_g48⟩ := hm.ex a_h0
              have n_g48 := iv_nxt hB a_h0 f_g48 n_g2
              exact iv_zret X hr hlocks hB (i_x46.wk (by decide)) ⟨hM, (i_x46.wk (by decide)), (⟨fun h => absurd (iv_z i_x46) h, fun _ => ⟨i1, 3, rn_deep ho.two AT1 (Or.inr (by rw [← hx5]; have w := i24_x5.1; have w2 := i24_x5.2; omega)) (by have w := i44_x1.1; omega), ⟨g48, r49, a_h0, vf _ _ a_h0⟩⟩⟩)⟩ dX7_readClaim_58
      · skip
        have i49_x5 : iv_R 137 137 x5 := ((i_x5.cutLo (n := 137) (iv_eq_r c6 q_137).1).cutHi (n := 137) (iv_eq_r c6 q_137).2)
        have hlt1 : i1 < N := RS1.lt hN (by rw [← hx5]; have w := i49_x5.1; omega)
        refine lv_iload_n hx hb dX7_readClaim_12 rfl (lv_at hl 0 rfl) ?_
        refine lv_bipush (v := 8) hx hb dX7_readClaim_13 (by decide) ?_
        refine lv_icmp_ge (tgt := 28) hx hb dX7_readClaim_15 (by decide) (fun c51 => ?_) (fun c51 => ?_)
        · skip
          have i51_x1 : iv_R 8 8 x1 := (i_x1.cutLo (n := 8) (iv_le_l c51 q_8))
          refine lv_aload_n hx hb dX7_readClaim_28 rfl (lv_at hl 1 rfl) ?_
          refine iv_geti0 X ft_X7 hB a_h0 sh_7 2 (by decide) rfl k_fl_X7_53 dX7_readClaim_29 e_x5 ?_
          refine lv_sipush (v := 137) hx hb dX7_readClaim_32 (by decide) ?_
          refine lv_icmp_eq (tgt := 47) hx hb dX7_readClaim_35 (by decide) (fun c53 => ?_) (fun c53 => ?_)
          · skip
            refine lv_iload_n hx hb dX7_readClaim_47 rfl (lv_at hl 0 rfl) ?_
            refine lv_bipush (v := 8) hx hb dX7_readClaim_48 (by decide) ?_
            refine lv_icmp_lt (tgt := 59) hx hb dX7_readClaim_50 (by decide) (fun c54 => ?_) (fun c54 => ?_)
            · skip
              exact (i51_x1.cutHi (n := 7) (iv_lt_r c54 q_8 (by decide))).no (by decide)
            · skip
              refine lv_aload_n hx hb dX7_readClaim_53 rfl (lv_at hl 1 rfl) ?_
              refine lv_iconst (v := 3) hx hb dX7_readClaim_54 (by decide) ?_
              refine iv_cVi X k_good k_mf_X7_refuse k_im_X7_refuse k_sel_X7_refuse k_ml_X7_98 ft_X7 hB a_h0 sh_7 (As := [.int 3]) (e_X7_refuse l D tys base G4 h0 g2 r3 a_h0 n_g2 3 (q_3.wk (by decide)) gk gv gp (by rw [RB1.1]; exact RS1.2.1) i1 RB1.2.1.1) ⟨rfl, rfl⟩ ⟨by dsimp only; omega, by dsimp only; omega⟩ ⟨Nat.le_of_ble_eq_true rfl, Nat.le_of_ble_eq_true rfl⟩ rfl rfl hl.1 (Nat.le_of_ble_eq_true rfl) dX7_readClaim_55 (fun x55 G9 H locs hq hB => ?_)
              obtain ⟨hm, i_x55, vf⟩ := hq
              obtain ⟨G56, hG9⟩ : ∃ g, g = G9 := ⟨_, rfl⟩
              rw [← hG9] at hm hB vf
              have hM := hM.stp hm (by decide)
              obtain ⟨g57, r58, a_h0, f_g57⟩ := hm.ex a_h0
              have n_g57 := iv_nxt hB a_h0 f_g57 n_g2
              exact iv_zret X hr hlocks hB (i_x55.wk (by decide)) ⟨hM, (i_x55.wk (by decide)), (⟨fun h => absurd (iv_z i_x55) h, fun _ => ⟨i1, 3, rn_deep ho.two AT1 (Or.inl (by rw [← hx5]; have w := i49_x5.1; have w2 := i49_x5.2; omega)) (by have w := i51_x1.1; omega), ⟨g57, r58, a_h0, vf _ _ a_h0⟩⟩⟩)⟩ dX7_readClaim_58
          · skip
            exact (iv_ne_lo c53 i49_x5 q_137 (a' := 138) (by decide)).no (by decide)
        · skip
          have i58_x1 : iv_R 0 7 x1 := (i_x1.cutHi (n := 7) (iv_lt_r (iv_nle c51) q_8 (by decide)))
          refine iv_iinc hx hb i58_x1 (lo := 1) (hi := 8) (by decide) dX7_readClaim_18 hl (k := 0) rfl (by decide) (fun x60 ls e_x60 i_x60 hl => ?_)
          have hl : lv_has ls 5 [(2, .int x60), (0, .ref h0), (1, .int x_0)] := hl
          refine lv_aload_n hx hb dX7_readClaim_21 rfl (lv_at hl 1 rfl) ?_
          refine iv_cVv X k_good k_mf_X7_step k_im_X7_step k_sel_X7_step k_ml_X7_83 ft_X7 hB a_h0 sh_7 (As := []) (e_X7_step l D tys base G4 h0 g2 r3 a_h0 gk gv gp (by rw [RB1.1]; exact RS1.2.1) (i1 + 1) (by omega) (by rw [RB1.2.1.1]; omega)) ⟨rfl, rfl⟩ ⟨by dsimp only; omega, by dsimp only; omega⟩ ⟨Nat.le_of_ble_eq_true rfl, Nat.le_of_ble_eq_true rfl⟩ rfl rfl hl.1 (Nat.le_of_ble_eq_true rfl) dX7_readClaim_22 (fun G9 H locs hq hB => ?_)
          obtain ⟨hm, vg, vc⟩ := hq
          obtain ⟨G61, hG9⟩ : ∃ g, g = G9 := ⟨_, rfl⟩
          rw [← hG9] at hm hB vg vc
          have hM := hM.stp hm (by decide)
          obtain ⟨g62, r63, a_h0, f_g62⟩ := hm.ex a_h0
          have n_g62 := iv_nxt hB a_h0 f_g62 n_g2
          have RS2 : rs h0 b gk gv gp N (i1 + 1) os G61 := ⟨hlt1, RS1.2.1.md hm (by decide), g62, r63, a_h0, (f_g62.1 0 (fun h => absurd (show (7 : Nat) = 5 from h) (by decide))).trans RB1.1, (vc _ _ a_h0).1, (f_g62.2.1 4 (show (4 : Nat) ∈ iv_stab 7 from by decide)).trans RB1.2.2.1, (vc _ _ a_h0).2.1.trans RB1.2.2.2.1, (vc _ _ a_h0).2.2.trans RB1.2.2.2.2⟩
          have vg64 := vg _ _ a_h0
          refine lv_goto (tgt := 2) hx hb dX7_readClaim_25 (by decide) ?_
          exact ih_2 G61 hM _ _ hB g62 r63 a_h0 vg64 x60 (i_x60.wk (by decide)) (iv_mup (c := 1) i_x1 (by decide) (by decide) (by omega) hn_2) (by omega) ⟨i1 + 1, by omega, RS2, by rw [show x60.toInt.toNat = x1.toInt.toNat + 1 from by (have w : x60.toInt = x1.toInt + 1 := e_x60; have w2 := i58_x1.1; omega)]; exact tk_at.of (rn_on ho.two AT1 (by rw [← hx5]; have w := i49_x5.1; have w2 := i49_x5.2; omega) (by have w := i58_x1.2; omega))⟩ _ (lv_sub hl [0, 1, 2] rfl)
  exact L_2 _ G hM _ _ hB g_h0 r_h0 a_h0 n_g_h0 x_0 i_x_0 (Nat.lt_succ_self _) (Int.le_refl _) ⟨i, Nat.le_refl _, RS, AT⟩ _ (lv_sub hl [0, 1, 2] rfl)
set_option maxHeartbeats 4000000 in
set_option maxRecDepth 100000 in
theorem e_X7_readChoice_h (l : Launch) (D : va_G) (tys : List (ClassId × FieldType)) (base : Nat) (b : Nat) (gk gv gp : Nat → Int32) (N : Nat) (hN : (gk N).toInt = 0) (hN4 : N ≤ 400) (os : Int32) (rr0 nn0 : Nat) (ho : tk_o rr0 os) (ll0 : Nat) (d : Nat) (ihB : ∀ (G : iv_G) (h0 : Nat) (g_h0 : Nat → Int32) (r_h0 : Nat → Nat) (a_h0 : G h0 = some (7, g_h0, r_h0)) (n_g_h0 : iv_R 0 400 (g_h0 1)) (x_0 : Int32) (i_x_0 : iv_R 1 8 x_0) (hd : (9 - x_0.toInt).toNat ≤ d) (i : Nat) (RS : rs h0 b gk gv gp N i os G) (hgk : (gk i).toInt = 40) (bb : Nat) (ss : List Nat) (CF : tk_cf rr0 nn0 (tk_k gk) (tk_k gv) (i + 1) = .claim ll0 x_0.toInt.toNat (x_0.toInt.toNat :: bb :: ss)), Met l yX7_readBracket (Cond.code yX7_readBracket cX7_readBracket 2 (some .boolean) :: iv_W0) ({ frames := 4 + 3 * d, cells := 0, slots := 0, locals := 90 + 70 * d }) (iv_Pc iv_sh D classes tys base G [.ref h0, .int x_0]) (iv_Qi iv_sh D classes tys base (fun v G' => iv_Md [7, 37, 38] G G' ∧ iv_R 0 1 v ∧ (qs h0 b gk gv gp N os rr0 nn0 (i + 1) (fun i' => tk_cl rr0 nn0 (tk_k gk) (tk_k gv) i' ll0 (bb :: ss)) v G'))) 0 0 (iv_A base)) (G : iv_G) (h0 : Nat) (g_h0 : Nat → Int32) (r_h0 : Nat → Nat) (a_h0 : G h0 = some (7, g_h0, r_h0)) (n_g_h0 : iv_R 0 400 (g_h0 1)) (x_0 : Int32) (i_x_0 : iv_R 0 8 x_0) (hd : (8 - x_0.toInt).toNat ≤ d) (i : Nat) (RS : rs h0 b gk gv gp N i os G) (ss : List Nat) (CF : tk_cf rr0 nn0 (tk_k gk) (tk_k gv) i = .claim ll0 x_0.toInt.toNat (x_0.toInt.toNat :: ss)) : Met l yX7_readChoice (Cond.code yX7_readChoice cX7_readChoice 6 (some .boolean) :: iv_W0) ({ frames := 6 + 3 * d, cells := 0, slots := 0, locals := 135 + 70 * d }) (iv_Pc iv_sh D classes tys base G [.ref h0, .int x_0]) (iv_Qi iv_sh D classes tys base (fun v G' => iv_Md [7, 37, 38] G G' ∧ iv_R 0 1 v ∧ (qs h0 b gk gv gp N os rr0 nn0 (i + 1) (fun i' => tk_cl rr0 nn0 (tk_k gk) (tk_k gv) i' ll0 (x_0.toInt.toNat :: ss) ∧ ¬ ((gk i').toInt = 135 ∨ (gk i').toInt = 136)) v G'))) 0 0 (iv_A base) := by
  refine iv_head (by decide) (Nat.le_of_ble_eq_true rfl) ?_
  intro p e s m args below meth c ls X hr hlocks hname hB hl
  have X := X
  have hx := X.1.1
  have hb := X.1.2.1
  have hM : iv_Md [7, 37, 38] G G := iv_Md.rf
  have hl : lv_has ls 6 [(0, .ref h0), (1, .int x_0)] := hl
  refine lv_iconst (v := 0) hx hb dX7_readChoice_0 (by decide) ?_
  refine lv_istore_n (lv' := [(2, .int 0), (0, .ref h0), (1, .int x_0)]) hx hb dX7_readChoice_1 rfl hl (by decide) rfl (fun ls hl => ?_)
  refine lv_aload_n hx hb dX7_readChoice_2 rfl (lv_at hl 1 rfl) ?_
  refine lv_iload_n hx hb dX7_readChoice_3 rfl (lv_at hl 2 rfl) ?_
  refine iv_cVi X k_good k_mf_X7_readClaim k_im_X7_readClaim k_sel_X7_readClaim k_ml_X7_118 ft_X7 hB a_h0 sh_7 (As := [.int x_0]) (e_X7_readClaim_h l D tys base b gk gv gp N hN hN4 os rr0 nn0 ho ll0 d ihB G h0 g_h0 r_h0 a_h0 n_g_h0 x_0 i_x_0 (by have e8 := i_x_0.2; omega) i RS x_0.toInt.toNat ss (tk_at.of CF)) ⟨rfl, rfl⟩ ⟨by dsimp only; omega, by dsimp only; omega⟩ ⟨Nat.le_of_ble_eq_true rfl, Nat.le_of_ble_eq_true rfl⟩ rfl rfl hl.1 (Nat.le_of_ble_eq_true rfl) dX7_readChoice_4 (fun x1 G9 H locs hq hB => ?_)
  obtain ⟨hm, i_x1, Q1⟩ := hq
  obtain ⟨G2, hG9⟩ : ∃ g, g = G9 := ⟨_, rfl⟩
  rw [← hG9] at hm hB Q1
  have hM := hM.stp hm (by decide)
  obtain ⟨g3, r4, a_h0, f_g3⟩ := hm.ex a_h0
  have n_g3 := iv_nxt hB a_h0 f_g3 n_g_h0
  refine lv_istore_n (lv' := [(3, .int x1), (2, .int 0), (0, .ref h0), (1, .int x_0)]) hx hb dX7_readChoice_7 rfl hl (by decide) rfl (fun ls hl => ?_)
  refine lv_iconst (v := 0) hx hb dX7_readChoice_8 (by decide) ?_
  refine lv_istore (lv' := [(4, .int 0), (3, .int x1), (2, .int 0), (0, .ref h0), (1, .int x_0)]) hx hb dX7_readChoice_9 hl (by decide) rfl (fun ls hl => ?_)
  have L_11 : ∀ (n_11 : Nat) (G10 : iv_G) (hM : iv_Md [7, 37, 38] G G10) (H : Heap) (locs : List Loc) (hB : iv_B iv_sh D classes tys base G10 s.heap H locs) (g8 : Nat → Int32) (r9 : Nat → Nat) (a_h0 : G10 h0 = some (7, g8, r9)) (n_g8 : iv_R 0 400 (g8 1)) (x5 : Int32) (i_x5 : iv_R 0 135 x5) (x6 : Int32) (i_x6 : iv_R 0 1 x6) (x7 : Int32) (i_x7 : iv_R 0 400 x7) (hn_11 : (401 - x7.toInt).toNat < n_11) (gi_11 : qs h0 b gk gv gp N os rr0 nn0 (x7.toInt.toNat + 1) (fun i' => i + 1 ≤ i' ∧ tk_cl rr0 nn0 (tk_k gk) (tk_k gv) i' ll0 (x_0.toInt.toNat :: ss)) x6 G10) (ls : Array Slot) (hl : lv_has ls 6 [(4, .int x7), (3, .int x6), (2, .int x5), (0, .ref h0), (1, .int x_0)]), W p l e ({ frames := 6 + 3 * d, cells := 0, slots := 0, locals := 135 + 70 * d } : Room) s m args below meth c H locs 0 0 (MQ below (iv_Qi iv_sh D classes tys base (fun v G' => iv_Md [7, 37, 38] G G' ∧ iv_R 0 1 v ∧ (qs h0 b gk gv gp N os rr0 nn0 (i + 1) (fun i' => tk_cl rr0 nn0 (tk_k gk) (tk_k gv) i' ll0 (x_0.toInt.toNat :: ss) ∧ ¬ ((gk i').toInt = 135 ∨ (gk i').toInt = 136)) v G'))) args s 0 0 (iv_A base)) (F0 m 11 ls []) := by
    intro n_11
    induction n_11 with
    | zero => intro G10 hM H locs hB g8 r9 a_h0 n_g8 x5 i_x5 x6 i_x6 x7 i_x7 hn_11 gi_11 ls hl; exact absurd hn_11 (Nat.not_lt_zero _)
    | succ n_11 ih_11 =>
      intro G10 hM H locs hB g8 r9 a_h0 n_g8 x5 i_x5 x6 i_x6 x7 i_x7 hn_11 gi_11 ls hl
      refine lv_iload hx hb dX7_readChoice_11 (lv_at hl 0 rfl) ?_
      refine lv_sipush (v := 400) hx hb dX7_readChoice_13 (by decide) ?_
      refine lv_icmp_ge (tgt := 98) hx hb dX7_readChoice_16 (by decide) (fun c11 => ?_) (fun c11 => ?_)
      · skip
        have i11_x7 : iv_R 400 400 x7 := (i_x7.cutLo (n := 400) (iv_le_l c11 q_400))
        refine lv_aload_n hx hb dX7_readChoice_98 rfl (lv_at hl 3 rfl) ?_
        refine lv_iload_n hx hb dX7_readChoice_99 rfl (lv_at hl 2 rfl) ?_
        refine iv_cVv X k_good k_mf_X7_emitWaiting k_im_X7_emitWaiting k_sel_X7_emitWaiting k_ml_X7_121 ft_X7 hB a_h0 sh_7 (As := [.int x5]) (e_X7_emitWaiting l D tys base G10 h0 g8 r9 a_h0 x5 i_x5) ⟨rfl, rfl⟩ ⟨by dsimp only; omega, by dsimp only; omega⟩ ⟨Nat.le_of_ble_eq_true rfl, Nat.le_of_ble_eq_true rfl⟩ rfl rfl hl.1 (Nat.le_of_ble_eq_true rfl) dX7_readChoice_100 (fun G9 H locs hq hB => ?_)
        obtain ⟨hm, hk⟩ := hq
        obtain ⟨G13, hG9⟩ : ∃ g, g = G9 := ⟨_, rfl⟩
        rw [← hG9] at hm hB hk
        have hM := hM.stp hm (by decide)
        obtain ⟨g14, r15, a_h0, f_g14⟩ := hm.ex a_h0
        have n_g14 := iv_nxt hB a_h0 f_g14 n_g8
        refine lv_iload_n hx hb dX7_readChoice_103 rfl (lv_at hl 1 rfl) ?_
        exact iv_zret X hr hlocks hB i_x6 ⟨hM, i_x6, (⟨fun h => by obtain ⟨i', h1, h3, h4⟩ := gi_11.1 h; exact absurd h3.1 (by have w := i11_x7.1; omega), fun h => by obtain ⟨i', k', h1, h2⟩ := gi_11.2 h; exact ⟨i', k', h1, h2.ke hk⟩⟩)⟩ dX7_readChoice_104
      · skip
        have i15_x7 : iv_R 0 399 x7 := (i_x7.cutHi (n := 399) (iv_lt_r (iv_nle c11) q_400 (by decide)))
        refine lv_iload_n hx hb dX7_readChoice_19 rfl (lv_at hl 1 rfl) ?_
        refine lv_if_eq (tgt := 98) hx hb dX7_readChoice_20 (by decide) (fun c17 => ?_) (fun c17 => ?_)
        · skip
          have i17_x6 : iv_R 0 0 x6 := (i_x6.cutHi (n := 0) (iv_eq_r c17 q_0).2)
          refine lv_aload_n hx hb dX7_readChoice_98 rfl (lv_at hl 3 rfl) ?_
          refine lv_iload_n hx hb dX7_readChoice_99 rfl (lv_at hl 2 rfl) ?_
          refine iv_cVv X k_good k_mf_X7_emitWaiting k_im_X7_emitWaiting k_sel_X7_emitWaiting k_ml_X7_121 ft_X7 hB a_h0 sh_7 (As := [.int x5]) (e_X7_emitWaiting l D tys base G10 h0 g8 r9 a_h0 x5 i_x5) ⟨rfl, rfl⟩ ⟨by dsimp only; omega, by dsimp only; omega⟩ ⟨Nat.le_of_ble_eq_true rfl, Nat.le_of_ble_eq_true rfl⟩ rfl rfl hl.1 (Nat.le_of_ble_eq_true rfl) dX7_readChoice_100 (fun G9 H locs hq hB => ?_)
          obtain ⟨hm, hk⟩ := hq
          obtain ⟨G19, hG9⟩ : ∃ g, g = G9 := ⟨_, rfl⟩
          rw [← hG9] at hm hB hk
          have hM := hM.stp hm (by decide)
          obtain ⟨g20, r21, a_h0, f_g20⟩ := hm.ex a_h0
          have n_g20 := iv_nxt hB a_h0 f_g20 n_g8
          refine lv_iload_n hx hb dX7_readChoice_103 rfl (lv_at hl 1 rfl) ?_
          exact iv_zret X hr hlocks hB (i17_x6.wk (by decide)) ⟨hM, (i17_x6.wk (by decide)), (⟨fun h => absurd c17 h, fun h => by obtain ⟨i', k', h1, h2⟩ := gi_11.2 h; exact ⟨i', k', h1, h2.ke hk⟩⟩)⟩ dX7_readChoice_104
        · skip
          have i21_x6 : iv_R 1 1 x6 := iv_ne_lo c17 i_x6 q_0 (by decide)
          obtain ⟨i1, hj1, RS1, hj2⟩ := gi_11.1 c17
          have RB1 := RS1.got a_h0
          refine lv_aload_n hx hb dX7_readChoice_23 rfl (lv_at hl 3 rfl) ?_
          refine iv_geti X ft_X7 hB a_h0 sh_7 2 (by decide) rfl k_fl_X7_53 dX7_readChoice_24 (fun x23 e_x23 i_x23 => ?_)
          have hx23 : x23.toInt = (gk i1).toInt := congrArg Int32.toInt (e_x23.trans RB1.2.1.2.1)
          refine lv_sipush (v := 136) hx hb dX7_readChoice_27 (by decide) ?_
          refine lv_icmp_eq (tgt := 43) hx hb dX7_readChoice_30 (by decide) (fun c24 => ?_) (fun c24 => ?_)
          · skip
            have i24_x23 : iv_R 136 136 x23 := ((i_x23.cutLo (n := 136) (iv_eq_r c24 q_136).1).cutHi (n := 136) (iv_eq_r c24 q_136).2)
            have hlt1 : i1 < N := RS1.lt hN (by rw [← hx23]; have w := i24_x23.1; omega)
            have CF2 := rj_on ho.two hj2.2 (by rw [← hx23]; have w := i24_x23.1; have w2 := i24_x23.2; omega)
            refine lv_aload_n hx hb dX7_readChoice_43 rfl (lv_at hl 3 rfl) ?_
            refine iv_geti0 X ft_X7 hB a_h0 sh_7 2 (by decide) rfl k_fl_X7_53 dX7_readChoice_44 e_x23 ?_
            refine lv_istore (lv' := [(5, .int x23), (4, .int x7), (3, .int x6), (2, .int x5), (0, .ref h0), (1, .int x_0)]) hx hb dX7_readChoice_47 hl (by decide) rfl (fun ls hl => ?_)
            refine lv_aload_n hx hb dX7_readChoice_49 rfl (lv_at hl 4 rfl) ?_
            refine iv_cVv X k_good k_mf_X7_step k_im_X7_step k_sel_X7_step k_ml_X7_83 ft_X7 hB a_h0 sh_7 (As := []) (e_X7_step l D tys base G10 h0 g8 r9 a_h0 gk gv gp (by rw [RB1.1]; exact RS1.2.1) (i1 + 1) (by omega) (by rw [RB1.2.1.1]; omega)) ⟨rfl, rfl⟩ ⟨by dsimp only; omega, by dsimp only; omega⟩ ⟨Nat.le_of_ble_eq_true rfl, Nat.le_of_ble_eq_true rfl⟩ rfl rfl hl.1 (Nat.le_of_ble_eq_true rfl) dX7_readChoice_50 (fun G9 H locs hq hB => ?_)
            obtain ⟨hm, vg, vc⟩ := hq
            obtain ⟨G26, hG9⟩ : ∃ g, g = G9 := ⟨_, rfl⟩
            rw [← hG9] at hm hB vg vc
            have hM := hM.stp hm (by decide)
            obtain ⟨g27, r28, a_h0, f_g27⟩ := hm.ex a_h0
            have n_g27 := iv_nxt hB a_h0 f_g27 n_g8
            have RS2 : rs h0 b gk gv gp N (i1 + 1) os G26 := ⟨hlt1, RS1.2.1.md hm (by decide), g27, r28, a_h0, (f_g27.1 0 (fun h => absurd (show (7 : Nat) = 5 from h) (by decide))).trans RB1.1, (vc _ _ a_h0).1, (f_g27.2.1 4 (show (4 : Nat) ∈ iv_stab 7 from by decide)).trans RB1.2.2.1, (vc _ _ a_h0).2.1.trans RB1.2.2.2.1, (vc _ _ a_h0).2.2.trans RB1.2.2.2.2⟩
            have vg29 := vg _ _ a_h0
            refine lv_iload hx hb dX7_readChoice_53 (lv_at hl 0 rfl) ?_
            refine lv_sipush (v := 135) hx hb dX7_readChoice_55 (by decide) ?_
            refine lv_icmp_ne (tgt := 70) hx hb dX7_readChoice_58 (by decide) (fun c30 => ?_) (fun c30 => ?_)
            · skip
              refine lv_aload_n hx hb dX7_readChoice_70 rfl (lv_at hl 4 rfl) ?_
              refine lv_iload_n hx hb dX7_readChoice_71 rfl (lv_at hl 5 rfl) ?_
              refine iv_cVi X k_good k_mf_X7_readClaim k_im_X7_readClaim k_sel_X7_readClaim k_ml_X7_118 ft_X7 hB a_h0 sh_7 (As := [.int x_0]) (e_X7_readClaim_h l D tys base b gk gv gp N hN hN4 os rr0 nn0 ho ll0 d ihB G26 h0 g27 r28 a_h0 vg29 x_0 i_x_0 (by have e8 := i_x_0.2; omega) (i1 + 1) RS2 x_0.toInt.toNat ss (tk_at.of CF2)) ⟨rfl, rfl⟩ ⟨by dsimp only; omega, by dsimp only; omega⟩ ⟨Nat.le_of_ble_eq_true rfl, Nat.le_of_ble_eq_true rfl⟩ rfl rfl hl.1 (Nat.le_of_ble_eq_true rfl) dX7_readChoice_72 (fun x31 G9 H locs hq hB => ?_)
              obtain ⟨hm, i_x31, Q1⟩ := hq
              obtain ⟨G32, hG9⟩ : ∃ g, g = G9 := ⟨_, rfl⟩
              rw [← hG9] at hm hB Q1
              have hM := hM.stp hm (by decide)
              obtain ⟨g33, r34, a_h0, f_g33⟩ := hm.ex a_h0
              have n_g33 := iv_nxt hB a_h0 f_g33 vg29
              refine lv_istore_n (lv' := [(3, .int x31), (5, .int x23), (4, .int x7), (2, .int x5), (0, .ref h0), (1, .int x_0)]) hx hb dX7_readChoice_75 rfl hl (by decide) rfl (fun ls hl => ?_)
              refine lv_iload hx hb dX7_readChoice_76 (lv_at hl 1 rfl) ?_
              refine lv_sipush (v := 136) hx hb dX7_readChoice_78 (by decide) ?_
              refine lv_icmp_ne (tgt := 92) hx hb dX7_readChoice_81 (by decide) (fun c35 => ?_) (fun c35 => ?_)
              · skip
                exact (iv_ne_lo c35 i24_x23 q_136 (a' := 137) (by decide)).no (by decide)
              · skip
                refine lv_aload_n hx hb dX7_readChoice_84 rfl (lv_at hl 4 rfl) ?_
                refine lv_sipush (v := 136) hx hb dX7_readChoice_85 (by decide) ?_
                refine lv_iconst (v := 0) hx hb dX7_readChoice_88 (by decide) ?_
                refine iv_cVv X k_good k_mf_X7_emit k_im_X7_emit k_sel_X7_emit k_ml_X7_125 ft_X7 hB a_h0 sh_7 (As := [.int 136, .int 0]) (e_X7_emit l D tys base G32 h0 g33 r34 a_h0 136 (q_136.wk (by decide)) 0 (q_0.wk (by decide))) ⟨rfl, rfl⟩ ⟨by dsimp only; omega, by dsimp only; omega⟩ ⟨Nat.le_of_ble_eq_true rfl, Nat.le_of_ble_eq_true rfl⟩ rfl rfl hl.1 (Nat.le_of_ble_eq_true rfl) dX7_readChoice_89 (fun G9 H locs hq hB => ?_)
                obtain ⟨hm, hk⟩ := hq
                obtain ⟨G36, hG9⟩ : ∃ g, g = G9 := ⟨_, rfl⟩
                rw [← hG9] at hm hB hk
                have hM := hM.stp hm (by decide)
                obtain ⟨g37, r38, a_h0, f_g37⟩ := hm.ex a_h0
                have n_g37 := iv_nxt hB a_h0 f_g37 n_g33
                refine iv_iinc hx hb i15_x7 (lo := 1) (hi := 400) (by decide) dX7_readChoice_92 hl (k := 2) rfl (by decide) (fun x39 ls e_x39 i_x39 hl => ?_)
                have hl : lv_has ls 6 [(4, .int x39), (3, .int x31), (5, .int x23), (2, .int x5), (0, .ref h0), (1, .int x_0)] := hl
                refine lv_goto (tgt := 11) hx hb dX7_readChoice_95 (by decide) ?_
                exact ih_11 G36 hM _ _ hB g37 r38 a_h0 n_g37 x5 i_x5 x31 i_x31 x39 (i_x39.wk (by decide)) (iv_mup (c := 1) i_x7 (by decide) (by decide) (by omega) hn_11) ⟨fun h => by obtain ⟨i', h1, h2, h3⟩ := (Q1.ke hk hm (by decide)).1 h; exact ⟨i', by have w1 : x39.toInt = x7.toInt + 1 := e_x39; have w2 := i15_x7.1; omega, h2, by have w := hj2.1; omega, h3⟩, fun h => (Q1.ke hk hm (by decide)).2 h⟩ _ (lv_sub hl [0, 1, 3, 4, 5] rfl)
            · skip
              exact (i24_x23.cutHi (n := 135) (iv_eq_r c30 q_135).2).no (by decide)
          · skip
            refine lv_aload_n hx hb dX7_readChoice_33 rfl (lv_at hl 3 rfl) ?_
            refine iv_geti0 X ft_X7 hB a_h0 sh_7 2 (by decide) rfl k_fl_X7_53 dX7_readChoice_34 e_x23 ?_
            refine lv_sipush (v := 135) hx hb dX7_readChoice_37 (by decide) ?_
            refine lv_icmp_ne (tgt := 98) hx hb dX7_readChoice_40 (by decide) (fun c40 => ?_) (fun c40 => ?_)
            · skip
              refine lv_aload_n hx hb dX7_readChoice_98 rfl (lv_at hl 3 rfl) ?_
              refine lv_iload_n hx hb dX7_readChoice_99 rfl (lv_at hl 2 rfl) ?_
              refine iv_cVv X k_good k_mf_X7_emitWaiting k_im_X7_emitWaiting k_sel_X7_emitWaiting k_ml_X7_121 ft_X7 hB a_h0 sh_7 (As := [.int x5]) (e_X7_emitWaiting l D tys base G10 h0 g8 r9 a_h0 x5 i_x5) ⟨rfl, rfl⟩ ⟨by dsimp only; omega, by dsimp only; omega⟩ ⟨Nat.le_of_ble_eq_true rfl, Nat.le_of_ble_eq_true rfl⟩ rfl rfl hl.1 (Nat.le_of_ble_eq_true rfl) dX7_readChoice_100 (fun G9 H locs hq hB => ?_)
              obtain ⟨hm, hk⟩ := hq
              obtain ⟨G41, hG9⟩ : ∃ g, g = G9 := ⟨_, rfl⟩
              rw [← hG9] at hm hB hk
              have hM := hM.stp hm (by decide)
              obtain ⟨g42, r43, a_h0, f_g42⟩ := hm.ex a_h0
              have n_g42 := iv_nxt hB a_h0 f_g42 n_g8
              refine lv_iload_n hx hb dX7_readChoice_103 rfl (lv_at hl 1 rfl) ?_
              exact iv_zret X hr hlocks hB (i21_x6.wk (by decide)) ⟨hM, (i21_x6.wk (by decide)), (⟨fun _ => ⟨i1, hj2.1, RS1.ke hk hm (by decide), hj2.2, fun q => by have e5 : (135 : Int32).toInt = 135 := rfl; have e6 : (136 : Int32).toInt = 136 := rfl; have w1 := mt Int32.toInt_inj.mp c24; have w2 := mt Int32.toInt_inj.mp c40; rw [hx23] at w1 w2; omega⟩, fun h => absurd h c17⟩)⟩ dX7_readChoice_104
            · skip
              have i43_x23 : iv_R 135 135 x23 := ((i_x23.cutLo (n := 135) (iv_eq_r c40 q_135).1).cutHi (n := 135) (iv_eq_r c40 q_135).2)
              have hlt1 : i1 < N := RS1.lt hN (by rw [← hx23]; have w := i43_x23.1; omega)
              have CF2 := rj_on ho.two hj2.2 (by rw [← hx23]; have w := i43_x23.1; have w2 := i43_x23.2; omega)
              refine lv_aload_n hx hb dX7_readChoice_43 rfl (lv_at hl 3 rfl) ?_
              refine iv_geti0 X ft_X7 hB a_h0 sh_7 2 (by decide) rfl k_fl_X7_53 dX7_readChoice_44 e_x23 ?_
              refine lv_istore (lv' := [(5, .int x23), (4, .int x7), (3, .int x6), (2, .int x5), (0, .ref h0), (1, .int x_0)]) hx hb dX7_readChoice_47 hl (by decide) rfl (fun ls hl => ?_)
              refine lv_aload_n hx hb dX7_readChoice_49 rfl (lv_at hl 4 rfl) ?_
              refine iv_cVv X k_good k_mf_X7_step k_im_X7_step k_sel_X7_step k_ml_X7_83 ft_X7 hB a_h0 sh_7 (As := []) (e_X7_step l D tys base G10 h0 g8 r9 a_h0 gk gv gp (by rw [RB1.1]; exact RS1.2.1) (i1 + 1) (by omega) (by rw [RB1.2.1.1]; omega)) ⟨rfl, rfl⟩ ⟨by dsimp only; omega, by dsimp only; omega⟩ ⟨Nat.le_of_ble_eq_true rfl, Nat.le_of_ble_eq_true rfl⟩ rfl rfl hl.1 (Nat.le_of_ble_eq_true rfl) dX7_readChoice_50 (fun G9 H locs hq hB => ?_)
              obtain ⟨hm, vg, vc⟩ := hq
              obtain ⟨G45, hG9⟩ : ∃ g, g = G9 := ⟨_, rfl⟩
              rw [← hG9] at hm hB vg vc
              have hM := hM.stp hm (by decide)
              obtain ⟨g46, r47, a_h0, f_g46⟩ := hm.ex a_h0
              have n_g46 := iv_nxt hB a_h0 f_g46 n_g8
              have RS2 : rs h0 b gk gv gp N (i1 + 1) os G45 := ⟨hlt1, RS1.2.1.md hm (by decide), g46, r47, a_h0, (f_g46.1 0 (fun h => absurd (show (7 : Nat) = 5 from h) (by decide))).trans RB1.1, (vc _ _ a_h0).1, (f_g46.2.1 4 (show (4 : Nat) ∈ iv_stab 7 from by decide)).trans RB1.2.2.1, (vc _ _ a_h0).2.1.trans RB1.2.2.2.1, (vc _ _ a_h0).2.2.trans RB1.2.2.2.2⟩
              have vg48 := vg _ _ a_h0
              refine lv_iload hx hb dX7_readChoice_53 (lv_at hl 0 rfl) ?_
              refine lv_sipush (v := 135) hx hb dX7_readChoice_55 (by decide) ?_
              refine lv_icmp_ne (tgt := 70) hx hb dX7_readChoice_58 (by decide) (fun c49 => ?_) (fun c49 => ?_)
              · skip
                exact (iv_ne_lo c49 i43_x23 q_135 (a' := 136) (by decide)).no (by decide)
              · skip
                refine lv_aload_n hx hb dX7_readChoice_61 rfl (lv_at hl 4 rfl) ?_
                refine lv_iload_n hx hb dX7_readChoice_62 rfl (lv_at hl 3 rfl) ?_
                refine iv_cVv X k_good k_mf_X7_emitWaiting k_im_X7_emitWaiting k_sel_X7_emitWaiting k_ml_X7_121 ft_X7 hB a_h0 sh_7 (As := [.int x5]) (e_X7_emitWaiting l D tys base G45 h0 g46 r47 a_h0 x5 i_x5) ⟨rfl, rfl⟩ ⟨by dsimp only; omega, by dsimp only; omega⟩ ⟨Nat.le_of_ble_eq_true rfl, Nat.le_of_ble_eq_true rfl⟩ rfl rfl hl.1 (Nat.le_of_ble_eq_true rfl) dX7_readChoice_63 (fun G9 H locs hq hB => ?_)
                obtain ⟨hm, hk⟩ := hq
                obtain ⟨G50, hG9⟩ : ∃ g, g = G9 := ⟨_, rfl⟩
                rw [← hG9] at hm hB hk
                have hM := hM.stp hm (by decide)
                obtain ⟨g51, r52, a_h0, f_g51⟩ := hm.ex a_h0
                have n_g51 := iv_nxt hB a_h0 f_g51 vg48
                have RS2 := RS2.ke hk hm (by decide)
                refine lv_sipush (v := 135) hx hb dX7_readChoice_66 (by decide) ?_
                refine lv_istore_n (lv' := [(2, .int 135), (5, .int x23), (4, .int x7), (3, .int x6), (0, .ref h0), (1, .int x_0)]) hx hb dX7_readChoice_69 rfl hl (by decide) rfl (fun ls hl => ?_)
                refine lv_aload_n hx hb dX7_readChoice_70 rfl (lv_at hl 4 rfl) ?_
                refine lv_iload_n hx hb dX7_readChoice_71 rfl (lv_at hl 5 rfl) ?_
                refine iv_cVi X k_good k_mf_X7_readClaim k_im_X7_readClaim k_sel_X7_readClaim k_ml_X7_118 ft_X7 hB a_h0 sh_7 (As := [.int x_0]) (e_X7_readClaim_h l D tys base b gk gv gp N hN hN4 os rr0 nn0 ho ll0 d ihB G50 h0 g51 r52 a_h0 n_g51 x_0 i_x_0 (by have e8 := i_x_0.2; omega) (i1 + 1) RS2 x_0.toInt.toNat ss (tk_at.of CF2)) ⟨rfl, rfl⟩ ⟨by dsimp only; omega, by dsimp only; omega⟩ ⟨Nat.le_of_ble_eq_true rfl, Nat.le_of_ble_eq_true rfl⟩ rfl rfl hl.1 (Nat.le_of_ble_eq_true rfl) dX7_readChoice_72 (fun x53 G9 H locs hq hB => ?_)
                obtain ⟨hm, i_x53, Q1⟩ := hq
                obtain ⟨G54, hG9⟩ : ∃ g, g = G9 := ⟨_, rfl⟩
                rw [← hG9] at hm hB Q1
                have hM := hM.stp hm (by decide)
                obtain ⟨g55, r56, a_h0, f_g55⟩ := hm.ex a_h0
                have n_g55 := iv_nxt hB a_h0 f_g55 n_g51
                refine lv_istore_n (lv' := [(3, .int x53), (2, .int 135), (5, .int x23), (4, .int x7), (0, .ref h0), (1, .int x_0)]) hx hb dX7_readChoice_75 rfl hl (by decide) rfl (fun ls hl => ?_)
                refine lv_iload hx hb dX7_readChoice_76 (lv_at hl 2 rfl) ?_
                refine lv_sipush (v := 136) hx hb dX7_readChoice_78 (by decide) ?_
                refine lv_icmp_ne (tgt := 92) hx hb dX7_readChoice_81 (by decide) (fun c57 => ?_) (fun c57 => ?_)
                · skip
                  refine iv_iinc hx hb i15_x7 (lo := 1) (hi := 400) (by decide) dX7_readChoice_92 hl (k := 3) rfl (by decide) (fun x58 ls e_x58 i_x58 hl => ?_)
                  have hl : lv_has ls 6 [(4, .int x58), (3, .int x53), (2, .int 135), (5, .int x23), (0, .ref h0), (1, .int x_0)] := hl
                  refine lv_goto (tgt := 11) hx hb dX7_readChoice_95 (by decide) ?_
                  exact ih_11 G54 hM _ _ hB g55 r56 a_h0 n_g55 135 (q_135.wk (by decide)) x53 i_x53 x58 (i_x58.wk (by decide)) (iv_mup (c := 1) i_x7 (by decide) (by decide) (by omega) hn_11) ⟨fun h => by obtain ⟨i', h1, h2, h3⟩ := Q1.1 h; exact ⟨i', by have w1 : x58.toInt = x7.toInt + 1 := e_x58; have w2 := i15_x7.1; omega, h2, by have w := hj2.1; omega, h3⟩, fun h => Q1.2 h⟩ _ (lv_sub hl [0, 1, 2, 4, 5] rfl)
                · skip
                  exact absurd c57 c24
  exact L_11 _ G2 hM _ _ hB g3 r4 a_h0 n_g3 0 (q_0.wk (by decide)) x1 i_x1 0 (q_0.wk (by decide)) (Nat.lt_succ_self _) ⟨fun h => by obtain ⟨i', h1, h2, h3⟩ := Q1.1 h; exact ⟨i', by have z0 : (0 : Int32).toInt = 0 := rfl; omega, h2, h1, h3⟩, fun h => Q1.2 h⟩ _ (lv_sub hl [0, 1, 2, 3, 4] rfl)
set_option maxHeartbeats 4000000 in
set_option maxRecDepth 100000 in
theorem e_X7_readBracket_rec (l : Launch) (D : va_G) (tys : List (ClassId × FieldType)) (base : Nat) (b : Nat) (gk gv gp : Nat → Int32) (N : Nat) (hN : (gk N).toInt = 0) (hN4 : N ≤ 400) (os : Int32) (rr0 nn0 : Nat) (ho : tk_o rr0 os) (ll0 : Nat) : ∀ (d : Nat) (G : iv_G) (h0 : Nat) (g_h0 : Nat → Int32) (r_h0 : Nat → Nat) (a_h0 : G h0 = some (7, g_h0, r_h0)) (n_g_h0 : iv_R 0 400 (g_h0 1)) (x_0 : Int32) (i_x_0 : iv_R 1 8 x_0) (hd : (9 - x_0.toInt).toNat ≤ d) (i : Nat) (RS : rs h0 b gk gv gp N i os G) (hgk : (gk i).toInt = 40) (bb : Nat) (ss : List Nat) (CF : tk_cf rr0 nn0 (tk_k gk) (tk_k gv) (i + 1) = .claim ll0 x_0.toInt.toNat (x_0.toInt.toNat :: bb :: ss)), Met l yX7_readBracket (Cond.code yX7_readBracket cX7_readBracket 2 (some .boolean) :: iv_W0) ({ frames := 4 + 3 * d, cells := 0, slots := 0, locals := 90 + 70 * d }) (iv_Pc iv_sh D classes tys base G [.ref h0, .int x_0]) (iv_Qi iv_sh D classes tys base (fun v G' => iv_Md [7, 37, 38] G G' ∧ iv_R 0 1 v ∧ (qs h0 b gk gv gp N os rr0 nn0 (i + 1) (fun i' => tk_cl rr0 nn0 (tk_k gk) (tk_k gv) i' ll0 (bb :: ss)) v G'))) 0 0 (iv_A base) := by
  intro d
  induction d with
  | zero => intro G h0 g_h0 r_h0 a_h0 n_g_h0 x_0 i_x_0 hd i RS hgk bb ss CF; exact absurd hd (by have := i_x_0.2; omega)
  | succ d ih =>
    intro G h0 g_h0 r_h0 a_h0 n_g_h0 x_0 i_x_0 hd i RS hgk bb ss CF
    refine iv_head (by decide) (Nat.le_of_ble_eq_true rfl) ?_
    intro p e s m args below meth c ls X hr hlocks hname hB hl
    have X := X
    have hx := X.1.1
    have hb := X.1.2.1
    have hM : iv_Md [7, 37, 38] G G := iv_Md.rf
    have hl : lv_has ls 2 [(0, .ref h0), (1, .int x_0)] := hl
    obtain ⟨i1, hi1⟩ : ∃ i1, i1 = i := ⟨_, rfl⟩
    rw [← hi1] at RS hgk CF ⊢
    have RS1 := RS
    have RB1 := RS1.got a_h0
    have hlt1 : i1 < N := RS1.lt hN (by omega)
    refine lv_aload_n hx hb dX7_readBracket_0 rfl (lv_at hl 0 rfl) ?_
    refine iv_cVv X k_good k_mf_X7_step k_im_X7_step k_sel_X7_step k_ml_X7_83 ft_X7 hB a_h0 sh_7 (As := []) (e_X7_step l D tys base G h0 g_h0 r_h0 a_h0 gk gv gp (by rw [RB1.1]; exact RS1.2.1) (i1 + 1) (by omega) (by rw [RB1.2.1.1]; omega)) ⟨rfl, rfl⟩ ⟨by dsimp only; omega, by dsimp only; omega⟩ ⟨Nat.le_of_ble_eq_true rfl, Nat.le_of_ble_eq_true rfl⟩ rfl rfl hl.1 (Nat.le_of_ble_eq_true rfl) dX7_readBracket_1 (fun G9 H locs hq hB => ?_)
    obtain ⟨hm, vg, vc⟩ := hq
    obtain ⟨G1, hG9⟩ : ∃ g, g = G9 := ⟨_, rfl⟩
    rw [← hG9] at hm hB vg vc
    have hM := hM.stp hm (by decide)
    obtain ⟨g2, r3, a_h0, f_g2⟩ := hm.ex a_h0
    have n_g2 := iv_nxt hB a_h0 f_g2 n_g_h0
    have RS2 : rs h0 b gk gv gp N (i1 + 1) os G1 := ⟨hlt1, RS1.2.1.md hm (by decide), g2, r3, a_h0, (f_g2.1 0 (fun h => absurd (show (7 : Nat) = 5 from h) (by decide))).trans RB1.1, (vc _ _ a_h0).1, (f_g2.2.1 4 (show (4 : Nat) ∈ iv_stab 7 from by decide)).trans RB1.2.2.1, (vc _ _ a_h0).2.1.trans RB1.2.2.2.1, (vc _ _ a_h0).2.2.trans RB1.2.2.2.2⟩
    have vg4 := vg _ _ a_h0
    refine lv_aload_n hx hb dX7_readBracket_4 rfl (lv_at hl 0 rfl) ?_
    refine lv_iload_n hx hb dX7_readBracket_5 rfl (lv_at hl 1 rfl) ?_
    refine iv_cVi X k_good k_mf_X7_readChoice k_im_X7_readChoice k_sel_X7_readChoice k_ml_X7_115 ft_X7 hB a_h0 sh_7 (As := [.int x_0]) (e_X7_readChoice_h l D tys base b gk gv gp N hN hN4 os rr0 nn0 ho ll0 d ih G1 h0 g2 r3 a_h0 vg4 x_0 (i_x_0.wk (by decide)) (by have e8 := i_x_0.2; omega) (i1 + 1) RS2 (bb :: ss) CF) ⟨rfl, rfl⟩ ⟨by dsimp only; omega, by dsimp only; omega⟩ ⟨Nat.le_of_ble_eq_true rfl, Nat.le_of_ble_eq_true rfl⟩ rfl rfl hl.1 (Nat.le_of_ble_eq_true rfl) dX7_readBracket_6 (fun x5 G9 H locs hq hB => ?_)
    obtain ⟨hm, i_x5, Q1⟩ := hq
    obtain ⟨G6, hG9⟩ : ∃ g, g = G9 := ⟨_, rfl⟩
    rw [← hG9] at hm hB Q1
    have hM := hM.stp hm (by decide)
    obtain ⟨g7, r8, a_h0, f_g7⟩ := hm.ex a_h0
    have n_g7 := iv_nxt hB a_h0 f_g7 vg4
    refine lv_if_eq (tgt := 25) hx hb dX7_readBracket_9 (by decide) (fun c9 => ?_) (fun c9 => ?_)
    · skip
      have i9_x5 : iv_R 0 0 x5 := (i_x5.cutHi (n := 0) (iv_eq_r c9 q_0).2)
      refine lv_iconst (v := 0) hx hb dX7_readBracket_25 (by decide) ?_
      exact iv_zret X hr hlocks hB (q_0.wk (by decide)) ⟨hM, (q_0.wk (by decide)), (⟨fun h => absurd rfl h, fun _ => Q1.2 c9⟩)⟩ dX7_readBracket_26
    · skip
      have i10_x5 : iv_R 1 1 x5 := iv_ne_lo c9 i_x5 q_0 (by decide)
      obtain ⟨i2, hj1, RS3, hj3⟩ := Q1.1 c9
      refine lv_aload_n hx hb dX7_readBracket_12 rfl (lv_at hl 0 rfl) ?_
      refine lv_bipush (v := 41) hx hb dX7_readBracket_13 (by decide) ?_
      refine iv_cVi X k_good k_mf_X7_takes k_im_X7_takes k_sel_X7_takes k_ml_X7_105 ft_X7 hB a_h0 sh_7 (As := [.int 41]) (e_X7_takes l D tys base G6 h0 g7 r8 a_h0 n_g7 41 (q_41.wk (by decide)) b gk gv gp N hN hN4 i2 os RS3) ⟨rfl, rfl⟩ ⟨by dsimp only; omega, by dsimp only; omega⟩ ⟨Nat.le_of_ble_eq_true rfl, Nat.le_of_ble_eq_true rfl⟩ rfl rfl hl.1 (Nat.le_of_ble_eq_true rfl) dX7_readBracket_15 (fun x12 G9 H locs hq hB => ?_)
      obtain ⟨hm, i_x12, eq13, vt⟩ := hq
      obtain ⟨G14, hG9⟩ : ∃ g, g = G9 := ⟨_, rfl⟩
      rw [← hG9] at hm hB vt
      have hM := hM.stp hm (by decide)
      obtain ⟨g15, r16, a_h0, f_g15⟩ := hm.ex a_h0
      have n_g15 := iv_nxt hB a_h0 f_g15 n_g7
      refine lv_if_eq (tgt := 25) hx hb dX7_readBracket_18 (by decide) (fun c17 => ?_) (fun c17 => ?_)
      · skip
        have i17_x12 : iv_R 0 0 x12 := (i_x12.cutHi (n := 0) (iv_eq_r c17 q_0).2)
        refine lv_iconst (v := 0) hx hb dX7_readBracket_25 (by decide) ?_
        exact iv_zret X hr hlocks hB (q_0.wk (by decide)) ⟨hM, (q_0.wk (by decide)), (⟨fun h => absurd rfl h, fun _ => ⟨i2, 1, rj_no ho.two hj3.1 hj3.2 (fun q => (vt.2 c17).1 (Int32.toInt_inj.mp q)), (vt.2 c17).2⟩⟩)⟩ dX7_readBracket_26
      · skip
        have i18_x12 : iv_R 1 1 x12 := iv_ne_lo c17 i_x12 q_0 (by decide)
        refine lv_iconst (v := 1) hx hb dX7_readBracket_21 (by decide) ?_
        refine lv_goto (tgt := 26) hx hb dX7_readBracket_22 (by decide) ?_
        exact iv_zret X hr hlocks hB (q_1.wk (by decide)) ⟨hM, (q_1.wk (by decide)), (⟨fun _ => ⟨i2 + 1, by omega, (vt.1 c17).2.2, rj_par hj3.1 (congrArg Int32.toInt (vt.1 c17).1)⟩, fun h => absurd h (by decide)⟩)⟩ dX7_readBracket_26
theorem e_X7_readChoice (l : Launch) (D : va_G) (tys : List (ClassId × FieldType)) (base : Nat) (b : Nat) (gk gv gp : Nat → Int32) (N : Nat) (hN : (gk N).toInt = 0) (hN4 : N ≤ 400) (os : Int32) (rr0 nn0 : Nat) (ho : tk_o rr0 os) (ll0 : Nat) (G : iv_G) (h0 : Nat) (g_h0 : Nat → Int32) (r_h0 : Nat → Nat) (a_h0 : G h0 = some (7, g_h0, r_h0)) (n_g_h0 : iv_R 0 400 (g_h0 1)) (x_0 : Int32) (i_x_0 : iv_R 0 8 x_0) (i : Nat) (RS : rs h0 b gk gv gp N i os G) (ss : List Nat) (CF : tk_cf rr0 nn0 (tk_k gk) (tk_k gv) i = .claim ll0 x_0.toInt.toNat (x_0.toInt.toNat :: ss)) : Met l yX7_readChoice (Cond.code yX7_readChoice cX7_readChoice 6 (some .boolean) :: iv_W0) ({ frames := 33, cells := 0, slots := 0, locals := 765 }) (iv_Pc iv_sh D classes tys base G [.ref h0, .int x_0]) (iv_Qi iv_sh D classes tys base (fun v G' => iv_Md [7, 37, 38] G G' ∧ iv_R 0 1 v ∧ (qs h0 b gk gv gp N os rr0 nn0 (i + 1) (fun i' => tk_cl rr0 nn0 (tk_k gk) (tk_k gv) i' ll0 (x_0.toInt.toNat :: ss) ∧ ¬ ((gk i').toInt = 135 ∨ (gk i').toInt = 136)) v G'))) 0 0 (iv_A base) := e_X7_readChoice_h l D tys base b gk gv gp N hN hN4 os rr0 nn0 ho ll0 9 (e_X7_readBracket_rec l D tys base b gk gv gp N hN hN4 os rr0 nn0 ho ll0 9) G h0 g_h0 r_h0 a_h0 n_g_h0 x_0 i_x_0 (by have := i_x_0.1; omega) i RS ss CF
